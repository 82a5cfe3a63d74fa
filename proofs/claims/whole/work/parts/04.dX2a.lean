set_option maxRecDepth 20000 in
theorem ggX2_init_X1_init : GoodIn wsX2_init wsX1_init := goodIn_r _ [18, 19, 2, 3, 20, 21, 22, 23, 24, 25, 26, 27, 28, 29, 13, 30, 31, 32, 33, 34, 43, 44, 45, 46, 47] (by decide +kernel) (by decide +kernel)
set_option maxRecDepth 20000 in
theorem gX2_init_X1_init : GoodIn wsX2_init (wsX1_init) := ggX2_init_X1_init
theorem dX2_init_0 : decode cX2_init 0 = .ok (.aload_n 0, 1) := by decide +kernel
theorem dX2_init_1 : decode cX2_init 1 = .ok (.invokespecial 1, 3) := by decide +kernel
theorem dX2_init_4 : decode cX2_init 4 = .ok (.aload_n 0, 1) := by decide +kernel
theorem dX2_init_5 : decode cX2_init 5 = .ok (.bipush 10, 2) := by decide +kernel
theorem dX2_init_7 : decode cX2_init 7 = .ok (.anewarray 9, 3) := by decide +kernel
theorem dX2_init_10 : decode cX2_init 10 = .ok (.putfield 11, 3) := by decide +kernel
theorem dX2_init_13 : decode cX2_init 13 = .ok (.aload_n 0, 1) := by decide +kernel
theorem dX2_init_14 : decode cX2_init 14 = .ok (.iconst 5, 1) := by decide +kernel
theorem dX2_init_15 : decode cX2_init 15 = .ok (.newarray .int, 2) := by decide +kernel
theorem dX2_init_17 : decode cX2_init 17 = .ok (.putfield 15, 3) := by decide +kernel
theorem dX2_init_20 : decode cX2_init 20 = .ok (.aload_n 0, 1) := by decide +kernel
theorem dX2_init_21 : decode cX2_init 21 = .ok (.iconst 0, 1) := by decide +kernel
theorem dX2_init_22 : decode cX2_init 22 = .ok (.putfield 19, 3) := by decide +kernel
theorem dX2_init_25 : decode cX2_init 25 = .ok (.aload_n 0, 1) := by decide +kernel
theorem dX2_init_26 : decode cX2_init 26 = .ok (.iconst 0, 1) := by decide +kernel
theorem dX2_init_27 : decode cX2_init 27 = .ok (.putfield 23, 3) := by decide +kernel
theorem dX2_init_30 : decode cX2_init 30 = .ok (.aload_n 0, 1) := by decide +kernel
theorem dX2_init_31 : decode cX2_init 31 = .ok (.iconst 0, 1) := by decide +kernel
theorem dX2_init_32 : decode cX2_init 32 = .ok (.putfield 26, 3) := by decide +kernel
theorem dX2_init_35 : decode cX2_init 35 = .ok (.aload_n 0, 1) := by decide +kernel
theorem dX2_init_36 : decode cX2_init 36 = .ok (.aconst_null, 1) := by decide +kernel
theorem dX2_init_37 : decode cX2_init 37 = .ok (.putfield 29, 3) := by decide +kernel
theorem dX2_init_40 : decode cX2_init 40 = .ok (.aload_n 0, 1) := by decide +kernel
theorem dX2_init_41 : decode cX2_init 41 = .ok (.new 9, 3) := by decide +kernel
theorem dX2_init_44 : decode cX2_init 44 = .ok (.dup, 1) := by decide +kernel
theorem dX2_init_45 : decode cX2_init 45 = .ok (.iconst 3, 1) := by decide +kernel
theorem dX2_init_46 : decode cX2_init 46 = .ok (.bipush 80, 2) := by decide +kernel
theorem dX2_init_48 : decode cX2_init 48 = .ok (.iconst 0, 1) := by decide +kernel
theorem dX2_init_49 : decode cX2_init 49 = .ok (.invokespecial 33, 3) := by decide +kernel
theorem dX2_init_52 : decode cX2_init 52 = .ok (.putfield 36, 3) := by decide +kernel
theorem dX2_init_55 : decode cX2_init 55 = .ok (.aload_n 0, 1) := by decide +kernel
theorem dX2_init_56 : decode cX2_init 56 = .ok (.new 9, 3) := by decide +kernel
theorem dX2_init_59 : decode cX2_init 59 = .ok (.dup, 1) := by decide +kernel
theorem dX2_init_60 : decode cX2_init 60 = .ok (.iconst 4, 1) := by decide +kernel
theorem dX2_init_61 : decode cX2_init 61 = .ok (.bipush 80, 2) := by decide +kernel
theorem dX2_init_63 : decode cX2_init 63 = .ok (.iconst 0, 1) := by decide +kernel
theorem dX2_init_64 : decode cX2_init 64 = .ok (.invokespecial 33, 3) := by decide +kernel
theorem dX2_init_67 : decode cX2_init 67 = .ok (.putfield 39, 3) := by decide +kernel
theorem dX2_init_70 : decode cX2_init 70 = .ok (.new 9, 3) := by decide +kernel
theorem dX2_init_73 : decode cX2_init 73 = .ok (.dup, 1) := by decide +kernel
theorem dX2_init_74 : decode cX2_init 74 = .ok (.iconst 0, 1) := by decide +kernel
theorem dX2_init_75 : decode cX2_init 75 = .ok (.iconst 0, 1) := by decide +kernel
theorem dX2_init_76 : decode cX2_init 76 = .ok (.iconst 0, 1) := by decide +kernel
theorem dX2_init_77 : decode cX2_init 77 = .ok (.invokespecial 33, 3) := by decide +kernel
theorem dX2_init_80 : decode cX2_init 80 = .ok (.astore_n 1, 1) := by decide +kernel
theorem dX2_init_81 : decode cX2_init 81 = .ok (.iconst 0, 1) := by decide +kernel
theorem dX2_init_82 : decode cX2_init 82 = .ok (.istore_n 2, 1) := by decide +kernel
theorem dX2_init_83 : decode cX2_init 83 = .ok (.iload_n 2, 1) := by decide +kernel
theorem dX2_init_84 : decode cX2_init 84 = .ok (.bipush 10, 2) := by decide +kernel
theorem dX2_init_86 : decode cX2_init 86 = .ok (.if_icmp .ge 16, 3) := by decide +kernel
theorem dX2_init_89 : decode cX2_init 89 = .ok (.aload_n 0, 1) := by decide +kernel
theorem dX2_init_90 : decode cX2_init 90 = .ok (.getfield 11, 3) := by decide +kernel
theorem dX2_init_93 : decode cX2_init 93 = .ok (.iload_n 2, 1) := by decide +kernel
theorem dX2_init_94 : decode cX2_init 94 = .ok (.aload_n 1, 1) := by decide +kernel
theorem dX2_init_95 : decode cX2_init 95 = .ok (.aastore, 1) := by decide +kernel
theorem dX2_init_96 : decode cX2_init 96 = .ok (.iinc 2 1, 3) := by decide +kernel
theorem dX2_init_99 : decode cX2_init 99 = .ok (.goto (-16), 3) := by decide +kernel
theorem dX2_init_102 : decode cX2_init 102 = .ok (.return_, 1) := by decide +kernel
set_option maxRecDepth 20000 in
theorem ggX2_hold_X2_isSpindle : GoodIn wsX2_hold wsX2_isSpindle := goodIn_r _ [9] (by decide +kernel) (by decide +kernel)
set_option maxRecDepth 20000 in
theorem gX2_hold_X2_isSpindle : GoodIn wsX2_hold (va_wsS RX2 42 yX2_isSpindle wsX2_isSpindle) := goodIn_app (goodIn_of _ (by decide +kernel)) ggX2_hold_X2_isSpindle
set_option maxRecDepth 20000 in
theorem ggX2_hold_X1_init : GoodIn wsX2_hold wsX1_init := goodIn_r _ [12, 13, 14, 15, 16, 17, 18, 19, 20, 21, 22, 23, 24, 25, 5, 26, 27, 28, 29, 30, 39, 40, 41, 42, 43] (by decide +kernel) (by decide +kernel)
set_option maxRecDepth 20000 in
theorem gX2_hold_X1_init : GoodIn wsX2_hold (wsX1_init) := ggX2_hold_X1_init
theorem dX2_hold_0 : decode cX2_hold 0 = .ok (.iload_n 1, 1) := by decide +kernel
theorem dX2_hold_1 : decode cX2_hold 1 = .ok (.invokestatic 42, 3) := by decide +kernel
theorem dX2_hold_4 : decode cX2_hold 4 = .ok (.ifCond .ne 6, 3) := by decide +kernel
theorem dX2_hold_7 : decode cX2_hold 7 = .ok (.bipush (-9), 2) := by decide +kernel
theorem dX2_hold_9 : decode cX2_hold 9 = .ok (.ireturn, 1) := by decide +kernel
theorem dX2_hold_10 : decode cX2_hold 10 = .ok (.iload_n 2, 1) := by decide +kernel
theorem dX2_hold_11 : decode cX2_hold 11 = .ok (.ifCond .lt 18, 3) := by decide +kernel
theorem dX2_hold_14 : decode cX2_hold 14 = .ok (.iload_n 2, 1) := by decide +kernel
theorem dX2_hold_15 : decode cX2_hold 15 = .ok (.iconst 5, 1) := by decide +kernel
theorem dX2_hold_16 : decode cX2_hold 16 = .ok (.if_icmp .gt 13, 3) := by decide +kernel
theorem dX2_hold_19 : decode cX2_hold 19 = .ok (.aload_n 0, 1) := by decide +kernel
theorem dX2_hold_20 : decode cX2_hold 20 = .ok (.getfield 23, 3) := by decide +kernel
theorem dX2_hold_23 : decode cX2_hold 23 = .ok (.sipush 600, 3) := by decide +kernel
theorem dX2_hold_26 : decode cX2_hold 26 = .ok (.if_icmp .lt 5, 3) := by decide +kernel
theorem dX2_hold_29 : decode cX2_hold 29 = .ok (.iconst 0, 1) := by decide +kernel
theorem dX2_hold_30 : decode cX2_hold 30 = .ok (.ireturn, 1) := by decide +kernel
theorem dX2_hold_31 : decode cX2_hold 31 = .ok (.iload_n 2, 1) := by decide +kernel
theorem dX2_hold_32 : decode cX2_hold 32 = .ok (.ifCond .eq 8, 3) := by decide +kernel
theorem dX2_hold_35 : decode cX2_hold 35 = .ok (.iload_n 2, 1) := by decide +kernel
theorem dX2_hold_36 : decode cX2_hold 36 = .ok (.iconst 1, 1) := by decide +kernel
theorem dX2_hold_37 : decode cX2_hold 37 = .ok (.if_icmp .ne 21, 3) := by decide +kernel
theorem dX2_hold_40 : decode cX2_hold 40 = .ok (.aload_n 0, 1) := by decide +kernel
theorem dX2_hold_41 : decode cX2_hold 41 = .ok (.getfield 11, 3) := by decide +kernel
theorem dX2_hold_44 : decode cX2_hold 44 = .ok (.iload_n 1, 1) := by decide +kernel
theorem dX2_hold_45 : decode cX2_hold 45 = .ok (.new 9, 3) := by decide +kernel
theorem dX2_hold_48 : decode cX2_hold 48 = .ok (.dup, 1) := by decide +kernel
theorem dX2_hold_49 : decode cX2_hold 49 = .ok (.iload_n 2, 1) := by decide +kernel
theorem dX2_hold_50 : decode cX2_hold 50 = .ok (.iconst 0, 1) := by decide +kernel
theorem dX2_hold_51 : decode cX2_hold 51 = .ok (.iload_n 3, 1) := by decide +kernel
theorem dX2_hold_52 : decode cX2_hold 52 = .ok (.invokespecial 33, 3) := by decide +kernel
theorem dX2_hold_55 : decode cX2_hold 55 = .ok (.aastore, 1) := by decide +kernel
theorem dX2_hold_56 : decode cX2_hold 56 = .ok (.iconst 1, 1) := by decide +kernel
theorem dX2_hold_57 : decode cX2_hold 57 = .ok (.ireturn, 1) := by decide +kernel
theorem dX2_hold_58 : decode cX2_hold 58 = .ok (.iload_n 3, 1) := by decide +kernel
theorem dX2_hold_59 : decode cX2_hold 59 = .ok (.ifCond .lt 9, 3) := by decide +kernel
theorem dX2_hold_62 : decode cX2_hold 62 = .ok (.iload_n 3, 1) := by decide +kernel
theorem dX2_hold_63 : decode cX2_hold 63 = .ok (.bipush 80, 2) := by decide +kernel
theorem dX2_hold_65 : decode cX2_hold 65 = .ok (.if_icmp .le 5, 3) := by decide +kernel
theorem dX2_hold_68 : decode cX2_hold 68 = .ok (.iconst 0, 1) := by decide +kernel
theorem dX2_hold_69 : decode cX2_hold 69 = .ok (.ireturn, 1) := by decide +kernel
theorem dX2_hold_70 : decode cX2_hold 70 = .ok (.aload_n 0, 1) := by decide +kernel
theorem dX2_hold_71 : decode cX2_hold 71 = .ok (.getfield 11, 3) := by decide +kernel
theorem dX2_hold_74 : decode cX2_hold 74 = .ok (.iload_n 1, 1) := by decide +kernel
theorem dX2_hold_75 : decode cX2_hold 75 = .ok (.new 9, 3) := by decide +kernel
theorem dX2_hold_78 : decode cX2_hold 78 = .ok (.dup, 1) := by decide +kernel
theorem dX2_hold_79 : decode cX2_hold 79 = .ok (.iload_n 2, 1) := by decide +kernel
theorem dX2_hold_80 : decode cX2_hold 80 = .ok (.iload_n 3, 1) := by decide +kernel
theorem dX2_hold_81 : decode cX2_hold 81 = .ok (.iconst 0, 1) := by decide +kernel
theorem dX2_hold_82 : decode cX2_hold 82 = .ok (.invokespecial 33, 3) := by decide +kernel
theorem dX2_hold_85 : decode cX2_hold 85 = .ok (.aastore, 1) := by decide +kernel
theorem dX2_hold_86 : decode cX2_hold 86 = .ok (.aload_n 0, 1) := by decide +kernel
theorem dX2_hold_87 : decode cX2_hold 87 = .ok (.dup, 1) := by decide +kernel
theorem dX2_hold_88 : decode cX2_hold 88 = .ok (.getfield 23, 3) := by decide +kernel
theorem dX2_hold_91 : decode cX2_hold 91 = .ok (.iconst 1, 1) := by decide +kernel
theorem dX2_hold_92 : decode cX2_hold 92 = .ok (.iadd, 1) := by decide +kernel
theorem dX2_hold_93 : decode cX2_hold 93 = .ok (.putfield 23, 3) := by decide +kernel
theorem dX2_hold_96 : decode cX2_hold 96 = .ok (.iconst 1, 1) := by decide +kernel
theorem dX2_hold_97 : decode cX2_hold 97 = .ok (.ireturn, 1) := by decide +kernel
set_option maxRecDepth 20000 in
theorem ggX2_thread_X2_isSpindle : GoodIn wsX2_thread wsX2_isSpindle := goodIn_r _ [6] (by decide +kernel) (by decide +kernel)
set_option maxRecDepth 20000 in
theorem gX2_thread_X2_isSpindle : GoodIn wsX2_thread (va_wsS RX2 42 yX2_isSpindle wsX2_isSpindle) := goodIn_app (goodIn_of _ (by decide +kernel)) ggX2_thread_X2_isSpindle
theorem dX2_thread_0 : decode cX2_thread 0 = .ok (.iload_n 1, 1) := by decide +kernel
theorem dX2_thread_1 : decode cX2_thread 1 = .ok (.invokestatic 42, 3) := by decide +kernel
theorem dX2_thread_4 : decode cX2_thread 4 = .ok (.ifCond .eq 10, 3) := by decide +kernel
theorem dX2_thread_7 : decode cX2_thread 7 = .ok (.iload_n 2, 1) := by decide +kernel
theorem dX2_thread_8 : decode cX2_thread 8 = .ok (.invokestatic 42, 3) := by decide +kernel
theorem dX2_thread_11 : decode cX2_thread 11 = .ok (.ifCond .ne 6, 3) := by decide +kernel
theorem dX2_thread_14 : decode cX2_thread 14 = .ok (.bipush (-9), 2) := by decide +kernel
theorem dX2_thread_16 : decode cX2_thread 16 = .ok (.ireturn, 1) := by decide +kernel
theorem dX2_thread_17 : decode cX2_thread 17 = .ok (.aload_n 0, 1) := by decide +kernel
theorem dX2_thread_18 : decode cX2_thread 18 = .ok (.getfield 11, 3) := by decide +kernel
theorem dX2_thread_21 : decode cX2_thread 21 = .ok (.iload_n 1, 1) := by decide +kernel
theorem dX2_thread_22 : decode cX2_thread 22 = .ok (.aload_n 0, 1) := by decide +kernel
theorem dX2_thread_23 : decode cX2_thread 23 = .ok (.getfield 11, 3) := by decide +kernel
theorem dX2_thread_26 : decode cX2_thread 26 = .ok (.iload_n 2, 1) := by decide +kernel
theorem dX2_thread_27 : decode cX2_thread 27 = .ok (.aaload, 1) := by decide +kernel
theorem dX2_thread_28 : decode cX2_thread 28 = .ok (.aastore, 1) := by decide +kernel
theorem dX2_thread_29 : decode cX2_thread 29 = .ok (.aload_n 0, 1) := by decide +kernel
theorem dX2_thread_30 : decode cX2_thread 30 = .ok (.getfield 11, 3) := by decide +kernel
theorem dX2_thread_33 : decode cX2_thread 33 = .ok (.iload_n 1, 1) := by decide +kernel
theorem dX2_thread_34 : decode cX2_thread 34 = .ok (.aaload, 1) := by decide +kernel
theorem dX2_thread_35 : decode cX2_thread 35 = .ok (.getfield 46, 3) := by decide +kernel
theorem dX2_thread_38 : decode cX2_thread 38 = .ok (.ireturn, 1) := by decide +kernel
set_option maxRecDepth 20000 in
theorem ggX2_put_X2_isSpindle : GoodIn wsX2_put wsX2_isSpindle := goodIn_r _ [8] (by decide +kernel) (by decide +kernel)
set_option maxRecDepth 20000 in
theorem gX2_put_X2_isSpindle : GoodIn wsX2_put (va_wsS RX2 42 yX2_isSpindle wsX2_isSpindle) := goodIn_app (goodIn_of _ (by decide +kernel)) ggX2_put_X2_isSpindle
set_option maxRecDepth 20000 in
theorem ggX2_put_X1_isRack : GoodIn wsX2_put wsX1_isRack := goodIn_r _ [13, 14, 51, 52, 53, 54, 55] (by decide +kernel) (by decide +kernel)
set_option maxRecDepth 20000 in
theorem gX2_put_X1_isRack : GoodIn wsX2_put (wsV RX2 52 RX1 yX1_isRack wsX1_isRack) := goodIn_app (goodIn_of _ (by decide +kernel)) ggX2_put_X1_isRack
set_option maxRecDepth 20000 in
theorem ggX2_put_X2_putCard : GoodIn wsX2_put wsX2_putCard := goodIn_r _ [18, 19, 20, 21, 22, 23, 24, 25, 26, 12, 27, 28, 29, 30, 31, 32, 33, 34, 35, 36, 37, 38, 39, 40, 41, 14, 42, 43, 44, 45, 46, 47, 48, 49, 50, 51, 52, 53, 54, 55, 56, 57, 58] (by decide +kernel) (by decide +kernel)
set_option maxRecDepth 20000 in
theorem gX2_put_X2_putCard : GoodIn wsX2_put (wsV RX2 56 RX2 yX2_putCard wsX2_putCard) := goodIn_app (goodIn_of _ (by decide +kernel)) ggX2_put_X2_putCard
set_option maxRecDepth 20000 in
theorem ggX2_put_X1_hasPlace : GoodIn wsX2_put wsX1_hasPlace := goodIn_r _ [27, 28, 51, 52, 53, 54, 55] (by decide +kernel) (by decide +kernel)
set_option maxRecDepth 20000 in
theorem gX2_put_X1_hasPlace : GoodIn wsX2_put (wsV RX2 60 RX1 yX1_hasPlace wsX1_hasPlace) := goodIn_app (goodIn_of _ (by decide +kernel)) ggX2_put_X1_hasPlace
theorem dX2_put_0 : decode cX2_put 0 = .ok (.iload_n 1, 1) := by decide +kernel
theorem dX2_put_1 : decode cX2_put 1 = .ok (.invokestatic 42, 3) := by decide +kernel
theorem dX2_put_4 : decode cX2_put 4 = .ok (.ifCond .ne 6, 3) := by decide +kernel
theorem dX2_put_7 : decode cX2_put 7 = .ok (.bipush (-9), 2) := by decide +kernel
theorem dX2_put_9 : decode cX2_put 9 = .ok (.ireturn, 1) := by decide +kernel
theorem dX2_put_10 : decode cX2_put 10 = .ok (.aload_n 0, 1) := by decide +kernel
theorem dX2_put_11 : decode cX2_put 11 = .ok (.getfield 11, 3) := by decide +kernel
theorem dX2_put_14 : decode cX2_put 14 = .ok (.iload_n 1, 1) := by decide +kernel
theorem dX2_put_15 : decode cX2_put 15 = .ok (.aaload, 1) := by decide +kernel
theorem dX2_put_16 : decode cX2_put 16 = .ok (.astore 5, 2) := by decide +kernel
theorem dX2_put_18 : decode cX2_put 18 = .ok (.aload 5, 2) := by decide +kernel
theorem dX2_put_20 : decode cX2_put 20 = .ok (.getfield 46, 3) := by decide +kernel
theorem dX2_put_23 : decode cX2_put 23 = .ok (.ifCond .ne 5, 3) := by decide +kernel
theorem dX2_put_26 : decode cX2_put 26 = .ok (.iconst (-1), 1) := by decide +kernel
theorem dX2_put_27 : decode cX2_put 27 = .ok (.ireturn, 1) := by decide +kernel
theorem dX2_put_28 : decode cX2_put 28 = .ok (.aload 5, 2) := by decide +kernel
theorem dX2_put_30 : decode cX2_put 30 = .ok (.getfield 46, 3) := by decide +kernel
theorem dX2_put_33 : decode cX2_put 33 = .ok (.iconst 1, 1) := by decide +kernel
theorem dX2_put_34 : decode cX2_put 34 = .ok (.if_icmp .ne 12, 3) := by decide +kernel
theorem dX2_put_37 : decode cX2_put 37 = .ok (.aload 5, 2) := by decide +kernel
theorem dX2_put_39 : decode cX2_put 39 = .ok (.lload_n 3, 1) := by decide +kernel
theorem dX2_put_40 : decode cX2_put 40 = .ok (.l2i, 1) := by decide +kernel
theorem dX2_put_41 : decode cX2_put 41 = .ok (.putfield 49, 3) := by decide +kernel
theorem dX2_put_44 : decode cX2_put 44 = .ok (.iconst 1, 1) := by decide +kernel
theorem dX2_put_45 : decode cX2_put 45 = .ok (.ireturn, 1) := by decide +kernel
theorem dX2_put_46 : decode cX2_put 46 = .ok (.aload 5, 2) := by decide +kernel
theorem dX2_put_48 : decode cX2_put 48 = .ok (.invokevirtual 52, 3) := by decide +kernel
theorem dX2_put_51 : decode cX2_put 51 = .ok (.ifCond .eq 12, 3) := by decide +kernel
theorem dX2_put_54 : decode cX2_put 54 = .ok (.aload_n 0, 1) := by decide +kernel
theorem dX2_put_55 : decode cX2_put 55 = .ok (.aload 5, 2) := by decide +kernel
theorem dX2_put_57 : decode cX2_put 57 = .ok (.iload_n 2, 1) := by decide +kernel
theorem dX2_put_58 : decode cX2_put 58 = .ok (.lload_n 3, 1) := by decide +kernel
theorem dX2_put_59 : decode cX2_put 59 = .ok (.invokevirtual 56, 3) := by decide +kernel
theorem dX2_put_62 : decode cX2_put 62 = .ok (.ireturn, 1) := by decide +kernel
theorem dX2_put_63 : decode cX2_put 63 = .ok (.aload 5, 2) := by decide +kernel
theorem dX2_put_65 : decode cX2_put 65 = .ok (.iload_n 2, 1) := by decide +kernel
theorem dX2_put_66 : decode cX2_put 66 = .ok (.invokevirtual 60, 3) := by decide +kernel
theorem dX2_put_69 : decode cX2_put 69 = .ok (.ifCond .ne 6, 3) := by decide +kernel
theorem dX2_put_72 : decode cX2_put 72 = .ok (.bipush (-3), 2) := by decide +kernel
theorem dX2_put_74 : decode cX2_put 74 = .ok (.ireturn, 1) := by decide +kernel
theorem dX2_put_75 : decode cX2_put 75 = .ok (.aload 5, 2) := by decide +kernel
theorem dX2_put_77 : decode cX2_put 77 = .ok (.getfield 63, 3) := by decide +kernel
theorem dX2_put_80 : decode cX2_put 80 = .ok (.iload_n 2, 1) := by decide +kernel
theorem dX2_put_81 : decode cX2_put 81 = .ok (.aload 5, 2) := by decide +kernel
theorem dX2_put_83 : decode cX2_put 83 = .ok (.getfield 46, 3) := by decide +kernel
theorem dX2_put_86 : decode cX2_put 86 = .ok (.iconst 2, 1) := by decide +kernel
theorem dX2_put_87 : decode cX2_put 87 = .ok (.if_icmp .ne 9, 3) := by decide +kernel
theorem dX2_put_90 : decode cX2_put 90 = .ok (.lload_n 3, 1) := by decide +kernel
theorem dX2_put_91 : decode cX2_put 91 = .ok (.l2i, 1) := by decide +kernel
theorem dX2_put_92 : decode cX2_put 92 = .ok (.i2l, 1) := by decide +kernel
theorem dX2_put_93 : decode cX2_put 93 = .ok (.goto 4, 3) := by decide +kernel
theorem dX2_put_96 : decode cX2_put 96 = .ok (.lload_n 3, 1) := by decide +kernel
theorem dX2_put_97 : decode cX2_put 97 = .ok (.lastore, 1) := by decide +kernel
theorem dX2_put_98 : decode cX2_put 98 = .ok (.iconst 1, 1) := by decide +kernel
theorem dX2_put_99 : decode cX2_put 99 = .ok (.ireturn, 1) := by decide +kernel
set_option maxRecDepth 20000 in
theorem ggX2_putCard_X1_hasPlace : GoodIn wsX2_putCard wsX1_hasPlace := goodIn_r _ [10, 11, 35, 36, 37, 38, 39] (by decide +kernel) (by decide +kernel)
set_option maxRecDepth 20000 in
theorem gX2_putCard_X1_hasPlace : GoodIn wsX2_putCard (wsV RX2 60 RX1 yX1_hasPlace wsX1_hasPlace) := goodIn_app (goodIn_of _ (by decide +kernel)) ggX2_putCard_X1_hasPlace
set_option maxRecDepth 20000 in
theorem ggX2_putCard_X0_init : GoodIn wsX2_putCard wsX0_init := goodIn_r _ [14, 15, 16, 17, 18, 19, 20, 40, 41, 42] (by decide +kernel) (by decide +kernel)
set_option maxRecDepth 20000 in
theorem gX2_putCard_X0_init : GoodIn wsX2_putCard (wsX0_init) := ggX2_putCard_X0_init
set_option maxRecDepth 20000 in
theorem ggX2_putCard_X1_admits : GoodIn wsX2_putCard wsX1_admits := goodIn_r _ [24, 25, 26, 35, 36, 37, 38, 39, 40, 41, 42] (by decide +kernel) (by decide +kernel)
set_option maxRecDepth 20000 in
theorem gX2_putCard_X1_admits : GoodIn wsX2_putCard (wsV RX2 76 RX1 yX1_admits wsX1_admits) := goodIn_app (goodIn_of _ (by decide +kernel)) ggX2_putCard_X1_admits
theorem dX2_putCard_0 : decode cX2_putCard 0 = .ok (.lload_n 3, 1) := by decide +kernel
theorem dX2_putCard_1 : decode cX2_putCard 1 = .ok (.lconst 0, 1) := by decide +kernel
theorem dX2_putCard_2 : decode cX2_putCard 2 = .ok (.lcmp, 1) := by decide +kernel
theorem dX2_putCard_3 : decode cX2_putCard 3 = .ok (.ifCond .eq 15, 3) := by decide +kernel
theorem dX2_putCard_6 : decode cX2_putCard 6 = .ok (.aload_n 0, 1) := by decide +kernel
theorem dX2_putCard_7 : decode cX2_putCard 7 = .ok (.getfield 26, 3) := by decide +kernel
theorem dX2_putCard_10 : decode cX2_putCard 10 = .ok (.sipush 2000, 3) := by decide +kernel
theorem dX2_putCard_13 : decode cX2_putCard 13 = .ok (.if_icmp .lt 5, 3) := by decide +kernel
theorem dX2_putCard_16 : decode cX2_putCard 16 = .ok (.iconst 0, 1) := by decide +kernel
theorem dX2_putCard_17 : decode cX2_putCard 17 = .ok (.ireturn, 1) := by decide +kernel
theorem dX2_putCard_18 : decode cX2_putCard 18 = .ok (.aload_n 1, 1) := by decide +kernel
theorem dX2_putCard_19 : decode cX2_putCard 19 = .ok (.iload_n 2, 1) := by decide +kernel
theorem dX2_putCard_20 : decode cX2_putCard 20 = .ok (.invokevirtual 60, 3) := by decide +kernel
theorem dX2_putCard_23 : decode cX2_putCard 23 = .ok (.ifCond .ne 6, 3) := by decide +kernel
theorem dX2_putCard_26 : decode cX2_putCard 26 = .ok (.bipush (-3), 2) := by decide +kernel
theorem dX2_putCard_28 : decode cX2_putCard 28 = .ok (.ireturn, 1) := by decide +kernel
theorem dX2_putCard_29 : decode cX2_putCard 29 = .ok (.lload_n 3, 1) := by decide +kernel
theorem dX2_putCard_30 : decode cX2_putCard 30 = .ok (.lconst 0, 1) := by decide +kernel
theorem dX2_putCard_31 : decode cX2_putCard 31 = .ok (.lcmp, 1) := by decide +kernel
theorem dX2_putCard_32 : decode cX2_putCard 32 = .ok (.ifCond .ne 12, 3) := by decide +kernel
theorem dX2_putCard_35 : decode cX2_putCard 35 = .ok (.aload_n 1, 1) := by decide +kernel
theorem dX2_putCard_36 : decode cX2_putCard 36 = .ok (.getfield 67, 3) := by decide +kernel
theorem dX2_putCard_39 : decode cX2_putCard 39 = .ok (.iload_n 2, 1) := by decide +kernel
theorem dX2_putCard_40 : decode cX2_putCard 40 = .ok (.aconst_null, 1) := by decide +kernel
theorem dX2_putCard_41 : decode cX2_putCard 41 = .ok (.aastore, 1) := by decide +kernel
theorem dX2_putCard_42 : decode cX2_putCard 42 = .ok (.iconst 1, 1) := by decide +kernel
theorem dX2_putCard_43 : decode cX2_putCard 43 = .ok (.ireturn, 1) := by decide +kernel
theorem dX2_putCard_44 : decode cX2_putCard 44 = .ok (.new 71, 3) := by decide +kernel
theorem dX2_putCard_47 : decode cX2_putCard 47 = .ok (.dup, 1) := by decide +kernel
theorem dX2_putCard_48 : decode cX2_putCard 48 = .ok (.lload_n 3, 1) := by decide +kernel
theorem dX2_putCard_49 : decode cX2_putCard 49 = .ok (.invokespecial 73, 3) := by decide +kernel
theorem dX2_putCard_52 : decode cX2_putCard 52 = .ok (.astore 5, 2) := by decide +kernel
theorem dX2_putCard_54 : decode cX2_putCard 54 = .ok (.aload_n 1, 1) := by decide +kernel
theorem dX2_putCard_55 : decode cX2_putCard 55 = .ok (.aload 5, 2) := by decide +kernel
theorem dX2_putCard_57 : decode cX2_putCard 57 = .ok (.invokevirtual 76, 3) := by decide +kernel
theorem dX2_putCard_60 : decode cX2_putCard 60 = .ok (.ifCond .ne 6, 3) := by decide +kernel
theorem dX2_putCard_63 : decode cX2_putCard 63 = .ok (.bipush (-4), 2) := by decide +kernel
theorem dX2_putCard_65 : decode cX2_putCard 65 = .ok (.ireturn, 1) := by decide +kernel
theorem dX2_putCard_66 : decode cX2_putCard 66 = .ok (.aload_n 1, 1) := by decide +kernel
theorem dX2_putCard_67 : decode cX2_putCard 67 = .ok (.getfield 67, 3) := by decide +kernel
theorem dX2_putCard_70 : decode cX2_putCard 70 = .ok (.iload_n 2, 1) := by decide +kernel
theorem dX2_putCard_71 : decode cX2_putCard 71 = .ok (.aload 5, 2) := by decide +kernel
theorem dX2_putCard_73 : decode cX2_putCard 73 = .ok (.aastore, 1) := by decide +kernel
theorem dX2_putCard_74 : decode cX2_putCard 74 = .ok (.aload_n 0, 1) := by decide +kernel
theorem dX2_putCard_75 : decode cX2_putCard 75 = .ok (.dup, 1) := by decide +kernel
theorem dX2_putCard_76 : decode cX2_putCard 76 = .ok (.getfield 26, 3) := by decide +kernel
theorem dX2_putCard_79 : decode cX2_putCard 79 = .ok (.iconst 1, 1) := by decide +kernel
theorem dX2_putCard_80 : decode cX2_putCard 80 = .ok (.iadd, 1) := by decide +kernel
theorem dX2_putCard_81 : decode cX2_putCard 81 = .ok (.putfield 26, 3) := by decide +kernel
theorem dX2_putCard_84 : decode cX2_putCard 84 = .ok (.iconst 1, 1) := by decide +kernel
theorem dX2_putCard_85 : decode cX2_putCard 85 = .ok (.ireturn, 1) := by decide +kernel
set_option maxRecDepth 20000 in
theorem ggX2_move_X2_isSpindle : GoodIn wsX2_move wsX2_isSpindle := goodIn_r _ [5] (by decide +kernel) (by decide +kernel)
set_option maxRecDepth 20000 in
theorem gX2_move_X2_isSpindle : GoodIn wsX2_move (va_wsS RX2 42 yX2_isSpindle wsX2_isSpindle) := goodIn_app (goodIn_of _ (by decide +kernel)) ggX2_move_X2_isSpindle
set_option maxRecDepth 20000 in
theorem ggX2_move_X2_motionFailure : GoodIn wsX2_move wsX2_motionFailure := goodIn_r _ [8, 9, 10, 11, 12, 13, 14, 15, 16, 17, 18, 19, 20, 21, 22, 23, 24, 25, 26, 27, 28, 84, 85, 86, 87, 88] (by decide +kernel) (by decide +kernel)
set_option maxRecDepth 20000 in
theorem gX2_move_X2_motionFailure : GoodIn wsX2_move (va_wsS RX2 80 yX2_motionFailure wsX2_motionFailure) := goodIn_app (goodIn_of _ (by decide +kernel)) ggX2_move_X2_motionFailure
set_option maxRecDepth 20000 in
theorem ggX2_move_X2_end : GoodIn wsX2_move wsX2_end := goodIn_r _ [32, 33, 34, 76, 77, 78, 79, 80, 81, 82, 83] (by decide +kernel) (by decide +kernel)
set_option maxRecDepth 20000 in
theorem gX2_move_X2_end : GoodIn wsX2_move (wsV RX2 84 RX2 yX2_end wsX2_end) := goodIn_app (goodIn_of _ (by decide +kernel)) ggX2_move_X2_end
set_option maxRecDepth 20000 in
theorem ggX2_move_X1_countAdmitted : GoodIn wsX2_move wsX1_countAdmitted := goodIn_r _ [38, 39, 40, 41, 13, 42, 43, 16, 17, 18, 19, 15, 44, 45, 46, 47, 28, 48, 49, 50, 51, 52, 84, 85, 86, 87, 88, 89, 90, 91] (by decide +kernel) (by decide +kernel)
set_option maxRecDepth 20000 in
theorem gX2_move_X1_countAdmitted : GoodIn wsX2_move (wsV RX2 88 RX1 yX1_countAdmitted wsX1_countAdmitted) := goodIn_app (goodIn_of _ (by decide +kernel)) ggX2_move_X1_countAdmitted
set_option maxRecDepth 20000 in
theorem ggX2_move_X2_cover : GoodIn wsX2_move wsX2_cover := goodIn_r _ [56, 57, 58, 59, 60, 61, 4, 62, 63, 64, 65, 17, 18, 13, 19, 15, 66, 67, 68, 69, 43, 70, 71, 72, 73, 74, 75, 25, 26, 27, 28, 16, 20, 21, 22, 23, 84, 85, 86, 87, 88, 76, 77, 78, 79, 80, 81, 82, 83] (by decide +kernel) (by decide +kernel)
set_option maxRecDepth 20000 in
theorem gX2_move_X2_cover : GoodIn wsX2_move (wsV RX2 92 RX2 yX2_cover wsX2_cover) := goodIn_app (goodIn_of _ (by decide +kernel)) ggX2_move_X2_cover
set_option maxRecDepth 20000 in
theorem ggX2_move_X1_copyFrom : GoodIn wsX2_move wsX1_copyFrom := goodIn_r _ [69, 43, 70, 71, 72, 73, 74, 75, 25, 26, 13, 27, 28, 16, 17, 18, 19, 15, 20, 21, 22, 23, 84, 85, 86, 87, 88] (by decide +kernel) (by decide +kernel)
set_option maxRecDepth 20000 in
theorem gX2_move_X1_copyFrom : GoodIn wsX2_move (wsV RX2 96 RX1 yX1_copyFrom wsX1_copyFrom) := goodIn_app (goodIn_of _ (by decide +kernel)) ggX2_move_X1_copyFrom
theorem dX2_move_0 : decode cX2_move 0 = .ok (.iload_n 1, 1) := by decide +kernel
theorem dX2_move_1 : decode cX2_move 1 = .ok (.invokestatic 42, 3) := by decide +kernel
theorem dX2_move_4 : decode cX2_move 4 = .ok (.ifCond .eq 10, 3) := by decide +kernel
theorem dX2_move_7 : decode cX2_move 7 = .ok (.iload_n 3, 1) := by decide +kernel
theorem dX2_move_8 : decode cX2_move 8 = .ok (.invokestatic 42, 3) := by decide +kernel
theorem dX2_move_11 : decode cX2_move 11 = .ok (.ifCond .ne 6, 3) := by decide +kernel
theorem dX2_move_14 : decode cX2_move 14 = .ok (.bipush (-9), 2) := by decide +kernel
theorem dX2_move_16 : decode cX2_move 16 = .ok (.ireturn, 1) := by decide +kernel
theorem dX2_move_17 : decode cX2_move 17 = .ok (.aload_n 0, 1) := by decide +kernel
theorem dX2_move_18 : decode cX2_move 18 = .ok (.getfield 11, 3) := by decide +kernel
theorem dX2_move_21 : decode cX2_move 21 = .ok (.iload_n 1, 1) := by decide +kernel
theorem dX2_move_22 : decode cX2_move 22 = .ok (.aaload, 1) := by decide +kernel
theorem dX2_move_23 : decode cX2_move 23 = .ok (.astore 6, 2) := by decide +kernel
theorem dX2_move_25 : decode cX2_move 25 = .ok (.aload_n 0, 1) := by decide +kernel
theorem dX2_move_26 : decode cX2_move 26 = .ok (.getfield 11, 3) := by decide +kernel
theorem dX2_move_29 : decode cX2_move 29 = .ok (.iload_n 3, 1) := by decide +kernel
theorem dX2_move_30 : decode cX2_move 30 = .ok (.aaload, 1) := by decide +kernel
theorem dX2_move_31 : decode cX2_move 31 = .ok (.astore 7, 2) := by decide +kernel
theorem dX2_move_33 : decode cX2_move 33 = .ok (.aload 6, 2) := by decide +kernel
theorem dX2_move_35 : decode cX2_move 35 = .ok (.iload_n 2, 1) := by decide +kernel
theorem dX2_move_36 : decode cX2_move 36 = .ok (.aload 7, 2) := by decide +kernel
theorem dX2_move_38 : decode cX2_move 38 = .ok (.iload 4, 2) := by decide +kernel
theorem dX2_move_40 : decode cX2_move 40 = .ok (.iload 5, 2) := by decide +kernel
theorem dX2_move_42 : decode cX2_move 42 = .ok (.invokestatic 80, 3) := by decide +kernel
theorem dX2_move_45 : decode cX2_move 45 = .ok (.istore 8, 2) := by decide +kernel
theorem dX2_move_47 : decode cX2_move 47 = .ok (.iload 8, 2) := by decide +kernel
theorem dX2_move_49 : decode cX2_move 49 = .ok (.ifCond .eq 14, 3) := by decide +kernel
theorem dX2_move_52 : decode cX2_move 52 = .ok (.aload_n 0, 1) := by decide +kernel
theorem dX2_move_53 : decode cX2_move 53 = .ok (.iload 8, 2) := by decide +kernel
theorem dX2_move_55 : decode cX2_move 55 = .ok (.iconst 0, 1) := by decide +kernel
theorem dX2_move_56 : decode cX2_move 56 = .ok (.iload 8, 2) := by decide +kernel
theorem dX2_move_58 : decode cX2_move 58 = .ok (.ineg, 1) := by decide +kernel
theorem dX2_move_59 : decode cX2_move 59 = .ok (.invokevirtual 84, 3) := by decide +kernel
theorem dX2_move_62 : decode cX2_move 62 = .ok (.ireturn, 1) := by decide +kernel
theorem dX2_move_63 : decode cX2_move 63 = .ok (.aload 7, 2) := by decide +kernel
theorem dX2_move_65 : decode cX2_move 65 = .ok (.aload 6, 2) := by decide +kernel
theorem dX2_move_67 : decode cX2_move 67 = .ok (.iload_n 2, 1) := by decide +kernel
theorem dX2_move_68 : decode cX2_move 68 = .ok (.iload 5, 2) := by decide +kernel
theorem dX2_move_70 : decode cX2_move 70 = .ok (.invokevirtual 88, 3) := by decide +kernel
theorem dX2_move_73 : decode cX2_move 73 = .ok (.istore 9, 2) := by decide +kernel
theorem dX2_move_75 : decode cX2_move 75 = .ok (.iload 9, 2) := by decide +kernel
theorem dX2_move_77 : decode cX2_move 77 = .ok (.ifCond .le 21, 3) := by decide +kernel
theorem dX2_move_80 : decode cX2_move 80 = .ok (.aload_n 0, 1) := by decide +kernel
theorem dX2_move_81 : decode cX2_move 81 = .ok (.aload 7, 2) := by decide +kernel
theorem dX2_move_83 : decode cX2_move 83 = .ok (.invokevirtual 92, 3) := by decide +kernel
theorem dX2_move_86 : decode cX2_move 86 = .ok (.aload 7, 2) := by decide +kernel
theorem dX2_move_88 : decode cX2_move 88 = .ok (.aload 6, 2) := by decide +kernel
theorem dX2_move_90 : decode cX2_move 90 = .ok (.iload_n 2, 1) := by decide +kernel
theorem dX2_move_91 : decode cX2_move 91 = .ok (.iload 4, 2) := by decide +kernel
theorem dX2_move_93 : decode cX2_move 93 = .ok (.iload 9, 2) := by decide +kernel
theorem dX2_move_95 : decode cX2_move 95 = .ok (.invokevirtual 96, 3) := by decide +kernel
theorem dX2_move_98 : decode cX2_move 98 = .ok (.iload 9, 2) := by decide +kernel
theorem dX2_move_100 : decode cX2_move 100 = .ok (.iload 5, 2) := by decide +kernel
theorem dX2_move_102 : decode cX2_move 102 = .ok (.if_icmp .ge 13, 3) := by decide +kernel
theorem dX2_move_105 : decode cX2_move 105 = .ok (.aload_n 0, 1) := by decide +kernel
theorem dX2_move_106 : decode cX2_move 106 = .ok (.iconst 4, 1) := by decide +kernel
theorem dX2_move_107 : decode cX2_move 107 = .ok (.iload 9, 2) := by decide +kernel
theorem dX2_move_109 : decode cX2_move 109 = .ok (.bipush (-4), 2) := by decide +kernel
theorem dX2_move_111 : decode cX2_move 111 = .ok (.invokevirtual 84, 3) := by decide +kernel
theorem dX2_move_114 : decode cX2_move 114 = .ok (.ireturn, 1) := by decide +kernel
theorem dX2_move_115 : decode cX2_move 115 = .ok (.aload_n 0, 1) := by decide +kernel
theorem dX2_move_116 : decode cX2_move 116 = .ok (.iconst 0, 1) := by decide +kernel
theorem dX2_move_117 : decode cX2_move 117 = .ok (.iload 5, 2) := by decide +kernel
theorem dX2_move_119 : decode cX2_move 119 = .ok (.iload 5, 2) := by decide +kernel
theorem dX2_move_121 : decode cX2_move 121 = .ok (.invokevirtual 84, 3) := by decide +kernel
theorem dX2_move_124 : decode cX2_move 124 = .ok (.ireturn, 1) := by decide +kernel
set_option maxRecDepth 20000 in
theorem ggX2_open_X2_shift : GoodIn wsX2_open wsX2_shift := goodIn_r _ [5, 6, 7, 8, 9, 4, 10, 11, 12, 13, 14, 15, 16, 17, 18, 19, 20, 21, 22, 23, 24, 25, 26, 27, 28, 29, 30, 31, 32, 33, 34, 35, 36, 37, 38, 39, 40, 41, 42, 43, 44, 45, 46, 47, 48, 49, 50, 51, 52, 53, 54, 55, 56, 57, 58, 59, 60, 61, 62, 63, 64, 65, 66, 67, 68, 69, 70, 71, 72, 73, 74, 75, 76, 77, 78, 79] (by decide +kernel) (by decide +kernel)
set_option maxRecDepth 20000 in
theorem gX2_open_X2_shift : GoodIn wsX2_open (wsV RX2 100 RX2 yX2_shift wsX2_shift) := goodIn_app (goodIn_of _ (by decide +kernel)) ggX2_open_X2_shift
theorem dX2_open_0 : decode cX2_open 0 = .ok (.aload_n 0, 1) := by decide +kernel
theorem dX2_open_1 : decode cX2_open 1 = .ok (.iload_n 1, 1) := by decide +kernel
theorem dX2_open_2 : decode cX2_open 2 = .ok (.iload_n 2, 1) := by decide +kernel
theorem dX2_open_3 : decode cX2_open 3 = .ok (.iload_n 3, 1) := by decide +kernel
theorem dX2_open_4 : decode cX2_open 4 = .ok (.iconst 1, 1) := by decide +kernel
theorem dX2_open_5 : decode cX2_open 5 = .ok (.invokevirtual 100, 3) := by decide +kernel
theorem dX2_open_8 : decode cX2_open 8 = .ok (.ireturn, 1) := by decide +kernel
set_option maxRecDepth 20000 in
theorem ggX2_close_X2_shift : GoodIn wsX2_close wsX2_shift := goodIn_r _ [5, 6, 7, 8, 9, 4, 10, 11, 12, 13, 14, 15, 16, 17, 18, 19, 20, 21, 22, 23, 24, 25, 26, 27, 28, 29, 30, 31, 32, 33, 34, 35, 36, 37, 38, 39, 40, 41, 42, 43, 44, 45, 46, 47, 48, 49, 50, 51, 52, 53, 54, 55, 56, 57, 58, 59, 60, 61, 62, 63, 64, 65, 66, 67, 68, 69, 70, 71, 72, 73, 74, 75, 76, 77, 78, 79] (by decide +kernel) (by decide +kernel)
set_option maxRecDepth 20000 in
theorem gX2_close_X2_shift : GoodIn wsX2_close (wsV RX2 100 RX2 yX2_shift wsX2_shift) := goodIn_app (goodIn_of _ (by decide +kernel)) ggX2_close_X2_shift
theorem dX2_close_0 : decode cX2_close 0 = .ok (.aload_n 0, 1) := by decide +kernel
theorem dX2_close_1 : decode cX2_close 1 = .ok (.iload_n 1, 1) := by decide +kernel
theorem dX2_close_2 : decode cX2_close 2 = .ok (.iload_n 2, 1) := by decide +kernel
theorem dX2_close_3 : decode cX2_close 3 = .ok (.iload_n 3, 1) := by decide +kernel
theorem dX2_close_4 : decode cX2_close 4 = .ok (.iconst 0, 1) := by decide +kernel
theorem dX2_close_5 : decode cX2_close 5 = .ok (.invokevirtual 100, 3) := by decide +kernel
theorem dX2_close_8 : decode cX2_close 8 = .ok (.ireturn, 1) := by decide +kernel
set_option maxRecDepth 20000 in
theorem ggX2_shift_X2_isSpindle : GoodIn wsX2_shift wsX2_isSpindle := goodIn_r _ [6] (by decide +kernel) (by decide +kernel)
set_option maxRecDepth 20000 in
theorem gX2_shift_X2_isSpindle : GoodIn wsX2_shift (va_wsS RX2 42 yX2_isSpindle wsX2_isSpindle) := goodIn_app (goodIn_of _ (by decide +kernel)) ggX2_shift_X2_isSpindle
set_option maxRecDepth 20000 in
theorem ggX2_shift_X2_motionFailure : GoodIn wsX2_shift wsX2_motionFailure := goodIn_r _ [9, 10, 11, 12, 13, 14, 15, 16, 17, 18, 19, 20, 21, 22, 23, 24, 25, 26, 27, 28, 29, 71, 72, 73, 74, 75] (by decide +kernel) (by decide +kernel)
set_option maxRecDepth 20000 in
theorem gX2_shift_X2_motionFailure : GoodIn wsX2_shift (va_wsS RX2 80 yX2_motionFailure wsX2_motionFailure) := goodIn_app (goodIn_of _ (by decide +kernel)) ggX2_shift_X2_motionFailure
set_option maxRecDepth 20000 in
theorem ggX2_shift_X2_end : GoodIn wsX2_shift wsX2_end := goodIn_r _ [33, 34, 35, 63, 64, 65, 66, 67, 68, 69, 70] (by decide +kernel) (by decide +kernel)
set_option maxRecDepth 20000 in
theorem gX2_shift_X2_end : GoodIn wsX2_shift (wsV RX2 84 RX2 yX2_end wsX2_end) := goodIn_app (goodIn_of _ (by decide +kernel)) ggX2_shift_X2_end
set_option maxRecDepth 20000 in
theorem ggX2_shift_X2_cover : GoodIn wsX2_shift wsX2_cover := goodIn_r _ [39, 2, 40, 41, 42, 43, 5, 44, 45, 46, 47, 18, 19, 14, 20, 16, 48, 49, 50, 51, 52, 53, 54, 55, 56, 57, 58, 26, 27, 28, 29, 17, 21, 22, 23, 24, 71, 72, 73, 74, 75, 63, 64, 65, 66, 67, 68, 69, 70] (by decide +kernel) (by decide +kernel)
set_option maxRecDepth 20000 in
theorem gX2_shift_X2_cover : GoodIn wsX2_shift (wsV RX2 92 RX2 yX2_cover wsX2_cover) := goodIn_app (goodIn_of _ (by decide +kernel)) ggX2_shift_X2_cover
set_option maxRecDepth 20000 in
theorem ggX2_shift_X1_copyFrom : GoodIn wsX2_shift wsX1_copyFrom := goodIn_r _ [51, 52, 53, 54, 55, 56, 57, 58, 26, 27, 14, 28, 29, 17, 18, 19, 20, 16, 21, 22, 23, 24, 71, 72, 73, 74, 75] (by decide +kernel) (by decide +kernel)
set_option maxRecDepth 20000 in
theorem gX2_shift_X1_copyFrom : GoodIn wsX2_shift (wsV RX2 96 RX1 yX1_copyFrom wsX1_copyFrom) := goodIn_app (goodIn_of _ (by decide +kernel)) ggX2_shift_X1_copyFrom
set_option maxRecDepth 20000 in
theorem ggX2_shift_X1_makeBlank : GoodIn wsX2_shift wsX1_makeBlank := goodIn_r _ [62, 52, 57, 58, 26, 27, 14, 28, 29, 17, 18, 19, 20, 16, 21, 22, 23, 24, 71, 72, 73, 74, 75] (by decide +kernel) (by decide +kernel)
set_option maxRecDepth 20000 in
theorem gX2_shift_X1_makeBlank : GoodIn wsX2_shift (wsV RX2 107 RX1 yX1_makeBlank wsX1_makeBlank) := goodIn_app (goodIn_of _ (by decide +kernel)) ggX2_shift_X1_makeBlank
theorem dX2_shift_0 : decode cX2_shift 0 = .ok (.iload_n 1, 1) := by decide +kernel
theorem dX2_shift_1 : decode cX2_shift 1 = .ok (.invokestatic 42, 3) := by decide +kernel
theorem dX2_shift_4 : decode cX2_shift 4 = .ok (.ifCond .ne 6, 3) := by decide +kernel
theorem dX2_shift_7 : decode cX2_shift 7 = .ok (.bipush (-9), 2) := by decide +kernel
theorem dX2_shift_9 : decode cX2_shift 9 = .ok (.ireturn, 1) := by decide +kernel
theorem dX2_shift_10 : decode cX2_shift 10 = .ok (.aload_n 0, 1) := by decide +kernel
theorem dX2_shift_11 : decode cX2_shift 11 = .ok (.getfield 11, 3) := by decide +kernel
theorem dX2_shift_14 : decode cX2_shift 14 = .ok (.iload_n 1, 1) := by decide +kernel
theorem dX2_shift_15 : decode cX2_shift 15 = .ok (.aaload, 1) := by decide +kernel
theorem dX2_shift_16 : decode cX2_shift 16 = .ok (.astore 5, 2) := by decide +kernel
theorem dX2_shift_18 : decode cX2_shift 18 = .ok (.aload 5, 2) := by decide +kernel
theorem dX2_shift_20 : decode cX2_shift 20 = .ok (.iload_n 2, 1) := by decide +kernel
theorem dX2_shift_21 : decode cX2_shift 21 = .ok (.aload 5, 2) := by decide +kernel
theorem dX2_shift_23 : decode cX2_shift 23 = .ok (.iload_n 2, 1) := by decide +kernel
theorem dX2_shift_24 : decode cX2_shift 24 = .ok (.iload_n 3, 1) := by decide +kernel
theorem dX2_shift_25 : decode cX2_shift 25 = .ok (.invokestatic 80, 3) := by decide +kernel
theorem dX2_shift_28 : decode cX2_shift 28 = .ok (.istore 6, 2) := by decide +kernel
theorem dX2_shift_30 : decode cX2_shift 30 = .ok (.iload 6, 2) := by decide +kernel
theorem dX2_shift_32 : decode cX2_shift 32 = .ok (.ifCond .eq 14, 3) := by decide +kernel
theorem dX2_shift_35 : decode cX2_shift 35 = .ok (.aload_n 0, 1) := by decide +kernel
theorem dX2_shift_36 : decode cX2_shift 36 = .ok (.iload 6, 2) := by decide +kernel
theorem dX2_shift_38 : decode cX2_shift 38 = .ok (.iconst 0, 1) := by decide +kernel
theorem dX2_shift_39 : decode cX2_shift 39 = .ok (.iload 6, 2) := by decide +kernel
theorem dX2_shift_41 : decode cX2_shift 41 = .ok (.ineg, 1) := by decide +kernel
theorem dX2_shift_42 : decode cX2_shift 42 = .ok (.invokevirtual 84, 3) := by decide +kernel
theorem dX2_shift_45 : decode cX2_shift 45 = .ok (.ireturn, 1) := by decide +kernel
theorem dX2_shift_46 : decode cX2_shift 46 = .ok (.aload 5, 2) := by decide +kernel
theorem dX2_shift_48 : decode cX2_shift 48 = .ok (.getfield 104, 3) := by decide +kernel
theorem dX2_shift_51 : decode cX2_shift 51 = .ok (.iload_n 2, 1) := by decide +kernel
theorem dX2_shift_52 : decode cX2_shift 52 = .ok (.isub, 1) := by decide +kernel
theorem dX2_shift_53 : decode cX2_shift 53 = .ok (.iload_n 3, 1) := by decide +kernel
theorem dX2_shift_54 : decode cX2_shift 54 = .ok (.isub, 1) := by decide +kernel
theorem dX2_shift_55 : decode cX2_shift 55 = .ok (.istore 7, 2) := by decide +kernel
theorem dX2_shift_57 : decode cX2_shift 57 = .ok (.aload_n 0, 1) := by decide +kernel
theorem dX2_shift_58 : decode cX2_shift 58 = .ok (.aload 5, 2) := by decide +kernel
theorem dX2_shift_60 : decode cX2_shift 60 = .ok (.invokevirtual 92, 3) := by decide +kernel
theorem dX2_shift_63 : decode cX2_shift 63 = .ok (.iload 4, 2) := by decide +kernel
theorem dX2_shift_65 : decode cX2_shift 65 = .ok (.ifCond .eq 26, 3) := by decide +kernel
theorem dX2_shift_68 : decode cX2_shift 68 = .ok (.aload 5, 2) := by decide +kernel
theorem dX2_shift_70 : decode cX2_shift 70 = .ok (.aload 5, 2) := by decide +kernel
theorem dX2_shift_72 : decode cX2_shift 72 = .ok (.iload_n 2, 1) := by decide +kernel
theorem dX2_shift_73 : decode cX2_shift 73 = .ok (.iload_n 2, 1) := by decide +kernel
theorem dX2_shift_74 : decode cX2_shift 74 = .ok (.iload_n 3, 1) := by decide +kernel
theorem dX2_shift_75 : decode cX2_shift 75 = .ok (.iadd, 1) := by decide +kernel
theorem dX2_shift_76 : decode cX2_shift 76 = .ok (.iload 7, 2) := by decide +kernel
theorem dX2_shift_78 : decode cX2_shift 78 = .ok (.invokevirtual 96, 3) := by decide +kernel
