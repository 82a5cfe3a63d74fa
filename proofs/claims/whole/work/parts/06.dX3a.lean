theorem dX3_init_0 : decode cX3_init 0 = .ok (.aload_n 0, 1) := by decide +kernel
theorem dX3_init_1 : decode cX3_init 1 = .ok (.invokespecial 1, 3) := by decide +kernel
theorem dX3_init_4 : decode cX3_init 4 = .ok (.aload_n 0, 1) := by decide +kernel
theorem dX3_init_5 : decode cX3_init 5 = .ok (.bipush 10, 2) := by decide +kernel
theorem dX3_init_7 : decode cX3_init 7 = .ok (.newarray .int, 2) := by decide +kernel
theorem dX3_init_9 : decode cX3_init 9 = .ok (.putfield 7, 3) := by decide +kernel
theorem dX3_init_12 : decode cX3_init 12 = .ok (.aload_n 0, 1) := by decide +kernel
theorem dX3_init_13 : decode cX3_init 13 = .ok (.bipush 10, 2) := by decide +kernel
theorem dX3_init_15 : decode cX3_init 15 = .ok (.newarray .int, 2) := by decide +kernel
theorem dX3_init_17 : decode cX3_init 17 = .ok (.putfield 13, 3) := by decide +kernel
theorem dX3_init_20 : decode cX3_init 20 = .ok (.aload_n 0, 1) := by decide +kernel
theorem dX3_init_21 : decode cX3_init 21 = .ok (.bipush 12, 2) := by decide +kernel
theorem dX3_init_23 : decode cX3_init 23 = .ok (.newarray .int, 2) := by decide +kernel
theorem dX3_init_25 : decode cX3_init 25 = .ok (.putfield 16, 3) := by decide +kernel
theorem dX3_init_28 : decode cX3_init 28 = .ok (.aload_n 0, 1) := by decide +kernel
theorem dX3_init_29 : decode cX3_init 29 = .ok (.bipush 12, 2) := by decide +kernel
theorem dX3_init_31 : decode cX3_init 31 = .ok (.newarray .int, 2) := by decide +kernel
theorem dX3_init_33 : decode cX3_init 33 = .ok (.putfield 19, 3) := by decide +kernel
theorem dX3_init_36 : decode cX3_init 36 = .ok (.aload_n 0, 1) := by decide +kernel
theorem dX3_init_37 : decode cX3_init 37 = .ok (.sipush 960, 3) := by decide +kernel
theorem dX3_init_40 : decode cX3_init 40 = .ok (.newarray .long, 2) := by decide +kernel
theorem dX3_init_42 : decode cX3_init 42 = .ok (.putfield 22, 3) := by decide +kernel
theorem dX3_init_45 : decode cX3_init 45 = .ok (.aload_n 0, 1) := by decide +kernel
theorem dX3_init_46 : decode cX3_init 46 = .ok (.bipush 80, 2) := by decide +kernel
theorem dX3_init_48 : decode cX3_init 48 = .ok (.newarray .long, 2) := by decide +kernel
theorem dX3_init_50 : decode cX3_init 50 = .ok (.putfield 26, 3) := by decide +kernel
theorem dX3_init_53 : decode cX3_init 53 = .ok (.aload_n 0, 1) := by decide +kernel
theorem dX3_init_54 : decode cX3_init 54 = .ok (.sipush 2000, 3) := by decide +kernel
theorem dX3_init_57 : decode cX3_init 57 = .ok (.newarray .long, 2) := by decide +kernel
theorem dX3_init_59 : decode cX3_init 59 = .ok (.putfield 29, 3) := by decide +kernel
theorem dX3_init_62 : decode cX3_init 62 = .ok (.aload_n 0, 1) := by decide +kernel
theorem dX3_init_63 : decode cX3_init 63 = .ok (.sipush 2000, 3) := by decide +kernel
theorem dX3_init_66 : decode cX3_init 66 = .ok (.newarray .int, 2) := by decide +kernel
theorem dX3_init_68 : decode cX3_init 68 = .ok (.putfield 32, 3) := by decide +kernel
theorem dX3_init_71 : decode cX3_init 71 = .ok (.aload_n 0, 1) := by decide +kernel
theorem dX3_init_72 : decode cX3_init 72 = .ok (.iconst 5, 1) := by decide +kernel
theorem dX3_init_73 : decode cX3_init 73 = .ok (.newarray .int, 2) := by decide +kernel
theorem dX3_init_75 : decode cX3_init 75 = .ok (.putfield 35, 3) := by decide +kernel
theorem dX3_init_78 : decode cX3_init 78 = .ok (.aload_n 0, 1) := by decide +kernel
theorem dX3_init_79 : decode cX3_init 79 = .ok (.iconst (-1), 1) := by decide +kernel
theorem dX3_init_80 : decode cX3_init 80 = .ok (.putfield 38, 3) := by decide +kernel
theorem dX3_init_83 : decode cX3_init 83 = .ok (.return_, 1) := by decide +kernel
theorem dX3_isSpindle_0 : decode cX3_isSpindle 0 = .ok (.iload_n 0, 1) := by decide +kernel
theorem dX3_isSpindle_1 : decode cX3_isSpindle 1 = .ok (.ifCond .lt 13, 3) := by decide +kernel
theorem dX3_isSpindle_4 : decode cX3_isSpindle 4 = .ok (.iload_n 0, 1) := by decide +kernel
theorem dX3_isSpindle_5 : decode cX3_isSpindle 5 = .ok (.bipush 10, 2) := by decide +kernel
theorem dX3_isSpindle_7 : decode cX3_isSpindle 7 = .ok (.if_icmp .ge 7, 3) := by decide +kernel
theorem dX3_isSpindle_10 : decode cX3_isSpindle 10 = .ok (.iconst 1, 1) := by decide +kernel
theorem dX3_isSpindle_11 : decode cX3_isSpindle 11 = .ok (.goto 4, 3) := by decide +kernel
theorem dX3_isSpindle_14 : decode cX3_isSpindle 14 = .ok (.iconst 0, 1) := by decide +kernel
theorem dX3_isSpindle_15 : decode cX3_isSpindle 15 = .ok (.ireturn, 1) := by decide +kernel
theorem dX3_kindOf_0 : decode cX3_kindOf 0 = .ok (.aload_n 0, 1) := by decide +kernel
theorem dX3_kindOf_1 : decode cX3_kindOf 1 = .ok (.getfield 7, 3) := by decide +kernel
theorem dX3_kindOf_4 : decode cX3_kindOf 4 = .ok (.iload_n 1, 1) := by decide +kernel
theorem dX3_kindOf_5 : decode cX3_kindOf 5 = .ok (.iaload, 1) := by decide +kernel
theorem dX3_kindOf_6 : decode cX3_kindOf 6 = .ok (.ifCond .ne 7, 3) := by decide +kernel
theorem dX3_kindOf_9 : decode cX3_kindOf 9 = .ok (.iconst 0, 1) := by decide +kernel
theorem dX3_kindOf_10 : decode cX3_kindOf 10 = .ok (.goto 29, 3) := by decide +kernel
theorem dX3_kindOf_13 : decode cX3_kindOf 13 = .ok (.aload_n 0, 1) := by decide +kernel
theorem dX3_kindOf_14 : decode cX3_kindOf 14 = .ok (.getfield 7, 3) := by decide +kernel
theorem dX3_kindOf_17 : decode cX3_kindOf 17 = .ok (.iload_n 1, 1) := by decide +kernel
theorem dX3_kindOf_18 : decode cX3_kindOf 18 = .ok (.iaload, 1) := by decide +kernel
theorem dX3_kindOf_19 : decode cX3_kindOf 19 = .ok (.ifCond .ge 7, 3) := by decide +kernel
theorem dX3_kindOf_22 : decode cX3_kindOf 22 = .ok (.iconst 1, 1) := by decide +kernel
theorem dX3_kindOf_23 : decode cX3_kindOf 23 = .ok (.goto 16, 3) := by decide +kernel
theorem dX3_kindOf_26 : decode cX3_kindOf 26 = .ok (.aload_n 0, 1) := by decide +kernel
theorem dX3_kindOf_27 : decode cX3_kindOf 27 = .ok (.getfield 16, 3) := by decide +kernel
theorem dX3_kindOf_30 : decode cX3_kindOf 30 = .ok (.aload_n 0, 1) := by decide +kernel
theorem dX3_kindOf_31 : decode cX3_kindOf 31 = .ok (.getfield 7, 3) := by decide +kernel
theorem dX3_kindOf_34 : decode cX3_kindOf 34 = .ok (.iload_n 1, 1) := by decide +kernel
theorem dX3_kindOf_35 : decode cX3_kindOf 35 = .ok (.iaload, 1) := by decide +kernel
theorem dX3_kindOf_36 : decode cX3_kindOf 36 = .ok (.iconst 1, 1) := by decide +kernel
theorem dX3_kindOf_37 : decode cX3_kindOf 37 = .ok (.isub, 1) := by decide +kernel
theorem dX3_kindOf_38 : decode cX3_kindOf 38 = .ok (.iaload, 1) := by decide +kernel
theorem dX3_kindOf_39 : decode cX3_kindOf 39 = .ok (.ireturn, 1) := by decide +kernel
theorem dX3_hasPlaces_0 : decode cX3_hasPlaces 0 = .ok (.aload_n 0, 1) := by decide +kernel
theorem dX3_hasPlaces_1 : decode cX3_hasPlaces 1 = .ok (.getfield 7, 3) := by decide +kernel
theorem dX3_hasPlaces_4 : decode cX3_hasPlaces 4 = .ok (.iload_n 1, 1) := by decide +kernel
theorem dX3_hasPlaces_5 : decode cX3_hasPlaces 5 = .ok (.iaload, 1) := by decide +kernel
theorem dX3_hasPlaces_6 : decode cX3_hasPlaces 6 = .ok (.ifCond .le 7, 3) := by decide +kernel
theorem dX3_hasPlaces_9 : decode cX3_hasPlaces 9 = .ok (.iconst 1, 1) := by decide +kernel
theorem dX3_hasPlaces_10 : decode cX3_hasPlaces 10 = .ok (.goto 4, 3) := by decide +kernel
theorem dX3_hasPlaces_13 : decode cX3_hasPlaces 13 = .ok (.iconst 0, 1) := by decide +kernel
theorem dX3_hasPlaces_14 : decode cX3_hasPlaces 14 = .ok (.ireturn, 1) := by decide +kernel
set_option maxRecDepth 20000 in
theorem ggX3_sizeOf_X3_hasPlaces : GoodIn wsX3_sizeOf wsX3_hasPlaces := goodIn_r _ [7, 2, 8, 9, 10, 11, 12, 13, 14, 15, 16, 17, 18, 19, 20, 21] (by decide +kernel) (by decide +kernel)
set_option maxRecDepth 20000 in
theorem gX3_sizeOf_X3_hasPlaces : GoodIn wsX3_sizeOf (wsV RX3 42 RX3 yX3_hasPlaces wsX3_hasPlaces) := goodIn_app (goodIn_of _ (by decide +kernel)) ggX3_sizeOf_X3_hasPlaces
theorem dX3_sizeOf_0 : decode cX3_sizeOf 0 = .ok (.aload_n 0, 1) := by decide +kernel
theorem dX3_sizeOf_1 : decode cX3_sizeOf 1 = .ok (.iload_n 1, 1) := by decide +kernel
theorem dX3_sizeOf_2 : decode cX3_sizeOf 2 = .ok (.invokevirtual 42, 3) := by decide +kernel
theorem dX3_sizeOf_5 : decode cX3_sizeOf 5 = .ok (.ifCond .eq 19, 3) := by decide +kernel
theorem dX3_sizeOf_8 : decode cX3_sizeOf 8 = .ok (.aload_n 0, 1) := by decide +kernel
theorem dX3_sizeOf_9 : decode cX3_sizeOf 9 = .ok (.getfield 19, 3) := by decide +kernel
theorem dX3_sizeOf_12 : decode cX3_sizeOf 12 = .ok (.aload_n 0, 1) := by decide +kernel
theorem dX3_sizeOf_13 : decode cX3_sizeOf 13 = .ok (.getfield 7, 3) := by decide +kernel
theorem dX3_sizeOf_16 : decode cX3_sizeOf 16 = .ok (.iload_n 1, 1) := by decide +kernel
theorem dX3_sizeOf_17 : decode cX3_sizeOf 17 = .ok (.iaload, 1) := by decide +kernel
theorem dX3_sizeOf_18 : decode cX3_sizeOf 18 = .ok (.iconst 1, 1) := by decide +kernel
theorem dX3_sizeOf_19 : decode cX3_sizeOf 19 = .ok (.isub, 1) := by decide +kernel
theorem dX3_sizeOf_20 : decode cX3_sizeOf 20 = .ok (.iaload, 1) := by decide +kernel
theorem dX3_sizeOf_21 : decode cX3_sizeOf 21 = .ok (.goto 4, 3) := by decide +kernel
theorem dX3_sizeOf_24 : decode cX3_sizeOf 24 = .ok (.iconst 0, 1) := by decide +kernel
theorem dX3_sizeOf_25 : decode cX3_sizeOf 25 = .ok (.ireturn, 1) := by decide +kernel
set_option maxRecDepth 20000 in
theorem ggX3_isRack_X3_kindOf : GoodIn wsX3_isRack wsX3_kindOf := goodIn_r _ [5, 6, 7, 8, 9, 10, 11, 12, 13, 14, 15, 16, 17, 18, 19, 20, 21] (by decide +kernel) (by decide +kernel)
set_option maxRecDepth 20000 in
theorem gX3_isRack_X3_kindOf : GoodIn wsX3_isRack (wsV RX3 46 RX3 yX3_kindOf wsX3_kindOf) := goodIn_app (goodIn_of _ (by decide +kernel)) ggX3_isRack_X3_kindOf
theorem dX3_isRack_0 : decode cX3_isRack 0 = .ok (.aload_n 0, 1) := by decide +kernel
theorem dX3_isRack_1 : decode cX3_isRack 1 = .ok (.iload_n 1, 1) := by decide +kernel
theorem dX3_isRack_2 : decode cX3_isRack 2 = .ok (.invokevirtual 46, 3) := by decide +kernel
theorem dX3_isRack_5 : decode cX3_isRack 5 = .ok (.iconst 4, 1) := by decide +kernel
theorem dX3_isRack_6 : decode cX3_isRack 6 = .ok (.if_icmp .lt 7, 3) := by decide +kernel
theorem dX3_isRack_9 : decode cX3_isRack 9 = .ok (.iconst 1, 1) := by decide +kernel
theorem dX3_isRack_10 : decode cX3_isRack 10 = .ok (.goto 4, 3) := by decide +kernel
theorem dX3_isRack_13 : decode cX3_isRack 13 = .ok (.iconst 0, 1) := by decide +kernel
theorem dX3_isRack_14 : decode cX3_isRack 14 = .ok (.ireturn, 1) := by decide +kernel
set_option maxRecDepth 20000 in
theorem ggX3_isPlace_X3_sizeOf : GoodIn wsX3_isPlace wsX3_sizeOf := goodIn_r _ [5, 6, 7, 8, 9, 10, 4, 11, 12, 13, 14, 15, 16, 17, 18, 19, 20, 21, 22, 23, 24, 25] (by decide +kernel) (by decide +kernel)
set_option maxRecDepth 20000 in
theorem gX3_isPlace_X3_sizeOf : GoodIn wsX3_isPlace (wsV RX3 50 RX3 yX3_sizeOf wsX3_sizeOf) := goodIn_app (goodIn_of _ (by decide +kernel)) ggX3_isPlace_X3_sizeOf
theorem dX3_isPlace_0 : decode cX3_isPlace 0 = .ok (.iload_n 2, 1) := by decide +kernel
theorem dX3_isPlace_1 : decode cX3_isPlace 1 = .ok (.ifCond .lt 16, 3) := by decide +kernel
theorem dX3_isPlace_4 : decode cX3_isPlace 4 = .ok (.iload_n 2, 1) := by decide +kernel
theorem dX3_isPlace_5 : decode cX3_isPlace 5 = .ok (.aload_n 0, 1) := by decide +kernel
theorem dX3_isPlace_6 : decode cX3_isPlace 6 = .ok (.iload_n 1, 1) := by decide +kernel
theorem dX3_isPlace_7 : decode cX3_isPlace 7 = .ok (.invokevirtual 50, 3) := by decide +kernel
theorem dX3_isPlace_10 : decode cX3_isPlace 10 = .ok (.if_icmp .ge 7, 3) := by decide +kernel
theorem dX3_isPlace_13 : decode cX3_isPlace 13 = .ok (.iconst 1, 1) := by decide +kernel
theorem dX3_isPlace_14 : decode cX3_isPlace 14 = .ok (.goto 4, 3) := by decide +kernel
theorem dX3_isPlace_17 : decode cX3_isPlace 17 = .ok (.iconst 0, 1) := by decide +kernel
theorem dX3_isPlace_18 : decode cX3_isPlace 18 = .ok (.ireturn, 1) := by decide +kernel
theorem dX3_place_0 : decode cX3_place 0 = .ok (.aload_n 0, 1) := by decide +kernel
theorem dX3_place_1 : decode cX3_place 1 = .ok (.getfield 22, 3) := by decide +kernel
theorem dX3_place_4 : decode cX3_place 4 = .ok (.bipush 80, 2) := by decide +kernel
theorem dX3_place_6 : decode cX3_place 6 = .ok (.aload_n 0, 1) := by decide +kernel
theorem dX3_place_7 : decode cX3_place 7 = .ok (.getfield 7, 3) := by decide +kernel
theorem dX3_place_10 : decode cX3_place 10 = .ok (.iload_n 1, 1) := by decide +kernel
theorem dX3_place_11 : decode cX3_place 11 = .ok (.iaload, 1) := by decide +kernel
theorem dX3_place_12 : decode cX3_place 12 = .ok (.iconst 1, 1) := by decide +kernel
theorem dX3_place_13 : decode cX3_place 13 = .ok (.isub, 1) := by decide +kernel
theorem dX3_place_14 : decode cX3_place 14 = .ok (.imul, 1) := by decide +kernel
theorem dX3_place_15 : decode cX3_place 15 = .ok (.iload_n 2, 1) := by decide +kernel
theorem dX3_place_16 : decode cX3_place 16 = .ok (.iadd, 1) := by decide +kernel
theorem dX3_place_17 : decode cX3_place 17 = .ok (.laload, 1) := by decide +kernel
theorem dX3_place_18 : decode cX3_place 18 = .ok (.lreturn, 1) := by decide +kernel
theorem dX3_isPlain_0 : decode cX3_isPlain 0 = .ok (.lload_n 1, 1) := by decide +kernel
theorem dX3_isPlain_1 : decode cX3_isPlain 1 = .ok (.lconst 0, 1) := by decide +kernel
theorem dX3_isPlain_2 : decode cX3_isPlain 2 = .ok (.lcmp, 1) := by decide +kernel
theorem dX3_isPlain_3 : decode cX3_isPlain 3 = .ok (.ifCond .eq 23, 3) := by decide +kernel
theorem dX3_isPlain_6 : decode cX3_isPlain 6 = .ok (.aload_n 0, 1) := by decide +kernel
theorem dX3_isPlain_7 : decode cX3_isPlain 7 = .ok (.getfield 29, 3) := by decide +kernel
theorem dX3_isPlain_10 : decode cX3_isPlain 10 = .ok (.lload_n 1, 1) := by decide +kernel
theorem dX3_isPlain_11 : decode cX3_isPlain 11 = .ok (.l2i, 1) := by decide +kernel
theorem dX3_isPlain_12 : decode cX3_isPlain 12 = .ok (.iconst 1, 1) := by decide +kernel
theorem dX3_isPlain_13 : decode cX3_isPlain 13 = .ok (.isub, 1) := by decide +kernel
theorem dX3_isPlain_14 : decode cX3_isPlain 14 = .ok (.laload, 1) := by decide +kernel
theorem dX3_isPlain_15 : decode cX3_isPlain 15 = .ok (.lconst 1, 1) := by decide +kernel
theorem dX3_isPlain_16 : decode cX3_isPlain 16 = .ok (.land, 1) := by decide +kernel
theorem dX3_isPlain_17 : decode cX3_isPlain 17 = .ok (.lconst 1, 1) := by decide +kernel
theorem dX3_isPlain_18 : decode cX3_isPlain 18 = .ok (.lcmp, 1) := by decide +kernel
theorem dX3_isPlain_19 : decode cX3_isPlain 19 = .ok (.ifCond .ne 7, 3) := by decide +kernel
theorem dX3_isPlain_22 : decode cX3_isPlain 22 = .ok (.iconst 1, 1) := by decide +kernel
theorem dX3_isPlain_23 : decode cX3_isPlain 23 = .ok (.goto 4, 3) := by decide +kernel
theorem dX3_isPlain_26 : decode cX3_isPlain 26 = .ok (.iconst 0, 1) := by decide +kernel
theorem dX3_isPlain_27 : decode cX3_isPlain 27 = .ok (.ireturn, 1) := by decide +kernel
theorem dX3_isHeld_0 : decode cX3_isHeld 0 = .ok (.iconst 0, 1) := by decide +kernel
theorem dX3_isHeld_1 : decode cX3_isHeld 1 = .ok (.istore_n 2, 1) := by decide +kernel
theorem dX3_isHeld_2 : decode cX3_isHeld 2 = .ok (.iconst 0, 1) := by decide +kernel
theorem dX3_isHeld_3 : decode cX3_isHeld 3 = .ok (.istore_n 3, 1) := by decide +kernel
theorem dX3_isHeld_4 : decode cX3_isHeld 4 = .ok (.iload_n 3, 1) := by decide +kernel
theorem dX3_isHeld_5 : decode cX3_isHeld 5 = .ok (.bipush 10, 2) := by decide +kernel
theorem dX3_isHeld_7 : decode cX3_isHeld 7 = .ok (.if_icmp .ge 29, 3) := by decide +kernel
theorem dX3_isHeld_10 : decode cX3_isHeld 10 = .ok (.iload_n 2, 1) := by decide +kernel
theorem dX3_isHeld_11 : decode cX3_isHeld 11 = .ok (.ifCond .ne 13, 3) := by decide +kernel
theorem dX3_isHeld_14 : decode cX3_isHeld 14 = .ok (.aload_n 0, 1) := by decide +kernel
theorem dX3_isHeld_15 : decode cX3_isHeld 15 = .ok (.getfield 7, 3) := by decide +kernel
theorem dX3_isHeld_18 : decode cX3_isHeld 18 = .ok (.iload_n 3, 1) := by decide +kernel
theorem dX3_isHeld_19 : decode cX3_isHeld 19 = .ok (.iaload, 1) := by decide +kernel
theorem dX3_isHeld_20 : decode cX3_isHeld 20 = .ok (.iload_n 1, 1) := by decide +kernel
theorem dX3_isHeld_21 : decode cX3_isHeld 21 = .ok (.if_icmp .ne 7, 3) := by decide +kernel
theorem dX3_isHeld_24 : decode cX3_isHeld 24 = .ok (.iconst 1, 1) := by decide +kernel
theorem dX3_isHeld_25 : decode cX3_isHeld 25 = .ok (.goto 4, 3) := by decide +kernel
theorem dX3_isHeld_28 : decode cX3_isHeld 28 = .ok (.iconst 0, 1) := by decide +kernel
theorem dX3_isHeld_29 : decode cX3_isHeld 29 = .ok (.istore_n 2, 1) := by decide +kernel
theorem dX3_isHeld_30 : decode cX3_isHeld 30 = .ok (.iinc 3 1, 3) := by decide +kernel
theorem dX3_isHeld_33 : decode cX3_isHeld 33 = .ok (.goto (-29), 3) := by decide +kernel
theorem dX3_isHeld_36 : decode cX3_isHeld 36 = .ok (.iload_n 2, 1) := by decide +kernel
theorem dX3_isHeld_37 : decode cX3_isHeld 37 = .ok (.ireturn, 1) := by decide +kernel
set_option maxRecDepth 20000 in
theorem ggX3_hold_X3_isSpindle : GoodIn wsX3_hold wsX3_isSpindle := goodIn_r _ [11] (by decide +kernel) (by decide +kernel)
set_option maxRecDepth 20000 in
theorem gX3_hold_X3_isSpindle : GoodIn wsX3_hold (va_wsS RX3 53 yX3_isSpindle wsX3_isSpindle) := goodIn_app (goodIn_of _ (by decide +kernel)) ggX3_hold_X3_isSpindle
set_option maxRecDepth 20000 in
theorem ggX3_hold_X3_isHeld : GoodIn wsX3_hold wsX3_isHeld := goodIn_r _ [15, 2, 16, 17, 18, 19, 20, 21, 22, 23, 24, 25, 26, 27, 28, 29] (by decide +kernel) (by decide +kernel)
set_option maxRecDepth 20000 in
theorem gX3_hold_X3_isHeld : GoodIn wsX3_hold (wsV RX3 59 RX3 yX3_isHeld wsX3_isHeld) := goodIn_app (goodIn_of _ (by decide +kernel)) ggX3_hold_X3_isHeld
theorem dX3_hold_0 : decode cX3_hold 0 = .ok (.iload_n 1, 1) := by decide +kernel
theorem dX3_hold_1 : decode cX3_hold 1 = .ok (.invokestatic 53, 3) := by decide +kernel
theorem dX3_hold_4 : decode cX3_hold 4 = .ok (.ifCond .ne 6, 3) := by decide +kernel
theorem dX3_hold_7 : decode cX3_hold 7 = .ok (.bipush (-9), 2) := by decide +kernel
theorem dX3_hold_9 : decode cX3_hold 9 = .ok (.ireturn, 1) := by decide +kernel
theorem dX3_hold_10 : decode cX3_hold 10 = .ok (.iload_n 2, 1) := by decide +kernel
theorem dX3_hold_11 : decode cX3_hold 11 = .ok (.ifCond .lt 8, 3) := by decide +kernel
theorem dX3_hold_14 : decode cX3_hold 14 = .ok (.iload_n 2, 1) := by decide +kernel
theorem dX3_hold_15 : decode cX3_hold 15 = .ok (.iconst 5, 1) := by decide +kernel
theorem dX3_hold_16 : decode cX3_hold 16 = .ok (.if_icmp .le 5, 3) := by decide +kernel
theorem dX3_hold_19 : decode cX3_hold 19 = .ok (.iconst 0, 1) := by decide +kernel
theorem dX3_hold_20 : decode cX3_hold 20 = .ok (.ireturn, 1) := by decide +kernel
theorem dX3_hold_21 : decode cX3_hold 21 = .ok (.iload_n 2, 1) := by decide +kernel
theorem dX3_hold_22 : decode cX3_hold 22 = .ok (.iconst 2, 1) := by decide +kernel
theorem dX3_hold_23 : decode cX3_hold 23 = .ok (.if_icmp .lt 7, 3) := by decide +kernel
theorem dX3_hold_26 : decode cX3_hold 26 = .ok (.iconst 1, 1) := by decide +kernel
theorem dX3_hold_27 : decode cX3_hold 27 = .ok (.goto 4, 3) := by decide +kernel
theorem dX3_hold_30 : decode cX3_hold 30 = .ok (.iconst 0, 1) := by decide +kernel
theorem dX3_hold_31 : decode cX3_hold 31 = .ok (.istore 4, 2) := by decide +kernel
theorem dX3_hold_33 : decode cX3_hold 33 = .ok (.iload 4, 2) := by decide +kernel
theorem dX3_hold_35 : decode cX3_hold 35 = .ok (.ifCond .eq 25, 3) := by decide +kernel
theorem dX3_hold_38 : decode cX3_hold 38 = .ok (.iload_n 3, 1) := by decide +kernel
theorem dX3_hold_39 : decode cX3_hold 39 = .ok (.ifCond .lt 19, 3) := by decide +kernel
theorem dX3_hold_42 : decode cX3_hold 42 = .ok (.iload_n 3, 1) := by decide +kernel
theorem dX3_hold_43 : decode cX3_hold 43 = .ok (.bipush 80, 2) := by decide +kernel
theorem dX3_hold_45 : decode cX3_hold 45 = .ok (.if_icmp .gt 13, 3) := by decide +kernel
theorem dX3_hold_48 : decode cX3_hold 48 = .ok (.aload_n 0, 1) := by decide +kernel
theorem dX3_hold_49 : decode cX3_hold 49 = .ok (.getfield 56, 3) := by decide +kernel
theorem dX3_hold_52 : decode cX3_hold 52 = .ok (.sipush 600, 3) := by decide +kernel
theorem dX3_hold_55 : decode cX3_hold 55 = .ok (.if_icmp .ne 5, 3) := by decide +kernel
theorem dX3_hold_58 : decode cX3_hold 58 = .ok (.iconst 0, 1) := by decide +kernel
theorem dX3_hold_59 : decode cX3_hold 59 = .ok (.ireturn, 1) := by decide +kernel
theorem dX3_hold_60 : decode cX3_hold 60 = .ok (.aload_n 0, 1) := by decide +kernel
theorem dX3_hold_61 : decode cX3_hold 61 = .ok (.getfield 7, 3) := by decide +kernel
theorem dX3_hold_64 : decode cX3_hold 64 = .ok (.iload_n 1, 1) := by decide +kernel
theorem dX3_hold_65 : decode cX3_hold 65 = .ok (.iconst 0, 1) := by decide +kernel
theorem dX3_hold_66 : decode cX3_hold 66 = .ok (.iastore, 1) := by decide +kernel
theorem dX3_hold_67 : decode cX3_hold 67 = .ok (.iload_n 2, 1) := by decide +kernel
theorem dX3_hold_68 : decode cX3_hold 68 = .ok (.ifCond .ne 5, 3) := by decide +kernel
theorem dX3_hold_71 : decode cX3_hold 71 = .ok (.iconst 1, 1) := by decide +kernel
theorem dX3_hold_72 : decode cX3_hold 72 = .ok (.ireturn, 1) := by decide +kernel
theorem dX3_hold_73 : decode cX3_hold 73 = .ok (.iconst 0, 1) := by decide +kernel
theorem dX3_hold_74 : decode cX3_hold 74 = .ok (.istore 5, 2) := by decide +kernel
theorem dX3_hold_76 : decode cX3_hold 76 = .ok (.iload 4, 2) := by decide +kernel
theorem dX3_hold_78 : decode cX3_hold 78 = .ok (.ifCond .ne 40, 3) := by decide +kernel
theorem dX3_hold_81 : decode cX3_hold 81 = .ok (.aload_n 0, 1) := by decide +kernel
theorem dX3_hold_82 : decode cX3_hold 82 = .ok (.iconst (-1), 1) := by decide +kernel
theorem dX3_hold_83 : decode cX3_hold 83 = .ok (.iload 5, 2) := by decide +kernel
theorem dX3_hold_85 : decode cX3_hold 85 = .ok (.isub, 1) := by decide +kernel
theorem dX3_hold_86 : decode cX3_hold 86 = .ok (.invokevirtual 59, 3) := by decide +kernel
theorem dX3_hold_89 : decode cX3_hold 89 = .ok (.ifCond .eq 9, 3) := by decide +kernel
theorem dX3_hold_92 : decode cX3_hold 92 = .ok (.iinc 5 1, 3) := by decide +kernel
theorem dX3_hold_95 : decode cX3_hold 95 = .ok (.goto (-14), 3) := by decide +kernel
theorem dX3_hold_98 : decode cX3_hold 98 = .ok (.aload_n 0, 1) := by decide +kernel
theorem dX3_hold_99 : decode cX3_hold 99 = .ok (.getfield 13, 3) := by decide +kernel
theorem dX3_hold_102 : decode cX3_hold 102 = .ok (.iload 5, 2) := by decide +kernel
theorem dX3_hold_104 : decode cX3_hold 104 = .ok (.iload_n 3, 1) := by decide +kernel
theorem dX3_hold_105 : decode cX3_hold 105 = .ok (.iastore, 1) := by decide +kernel
theorem dX3_hold_106 : decode cX3_hold 106 = .ok (.aload_n 0, 1) := by decide +kernel
theorem dX3_hold_107 : decode cX3_hold 107 = .ok (.getfield 7, 3) := by decide +kernel
theorem dX3_hold_110 : decode cX3_hold 110 = .ok (.iload_n 1, 1) := by decide +kernel
theorem dX3_hold_111 : decode cX3_hold 111 = .ok (.iconst (-1), 1) := by decide +kernel
theorem dX3_hold_112 : decode cX3_hold 112 = .ok (.iload 5, 2) := by decide +kernel
theorem dX3_hold_114 : decode cX3_hold 114 = .ok (.isub, 1) := by decide +kernel
theorem dX3_hold_115 : decode cX3_hold 115 = .ok (.iastore, 1) := by decide +kernel
theorem dX3_hold_116 : decode cX3_hold 116 = .ok (.iconst 1, 1) := by decide +kernel
theorem dX3_hold_117 : decode cX3_hold 117 = .ok (.ireturn, 1) := by decide +kernel
theorem dX3_hold_118 : decode cX3_hold 118 = .ok (.iload 5, 2) := by decide +kernel
theorem dX3_hold_120 : decode cX3_hold 120 = .ok (.aload_n 0, 1) := by decide +kernel
theorem dX3_hold_121 : decode cX3_hold 121 = .ok (.getfield 38, 3) := by decide +kernel
theorem dX3_hold_124 : decode cX3_hold 124 = .ok (.if_icmp .eq 14, 3) := by decide +kernel
theorem dX3_hold_127 : decode cX3_hold 127 = .ok (.aload_n 0, 1) := by decide +kernel
theorem dX3_hold_128 : decode cX3_hold 128 = .ok (.iload 5, 2) := by decide +kernel
theorem dX3_hold_130 : decode cX3_hold 130 = .ok (.iconst 1, 1) := by decide +kernel
theorem dX3_hold_131 : decode cX3_hold 131 = .ok (.iadd, 1) := by decide +kernel
theorem dX3_hold_132 : decode cX3_hold 132 = .ok (.invokevirtual 59, 3) := by decide +kernel
theorem dX3_hold_135 : decode cX3_hold 135 = .ok (.ifCond .eq 9, 3) := by decide +kernel
theorem dX3_hold_138 : decode cX3_hold 138 = .ok (.iinc 5 1, 3) := by decide +kernel
theorem dX3_hold_141 : decode cX3_hold 141 = .ok (.goto (-23), 3) := by decide +kernel
theorem dX3_hold_144 : decode cX3_hold 144 = .ok (.aload_n 0, 1) := by decide +kernel
theorem dX3_hold_145 : decode cX3_hold 145 = .ok (.getfield 16, 3) := by decide +kernel
theorem dX3_hold_148 : decode cX3_hold 148 = .ok (.iload 5, 2) := by decide +kernel
theorem dX3_hold_150 : decode cX3_hold 150 = .ok (.iload_n 2, 1) := by decide +kernel
theorem dX3_hold_151 : decode cX3_hold 151 = .ok (.iastore, 1) := by decide +kernel
theorem dX3_hold_152 : decode cX3_hold 152 = .ok (.aload_n 0, 1) := by decide +kernel
theorem dX3_hold_153 : decode cX3_hold 153 = .ok (.getfield 19, 3) := by decide +kernel
theorem dX3_hold_156 : decode cX3_hold 156 = .ok (.iload 5, 2) := by decide +kernel
theorem dX3_hold_158 : decode cX3_hold 158 = .ok (.iload_n 3, 1) := by decide +kernel
theorem dX3_hold_159 : decode cX3_hold 159 = .ok (.iastore, 1) := by decide +kernel
theorem dX3_hold_160 : decode cX3_hold 160 = .ok (.iconst 0, 1) := by decide +kernel
theorem dX3_hold_161 : decode cX3_hold 161 = .ok (.istore 6, 2) := by decide +kernel
theorem dX3_hold_163 : decode cX3_hold 163 = .ok (.iload 6, 2) := by decide +kernel
theorem dX3_hold_165 : decode cX3_hold 165 = .ok (.iload_n 3, 1) := by decide +kernel
theorem dX3_hold_166 : decode cX3_hold 166 = .ok (.if_icmp .ge 23, 3) := by decide +kernel
theorem dX3_hold_169 : decode cX3_hold 169 = .ok (.aload_n 0, 1) := by decide +kernel
theorem dX3_hold_170 : decode cX3_hold 170 = .ok (.getfield 22, 3) := by decide +kernel
theorem dX3_hold_173 : decode cX3_hold 173 = .ok (.bipush 80, 2) := by decide +kernel
theorem dX3_hold_175 : decode cX3_hold 175 = .ok (.iload 5, 2) := by decide +kernel
theorem dX3_hold_177 : decode cX3_hold 177 = .ok (.imul, 1) := by decide +kernel
theorem dX3_hold_178 : decode cX3_hold 178 = .ok (.iload 6, 2) := by decide +kernel
theorem dX3_hold_180 : decode cX3_hold 180 = .ok (.iadd, 1) := by decide +kernel
theorem dX3_hold_181 : decode cX3_hold 181 = .ok (.lconst 0, 1) := by decide +kernel
theorem dX3_hold_182 : decode cX3_hold 182 = .ok (.lastore, 1) := by decide +kernel
theorem dX3_hold_183 : decode cX3_hold 183 = .ok (.iinc 6 1, 3) := by decide +kernel
theorem dX3_hold_186 : decode cX3_hold 186 = .ok (.goto (-23), 3) := by decide +kernel
theorem dX3_hold_189 : decode cX3_hold 189 = .ok (.aload_n 0, 1) := by decide +kernel
theorem dX3_hold_190 : decode cX3_hold 190 = .ok (.dup, 1) := by decide +kernel
theorem dX3_hold_191 : decode cX3_hold 191 = .ok (.getfield 56, 3) := by decide +kernel
theorem dX3_hold_194 : decode cX3_hold 194 = .ok (.iconst 1, 1) := by decide +kernel
theorem dX3_hold_195 : decode cX3_hold 195 = .ok (.iadd, 1) := by decide +kernel
theorem dX3_hold_196 : decode cX3_hold 196 = .ok (.putfield 56, 3) := by decide +kernel
theorem dX3_hold_199 : decode cX3_hold 199 = .ok (.aload_n 0, 1) := by decide +kernel
theorem dX3_hold_200 : decode cX3_hold 200 = .ok (.getfield 7, 3) := by decide +kernel
theorem dX3_hold_203 : decode cX3_hold 203 = .ok (.iload_n 1, 1) := by decide +kernel
theorem dX3_hold_204 : decode cX3_hold 204 = .ok (.iload 5, 2) := by decide +kernel
theorem dX3_hold_206 : decode cX3_hold 206 = .ok (.iconst 1, 1) := by decide +kernel
theorem dX3_hold_207 : decode cX3_hold 207 = .ok (.iadd, 1) := by decide +kernel
theorem dX3_hold_208 : decode cX3_hold 208 = .ok (.iastore, 1) := by decide +kernel
theorem dX3_hold_209 : decode cX3_hold 209 = .ok (.iconst 1, 1) := by decide +kernel
theorem dX3_hold_210 : decode cX3_hold 210 = .ok (.ireturn, 1) := by decide +kernel
set_option maxRecDepth 20000 in
theorem ggX3_thread_X3_isSpindle : GoodIn wsX3_thread wsX3_isSpindle := goodIn_r _ [5] (by decide +kernel) (by decide +kernel)
set_option maxRecDepth 20000 in
theorem gX3_thread_X3_isSpindle : GoodIn wsX3_thread (va_wsS RX3 53 yX3_isSpindle wsX3_isSpindle) := goodIn_app (goodIn_of _ (by decide +kernel)) ggX3_thread_X3_isSpindle
set_option maxRecDepth 20000 in
theorem ggX3_thread_X3_kindOf : GoodIn wsX3_thread wsX3_kindOf := goodIn_r _ [9, 1, 10, 11, 12, 13, 14, 15, 16, 17, 18, 19, 20, 21, 22, 23, 24] (by decide +kernel) (by decide +kernel)
set_option maxRecDepth 20000 in
theorem gX3_thread_X3_kindOf : GoodIn wsX3_thread (wsV RX3 46 RX3 yX3_kindOf wsX3_kindOf) := goodIn_app (goodIn_of _ (by decide +kernel)) ggX3_thread_X3_kindOf
theorem dX3_thread_0 : decode cX3_thread 0 = .ok (.iload_n 1, 1) := by decide +kernel
theorem dX3_thread_1 : decode cX3_thread 1 = .ok (.invokestatic 53, 3) := by decide +kernel
theorem dX3_thread_4 : decode cX3_thread 4 = .ok (.ifCond .eq 10, 3) := by decide +kernel
theorem dX3_thread_7 : decode cX3_thread 7 = .ok (.iload_n 2, 1) := by decide +kernel
theorem dX3_thread_8 : decode cX3_thread 8 = .ok (.invokestatic 53, 3) := by decide +kernel
theorem dX3_thread_11 : decode cX3_thread 11 = .ok (.ifCond .ne 6, 3) := by decide +kernel
theorem dX3_thread_14 : decode cX3_thread 14 = .ok (.bipush (-9), 2) := by decide +kernel
theorem dX3_thread_16 : decode cX3_thread 16 = .ok (.ireturn, 1) := by decide +kernel
theorem dX3_thread_17 : decode cX3_thread 17 = .ok (.aload_n 0, 1) := by decide +kernel
theorem dX3_thread_18 : decode cX3_thread 18 = .ok (.getfield 7, 3) := by decide +kernel
theorem dX3_thread_21 : decode cX3_thread 21 = .ok (.iload_n 1, 1) := by decide +kernel
theorem dX3_thread_22 : decode cX3_thread 22 = .ok (.aload_n 0, 1) := by decide +kernel
theorem dX3_thread_23 : decode cX3_thread 23 = .ok (.getfield 7, 3) := by decide +kernel
theorem dX3_thread_26 : decode cX3_thread 26 = .ok (.iload_n 2, 1) := by decide +kernel
theorem dX3_thread_27 : decode cX3_thread 27 = .ok (.iaload, 1) := by decide +kernel
theorem dX3_thread_28 : decode cX3_thread 28 = .ok (.iastore, 1) := by decide +kernel
theorem dX3_thread_29 : decode cX3_thread 29 = .ok (.aload_n 0, 1) := by decide +kernel
theorem dX3_thread_30 : decode cX3_thread 30 = .ok (.iload_n 1, 1) := by decide +kernel
theorem dX3_thread_31 : decode cX3_thread 31 = .ok (.invokevirtual 46, 3) := by decide +kernel
theorem dX3_thread_34 : decode cX3_thread 34 = .ok (.ireturn, 1) := by decide +kernel
set_option maxRecDepth 20000 in
theorem ggX3_put_X3_isSpindle : GoodIn wsX3_put wsX3_isSpindle := goodIn_r _ [10] (by decide +kernel) (by decide +kernel)
set_option maxRecDepth 20000 in
theorem gX3_put_X3_isSpindle : GoodIn wsX3_put (va_wsS RX3 53 yX3_isSpindle wsX3_isSpindle) := goodIn_app (goodIn_of _ (by decide +kernel)) ggX3_put_X3_isSpindle
set_option maxRecDepth 20000 in
theorem ggX3_put_X3_kindOf : GoodIn wsX3_put wsX3_kindOf := goodIn_r _ [14, 2, 15, 29, 30, 31, 32, 33, 34, 35, 36, 37, 38, 39, 40, 41, 42] (by decide +kernel) (by decide +kernel)
set_option maxRecDepth 20000 in
theorem gX3_put_X3_kindOf : GoodIn wsX3_put (wsV RX3 46 RX3 yX3_kindOf wsX3_kindOf) := goodIn_app (goodIn_of _ (by decide +kernel)) ggX3_put_X3_kindOf
set_option maxRecDepth 20000 in
theorem ggX3_put_X3_isPlace : GoodIn wsX3_put wsX3_isPlace := goodIn_r _ [19, 20, 21, 22, 9, 23, 24, 2, 25, 26, 27, 28, 29, 30, 31, 32, 33, 34, 35, 36, 37, 38, 39, 40, 41, 42] (by decide +kernel) (by decide +kernel)
set_option maxRecDepth 20000 in
theorem gX3_put_X3_isPlace : GoodIn wsX3_put (wsV RX3 65 RX3 yX3_isPlace wsX3_isPlace) := goodIn_app (goodIn_of _ (by decide +kernel)) ggX3_put_X3_isPlace
theorem dX3_put_0 : decode cX3_put 0 = .ok (.iload_n 1, 1) := by decide +kernel
theorem dX3_put_1 : decode cX3_put 1 = .ok (.invokestatic 53, 3) := by decide +kernel
theorem dX3_put_4 : decode cX3_put 4 = .ok (.ifCond .ne 6, 3) := by decide +kernel
theorem dX3_put_7 : decode cX3_put 7 = .ok (.bipush (-9), 2) := by decide +kernel
theorem dX3_put_9 : decode cX3_put 9 = .ok (.ireturn, 1) := by decide +kernel
theorem dX3_put_10 : decode cX3_put 10 = .ok (.aload_n 0, 1) := by decide +kernel
theorem dX3_put_11 : decode cX3_put 11 = .ok (.iload_n 1, 1) := by decide +kernel
theorem dX3_put_12 : decode cX3_put 12 = .ok (.invokevirtual 46, 3) := by decide +kernel
theorem dX3_put_15 : decode cX3_put 15 = .ok (.istore 5, 2) := by decide +kernel
theorem dX3_put_17 : decode cX3_put 17 = .ok (.iload 5, 2) := by decide +kernel
theorem dX3_put_19 : decode cX3_put 19 = .ok (.ifCond .ne 5, 3) := by decide +kernel
theorem dX3_put_22 : decode cX3_put 22 = .ok (.iconst (-1), 1) := by decide +kernel
theorem dX3_put_23 : decode cX3_put 23 = .ok (.ireturn, 1) := by decide +kernel
theorem dX3_put_24 : decode cX3_put 24 = .ok (.iload 5, 2) := by decide +kernel
theorem dX3_put_26 : decode cX3_put 26 = .ok (.iconst 1, 1) := by decide +kernel
theorem dX3_put_27 : decode cX3_put 27 = .ok (.if_icmp .ne 20, 3) := by decide +kernel
theorem dX3_put_30 : decode cX3_put 30 = .ok (.aload_n 0, 1) := by decide +kernel
theorem dX3_put_31 : decode cX3_put 31 = .ok (.getfield 13, 3) := by decide +kernel
theorem dX3_put_34 : decode cX3_put 34 = .ok (.iconst (-1), 1) := by decide +kernel
theorem dX3_put_35 : decode cX3_put 35 = .ok (.aload_n 0, 1) := by decide +kernel
theorem dX3_put_36 : decode cX3_put 36 = .ok (.getfield 7, 3) := by decide +kernel
theorem dX3_put_39 : decode cX3_put 39 = .ok (.iload_n 1, 1) := by decide +kernel
theorem dX3_put_40 : decode cX3_put 40 = .ok (.iaload, 1) := by decide +kernel
theorem dX3_put_41 : decode cX3_put 41 = .ok (.isub, 1) := by decide +kernel
theorem dX3_put_42 : decode cX3_put 42 = .ok (.lload_n 3, 1) := by decide +kernel
theorem dX3_put_43 : decode cX3_put 43 = .ok (.l2i, 1) := by decide +kernel
theorem dX3_put_44 : decode cX3_put 44 = .ok (.iastore, 1) := by decide +kernel
theorem dX3_put_45 : decode cX3_put 45 = .ok (.iconst 1, 1) := by decide +kernel
theorem dX3_put_46 : decode cX3_put 46 = .ok (.ireturn, 1) := by decide +kernel
theorem dX3_put_47 : decode cX3_put 47 = .ok (.iload 5, 2) := by decide +kernel
theorem dX3_put_49 : decode cX3_put 49 = .ok (.iconst 4, 1) := by decide +kernel
theorem dX3_put_50 : decode cX3_put 50 = .ok (.if_icmp .lt 13, 3) := by decide +kernel
theorem dX3_put_53 : decode cX3_put 53 = .ok (.lload_n 3, 1) := by decide +kernel
theorem dX3_put_54 : decode cX3_put 54 = .ok (.lconst 0, 1) := by decide +kernel
theorem dX3_put_55 : decode cX3_put 55 = .ok (.lcmp, 1) := by decide +kernel
theorem dX3_put_56 : decode cX3_put 56 = .ok (.ifCond .eq 7, 3) := by decide +kernel
theorem dX3_put_59 : decode cX3_put 59 = .ok (.iconst 1, 1) := by decide +kernel
theorem dX3_put_60 : decode cX3_put 60 = .ok (.goto 4, 3) := by decide +kernel
theorem dX3_put_63 : decode cX3_put 63 = .ok (.iconst 0, 1) := by decide +kernel
theorem dX3_put_64 : decode cX3_put 64 = .ok (.istore 6, 2) := by decide +kernel
theorem dX3_put_66 : decode cX3_put 66 = .ok (.iload 6, 2) := by decide +kernel
theorem dX3_put_68 : decode cX3_put 68 = .ok (.ifCond .eq 15, 3) := by decide +kernel
theorem dX3_put_71 : decode cX3_put 71 = .ok (.aload_n 0, 1) := by decide +kernel
theorem dX3_put_72 : decode cX3_put 72 = .ok (.getfield 62, 3) := by decide +kernel
theorem dX3_put_75 : decode cX3_put 75 = .ok (.sipush 2000, 3) := by decide +kernel
theorem dX3_put_78 : decode cX3_put 78 = .ok (.if_icmp .ne 5, 3) := by decide +kernel
theorem dX3_put_81 : decode cX3_put 81 = .ok (.iconst 0, 1) := by decide +kernel
theorem dX3_put_82 : decode cX3_put 82 = .ok (.ireturn, 1) := by decide +kernel
theorem dX3_put_83 : decode cX3_put 83 = .ok (.aload_n 0, 1) := by decide +kernel
theorem dX3_put_84 : decode cX3_put 84 = .ok (.iload_n 1, 1) := by decide +kernel
theorem dX3_put_85 : decode cX3_put 85 = .ok (.iload_n 2, 1) := by decide +kernel
theorem dX3_put_86 : decode cX3_put 86 = .ok (.invokevirtual 65, 3) := by decide +kernel
theorem dX3_put_89 : decode cX3_put 89 = .ok (.ifCond .ne 6, 3) := by decide +kernel
theorem dX3_put_92 : decode cX3_put 92 = .ok (.bipush (-3), 2) := by decide +kernel
theorem dX3_put_94 : decode cX3_put 94 = .ok (.ireturn, 1) := by decide +kernel
theorem dX3_put_95 : decode cX3_put 95 = .ok (.iload 5, 2) := by decide +kernel
theorem dX3_put_97 : decode cX3_put 97 = .ok (.iconst 5, 1) := by decide +kernel
theorem dX3_put_98 : decode cX3_put 98 = .ok (.if_icmp .ne 14, 3) := by decide +kernel
theorem dX3_put_101 : decode cX3_put 101 = .ok (.lload_n 3, 1) := by decide +kernel
theorem dX3_put_102 : decode cX3_put 102 = .ok (.lconst 1, 1) := by decide +kernel
theorem dX3_put_103 : decode cX3_put 103 = .ok (.land, 1) := by decide +kernel
theorem dX3_put_104 : decode cX3_put 104 = .ok (.lconst 1, 1) := by decide +kernel
theorem dX3_put_105 : decode cX3_put 105 = .ok (.lcmp, 1) := by decide +kernel
theorem dX3_put_106 : decode cX3_put 106 = .ok (.ifCond .ne 6, 3) := by decide +kernel
theorem dX3_put_109 : decode cX3_put 109 = .ok (.bipush (-4), 2) := by decide +kernel
theorem dX3_put_111 : decode cX3_put 111 = .ok (.ireturn, 1) := by decide +kernel
theorem dX3_put_112 : decode cX3_put 112 = .ok (.iload 5, 2) := by decide +kernel
theorem dX3_put_114 : decode cX3_put 114 = .ok (.iconst 2, 1) := by decide +kernel
theorem dX3_put_115 : decode cX3_put 115 = .ok (.if_icmp .ne 9, 3) := by decide +kernel
theorem dX3_put_118 : decode cX3_put 118 = .ok (.lload_n 3, 1) := by decide +kernel
theorem dX3_put_119 : decode cX3_put 119 = .ok (.l2i, 1) := by decide +kernel
theorem dX3_put_120 : decode cX3_put 120 = .ok (.i2l, 1) := by decide +kernel
theorem dX3_put_121 : decode cX3_put 121 = .ok (.goto 4, 3) := by decide +kernel
theorem dX3_put_124 : decode cX3_put 124 = .ok (.lload_n 3, 1) := by decide +kernel
theorem dX3_put_125 : decode cX3_put 125 = .ok (.lstore 7, 2) := by decide +kernel
theorem dX3_put_127 : decode cX3_put 127 = .ok (.iload 6, 2) := by decide +kernel
theorem dX3_put_129 : decode cX3_put 129 = .ok (.ifCond .eq 40, 3) := by decide +kernel
theorem dX3_put_132 : decode cX3_put 132 = .ok (.aload_n 0, 1) := by decide +kernel
theorem dX3_put_133 : decode cX3_put 133 = .ok (.getfield 29, 3) := by decide +kernel
theorem dX3_put_136 : decode cX3_put 136 = .ok (.aload_n 0, 1) := by decide +kernel
