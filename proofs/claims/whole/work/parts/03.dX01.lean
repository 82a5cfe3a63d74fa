theorem dX0_init_0 : decode cX0_init 0 = .ok (.aload_n 0, 1) := by decide +kernel
theorem dX0_init_1 : decode cX0_init 1 = .ok (.invokespecial 1, 3) := by decide +kernel
theorem dX0_init_4 : decode cX0_init 4 = .ok (.aload_n 0, 1) := by decide +kernel
theorem dX0_init_5 : decode cX0_init 5 = .ok (.iconst 0, 1) := by decide +kernel
theorem dX0_init_6 : decode cX0_init 6 = .ok (.putfield 7, 3) := by decide +kernel
theorem dX0_init_9 : decode cX0_init 9 = .ok (.aload_n 0, 1) := by decide +kernel
theorem dX0_init_10 : decode cX0_init 10 = .ok (.lload_n 1, 1) := by decide +kernel
theorem dX0_init_11 : decode cX0_init 11 = .ok (.putfield 13, 3) := by decide +kernel
theorem dX0_init_14 : decode cX0_init 14 = .ok (.aload_n 0, 1) := by decide +kernel
theorem dX0_init_15 : decode cX0_init 15 = .ok (.lload_n 1, 1) := by decide +kernel
theorem dX0_init_16 : decode cX0_init 16 = .ok (.lconst 1, 1) := by decide +kernel
theorem dX0_init_17 : decode cX0_init 17 = .ok (.land, 1) := by decide +kernel
theorem dX0_init_18 : decode cX0_init 18 = .ok (.lconst 0, 1) := by decide +kernel
theorem dX0_init_19 : decode cX0_init 19 = .ok (.lcmp, 1) := by decide +kernel
theorem dX0_init_20 : decode cX0_init 20 = .ok (.ifCond .ne 7, 3) := by decide +kernel
theorem dX0_init_23 : decode cX0_init 23 = .ok (.iconst 1, 1) := by decide +kernel
theorem dX0_init_24 : decode cX0_init 24 = .ok (.goto 4, 3) := by decide +kernel
theorem dX0_init_27 : decode cX0_init 27 = .ok (.iconst 0, 1) := by decide +kernel
theorem dX0_init_28 : decode cX0_init 28 = .ok (.putfield 17, 3) := by decide +kernel
theorem dX0_init_31 : decode cX0_init 31 = .ok (.return_, 1) := by decide +kernel
set_option maxRecDepth 20000 in
theorem ggX1_init_X1_isStrip : GoodIn wsX1_init wsX1_isStrip := goodIn_r _ [15, 4, 20, 21, 22, 23, 24] (by decide +kernel) (by decide +kernel)
set_option maxRecDepth 20000 in
theorem gX1_init_X1_isStrip : GoodIn wsX1_init (wsV RX1 21 RX1 yX1_isStrip wsX1_isStrip) := goodIn_app (goodIn_of _ (by decide +kernel)) ggX1_init_X1_isStrip
set_option maxRecDepth 20000 in
theorem ggX1_init_X1_isRack : GoodIn wsX1_init wsX1_isRack := goodIn_r _ [19, 4, 20, 21, 22, 23, 24] (by decide +kernel) (by decide +kernel)
set_option maxRecDepth 20000 in
theorem gX1_init_X1_isRack : GoodIn wsX1_init (wsV RX1 29 RX1 yX1_isRack wsX1_isRack) := goodIn_app (goodIn_of _ (by decide +kernel)) ggX1_init_X1_isRack
theorem dX1_init_0 : decode cX1_init 0 = .ok (.aload_n 0, 1) := by decide +kernel
theorem dX1_init_1 : decode cX1_init 1 = .ok (.invokespecial 3, 3) := by decide +kernel
theorem dX1_init_4 : decode cX1_init 4 = .ok (.aload_n 0, 1) := by decide +kernel
theorem dX1_init_5 : decode cX1_init 5 = .ok (.iload_n 1, 1) := by decide +kernel
theorem dX1_init_6 : decode cX1_init 6 = .ok (.putfield 9, 3) := by decide +kernel
theorem dX1_init_9 : decode cX1_init 9 = .ok (.aload_n 0, 1) := by decide +kernel
theorem dX1_init_10 : decode cX1_init 10 = .ok (.iload_n 2, 1) := by decide +kernel
theorem dX1_init_11 : decode cX1_init 11 = .ok (.putfield 15, 3) := by decide +kernel
theorem dX1_init_14 : decode cX1_init 14 = .ok (.aload_n 0, 1) := by decide +kernel
theorem dX1_init_15 : decode cX1_init 15 = .ok (.iload_n 3, 1) := by decide +kernel
theorem dX1_init_16 : decode cX1_init 16 = .ok (.putfield 18, 3) := by decide +kernel
theorem dX1_init_19 : decode cX1_init 19 = .ok (.aload_n 0, 1) := by decide +kernel
theorem dX1_init_20 : decode cX1_init 20 = .ok (.aload_n 0, 1) := by decide +kernel
theorem dX1_init_21 : decode cX1_init 21 = .ok (.invokevirtual 21, 3) := by decide +kernel
theorem dX1_init_24 : decode cX1_init 24 = .ok (.ifCond .eq 7, 3) := by decide +kernel
theorem dX1_init_27 : decode cX1_init 27 = .ok (.iload_n 2, 1) := by decide +kernel
theorem dX1_init_28 : decode cX1_init 28 = .ok (.goto 4, 3) := by decide +kernel
theorem dX1_init_31 : decode cX1_init 31 = .ok (.iconst 0, 1) := by decide +kernel
theorem dX1_init_32 : decode cX1_init 32 = .ok (.newarray .long, 2) := by decide +kernel
theorem dX1_init_34 : decode cX1_init 34 = .ok (.putfield 25, 3) := by decide +kernel
theorem dX1_init_37 : decode cX1_init 37 = .ok (.aload_n 0, 1) := by decide +kernel
theorem dX1_init_38 : decode cX1_init 38 = .ok (.aload_n 0, 1) := by decide +kernel
theorem dX1_init_39 : decode cX1_init 39 = .ok (.invokevirtual 29, 3) := by decide +kernel
theorem dX1_init_42 : decode cX1_init 42 = .ok (.ifCond .eq 7, 3) := by decide +kernel
theorem dX1_init_45 : decode cX1_init 45 = .ok (.iload_n 2, 1) := by decide +kernel
theorem dX1_init_46 : decode cX1_init 46 = .ok (.goto 4, 3) := by decide +kernel
theorem dX1_init_49 : decode cX1_init 49 = .ok (.iconst 0, 1) := by decide +kernel
theorem dX1_init_50 : decode cX1_init 50 = .ok (.anewarray 32, 3) := by decide +kernel
theorem dX1_init_53 : decode cX1_init 53 = .ok (.putfield 34, 3) := by decide +kernel
theorem dX1_init_56 : decode cX1_init 56 = .ok (.return_, 1) := by decide +kernel
theorem dX1_isStrip_0 : decode cX1_isStrip 0 = .ok (.aload_n 0, 1) := by decide +kernel
theorem dX1_isStrip_1 : decode cX1_isStrip 1 = .ok (.getfield 9, 3) := by decide +kernel
theorem dX1_isStrip_4 : decode cX1_isStrip 4 = .ok (.iconst 2, 1) := by decide +kernel
theorem dX1_isStrip_5 : decode cX1_isStrip 5 = .ok (.if_icmp .eq 11, 3) := by decide +kernel
theorem dX1_isStrip_8 : decode cX1_isStrip 8 = .ok (.aload_n 0, 1) := by decide +kernel
theorem dX1_isStrip_9 : decode cX1_isStrip 9 = .ok (.getfield 9, 3) := by decide +kernel
theorem dX1_isStrip_12 : decode cX1_isStrip 12 = .ok (.iconst 3, 1) := by decide +kernel
theorem dX1_isStrip_13 : decode cX1_isStrip 13 = .ok (.if_icmp .ne 7, 3) := by decide +kernel
theorem dX1_isStrip_16 : decode cX1_isStrip 16 = .ok (.iconst 1, 1) := by decide +kernel
theorem dX1_isStrip_17 : decode cX1_isStrip 17 = .ok (.goto 4, 3) := by decide +kernel
theorem dX1_isStrip_20 : decode cX1_isStrip 20 = .ok (.iconst 0, 1) := by decide +kernel
theorem dX1_isStrip_21 : decode cX1_isStrip 21 = .ok (.ireturn, 1) := by decide +kernel
theorem dX1_isRack_0 : decode cX1_isRack 0 = .ok (.aload_n 0, 1) := by decide +kernel
theorem dX1_isRack_1 : decode cX1_isRack 1 = .ok (.getfield 9, 3) := by decide +kernel
theorem dX1_isRack_4 : decode cX1_isRack 4 = .ok (.iconst 4, 1) := by decide +kernel
theorem dX1_isRack_5 : decode cX1_isRack 5 = .ok (.if_icmp .eq 11, 3) := by decide +kernel
theorem dX1_isRack_8 : decode cX1_isRack 8 = .ok (.aload_n 0, 1) := by decide +kernel
theorem dX1_isRack_9 : decode cX1_isRack 9 = .ok (.getfield 9, 3) := by decide +kernel
theorem dX1_isRack_12 : decode cX1_isRack 12 = .ok (.iconst 5, 1) := by decide +kernel
theorem dX1_isRack_13 : decode cX1_isRack 13 = .ok (.if_icmp .ne 7, 3) := by decide +kernel
theorem dX1_isRack_16 : decode cX1_isRack 16 = .ok (.iconst 1, 1) := by decide +kernel
theorem dX1_isRack_17 : decode cX1_isRack 17 = .ok (.goto 4, 3) := by decide +kernel
theorem dX1_isRack_20 : decode cX1_isRack 20 = .ok (.iconst 0, 1) := by decide +kernel
theorem dX1_isRack_21 : decode cX1_isRack 21 = .ok (.ireturn, 1) := by decide +kernel
set_option maxRecDepth 20000 in
theorem ggX1_isLike_X1_isRack : GoodIn wsX1_isLike wsX1_isRack := goodIn_r _ [6, 1, 11, 12, 13, 14, 15] (by decide +kernel) (by decide +kernel)
set_option maxRecDepth 20000 in
theorem gX1_isLike_X1_isRack : GoodIn wsX1_isLike (wsV RX1 29 RX1 yX1_isRack wsX1_isRack) := goodIn_app (goodIn_of _ (by decide +kernel)) ggX1_isLike_X1_isRack
set_option maxRecDepth 20000 in
theorem ggX1_isLike_X1_isStrip : GoodIn wsX1_isLike wsX1_isStrip := goodIn_r _ [10, 1, 11, 12, 13, 14, 15] (by decide +kernel) (by decide +kernel)
set_option maxRecDepth 20000 in
theorem gX1_isLike_X1_isStrip : GoodIn wsX1_isLike (wsV RX1 21 RX1 yX1_isStrip wsX1_isStrip) := goodIn_app (goodIn_of _ (by decide +kernel)) ggX1_isLike_X1_isStrip
theorem dX1_isLike_0 : decode cX1_isLike 0 = .ok (.aload_n 0, 1) := by decide +kernel
theorem dX1_isLike_1 : decode cX1_isLike 1 = .ok (.invokevirtual 29, 3) := by decide +kernel
theorem dX1_isLike_4 : decode cX1_isLike 4 = .ok (.ifCond .eq 10, 3) := by decide +kernel
theorem dX1_isLike_7 : decode cX1_isLike 7 = .ok (.aload_n 1, 1) := by decide +kernel
theorem dX1_isLike_8 : decode cX1_isLike 8 = .ok (.invokevirtual 29, 3) := by decide +kernel
theorem dX1_isLike_11 : decode cX1_isLike 11 = .ok (.goto 26, 3) := by decide +kernel
theorem dX1_isLike_14 : decode cX1_isLike 14 = .ok (.aload_n 0, 1) := by decide +kernel
theorem dX1_isLike_15 : decode cX1_isLike 15 = .ok (.invokevirtual 21, 3) := by decide +kernel
theorem dX1_isLike_18 : decode cX1_isLike 18 = .ok (.ifCond .eq 18, 3) := by decide +kernel
theorem dX1_isLike_21 : decode cX1_isLike 21 = .ok (.aload_n 0, 1) := by decide +kernel
theorem dX1_isLike_22 : decode cX1_isLike 22 = .ok (.getfield 9, 3) := by decide +kernel
theorem dX1_isLike_25 : decode cX1_isLike 25 = .ok (.aload_n 1, 1) := by decide +kernel
theorem dX1_isLike_26 : decode cX1_isLike 26 = .ok (.getfield 9, 3) := by decide +kernel
theorem dX1_isLike_29 : decode cX1_isLike 29 = .ok (.if_icmp .ne 7, 3) := by decide +kernel
theorem dX1_isLike_32 : decode cX1_isLike 32 = .ok (.iconst 1, 1) := by decide +kernel
theorem dX1_isLike_33 : decode cX1_isLike 33 = .ok (.goto 4, 3) := by decide +kernel
theorem dX1_isLike_36 : decode cX1_isLike 36 = .ok (.iconst 0, 1) := by decide +kernel
theorem dX1_isLike_37 : decode cX1_isLike 37 = .ok (.ireturn, 1) := by decide +kernel
theorem dX1_hasPlace_0 : decode cX1_hasPlace 0 = .ok (.iload_n 1, 1) := by decide +kernel
theorem dX1_hasPlace_1 : decode cX1_hasPlace 1 = .ok (.ifCond .lt 15, 3) := by decide +kernel
theorem dX1_hasPlace_4 : decode cX1_hasPlace 4 = .ok (.iload_n 1, 1) := by decide +kernel
theorem dX1_hasPlace_5 : decode cX1_hasPlace 5 = .ok (.aload_n 0, 1) := by decide +kernel
theorem dX1_hasPlace_6 : decode cX1_hasPlace 6 = .ok (.getfield 15, 3) := by decide +kernel
theorem dX1_hasPlace_9 : decode cX1_hasPlace 9 = .ok (.if_icmp .ge 7, 3) := by decide +kernel
theorem dX1_hasPlace_12 : decode cX1_hasPlace 12 = .ok (.iconst 1, 1) := by decide +kernel
theorem dX1_hasPlace_13 : decode cX1_hasPlace 13 = .ok (.goto 4, 3) := by decide +kernel
theorem dX1_hasPlace_16 : decode cX1_hasPlace 16 = .ok (.iconst 0, 1) := by decide +kernel
theorem dX1_hasPlace_17 : decode cX1_hasPlace 17 = .ok (.ireturn, 1) := by decide +kernel
theorem dX1_hasPlaces_0 : decode cX1_hasPlaces 0 = .ok (.iload_n 1, 1) := by decide +kernel
theorem dX1_hasPlaces_1 : decode cX1_hasPlaces 1 = .ok (.ifCond .lt 21, 3) := by decide +kernel
theorem dX1_hasPlaces_4 : decode cX1_hasPlaces 4 = .ok (.iload_n 2, 1) := by decide +kernel
theorem dX1_hasPlaces_5 : decode cX1_hasPlaces 5 = .ok (.ifCond .lt 17, 3) := by decide +kernel
theorem dX1_hasPlaces_8 : decode cX1_hasPlaces 8 = .ok (.iload_n 2, 1) := by decide +kernel
theorem dX1_hasPlaces_9 : decode cX1_hasPlaces 9 = .ok (.aload_n 0, 1) := by decide +kernel
theorem dX1_hasPlaces_10 : decode cX1_hasPlaces 10 = .ok (.getfield 15, 3) := by decide +kernel
theorem dX1_hasPlaces_13 : decode cX1_hasPlaces 13 = .ok (.iload_n 1, 1) := by decide +kernel
theorem dX1_hasPlaces_14 : decode cX1_hasPlaces 14 = .ok (.isub, 1) := by decide +kernel
theorem dX1_hasPlaces_15 : decode cX1_hasPlaces 15 = .ok (.if_icmp .gt 7, 3) := by decide +kernel
theorem dX1_hasPlaces_18 : decode cX1_hasPlaces 18 = .ok (.iconst 1, 1) := by decide +kernel
theorem dX1_hasPlaces_19 : decode cX1_hasPlaces 19 = .ok (.goto 4, 3) := by decide +kernel
theorem dX1_hasPlaces_22 : decode cX1_hasPlaces 22 = .ok (.iconst 0, 1) := by decide +kernel
theorem dX1_hasPlaces_23 : decode cX1_hasPlaces 23 = .ok (.ireturn, 1) := by decide +kernel
set_option maxRecDepth 20000 in
theorem ggX1_cardAt_X1_isRack : GoodIn wsX1_cardAt wsX1_isRack := goodIn_r _ [6, 7, 13, 14, 15, 16, 17] (by decide +kernel) (by decide +kernel)
set_option maxRecDepth 20000 in
theorem gX1_cardAt_X1_isRack : GoodIn wsX1_cardAt (wsV RX1 29 RX1 yX1_isRack wsX1_isRack) := goodIn_app (goodIn_of _ (by decide +kernel)) ggX1_cardAt_X1_isRack
set_option maxRecDepth 20000 in
theorem ggX1_cardAt_X1_hasPlace : GoodIn wsX1_cardAt wsX1_hasPlace := goodIn_r _ [11, 12, 13, 14, 15, 16, 17] (by decide +kernel) (by decide +kernel)
set_option maxRecDepth 20000 in
theorem gX1_cardAt_X1_hasPlace : GoodIn wsX1_cardAt (wsV RX1 38 RX1 yX1_hasPlace wsX1_hasPlace) := goodIn_app (goodIn_of _ (by decide +kernel)) ggX1_cardAt_X1_hasPlace
theorem dX1_cardAt_0 : decode cX1_cardAt 0 = .ok (.aload_n 0, 1) := by decide +kernel
theorem dX1_cardAt_1 : decode cX1_cardAt 1 = .ok (.invokevirtual 29, 3) := by decide +kernel
theorem dX1_cardAt_4 : decode cX1_cardAt 4 = .ok (.ifCond .eq 20, 3) := by decide +kernel
theorem dX1_cardAt_7 : decode cX1_cardAt 7 = .ok (.aload_n 0, 1) := by decide +kernel
theorem dX1_cardAt_8 : decode cX1_cardAt 8 = .ok (.iload_n 1, 1) := by decide +kernel
theorem dX1_cardAt_9 : decode cX1_cardAt 9 = .ok (.invokevirtual 38, 3) := by decide +kernel
theorem dX1_cardAt_12 : decode cX1_cardAt 12 = .ok (.ifCond .eq 12, 3) := by decide +kernel
theorem dX1_cardAt_15 : decode cX1_cardAt 15 = .ok (.aload_n 0, 1) := by decide +kernel
theorem dX1_cardAt_16 : decode cX1_cardAt 16 = .ok (.getfield 34, 3) := by decide +kernel
theorem dX1_cardAt_19 : decode cX1_cardAt 19 = .ok (.iload_n 1, 1) := by decide +kernel
theorem dX1_cardAt_20 : decode cX1_cardAt 20 = .ok (.aaload, 1) := by decide +kernel
theorem dX1_cardAt_21 : decode cX1_cardAt 21 = .ok (.goto 4, 3) := by decide +kernel
theorem dX1_cardAt_24 : decode cX1_cardAt 24 = .ok (.aconst_null, 1) := by decide +kernel
theorem dX1_cardAt_25 : decode cX1_cardAt 25 = .ok (.areturn, 1) := by decide +kernel
theorem dX1_admits_0 : decode cX1_admits 0 = .ok (.aload_n 0, 1) := by decide +kernel
theorem dX1_admits_1 : decode cX1_admits 1 = .ok (.getfield 9, 3) := by decide +kernel
theorem dX1_admits_4 : decode cX1_admits 4 = .ok (.iconst 5, 1) := by decide +kernel
theorem dX1_admits_5 : decode cX1_admits 5 = .ok (.if_icmp .ne 14, 3) := by decide +kernel
theorem dX1_admits_8 : decode cX1_admits 8 = .ok (.aload_n 1, 1) := by decide +kernel
theorem dX1_admits_9 : decode cX1_admits 9 = .ok (.ifnull 10, 3) := by decide +kernel
theorem dX1_admits_12 : decode cX1_admits 12 = .ok (.aload_n 1, 1) := by decide +kernel
theorem dX1_admits_13 : decode cX1_admits 13 = .ok (.getfield 42, 3) := by decide +kernel
theorem dX1_admits_16 : decode cX1_admits 16 = .ok (.ifCond .eq 7, 3) := by decide +kernel
theorem dX1_admits_19 : decode cX1_admits 19 = .ok (.iconst 1, 1) := by decide +kernel
theorem dX1_admits_20 : decode cX1_admits 20 = .ok (.goto 4, 3) := by decide +kernel
theorem dX1_admits_23 : decode cX1_admits 23 = .ok (.iconst 0, 1) := by decide +kernel
theorem dX1_admits_24 : decode cX1_admits 24 = .ok (.ireturn, 1) := by decide +kernel
set_option maxRecDepth 20000 in
theorem ggX1_countAdmitted_X1_cardAt : GoodIn wsX1_countAdmitted wsX1_cardAt := goodIn_r _ [5, 6, 7, 8, 9, 4, 10, 11, 12, 13, 14, 15, 16, 22, 23, 24, 25, 26] (by decide +kernel) (by decide +kernel)
set_option maxRecDepth 20000 in
theorem gX1_countAdmitted_X1_cardAt : GoodIn wsX1_countAdmitted (wsV RX1 46 RX1 yX1_cardAt wsX1_cardAt) := goodIn_app (goodIn_of _ (by decide +kernel)) ggX1_countAdmitted_X1_cardAt
set_option maxRecDepth 20000 in
theorem ggX1_countAdmitted_X1_admits : GoodIn wsX1_countAdmitted wsX1_admits := goodIn_r _ [20, 11, 21, 22, 23, 24, 25, 26, 27, 28, 29] (by decide +kernel) (by decide +kernel)
set_option maxRecDepth 20000 in
theorem gX1_countAdmitted_X1_admits : GoodIn wsX1_countAdmitted (wsV RX1 50 RX1 yX1_admits wsX1_admits) := goodIn_app (goodIn_of _ (by decide +kernel)) ggX1_countAdmitted_X1_admits
theorem dX1_countAdmitted_0 : decode cX1_countAdmitted 0 = .ok (.iconst 0, 1) := by decide +kernel
theorem dX1_countAdmitted_1 : decode cX1_countAdmitted 1 = .ok (.istore 4, 2) := by decide +kernel
theorem dX1_countAdmitted_3 : decode cX1_countAdmitted 3 = .ok (.iload 4, 2) := by decide +kernel
theorem dX1_countAdmitted_5 : decode cX1_countAdmitted 5 = .ok (.iload_n 3, 1) := by decide +kernel
theorem dX1_countAdmitted_6 : decode cX1_countAdmitted 6 = .ok (.if_icmp .ge 27, 3) := by decide +kernel
theorem dX1_countAdmitted_9 : decode cX1_countAdmitted 9 = .ok (.aload_n 0, 1) := by decide +kernel
theorem dX1_countAdmitted_10 : decode cX1_countAdmitted 10 = .ok (.aload_n 1, 1) := by decide +kernel
theorem dX1_countAdmitted_11 : decode cX1_countAdmitted 11 = .ok (.iload_n 2, 1) := by decide +kernel
theorem dX1_countAdmitted_12 : decode cX1_countAdmitted 12 = .ok (.iload 4, 2) := by decide +kernel
theorem dX1_countAdmitted_14 : decode cX1_countAdmitted 14 = .ok (.iadd, 1) := by decide +kernel
theorem dX1_countAdmitted_15 : decode cX1_countAdmitted 15 = .ok (.invokevirtual 46, 3) := by decide +kernel
theorem dX1_countAdmitted_18 : decode cX1_countAdmitted 18 = .ok (.invokevirtual 50, 3) := by decide +kernel
theorem dX1_countAdmitted_21 : decode cX1_countAdmitted 21 = .ok (.ifCond .ne 6, 3) := by decide +kernel
theorem dX1_countAdmitted_24 : decode cX1_countAdmitted 24 = .ok (.iload 4, 2) := by decide +kernel
theorem dX1_countAdmitted_26 : decode cX1_countAdmitted 26 = .ok (.ireturn, 1) := by decide +kernel
theorem dX1_countAdmitted_27 : decode cX1_countAdmitted 27 = .ok (.iinc 4 1, 3) := by decide +kernel
theorem dX1_countAdmitted_30 : decode cX1_countAdmitted 30 = .ok (.goto (-27), 3) := by decide +kernel
theorem dX1_countAdmitted_33 : decode cX1_countAdmitted 33 = .ok (.iload_n 3, 1) := by decide +kernel
theorem dX1_countAdmitted_34 : decode cX1_countAdmitted 34 = .ok (.ireturn, 1) := by decide +kernel
set_option maxRecDepth 20000 in
theorem ggX1_copyFrom_X1_hasPlaces : GoodIn wsX1_copyFrom wsX1_hasPlaces := goodIn_r _ [11, 12, 22, 23, 24, 25, 26] (by decide +kernel) (by decide +kernel)
set_option maxRecDepth 20000 in
theorem gX1_copyFrom_X1_hasPlaces : GoodIn wsX1_copyFrom (wsV RX1 54 RX1 yX1_hasPlaces wsX1_hasPlaces) := goodIn_app (goodIn_of _ (by decide +kernel)) ggX1_copyFrom_X1_hasPlaces
set_option maxRecDepth 20000 in
theorem ggX1_copyFrom_X1_isRack : GoodIn wsX1_copyFrom wsX1_isRack := goodIn_r _ [16, 17, 22, 23, 24, 25, 26] (by decide +kernel) (by decide +kernel)
set_option maxRecDepth 20000 in
theorem gX1_copyFrom_X1_isRack : GoodIn wsX1_copyFrom (wsV RX1 29 RX1 yX1_isRack wsX1_isRack) := goodIn_app (goodIn_of _ (by decide +kernel)) ggX1_copyFrom_X1_isRack
set_option maxRecDepth 20000 in
theorem ggX1_copyFrom_X1_isStrip : GoodIn wsX1_copyFrom wsX1_isStrip := goodIn_r _ [21, 17, 22, 23, 24, 25, 26] (by decide +kernel) (by decide +kernel)
set_option maxRecDepth 20000 in
theorem gX1_copyFrom_X1_isStrip : GoodIn wsX1_copyFrom (wsV RX1 21 RX1 yX1_isStrip wsX1_isStrip) := goodIn_app (goodIn_of _ (by decide +kernel)) ggX1_copyFrom_X1_isStrip
theorem dX1_copyFrom_0 : decode cX1_copyFrom 0 = .ok (.aload_n 1, 1) := by decide +kernel
theorem dX1_copyFrom_1 : decode cX1_copyFrom 1 = .ok (.iload_n 2, 1) := by decide +kernel
theorem dX1_copyFrom_2 : decode cX1_copyFrom 2 = .ok (.iload 4, 2) := by decide +kernel
theorem dX1_copyFrom_4 : decode cX1_copyFrom 4 = .ok (.invokevirtual 54, 3) := by decide +kernel
theorem dX1_copyFrom_7 : decode cX1_copyFrom 7 = .ok (.ifCond .eq 13, 3) := by decide +kernel
theorem dX1_copyFrom_10 : decode cX1_copyFrom 10 = .ok (.aload_n 0, 1) := by decide +kernel
theorem dX1_copyFrom_11 : decode cX1_copyFrom 11 = .ok (.iload_n 3, 1) := by decide +kernel
theorem dX1_copyFrom_12 : decode cX1_copyFrom 12 = .ok (.iload 4, 2) := by decide +kernel
theorem dX1_copyFrom_14 : decode cX1_copyFrom 14 = .ok (.invokevirtual 54, 3) := by decide +kernel
theorem dX1_copyFrom_17 : decode cX1_copyFrom 17 = .ok (.ifCond .ne 4, 3) := by decide +kernel
theorem dX1_copyFrom_20 : decode cX1_copyFrom 20 = .ok (.return_, 1) := by decide +kernel
theorem dX1_copyFrom_21 : decode cX1_copyFrom 21 = .ok (.aload_n 0, 1) := by decide +kernel
theorem dX1_copyFrom_22 : decode cX1_copyFrom 22 = .ok (.invokevirtual 29, 3) := by decide +kernel
theorem dX1_copyFrom_25 : decode cX1_copyFrom 25 = .ok (.ifCond .eq 28, 3) := by decide +kernel
theorem dX1_copyFrom_28 : decode cX1_copyFrom 28 = .ok (.aload_n 1, 1) := by decide +kernel
theorem dX1_copyFrom_29 : decode cX1_copyFrom 29 = .ok (.invokevirtual 29, 3) := by decide +kernel
theorem dX1_copyFrom_32 : decode cX1_copyFrom 32 = .ok (.ifCond .eq 21, 3) := by decide +kernel
theorem dX1_copyFrom_35 : decode cX1_copyFrom 35 = .ok (.aload_n 1, 1) := by decide +kernel
theorem dX1_copyFrom_36 : decode cX1_copyFrom 36 = .ok (.getfield 34, 3) := by decide +kernel
theorem dX1_copyFrom_39 : decode cX1_copyFrom 39 = .ok (.iload_n 2, 1) := by decide +kernel
theorem dX1_copyFrom_40 : decode cX1_copyFrom 40 = .ok (.aload_n 0, 1) := by decide +kernel
theorem dX1_copyFrom_41 : decode cX1_copyFrom 41 = .ok (.getfield 34, 3) := by decide +kernel
theorem dX1_copyFrom_44 : decode cX1_copyFrom 44 = .ok (.iload_n 3, 1) := by decide +kernel
theorem dX1_copyFrom_45 : decode cX1_copyFrom 45 = .ok (.iload 4, 2) := by decide +kernel
theorem dX1_copyFrom_47 : decode cX1_copyFrom 47 = .ok (.invokestatic 58, 3) := by decide +kernel
theorem dX1_copyFrom_50 : decode cX1_copyFrom 50 = .ok (.goto 32, 3) := by decide +kernel
theorem dX1_copyFrom_53 : decode cX1_copyFrom 53 = .ok (.aload_n 0, 1) := by decide +kernel
theorem dX1_copyFrom_54 : decode cX1_copyFrom 54 = .ok (.invokevirtual 21, 3) := by decide +kernel
theorem dX1_copyFrom_57 : decode cX1_copyFrom 57 = .ok (.ifCond .eq 25, 3) := by decide +kernel
theorem dX1_copyFrom_60 : decode cX1_copyFrom 60 = .ok (.aload_n 1, 1) := by decide +kernel
theorem dX1_copyFrom_61 : decode cX1_copyFrom 61 = .ok (.invokevirtual 21, 3) := by decide +kernel
theorem dX1_copyFrom_64 : decode cX1_copyFrom 64 = .ok (.ifCond .eq 18, 3) := by decide +kernel
theorem dX1_copyFrom_67 : decode cX1_copyFrom 67 = .ok (.aload_n 1, 1) := by decide +kernel
theorem dX1_copyFrom_68 : decode cX1_copyFrom 68 = .ok (.getfield 25, 3) := by decide +kernel
theorem dX1_copyFrom_71 : decode cX1_copyFrom 71 = .ok (.iload_n 2, 1) := by decide +kernel
theorem dX1_copyFrom_72 : decode cX1_copyFrom 72 = .ok (.aload_n 0, 1) := by decide +kernel
theorem dX1_copyFrom_73 : decode cX1_copyFrom 73 = .ok (.getfield 25, 3) := by decide +kernel
theorem dX1_copyFrom_76 : decode cX1_copyFrom 76 = .ok (.iload_n 3, 1) := by decide +kernel
theorem dX1_copyFrom_77 : decode cX1_copyFrom 77 = .ok (.iload 4, 2) := by decide +kernel
theorem dX1_copyFrom_79 : decode cX1_copyFrom 79 = .ok (.invokestatic 58, 3) := by decide +kernel
theorem dX1_copyFrom_82 : decode cX1_copyFrom 82 = .ok (.return_, 1) := by decide +kernel
set_option maxRecDepth 20000 in
theorem ggX1_makeBlank_X1_hasPlaces : GoodIn wsX1_makeBlank wsX1_hasPlaces := goodIn_r _ [7, 8, 18, 19, 20, 21, 22] (by decide +kernel) (by decide +kernel)
set_option maxRecDepth 20000 in
theorem gX1_makeBlank_X1_hasPlaces : GoodIn wsX1_makeBlank (wsV RX1 54 RX1 yX1_hasPlaces wsX1_hasPlaces) := goodIn_app (goodIn_of _ (by decide +kernel)) ggX1_makeBlank_X1_hasPlaces
set_option maxRecDepth 20000 in
theorem ggX1_makeBlank_X1_isRack : GoodIn wsX1_makeBlank wsX1_isRack := goodIn_r _ [12, 13, 18, 19, 20, 21, 22] (by decide +kernel) (by decide +kernel)
set_option maxRecDepth 20000 in
theorem gX1_makeBlank_X1_isRack : GoodIn wsX1_makeBlank (wsV RX1 29 RX1 yX1_isRack wsX1_isRack) := goodIn_app (goodIn_of _ (by decide +kernel)) ggX1_makeBlank_X1_isRack
set_option maxRecDepth 20000 in
theorem ggX1_makeBlank_X1_isStrip : GoodIn wsX1_makeBlank wsX1_isStrip := goodIn_r _ [17, 13, 18, 19, 20, 21, 22] (by decide +kernel) (by decide +kernel)
set_option maxRecDepth 20000 in
theorem gX1_makeBlank_X1_isStrip : GoodIn wsX1_makeBlank (wsV RX1 21 RX1 yX1_isStrip wsX1_isStrip) := goodIn_app (goodIn_of _ (by decide +kernel)) ggX1_makeBlank_X1_isStrip
theorem dX1_makeBlank_0 : decode cX1_makeBlank 0 = .ok (.aload_n 0, 1) := by decide +kernel
theorem dX1_makeBlank_1 : decode cX1_makeBlank 1 = .ok (.iload_n 1, 1) := by decide +kernel
theorem dX1_makeBlank_2 : decode cX1_makeBlank 2 = .ok (.iload_n 2, 1) := by decide +kernel
theorem dX1_makeBlank_3 : decode cX1_makeBlank 3 = .ok (.invokevirtual 54, 3) := by decide +kernel
theorem dX1_makeBlank_6 : decode cX1_makeBlank 6 = .ok (.ifCond .ne 4, 3) := by decide +kernel
theorem dX1_makeBlank_9 : decode cX1_makeBlank 9 = .ok (.return_, 1) := by decide +kernel
theorem dX1_makeBlank_10 : decode cX1_makeBlank 10 = .ok (.iload_n 1, 1) := by decide +kernel
theorem dX1_makeBlank_11 : decode cX1_makeBlank 11 = .ok (.istore_n 3, 1) := by decide +kernel
theorem dX1_makeBlank_12 : decode cX1_makeBlank 12 = .ok (.iload_n 3, 1) := by decide +kernel
theorem dX1_makeBlank_13 : decode cX1_makeBlank 13 = .ok (.iload_n 1, 1) := by decide +kernel
theorem dX1_makeBlank_14 : decode cX1_makeBlank 14 = .ok (.iload_n 2, 1) := by decide +kernel
theorem dX1_makeBlank_15 : decode cX1_makeBlank 15 = .ok (.iadd, 1) := by decide +kernel
theorem dX1_makeBlank_16 : decode cX1_makeBlank 16 = .ok (.if_icmp .ge 40, 3) := by decide +kernel
theorem dX1_makeBlank_19 : decode cX1_makeBlank 19 = .ok (.aload_n 0, 1) := by decide +kernel
theorem dX1_makeBlank_20 : decode cX1_makeBlank 20 = .ok (.invokevirtual 29, 3) := by decide +kernel
theorem dX1_makeBlank_23 : decode cX1_makeBlank 23 = .ok (.ifCond .eq 13, 3) := by decide +kernel
theorem dX1_makeBlank_26 : decode cX1_makeBlank 26 = .ok (.aload_n 0, 1) := by decide +kernel
theorem dX1_makeBlank_27 : decode cX1_makeBlank 27 = .ok (.getfield 34, 3) := by decide +kernel
theorem dX1_makeBlank_30 : decode cX1_makeBlank 30 = .ok (.iload_n 3, 1) := by decide +kernel
theorem dX1_makeBlank_31 : decode cX1_makeBlank 31 = .ok (.aconst_null, 1) := by decide +kernel
theorem dX1_makeBlank_32 : decode cX1_makeBlank 32 = .ok (.aastore, 1) := by decide +kernel
theorem dX1_makeBlank_33 : decode cX1_makeBlank 33 = .ok (.goto 17, 3) := by decide +kernel
theorem dX1_makeBlank_36 : decode cX1_makeBlank 36 = .ok (.aload_n 0, 1) := by decide +kernel
theorem dX1_makeBlank_37 : decode cX1_makeBlank 37 = .ok (.invokevirtual 21, 3) := by decide +kernel
theorem dX1_makeBlank_40 : decode cX1_makeBlank 40 = .ok (.ifCond .eq 10, 3) := by decide +kernel
theorem dX1_makeBlank_43 : decode cX1_makeBlank 43 = .ok (.aload_n 0, 1) := by decide +kernel
theorem dX1_makeBlank_44 : decode cX1_makeBlank 44 = .ok (.getfield 25, 3) := by decide +kernel
theorem dX1_makeBlank_47 : decode cX1_makeBlank 47 = .ok (.iload_n 3, 1) := by decide +kernel
theorem dX1_makeBlank_48 : decode cX1_makeBlank 48 = .ok (.lconst 0, 1) := by decide +kernel
theorem dX1_makeBlank_49 : decode cX1_makeBlank 49 = .ok (.lastore, 1) := by decide +kernel
theorem dX1_makeBlank_50 : decode cX1_makeBlank 50 = .ok (.iinc 3 1, 3) := by decide +kernel
theorem dX1_makeBlank_53 : decode cX1_makeBlank 53 = .ok (.goto (-41), 3) := by decide +kernel
theorem dX1_makeBlank_56 : decode cX1_makeBlank 56 = .ok (.return_, 1) := by decide +kernel
set_option maxRecDepth 20000 in
theorem ggX1_countFilled_X1_isStrip : GoodIn wsX1_countFilled wsX1_isStrip := goodIn_r _ [7, 8, 22, 23, 24, 25, 26] (by decide +kernel) (by decide +kernel)
set_option maxRecDepth 20000 in
theorem gX1_countFilled_X1_isStrip : GoodIn wsX1_countFilled (wsV RX1 21 RX1 yX1_isStrip wsX1_isStrip) := goodIn_app (goodIn_of _ (by decide +kernel)) ggX1_countFilled_X1_isStrip
set_option maxRecDepth 20000 in
theorem ggX1_countFilled_X1_cardAt : GoodIn wsX1_countFilled wsX1_cardAt := goodIn_r _ [12, 13, 14, 15, 16, 6, 17, 8, 18, 19, 20, 21, 1, 22, 23, 24, 25, 26] (by decide +kernel) (by decide +kernel)
set_option maxRecDepth 20000 in
theorem gX1_countFilled_X1_cardAt : GoodIn wsX1_countFilled (wsV RX1 46 RX1 yX1_cardAt wsX1_cardAt) := goodIn_app (goodIn_of _ (by decide +kernel)) ggX1_countFilled_X1_cardAt
theorem dX1_countFilled_0 : decode cX1_countFilled 0 = .ok (.iconst 0, 1) := by decide +kernel
theorem dX1_countFilled_1 : decode cX1_countFilled 1 = .ok (.istore_n 1, 1) := by decide +kernel
theorem dX1_countFilled_2 : decode cX1_countFilled 2 = .ok (.iconst 0, 1) := by decide +kernel
theorem dX1_countFilled_3 : decode cX1_countFilled 3 = .ok (.istore_n 2, 1) := by decide +kernel
theorem dX1_countFilled_4 : decode cX1_countFilled 4 = .ok (.iload_n 2, 1) := by decide +kernel
theorem dX1_countFilled_5 : decode cX1_countFilled 5 = .ok (.aload_n 0, 1) := by decide +kernel
theorem dX1_countFilled_6 : decode cX1_countFilled 6 = .ok (.getfield 15, 3) := by decide +kernel
theorem dX1_countFilled_9 : decode cX1_countFilled 9 = .ok (.if_icmp .ge 41, 3) := by decide +kernel
theorem dX1_countFilled_12 : decode cX1_countFilled 12 = .ok (.aload_n 0, 1) := by decide +kernel
theorem dX1_countFilled_13 : decode cX1_countFilled 13 = .ok (.invokevirtual 21, 3) := by decide +kernel
theorem dX1_countFilled_16 : decode cX1_countFilled 16 = .ok (.ifCond .eq 17, 3) := by decide +kernel
theorem dX1_countFilled_19 : decode cX1_countFilled 19 = .ok (.aload_n 0, 1) := by decide +kernel
theorem dX1_countFilled_20 : decode cX1_countFilled 20 = .ok (.getfield 25, 3) := by decide +kernel
theorem dX1_countFilled_23 : decode cX1_countFilled 23 = .ok (.iload_n 2, 1) := by decide +kernel
theorem dX1_countFilled_24 : decode cX1_countFilled 24 = .ok (.laload, 1) := by decide +kernel
theorem dX1_countFilled_25 : decode cX1_countFilled 25 = .ok (.lconst 0, 1) := by decide +kernel
theorem dX1_countFilled_26 : decode cX1_countFilled 26 = .ok (.lcmp, 1) := by decide +kernel
theorem dX1_countFilled_27 : decode cX1_countFilled 27 = .ok (.ifCond .eq 17, 3) := by decide +kernel
theorem dX1_countFilled_30 : decode cX1_countFilled 30 = .ok (.goto 11, 3) := by decide +kernel
theorem dX1_countFilled_33 : decode cX1_countFilled 33 = .ok (.aload_n 0, 1) := by decide +kernel
theorem dX1_countFilled_34 : decode cX1_countFilled 34 = .ok (.iload_n 2, 1) := by decide +kernel
theorem dX1_countFilled_35 : decode cX1_countFilled 35 = .ok (.invokevirtual 46, 3) := by decide +kernel
theorem dX1_countFilled_38 : decode cX1_countFilled 38 = .ok (.ifnull 6, 3) := by decide +kernel
theorem dX1_countFilled_41 : decode cX1_countFilled 41 = .ok (.iinc 1 1, 3) := by decide +kernel
theorem dX1_countFilled_44 : decode cX1_countFilled 44 = .ok (.iinc 2 1, 3) := by decide +kernel
theorem dX1_countFilled_47 : decode cX1_countFilled 47 = .ok (.goto (-43), 3) := by decide +kernel
theorem dX1_countFilled_50 : decode cX1_countFilled 50 = .ok (.iload_n 1, 1) := by decide +kernel
theorem dX1_countFilled_51 : decode cX1_countFilled 51 = .ok (.ireturn, 1) := by decide +kernel
