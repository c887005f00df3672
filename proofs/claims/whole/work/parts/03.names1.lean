theorem dX0_init_0 : decode cX0_init 0 = .ok (.aload_n 0, 1) := by decide +kernel
theorem dX0_init_1 : decode cX0_init 1 = .ok (.invokespecial 3, 3) := by decide +kernel
theorem dX0_init_4 : decode cX0_init 4 = .ok (.aload_n 0, 1) := by decide +kernel
theorem dX0_init_5 : decode cX0_init 5 = .ok (.bipush 36, 2) := by decide +kernel
theorem dX0_init_7 : decode cX0_init 7 = .ok (.newarray .int, 2) := by decide +kernel
theorem dX0_init_9 : decode cX0_init 9 = .ok (.putfield 9, 3) := by decide +kernel
theorem dX0_init_12 : decode cX0_init 12 = .ok (.aload_n 0, 1) := by decide +kernel
theorem dX0_init_13 : decode cX0_init 13 = .ok (.bipush 36, 2) := by decide +kernel
theorem dX0_init_15 : decode cX0_init 15 = .ok (.newarray .int, 2) := by decide +kernel
theorem dX0_init_17 : decode cX0_init 17 = .ok (.putfield 15, 3) := by decide +kernel
theorem dX0_init_20 : decode cX0_init 20 = .ok (.aload_n 0, 1) := by decide +kernel
theorem dX0_init_21 : decode cX0_init 21 = .ok (.bipush 36, 2) := by decide +kernel
theorem dX0_init_23 : decode cX0_init 23 = .ok (.newarray .int, 2) := by decide +kernel
theorem dX0_init_25 : decode cX0_init 25 = .ok (.putfield 18, 3) := by decide +kernel
theorem dX0_init_28 : decode cX0_init 28 = .ok (.aload_n 0, 1) := by decide +kernel
theorem dX0_init_29 : decode cX0_init 29 = .ok (.bipush 36, 2) := by decide +kernel
theorem dX0_init_31 : decode cX0_init 31 = .ok (.newarray .int, 2) := by decide +kernel
theorem dX0_init_33 : decode cX0_init 33 = .ok (.putfield 21, 3) := by decide +kernel
theorem dX0_init_36 : decode cX0_init 36 = .ok (.iconst 0, 1) := by decide +kernel
theorem dX0_init_37 : decode cX0_init 37 = .ok (.istore_n 1, 1) := by decide +kernel
theorem dX0_init_38 : decode cX0_init 38 = .ok (.iload_n 1, 1) := by decide +kernel
theorem dX0_init_39 : decode cX0_init 39 = .ok (.bipush 36, 2) := by decide +kernel
theorem dX0_init_41 : decode cX0_init 41 = .ok (.if_icmp .ge 26, 3) := by decide +kernel
theorem dX0_init_44 : decode cX0_init 44 = .ok (.aload_n 0, 1) := by decide +kernel
theorem dX0_init_45 : decode cX0_init 45 = .ok (.getfield 15, 3) := by decide +kernel
theorem dX0_init_48 : decode cX0_init 48 = .ok (.iload_n 1, 1) := by decide +kernel
theorem dX0_init_49 : decode cX0_init 49 = .ok (.bipush 64, 2) := by decide +kernel
theorem dX0_init_51 : decode cX0_init 51 = .ok (.iastore, 1) := by decide +kernel
theorem dX0_init_52 : decode cX0_init 52 = .ok (.aload_n 0, 1) := by decide +kernel
theorem dX0_init_53 : decode cX0_init 53 = .ok (.getfield 21, 3) := by decide +kernel
theorem dX0_init_56 : decode cX0_init 56 = .ok (.iload_n 1, 1) := by decide +kernel
theorem dX0_init_57 : decode cX0_init 57 = .ok (.sipush 255, 3) := by decide +kernel
theorem dX0_init_60 : decode cX0_init 60 = .ok (.iastore, 1) := by decide +kernel
theorem dX0_init_61 : decode cX0_init 61 = .ok (.iinc 1 1, 3) := by decide +kernel
theorem dX0_init_64 : decode cX0_init 64 = .ok (.goto (-26), 3) := by decide +kernel
theorem dX0_init_67 : decode cX0_init 67 = .ok (.return_, 1) := by decide +kernel
theorem dX0_place_0 : decode cX0_place 0 = .ok (.iload_n 0, 1) := by decide +kernel
theorem dX0_place_1 : decode cX0_place 1 = .ok (.bipush 12, 2) := by decide +kernel
theorem dX0_place_3 : decode cX0_place 3 = .ok (.imul, 1) := by decide +kernel
theorem dX0_place_4 : decode cX0_place 4 = .ok (.iload_n 1, 1) := by decide +kernel
theorem dX0_place_5 : decode cX0_place 5 = .ok (.iadd, 1) := by decide +kernel
theorem dX0_place_6 : decode cX0_place 6 = .ok (.ireturn, 1) := by decide +kernel
set_option maxRecDepth 20000 in
theorem ggX0_readingOf_X2_atMostTop : GoodIn wsX0_readingOf wsX2_atMostTop := goodIn_r _ [6, 7, 8, 9, 10] (by decide +kernel) (by decide +kernel)
set_option maxRecDepth 20000 in
theorem gX0_readingOf_X2_atMostTop : GoodIn wsX0_readingOf (va_wsS RX0 24 yX2_atMostTop wsX2_atMostTop) := goodIn_app (goodIn_of _ (by decide +kernel)) ggX0_readingOf_X2_atMostTop
theorem dX0_readingOf_0 : decode cX0_readingOf 0 = .ok (.aload_n 0, 1) := by decide +kernel
theorem dX0_readingOf_1 : decode cX0_readingOf 1 = .ok (.getfield 9, 3) := by decide +kernel
theorem dX0_readingOf_4 : decode cX0_readingOf 4 = .ok (.iload_n 1, 1) := by decide +kernel
theorem dX0_readingOf_5 : decode cX0_readingOf 5 = .ok (.iaload, 1) := by decide +kernel
theorem dX0_readingOf_6 : decode cX0_readingOf 6 = .ok (.iload_n 2, 1) := by decide +kernel
theorem dX0_readingOf_7 : decode cX0_readingOf 7 = .ok (.aload_n 0, 1) := by decide +kernel
theorem dX0_readingOf_8 : decode cX0_readingOf 8 = .ok (.getfield 15, 3) := by decide +kernel
theorem dX0_readingOf_11 : decode cX0_readingOf 11 = .ok (.iload_n 1, 1) := by decide +kernel
theorem dX0_readingOf_12 : decode cX0_readingOf 12 = .ok (.iaload, 1) := by decide +kernel
theorem dX0_readingOf_13 : decode cX0_readingOf 13 = .ok (.imul, 1) := by decide +kernel
theorem dX0_readingOf_14 : decode cX0_readingOf 14 = .ok (.bipush 64, 2) := by decide +kernel
theorem dX0_readingOf_16 : decode cX0_readingOf 16 = .ok (.idiv, 1) := by decide +kernel
theorem dX0_readingOf_17 : decode cX0_readingOf 17 = .ok (.iadd, 1) := by decide +kernel
theorem dX0_readingOf_18 : decode cX0_readingOf 18 = .ok (.invokestatic 24, 3) := by decide +kernel
theorem dX0_readingOf_21 : decode cX0_readingOf 21 = .ok (.ireturn, 1) := by decide +kernel
set_option maxRecDepth 20000 in
theorem ggX0_readStrip_X0_readingOf : GoodIn wsX0_readStrip wsX0_readingOf := goodIn_r _ [7, 8, 9, 10, 11, 12, 13, 14, 15, 16, 17, 18, 19, 20, 21] (by decide +kernel) (by decide +kernel)
set_option maxRecDepth 20000 in
theorem gX0_readStrip_X0_readingOf : GoodIn wsX0_readStrip (wsV RX0 30 RX0 yX0_readingOf wsX0_readingOf) := goodIn_app (goodIn_of _ (by decide +kernel)) ggX0_readStrip_X0_readingOf
theorem dX0_readStrip_0 : decode cX0_readStrip 0 = .ok (.iconst 0, 1) := by decide +kernel
theorem dX0_readStrip_1 : decode cX0_readStrip 1 = .ok (.istore_n 2, 1) := by decide +kernel
theorem dX0_readStrip_2 : decode cX0_readStrip 2 = .ok (.iload_n 2, 1) := by decide +kernel
theorem dX0_readStrip_3 : decode cX0_readStrip 3 = .ok (.bipush 36, 2) := by decide +kernel
theorem dX0_readStrip_5 : decode cX0_readStrip 5 = .ok (.if_icmp .ge 42, 3) := by decide +kernel
theorem dX0_readStrip_8 : decode cX0_readStrip 8 = .ok (.iload_n 1, 1) := by decide +kernel
theorem dX0_readStrip_9 : decode cX0_readStrip 9 = .ok (.ifCond .eq 20, 3) := by decide +kernel
theorem dX0_readStrip_12 : decode cX0_readStrip 12 = .ok (.aload_n 0, 1) := by decide +kernel
theorem dX0_readStrip_13 : decode cX0_readStrip 13 = .ok (.getfield 21, 3) := by decide +kernel
theorem dX0_readStrip_16 : decode cX0_readStrip 16 = .ok (.iload_n 2, 1) := by decide +kernel
theorem dX0_readStrip_17 : decode cX0_readStrip 17 = .ok (.aload_n 0, 1) := by decide +kernel
theorem dX0_readStrip_18 : decode cX0_readStrip 18 = .ok (.iload_n 2, 1) := by decide +kernel
theorem dX0_readStrip_19 : decode cX0_readStrip 19 = .ok (.sipush 255, 3) := by decide +kernel
theorem dX0_readStrip_22 : decode cX0_readStrip 22 = .ok (.invokevirtual 30, 3) := by decide +kernel
theorem dX0_readStrip_25 : decode cX0_readStrip 25 = .ok (.iastore, 1) := by decide +kernel
theorem dX0_readStrip_26 : decode cX0_readStrip 26 = .ok (.goto 15, 3) := by decide +kernel
theorem dX0_readStrip_29 : decode cX0_readStrip 29 = .ok (.aload_n 0, 1) := by decide +kernel
theorem dX0_readStrip_30 : decode cX0_readStrip 30 = .ok (.getfield 18, 3) := by decide +kernel
theorem dX0_readStrip_33 : decode cX0_readStrip 33 = .ok (.iload_n 2, 1) := by decide +kernel
theorem dX0_readStrip_34 : decode cX0_readStrip 34 = .ok (.aload_n 0, 1) := by decide +kernel
theorem dX0_readStrip_35 : decode cX0_readStrip 35 = .ok (.iload_n 2, 1) := by decide +kernel
theorem dX0_readStrip_36 : decode cX0_readStrip 36 = .ok (.iconst 0, 1) := by decide +kernel
theorem dX0_readStrip_37 : decode cX0_readStrip 37 = .ok (.invokevirtual 30, 3) := by decide +kernel
theorem dX0_readStrip_40 : decode cX0_readStrip 40 = .ok (.iastore, 1) := by decide +kernel
theorem dX0_readStrip_41 : decode cX0_readStrip 41 = .ok (.iinc 2 1, 3) := by decide +kernel
theorem dX0_readStrip_44 : decode cX0_readStrip 44 = .ok (.goto (-42), 3) := by decide +kernel
theorem dX0_readStrip_47 : decode cX0_readStrip 47 = .ok (.return_, 1) := by decide +kernel
theorem dX0_isLive_0 : decode cX0_isLive 0 = .ok (.aload_n 0, 1) := by decide +kernel
theorem dX0_isLive_1 : decode cX0_isLive 1 = .ok (.getfield 21, 3) := by decide +kernel
theorem dX0_isLive_4 : decode cX0_isLive 4 = .ok (.iload_n 1, 1) := by decide +kernel
theorem dX0_isLive_5 : decode cX0_isLive 5 = .ok (.iaload, 1) := by decide +kernel
theorem dX0_isLive_6 : decode cX0_isLive 6 = .ok (.aload_n 0, 1) := by decide +kernel
theorem dX0_isLive_7 : decode cX0_isLive 7 = .ok (.getfield 18, 3) := by decide +kernel
theorem dX0_isLive_10 : decode cX0_isLive 10 = .ok (.iload_n 1, 1) := by decide +kernel
theorem dX0_isLive_11 : decode cX0_isLive 11 = .ok (.iaload, 1) := by decide +kernel
theorem dX0_isLive_12 : decode cX0_isLive 12 = .ok (.isub, 1) := by decide +kernel
theorem dX0_isLive_13 : decode cX0_isLive 13 = .ok (.bipush 16, 2) := by decide +kernel
theorem dX0_isLive_15 : decode cX0_isLive 15 = .ok (.if_icmp .lt 7, 3) := by decide +kernel
theorem dX0_isLive_18 : decode cX0_isLive 18 = .ok (.iconst 1, 1) := by decide +kernel
theorem dX0_isLive_19 : decode cX0_isLive 19 = .ok (.goto 4, 3) := by decide +kernel
theorem dX0_isLive_22 : decode cX0_isLive 22 = .ok (.iconst 0, 1) := by decide +kernel
theorem dX0_isLive_23 : decode cX0_isLive 23 = .ok (.ireturn, 1) := by decide +kernel
set_option maxRecDepth 20000 in
theorem ggX0_countLive_X0_isLive : GoodIn wsX0_countLive wsX0_isLive := goodIn_r _ [5, 6, 7, 8, 9, 10, 11] (by decide +kernel) (by decide +kernel)
set_option maxRecDepth 20000 in
theorem gX0_countLive_X0_isLive : GoodIn wsX0_countLive (wsV RX0 34 RX0 yX0_isLive wsX0_isLive) := goodIn_app (goodIn_of _ (by decide +kernel)) ggX0_countLive_X0_isLive
theorem dX0_countLive_0 : decode cX0_countLive 0 = .ok (.iconst 0, 1) := by decide +kernel
theorem dX0_countLive_1 : decode cX0_countLive 1 = .ok (.istore_n 1, 1) := by decide +kernel
theorem dX0_countLive_2 : decode cX0_countLive 2 = .ok (.iconst 0, 1) := by decide +kernel
theorem dX0_countLive_3 : decode cX0_countLive 3 = .ok (.istore_n 2, 1) := by decide +kernel
theorem dX0_countLive_4 : decode cX0_countLive 4 = .ok (.iload_n 2, 1) := by decide +kernel
theorem dX0_countLive_5 : decode cX0_countLive 5 = .ok (.bipush 36, 2) := by decide +kernel
theorem dX0_countLive_7 : decode cX0_countLive 7 = .ok (.if_icmp .ge 20, 3) := by decide +kernel
theorem dX0_countLive_10 : decode cX0_countLive 10 = .ok (.aload_n 0, 1) := by decide +kernel
theorem dX0_countLive_11 : decode cX0_countLive 11 = .ok (.iload_n 2, 1) := by decide +kernel
theorem dX0_countLive_12 : decode cX0_countLive 12 = .ok (.invokevirtual 34, 3) := by decide +kernel
theorem dX0_countLive_15 : decode cX0_countLive 15 = .ok (.ifCond .eq 6, 3) := by decide +kernel
theorem dX0_countLive_18 : decode cX0_countLive 18 = .ok (.iinc 1 1, 3) := by decide +kernel
theorem dX0_countLive_21 : decode cX0_countLive 21 = .ok (.iinc 2 1, 3) := by decide +kernel
theorem dX0_countLive_24 : decode cX0_countLive 24 = .ok (.goto (-20), 3) := by decide +kernel
theorem dX0_countLive_27 : decode cX0_countLive 27 = .ok (.iload_n 1, 1) := by decide +kernel
theorem dX0_countLive_28 : decode cX0_countLive 28 = .ok (.ireturn, 1) := by decide +kernel
set_option maxRecDepth 20000 in
theorem ggX0_evenOf_X2_rounded : GoodIn wsX0_evenOf wsX2_rounded := goodIn_r _ [6] (by decide +kernel) (by decide +kernel)
set_option maxRecDepth 20000 in
theorem gX0_evenOf_X2_rounded : GoodIn wsX0_evenOf (va_wsS RX0 38 yX2_rounded wsX2_rounded) := goodIn_app (goodIn_of _ (by decide +kernel)) ggX0_evenOf_X2_rounded
set_option maxRecDepth 20000 in
theorem ggX0_evenOf_X2_atMostTop : GoodIn wsX0_evenOf wsX2_atMostTop := goodIn_r _ [9, 10, 11, 12, 13] (by decide +kernel) (by decide +kernel)
set_option maxRecDepth 20000 in
theorem gX0_evenOf_X2_atMostTop : GoodIn wsX0_evenOf (va_wsS RX0 24 yX2_atMostTop wsX2_atMostTop) := goodIn_app (goodIn_of _ (by decide +kernel)) ggX0_evenOf_X2_atMostTop
theorem dX0_evenOf_0 : decode cX0_evenOf 0 = .ok (.iload_n 2, 1) := by decide +kernel
theorem dX0_evenOf_1 : decode cX0_evenOf 1 = .ok (.aload_n 0, 1) := by decide +kernel
theorem dX0_evenOf_2 : decode cX0_evenOf 2 = .ok (.getfield 18, 3) := by decide +kernel
theorem dX0_evenOf_5 : decode cX0_evenOf 5 = .ok (.iload_n 1, 1) := by decide +kernel
theorem dX0_evenOf_6 : decode cX0_evenOf 6 = .ok (.iaload, 1) := by decide +kernel
theorem dX0_evenOf_7 : decode cX0_evenOf 7 = .ok (.if_icmp .ge 5, 3) := by decide +kernel
theorem dX0_evenOf_10 : decode cX0_evenOf 10 = .ok (.iconst 0, 1) := by decide +kernel
theorem dX0_evenOf_11 : decode cX0_evenOf 11 = .ok (.ireturn, 1) := by decide +kernel
theorem dX0_evenOf_12 : decode cX0_evenOf 12 = .ok (.sipush 255, 3) := by decide +kernel
theorem dX0_evenOf_15 : decode cX0_evenOf 15 = .ok (.iload_n 2, 1) := by decide +kernel
theorem dX0_evenOf_16 : decode cX0_evenOf 16 = .ok (.aload_n 0, 1) := by decide +kernel
theorem dX0_evenOf_17 : decode cX0_evenOf 17 = .ok (.getfield 18, 3) := by decide +kernel
theorem dX0_evenOf_20 : decode cX0_evenOf 20 = .ok (.iload_n 1, 1) := by decide +kernel
theorem dX0_evenOf_21 : decode cX0_evenOf 21 = .ok (.iaload, 1) := by decide +kernel
theorem dX0_evenOf_22 : decode cX0_evenOf 22 = .ok (.isub, 1) := by decide +kernel
theorem dX0_evenOf_23 : decode cX0_evenOf 23 = .ok (.imul, 1) := by decide +kernel
theorem dX0_evenOf_24 : decode cX0_evenOf 24 = .ok (.aload_n 0, 1) := by decide +kernel
theorem dX0_evenOf_25 : decode cX0_evenOf 25 = .ok (.getfield 21, 3) := by decide +kernel
theorem dX0_evenOf_28 : decode cX0_evenOf 28 = .ok (.iload_n 1, 1) := by decide +kernel
theorem dX0_evenOf_29 : decode cX0_evenOf 29 = .ok (.iaload, 1) := by decide +kernel
theorem dX0_evenOf_30 : decode cX0_evenOf 30 = .ok (.aload_n 0, 1) := by decide +kernel
theorem dX0_evenOf_31 : decode cX0_evenOf 31 = .ok (.getfield 18, 3) := by decide +kernel
theorem dX0_evenOf_34 : decode cX0_evenOf 34 = .ok (.iload_n 1, 1) := by decide +kernel
theorem dX0_evenOf_35 : decode cX0_evenOf 35 = .ok (.iaload, 1) := by decide +kernel
theorem dX0_evenOf_36 : decode cX0_evenOf 36 = .ok (.isub, 1) := by decide +kernel
theorem dX0_evenOf_37 : decode cX0_evenOf 37 = .ok (.invokestatic 38, 3) := by decide +kernel
theorem dX0_evenOf_40 : decode cX0_evenOf 40 = .ok (.invokestatic 24, 3) := by decide +kernel
theorem dX0_evenOf_43 : decode cX0_evenOf 43 = .ok (.ireturn, 1) := by decide +kernel
set_option maxRecDepth 20000 in
theorem ggX0_nearestLive_X0_place : GoodIn wsX0_nearestLive wsX0_place := goodIn_r _ [4] (by decide +kernel) (by decide +kernel)
set_option maxRecDepth 20000 in
theorem gX0_nearestLive_X0_place : GoodIn wsX0_nearestLive (va_wsS RX0 41 yX0_place wsX0_place) := goodIn_app (goodIn_of _ (by decide +kernel)) ggX0_nearestLive_X0_place
set_option maxRecDepth 20000 in
theorem ggX0_nearestLive_X0_isLive : GoodIn wsX0_nearestLive wsX0_isLive := goodIn_r _ [8, 9, 10, 11, 12, 13, 14] (by decide +kernel) (by decide +kernel)
set_option maxRecDepth 20000 in
theorem gX0_nearestLive_X0_isLive : GoodIn wsX0_nearestLive (wsV RX0 34 RX0 yX0_isLive wsX0_isLive) := goodIn_app (goodIn_of _ (by decide +kernel)) ggX0_nearestLive_X0_isLive
theorem dX0_nearestLive_0 : decode cX0_nearestLive 0 = .ok (.iload_n 2, 1) := by decide +kernel
theorem dX0_nearestLive_1 : decode cX0_nearestLive 1 = .ok (.istore 4, 2) := by decide +kernel
theorem dX0_nearestLive_3 : decode cX0_nearestLive 3 = .ok (.iconst 0, 1) := by decide +kernel
theorem dX0_nearestLive_4 : decode cX0_nearestLive 4 = .ok (.istore 5, 2) := by decide +kernel
theorem dX0_nearestLive_6 : decode cX0_nearestLive 6 = .ok (.iload 5, 2) := by decide +kernel
theorem dX0_nearestLive_8 : decode cX0_nearestLive 8 = .ok (.bipush 12, 2) := by decide +kernel
theorem dX0_nearestLive_10 : decode cX0_nearestLive 10 = .ok (.if_icmp .ge 43, 3) := by decide +kernel
theorem dX0_nearestLive_13 : decode cX0_nearestLive 13 = .ok (.iload 4, 2) := by decide +kernel
theorem dX0_nearestLive_15 : decode cX0_nearestLive 15 = .ok (.ifCond .lt 38, 3) := by decide +kernel
theorem dX0_nearestLive_18 : decode cX0_nearestLive 18 = .ok (.iload 4, 2) := by decide +kernel
theorem dX0_nearestLive_20 : decode cX0_nearestLive 20 = .ok (.bipush 12, 2) := by decide +kernel
theorem dX0_nearestLive_22 : decode cX0_nearestLive 22 = .ok (.if_icmp .ge 31, 3) := by decide +kernel
theorem dX0_nearestLive_25 : decode cX0_nearestLive 25 = .ok (.aload_n 0, 1) := by decide +kernel
theorem dX0_nearestLive_26 : decode cX0_nearestLive 26 = .ok (.iload_n 1, 1) := by decide +kernel
theorem dX0_nearestLive_27 : decode cX0_nearestLive 27 = .ok (.iload 4, 2) := by decide +kernel
theorem dX0_nearestLive_29 : decode cX0_nearestLive 29 = .ok (.invokestatic 41, 3) := by decide +kernel
theorem dX0_nearestLive_32 : decode cX0_nearestLive 32 = .ok (.invokevirtual 34, 3) := by decide +kernel
theorem dX0_nearestLive_35 : decode cX0_nearestLive 35 = .ok (.ifCond .eq 6, 3) := by decide +kernel
theorem dX0_nearestLive_38 : decode cX0_nearestLive 38 = .ok (.iload 4, 2) := by decide +kernel
theorem dX0_nearestLive_40 : decode cX0_nearestLive 40 = .ok (.ireturn, 1) := by decide +kernel
theorem dX0_nearestLive_41 : decode cX0_nearestLive 41 = .ok (.iload 4, 2) := by decide +kernel
theorem dX0_nearestLive_43 : decode cX0_nearestLive 43 = .ok (.iload_n 3, 1) := by decide +kernel
theorem dX0_nearestLive_44 : decode cX0_nearestLive 44 = .ok (.iadd, 1) := by decide +kernel
theorem dX0_nearestLive_45 : decode cX0_nearestLive 45 = .ok (.istore 4, 2) := by decide +kernel
theorem dX0_nearestLive_47 : decode cX0_nearestLive 47 = .ok (.iinc 5 1, 3) := by decide +kernel
theorem dX0_nearestLive_50 : decode cX0_nearestLive 50 = .ok (.goto (-44), 3) := by decide +kernel
theorem dX0_nearestLive_53 : decode cX0_nearestLive 53 = .ok (.bipush (-9), 2) := by decide +kernel
theorem dX0_nearestLive_55 : decode cX0_nearestLive 55 = .ok (.ireturn, 1) := by decide +kernel
theorem dX1_init_0 : decode cX1_init 0 = .ok (.aload_n 0, 1) := by decide +kernel
theorem dX1_init_1 : decode cX1_init 1 = .ok (.invokespecial 3, 3) := by decide +kernel
theorem dX1_init_4 : decode cX1_init 4 = .ok (.aload_n 0, 1) := by decide +kernel
theorem dX1_init_5 : decode cX1_init 5 = .ok (.sipush 128, 3) := by decide +kernel
theorem dX1_init_8 : decode cX1_init 8 = .ok (.putfield 9, 3) := by decide +kernel
theorem dX1_init_11 : decode cX1_init 11 = .ok (.aload_n 0, 1) := by decide +kernel
theorem dX1_init_12 : decode cX1_init 12 = .ok (.sipush 1440, 3) := by decide +kernel
theorem dX1_init_15 : decode cX1_init 15 = .ok (.newarray .int, 2) := by decide +kernel
theorem dX1_init_17 : decode cX1_init 17 = .ok (.putfield 15, 3) := by decide +kernel
theorem dX1_init_20 : decode cX1_init 20 = .ok (.return_, 1) := by decide +kernel
theorem dX1_has_0 : decode cX1_has 0 = .ok (.iload_n 1, 1) := by decide +kernel
theorem dX1_has_1 : decode cX1_has 1 = .ok (.ifCond .lt 15, 3) := by decide +kernel
theorem dX1_has_4 : decode cX1_has 4 = .ok (.iload_n 1, 1) := by decide +kernel
theorem dX1_has_5 : decode cX1_has 5 = .ok (.aload_n 0, 1) := by decide +kernel
theorem dX1_has_6 : decode cX1_has 6 = .ok (.getfield 19, 3) := by decide +kernel
theorem dX1_has_9 : decode cX1_has 9 = .ok (.if_icmp .ge 7, 3) := by decide +kernel
theorem dX1_has_12 : decode cX1_has 12 = .ok (.iconst 1, 1) := by decide +kernel
theorem dX1_has_13 : decode cX1_has 13 = .ok (.goto 4, 3) := by decide +kernel
theorem dX1_has_16 : decode cX1_has 16 = .ok (.iconst 0, 1) := by decide +kernel
theorem dX1_has_17 : decode cX1_has 17 = .ok (.ireturn, 1) := by decide +kernel
set_option maxRecDepth 20000 in
theorem ggX1_greyOf_X2_rounded : GoodIn wsX1_greyOf wsX2_rounded := goodIn_r _ [5] (by decide +kernel) (by decide +kernel)
set_option maxRecDepth 20000 in
theorem gX1_greyOf_X2_rounded : GoodIn wsX1_greyOf (va_wsS RX1 22 yX2_rounded wsX2_rounded) := goodIn_app (goodIn_of _ (by decide +kernel)) ggX1_greyOf_X2_rounded
theorem dX1_greyOf_0 : decode cX1_greyOf 0 = .ok (.iload_n 1, 1) := by decide +kernel
theorem dX1_greyOf_1 : decode cX1_greyOf 1 = .ok (.bipush 36, 2) := by decide +kernel
theorem dX1_greyOf_3 : decode cX1_greyOf 3 = .ok (.imul, 1) := by decide +kernel
theorem dX1_greyOf_4 : decode cX1_greyOf 4 = .ok (.iload_n 2, 1) := by decide +kernel
theorem dX1_greyOf_5 : decode cX1_greyOf 5 = .ok (.iadd, 1) := by decide +kernel
theorem dX1_greyOf_6 : decode cX1_greyOf 6 = .ok (.istore_n 3, 1) := by decide +kernel
theorem dX1_greyOf_7 : decode cX1_greyOf 7 = .ok (.iconst 2, 1) := by decide +kernel
theorem dX1_greyOf_8 : decode cX1_greyOf 8 = .ok (.aload_n 0, 1) := by decide +kernel
theorem dX1_greyOf_9 : decode cX1_greyOf 9 = .ok (.getfield 15, 3) := by decide +kernel
theorem dX1_greyOf_12 : decode cX1_greyOf 12 = .ok (.iload_n 3, 1) := by decide +kernel
theorem dX1_greyOf_13 : decode cX1_greyOf 13 = .ok (.iaload, 1) := by decide +kernel
theorem dX1_greyOf_14 : decode cX1_greyOf 14 = .ok (.imul, 1) := by decide +kernel
theorem dX1_greyOf_15 : decode cX1_greyOf 15 = .ok (.iconst 5, 1) := by decide +kernel
theorem dX1_greyOf_16 : decode cX1_greyOf 16 = .ok (.aload_n 0, 1) := by decide +kernel
theorem dX1_greyOf_17 : decode cX1_greyOf 17 = .ok (.getfield 15, 3) := by decide +kernel
theorem dX1_greyOf_20 : decode cX1_greyOf 20 = .ok (.iload_n 3, 1) := by decide +kernel
theorem dX1_greyOf_21 : decode cX1_greyOf 21 = .ok (.bipush 12, 2) := by decide +kernel
theorem dX1_greyOf_23 : decode cX1_greyOf 23 = .ok (.iadd, 1) := by decide +kernel
theorem dX1_greyOf_24 : decode cX1_greyOf 24 = .ok (.iaload, 1) := by decide +kernel
theorem dX1_greyOf_25 : decode cX1_greyOf 25 = .ok (.imul, 1) := by decide +kernel
theorem dX1_greyOf_26 : decode cX1_greyOf 26 = .ok (.iadd, 1) := by decide +kernel
theorem dX1_greyOf_27 : decode cX1_greyOf 27 = .ok (.aload_n 0, 1) := by decide +kernel
theorem dX1_greyOf_28 : decode cX1_greyOf 28 = .ok (.getfield 15, 3) := by decide +kernel
theorem dX1_greyOf_31 : decode cX1_greyOf 31 = .ok (.iload_n 3, 1) := by decide +kernel
theorem dX1_greyOf_32 : decode cX1_greyOf 32 = .ok (.bipush 24, 2) := by decide +kernel
theorem dX1_greyOf_34 : decode cX1_greyOf 34 = .ok (.iadd, 1) := by decide +kernel
theorem dX1_greyOf_35 : decode cX1_greyOf 35 = .ok (.iaload, 1) := by decide +kernel
theorem dX1_greyOf_36 : decode cX1_greyOf 36 = .ok (.iadd, 1) := by decide +kernel
theorem dX1_greyOf_37 : decode cX1_greyOf 37 = .ok (.istore 4, 2) := by decide +kernel
theorem dX1_greyOf_39 : decode cX1_greyOf 39 = .ok (.iload 4, 2) := by decide +kernel
theorem dX1_greyOf_41 : decode cX1_greyOf 41 = .ok (.bipush 8, 2) := by decide +kernel
theorem dX1_greyOf_43 : decode cX1_greyOf 43 = .ok (.invokestatic 22, 3) := by decide +kernel
theorem dX1_greyOf_46 : decode cX1_greyOf 46 = .ok (.ireturn, 1) := by decide +kernel
set_option maxRecDepth 20000 in
theorem ggX1_darkSet_X1_greyOf : GoodIn wsX1_darkSet wsX1_greyOf := goodIn_r _ [6, 7, 8, 9, 10, 11, 12, 13, 14] (by decide +kernel) (by decide +kernel)
set_option maxRecDepth 20000 in
theorem gX1_darkSet_X1_greyOf : GoodIn wsX1_darkSet (wsV RX1 28 RX1 yX1_greyOf wsX1_greyOf) := goodIn_app (goodIn_of _ (by decide +kernel)) ggX1_darkSet_X1_greyOf
theorem dX1_darkSet_0 : decode cX1_darkSet 0 = .ok (.iconst 0, 1) := by decide +kernel
theorem dX1_darkSet_1 : decode cX1_darkSet 1 = .ok (.istore_n 2, 1) := by decide +kernel
theorem dX1_darkSet_2 : decode cX1_darkSet 2 = .ok (.iconst 0, 1) := by decide +kernel
theorem dX1_darkSet_3 : decode cX1_darkSet 3 = .ok (.istore_n 3, 1) := by decide +kernel
theorem dX1_darkSet_4 : decode cX1_darkSet 4 = .ok (.iload_n 3, 1) := by decide +kernel
theorem dX1_darkSet_5 : decode cX1_darkSet 5 = .ok (.bipush 12, 2) := by decide +kernel
theorem dX1_darkSet_7 : decode cX1_darkSet 7 = .ok (.if_icmp .ge 28, 3) := by decide +kernel
theorem dX1_darkSet_10 : decode cX1_darkSet 10 = .ok (.aload_n 0, 1) := by decide +kernel
theorem dX1_darkSet_11 : decode cX1_darkSet 11 = .ok (.iload_n 1, 1) := by decide +kernel
theorem dX1_darkSet_12 : decode cX1_darkSet 12 = .ok (.iload_n 3, 1) := by decide +kernel
theorem dX1_darkSet_13 : decode cX1_darkSet 13 = .ok (.invokevirtual 28, 3) := by decide +kernel
theorem dX1_darkSet_16 : decode cX1_darkSet 16 = .ok (.aload_n 0, 1) := by decide +kernel
theorem dX1_darkSet_17 : decode cX1_darkSet 17 = .ok (.getfield 9, 3) := by decide +kernel
theorem dX1_darkSet_20 : decode cX1_darkSet 20 = .ok (.if_icmp .ge 9, 3) := by decide +kernel
theorem dX1_darkSet_23 : decode cX1_darkSet 23 = .ok (.iload_n 2, 1) := by decide +kernel
theorem dX1_darkSet_24 : decode cX1_darkSet 24 = .ok (.iconst 1, 1) := by decide +kernel
theorem dX1_darkSet_25 : decode cX1_darkSet 25 = .ok (.iload_n 3, 1) := by decide +kernel
theorem dX1_darkSet_26 : decode cX1_darkSet 26 = .ok (.ishl, 1) := by decide +kernel
theorem dX1_darkSet_27 : decode cX1_darkSet 27 = .ok (.ior, 1) := by decide +kernel
theorem dX1_darkSet_28 : decode cX1_darkSet 28 = .ok (.istore_n 2, 1) := by decide +kernel
theorem dX1_darkSet_29 : decode cX1_darkSet 29 = .ok (.iinc 3 1, 3) := by decide +kernel
theorem dX1_darkSet_32 : decode cX1_darkSet 32 = .ok (.goto (-28), 3) := by decide +kernel
theorem dX1_darkSet_35 : decode cX1_darkSet 35 = .ok (.iload_n 2, 1) := by decide +kernel
theorem dX1_darkSet_36 : decode cX1_darkSet 36 = .ok (.ireturn, 1) := by decide +kernel
set_option maxRecDepth 20000 in
theorem ggX1_edgeOf_X1_darkSet : GoodIn wsX1_edgeOf wsX1_darkSet := goodIn_r _ [5, 6, 7, 8, 9, 4, 10, 11, 12, 13, 14, 15, 25, 26, 27] (by decide +kernel) (by decide +kernel)
set_option maxRecDepth 20000 in
theorem gX1_edgeOf_X1_darkSet : GoodIn wsX1_edgeOf (wsV RX1 31 RX1 yX1_darkSet wsX1_darkSet) := goodIn_app (goodIn_of _ (by decide +kernel)) ggX1_edgeOf_X1_darkSet
set_option maxRecDepth 20000 in
theorem ggX1_edgeOf_X1_runStart : GoodIn wsX1_edgeOf wsX1_runStart := goodIn_r _ [18, 19, 20, 4, 21, 22, 23, 24] (by decide +kernel) (by decide +kernel)
set_option maxRecDepth 20000 in
theorem gX1_edgeOf_X1_runStart : GoodIn wsX1_edgeOf (va_wsS RX1 35 yX1_runStart wsX1_runStart) := goodIn_app (goodIn_of _ (by decide +kernel)) ggX1_edgeOf_X1_runStart
theorem dX1_edgeOf_0 : decode cX1_edgeOf 0 = .ok (.aload_n 0, 1) := by decide +kernel
theorem dX1_edgeOf_1 : decode cX1_edgeOf 1 = .ok (.iload_n 1, 1) := by decide +kernel
theorem dX1_edgeOf_2 : decode cX1_edgeOf 2 = .ok (.invokevirtual 31, 3) := by decide +kernel
theorem dX1_edgeOf_5 : decode cX1_edgeOf 5 = .ok (.iconst 0, 1) := by decide +kernel
theorem dX1_edgeOf_6 : decode cX1_edgeOf 6 = .ok (.invokestatic 35, 3) := by decide +kernel
theorem dX1_edgeOf_9 : decode cX1_edgeOf 9 = .ok (.ireturn, 1) := by decide +kernel
theorem dX1_isIn_0 : decode cX1_isIn 0 = .ok (.iload_n 0, 1) := by decide +kernel
theorem dX1_isIn_1 : decode cX1_isIn 1 = .ok (.iload_n 1, 1) := by decide +kernel
theorem dX1_isIn_2 : decode cX1_isIn 2 = .ok (.ishr, 1) := by decide +kernel
theorem dX1_isIn_3 : decode cX1_isIn 3 = .ok (.iconst 1, 1) := by decide +kernel
theorem dX1_isIn_4 : decode cX1_isIn 4 = .ok (.iand, 1) := by decide +kernel
theorem dX1_isIn_5 : decode cX1_isIn 5 = .ok (.iconst 1, 1) := by decide +kernel
theorem dX1_isIn_6 : decode cX1_isIn 6 = .ok (.if_icmp .ne 7, 3) := by decide +kernel
theorem dX1_isIn_9 : decode cX1_isIn 9 = .ok (.iconst 1, 1) := by decide +kernel
theorem dX1_isIn_10 : decode cX1_isIn 10 = .ok (.goto 4, 3) := by decide +kernel
theorem dX1_isIn_13 : decode cX1_isIn 13 = .ok (.iconst 0, 1) := by decide +kernel
theorem dX1_isIn_14 : decode cX1_isIn 14 = .ok (.ireturn, 1) := by decide +kernel
set_option maxRecDepth 20000 in
theorem ggX1_startsRun_X1_isIn : GoodIn wsX1_startsRun wsX1_isIn := goodIn_r _ [4] (by decide +kernel) (by decide +kernel)
set_option maxRecDepth 20000 in
theorem gX1_startsRun_X1_isIn : GoodIn wsX1_startsRun (va_wsS RX1 38 yX1_isIn wsX1_isIn) := goodIn_app (goodIn_of _ (by decide +kernel)) ggX1_startsRun_X1_isIn
theorem dX1_startsRun_0 : decode cX1_startsRun 0 = .ok (.iload_n 0, 1) := by decide +kernel
theorem dX1_startsRun_1 : decode cX1_startsRun 1 = .ok (.iload_n 1, 1) := by decide +kernel
theorem dX1_startsRun_2 : decode cX1_startsRun 2 = .ok (.invokestatic 38, 3) := by decide +kernel
theorem dX1_startsRun_5 : decode cX1_startsRun 5 = .ok (.ifCond .eq 21, 3) := by decide +kernel
theorem dX1_startsRun_8 : decode cX1_startsRun 8 = .ok (.iload_n 1, 1) := by decide +kernel
theorem dX1_startsRun_9 : decode cX1_startsRun 9 = .ok (.ifCond .eq 13, 3) := by decide +kernel
theorem dX1_startsRun_12 : decode cX1_startsRun 12 = .ok (.iload_n 0, 1) := by decide +kernel
theorem dX1_startsRun_13 : decode cX1_startsRun 13 = .ok (.iload_n 1, 1) := by decide +kernel
theorem dX1_startsRun_14 : decode cX1_startsRun 14 = .ok (.iconst 1, 1) := by decide +kernel
theorem dX1_startsRun_15 : decode cX1_startsRun 15 = .ok (.isub, 1) := by decide +kernel
theorem dX1_startsRun_16 : decode cX1_startsRun 16 = .ok (.invokestatic 38, 3) := by decide +kernel
theorem dX1_startsRun_19 : decode cX1_startsRun 19 = .ok (.ifCond .ne 7, 3) := by decide +kernel
theorem dX1_startsRun_22 : decode cX1_startsRun 22 = .ok (.iconst 1, 1) := by decide +kernel
theorem dX1_startsRun_23 : decode cX1_startsRun 23 = .ok (.goto 4, 3) := by decide +kernel
theorem dX1_startsRun_26 : decode cX1_startsRun 26 = .ok (.iconst 0, 1) := by decide +kernel
theorem dX1_startsRun_27 : decode cX1_startsRun 27 = .ok (.ireturn, 1) := by decide +kernel
set_option maxRecDepth 20000 in
theorem ggX1_runStart_X1_startsRun : GoodIn wsX1_runStart wsX1_startsRun := goodIn_r _ [4, 5, 6, 3, 7] (by decide +kernel) (by decide +kernel)
set_option maxRecDepth 20000 in
theorem gX1_runStart_X1_startsRun : GoodIn wsX1_runStart (va_wsS RX1 42 yX1_startsRun wsX1_startsRun) := goodIn_app (goodIn_of _ (by decide +kernel)) ggX1_runStart_X1_startsRun
theorem dX1_runStart_0 : decode cX1_runStart 0 = .ok (.iconst 0, 1) := by decide +kernel
theorem dX1_runStart_1 : decode cX1_runStart 1 = .ok (.istore_n 2, 1) := by decide +kernel
theorem dX1_runStart_2 : decode cX1_runStart 2 = .ok (.iconst 0, 1) := by decide +kernel
theorem dX1_runStart_3 : decode cX1_runStart 3 = .ok (.istore_n 3, 1) := by decide +kernel
theorem dX1_runStart_4 : decode cX1_runStart 4 = .ok (.iload_n 3, 1) := by decide +kernel
theorem dX1_runStart_5 : decode cX1_runStart 5 = .ok (.bipush 12, 2) := by decide +kernel
theorem dX1_runStart_7 : decode cX1_runStart 7 = .ok (.if_icmp .ge 30, 3) := by decide +kernel
theorem dX1_runStart_10 : decode cX1_runStart 10 = .ok (.iload_n 0, 1) := by decide +kernel
theorem dX1_runStart_11 : decode cX1_runStart 11 = .ok (.iload_n 3, 1) := by decide +kernel
theorem dX1_runStart_12 : decode cX1_runStart 12 = .ok (.invokestatic 42, 3) := by decide +kernel
theorem dX1_runStart_15 : decode cX1_runStart 15 = .ok (.ifCond .ne 6, 3) := by decide +kernel
theorem dX1_runStart_18 : decode cX1_runStart 18 = .ok (.goto 13, 3) := by decide +kernel
theorem dX1_runStart_21 : decode cX1_runStart 21 = .ok (.iload_n 2, 1) := by decide +kernel
theorem dX1_runStart_22 : decode cX1_runStart 22 = .ok (.iload_n 1, 1) := by decide +kernel
theorem dX1_runStart_23 : decode cX1_runStart 23 = .ok (.if_icmp .ne 5, 3) := by decide +kernel
theorem dX1_runStart_26 : decode cX1_runStart 26 = .ok (.iload_n 3, 1) := by decide +kernel
theorem dX1_runStart_27 : decode cX1_runStart 27 = .ok (.ireturn, 1) := by decide +kernel
theorem dX1_runStart_28 : decode cX1_runStart 28 = .ok (.iinc 2 1, 3) := by decide +kernel
theorem dX1_runStart_31 : decode cX1_runStart 31 = .ok (.iinc 3 1, 3) := by decide +kernel
theorem dX1_runStart_34 : decode cX1_runStart 34 = .ok (.goto (-30), 3) := by decide +kernel
theorem dX1_runStart_37 : decode cX1_runStart 37 = .ok (.bipush (-9), 2) := by decide +kernel
theorem dX1_runStart_39 : decode cX1_runStart 39 = .ok (.ireturn, 1) := by decide +kernel
set_option maxRecDepth 20000 in
theorem ggX1_runLength_X1_isIn : GoodIn wsX1_runLength wsX1_isIn := goodIn_r _ [4] (by decide +kernel) (by decide +kernel)
set_option maxRecDepth 20000 in
theorem gX1_runLength_X1_isIn : GoodIn wsX1_runLength (va_wsS RX1 38 yX1_isIn wsX1_isIn) := goodIn_app (goodIn_of _ (by decide +kernel)) ggX1_runLength_X1_isIn
theorem dX1_runLength_0 : decode cX1_runLength 0 = .ok (.iconst 0, 1) := by decide +kernel
theorem dX1_runLength_1 : decode cX1_runLength 1 = .ok (.istore_n 2, 1) := by decide +kernel
theorem dX1_runLength_2 : decode cX1_runLength 2 = .ok (.iload_n 1, 1) := by decide +kernel
theorem dX1_runLength_3 : decode cX1_runLength 3 = .ok (.istore_n 3, 1) := by decide +kernel
theorem dX1_runLength_4 : decode cX1_runLength 4 = .ok (.iload_n 3, 1) := by decide +kernel
theorem dX1_runLength_5 : decode cX1_runLength 5 = .ok (.bipush 12, 2) := by decide +kernel
theorem dX1_runLength_7 : decode cX1_runLength 7 = .ok (.if_icmp .ge 20, 3) := by decide +kernel
theorem dX1_runLength_10 : decode cX1_runLength 10 = .ok (.iload_n 0, 1) := by decide +kernel
theorem dX1_runLength_11 : decode cX1_runLength 11 = .ok (.iload_n 3, 1) := by decide +kernel
theorem dX1_runLength_12 : decode cX1_runLength 12 = .ok (.invokestatic 38, 3) := by decide +kernel
theorem dX1_runLength_15 : decode cX1_runLength 15 = .ok (.ifCond .eq 12, 3) := by decide +kernel
theorem dX1_runLength_18 : decode cX1_runLength 18 = .ok (.iinc 2 1, 3) := by decide +kernel
theorem dX1_runLength_21 : decode cX1_runLength 21 = .ok (.iinc 3 1, 3) := by decide +kernel
theorem dX1_runLength_24 : decode cX1_runLength 24 = .ok (.goto (-20), 3) := by decide +kernel
theorem dX1_runLength_27 : decode cX1_runLength 27 = .ok (.iload_n 2, 1) := by decide +kernel
theorem dX1_runLength_28 : decode cX1_runLength 28 = .ok (.ireturn, 1) := by decide +kernel
set_option maxRecDepth 20000 in
theorem ggX1_countRuns_X1_darkSet : GoodIn wsX1_countRuns wsX1_darkSet := goodIn_r _ [6, 7, 8, 9, 10, 5, 11, 12, 13, 14, 15, 16, 23, 24, 25] (by decide +kernel) (by decide +kernel)
set_option maxRecDepth 20000 in
theorem gX1_countRuns_X1_darkSet : GoodIn wsX1_countRuns (wsV RX1 31 RX1 yX1_darkSet wsX1_darkSet) := goodIn_app (goodIn_of _ (by decide +kernel)) ggX1_countRuns_X1_darkSet
set_option maxRecDepth 20000 in
theorem ggX1_countRuns_X1_startsRun : GoodIn wsX1_countRuns wsX1_startsRun := goodIn_r _ [19, 20, 21, 5, 22] (by decide +kernel) (by decide +kernel)
set_option maxRecDepth 20000 in
theorem gX1_countRuns_X1_startsRun : GoodIn wsX1_countRuns (va_wsS RX1 42 yX1_startsRun wsX1_startsRun) := goodIn_app (goodIn_of _ (by decide +kernel)) ggX1_countRuns_X1_startsRun
theorem dX1_countRuns_0 : decode cX1_countRuns 0 = .ok (.iconst 0, 1) := by decide +kernel
theorem dX1_countRuns_1 : decode cX1_countRuns 1 = .ok (.istore_n 1, 1) := by decide +kernel
theorem dX1_countRuns_2 : decode cX1_countRuns 2 = .ok (.iconst 0, 1) := by decide +kernel
theorem dX1_countRuns_3 : decode cX1_countRuns 3 = .ok (.istore_n 2, 1) := by decide +kernel
theorem dX1_countRuns_4 : decode cX1_countRuns 4 = .ok (.iload_n 2, 1) := by decide +kernel
theorem dX1_countRuns_5 : decode cX1_countRuns 5 = .ok (.aload_n 0, 1) := by decide +kernel
theorem dX1_countRuns_6 : decode cX1_countRuns 6 = .ok (.getfield 19, 3) := by decide +kernel
theorem dX1_countRuns_9 : decode cX1_countRuns 9 = .ok (.if_icmp .ge 43, 3) := by decide +kernel
theorem dX1_countRuns_12 : decode cX1_countRuns 12 = .ok (.aload_n 0, 1) := by decide +kernel
theorem dX1_countRuns_13 : decode cX1_countRuns 13 = .ok (.iload_n 2, 1) := by decide +kernel
theorem dX1_countRuns_14 : decode cX1_countRuns 14 = .ok (.invokevirtual 31, 3) := by decide +kernel
theorem dX1_countRuns_17 : decode cX1_countRuns 17 = .ok (.istore_n 3, 1) := by decide +kernel
theorem dX1_countRuns_18 : decode cX1_countRuns 18 = .ok (.iconst 0, 1) := by decide +kernel
theorem dX1_countRuns_19 : decode cX1_countRuns 19 = .ok (.istore 4, 2) := by decide +kernel
theorem dX1_countRuns_21 : decode cX1_countRuns 21 = .ok (.iload 4, 2) := by decide +kernel
theorem dX1_countRuns_23 : decode cX1_countRuns 23 = .ok (.bipush 12, 2) := by decide +kernel
theorem dX1_countRuns_25 : decode cX1_countRuns 25 = .ok (.if_icmp .ge 21, 3) := by decide +kernel
theorem dX1_countRuns_28 : decode cX1_countRuns 28 = .ok (.iload_n 3, 1) := by decide +kernel
theorem dX1_countRuns_29 : decode cX1_countRuns 29 = .ok (.iload 4, 2) := by decide +kernel
theorem dX1_countRuns_31 : decode cX1_countRuns 31 = .ok (.invokestatic 42, 3) := by decide +kernel
theorem dX1_countRuns_34 : decode cX1_countRuns 34 = .ok (.ifCond .eq 6, 3) := by decide +kernel
theorem dX1_countRuns_37 : decode cX1_countRuns 37 = .ok (.iinc 1 1, 3) := by decide +kernel
theorem dX1_countRuns_40 : decode cX1_countRuns 40 = .ok (.iinc 4 1, 3) := by decide +kernel
theorem dX1_countRuns_43 : decode cX1_countRuns 43 = .ok (.goto (-22), 3) := by decide +kernel
theorem dX1_countRuns_46 : decode cX1_countRuns 46 = .ok (.iinc 2 1, 3) := by decide +kernel
theorem dX1_countRuns_49 : decode cX1_countRuns 49 = .ok (.goto (-45), 3) := by decide +kernel
theorem dX1_countRuns_52 : decode cX1_countRuns 52 = .ok (.iload_n 1, 1) := by decide +kernel
theorem dX1_countRuns_53 : decode cX1_countRuns 53 = .ok (.ireturn, 1) := by decide +kernel
set_option maxRecDepth 20000 in
theorem ggX1_skewPart_X1_edgeOf : GoodIn wsX1_skewPart wsX1_edgeOf := goodIn_r _ [8, 9, 10, 11, 7, 12, 13, 14, 15, 16, 17, 18, 19, 20, 21, 22, 23, 24, 25, 26, 27, 28, 29, 30, 31, 39, 40, 41] (by decide +kernel) (by decide +kernel)
set_option maxRecDepth 20000 in
theorem gX1_skewPart_X1_edgeOf : GoodIn wsX1_skewPart (wsV RX1 45 RX1 yX1_edgeOf wsX1_edgeOf) := goodIn_app (goodIn_of _ (by decide +kernel)) ggX1_skewPart_X1_edgeOf
set_option maxRecDepth 20000 in
theorem ggX1_skewPart_X2_greatestDivisor : GoodIn wsX1_skewPart wsX2_greatestDivisor := goodIn_r _ [34, 35, 36, 37, 38] (by decide +kernel) (by decide +kernel)
set_option maxRecDepth 20000 in
theorem gX1_skewPart_X2_greatestDivisor : GoodIn wsX1_skewPart (va_wsS RX1 52 yX2_greatestDivisor wsX2_greatestDivisor) := goodIn_app (goodIn_of _ (by decide +kernel)) ggX1_skewPart_X2_greatestDivisor
theorem dX1_skewPart_0 : decode cX1_skewPart 0 = .ok (.lconst 0, 1) := by decide +kernel
theorem dX1_skewPart_1 : decode cX1_skewPart 1 = .ok (.lstore_n 2, 1) := by decide +kernel
theorem dX1_skewPart_2 : decode cX1_skewPart 2 = .ok (.lconst 0, 1) := by decide +kernel
theorem dX1_skewPart_3 : decode cX1_skewPart 3 = .ok (.lstore 4, 2) := by decide +kernel
theorem dX1_skewPart_5 : decode cX1_skewPart 5 = .ok (.lconst 0, 1) := by decide +kernel
theorem dX1_skewPart_6 : decode cX1_skewPart 6 = .ok (.lstore 6, 2) := by decide +kernel
theorem dX1_skewPart_8 : decode cX1_skewPart 8 = .ok (.lconst 0, 1) := by decide +kernel
theorem dX1_skewPart_9 : decode cX1_skewPart 9 = .ok (.lstore 8, 2) := by decide +kernel
theorem dX1_skewPart_11 : decode cX1_skewPart 11 = .ok (.lconst 0, 1) := by decide +kernel
theorem dX1_skewPart_12 : decode cX1_skewPart 12 = .ok (.lstore 10, 2) := by decide +kernel
theorem dX1_skewPart_14 : decode cX1_skewPart 14 = .ok (.iconst 0, 1) := by decide +kernel
theorem dX1_skewPart_15 : decode cX1_skewPart 15 = .ok (.istore 12, 2) := by decide +kernel
theorem dX1_skewPart_17 : decode cX1_skewPart 17 = .ok (.iload 12, 2) := by decide +kernel
theorem dX1_skewPart_19 : decode cX1_skewPart 19 = .ok (.aload_n 0, 1) := by decide +kernel
theorem dX1_skewPart_20 : decode cX1_skewPart 20 = .ok (.getfield 19, 3) := by decide +kernel
theorem dX1_skewPart_23 : decode cX1_skewPart 23 = .ok (.if_icmp .ge 71, 3) := by decide +kernel
theorem dX1_skewPart_26 : decode cX1_skewPart 26 = .ok (.aload_n 0, 1) := by decide +kernel
theorem dX1_skewPart_27 : decode cX1_skewPart 27 = .ok (.iload 12, 2) := by decide +kernel
theorem dX1_skewPart_29 : decode cX1_skewPart 29 = .ok (.invokevirtual 45, 3) := by decide +kernel
theorem dX1_skewPart_32 : decode cX1_skewPart 32 = .ok (.istore 13, 2) := by decide +kernel
theorem dX1_skewPart_34 : decode cX1_skewPart 34 = .ok (.iload 13, 2) := by decide +kernel
theorem dX1_skewPart_36 : decode cX1_skewPart 36 = .ok (.bipush (-9), 2) := by decide +kernel
theorem dX1_skewPart_38 : decode cX1_skewPart 38 = .ok (.if_icmp .ne 6, 3) := by decide +kernel
theorem dX1_skewPart_41 : decode cX1_skewPart 41 = .ok (.goto 47, 3) := by decide +kernel
theorem dX1_skewPart_44 : decode cX1_skewPart 44 = .ok (.lload_n 2, 1) := by decide +kernel
theorem dX1_skewPart_45 : decode cX1_skewPart 45 = .ok (.lconst 1, 1) := by decide +kernel
theorem dX1_skewPart_46 : decode cX1_skewPart 46 = .ok (.ladd, 1) := by decide +kernel
theorem dX1_skewPart_47 : decode cX1_skewPart 47 = .ok (.lstore_n 2, 1) := by decide +kernel
theorem dX1_skewPart_48 : decode cX1_skewPart 48 = .ok (.lload 4, 2) := by decide +kernel
theorem dX1_skewPart_50 : decode cX1_skewPart 50 = .ok (.iload 12, 2) := by decide +kernel
theorem dX1_skewPart_52 : decode cX1_skewPart 52 = .ok (.i2l, 1) := by decide +kernel
theorem dX1_skewPart_53 : decode cX1_skewPart 53 = .ok (.ladd, 1) := by decide +kernel
theorem dX1_skewPart_54 : decode cX1_skewPart 54 = .ok (.lstore 4, 2) := by decide +kernel
theorem dX1_skewPart_56 : decode cX1_skewPart 56 = .ok (.lload 6, 2) := by decide +kernel
theorem dX1_skewPart_58 : decode cX1_skewPart 58 = .ok (.iload 13, 2) := by decide +kernel
theorem dX1_skewPart_60 : decode cX1_skewPart 60 = .ok (.i2l, 1) := by decide +kernel
theorem dX1_skewPart_61 : decode cX1_skewPart 61 = .ok (.ladd, 1) := by decide +kernel
theorem dX1_skewPart_62 : decode cX1_skewPart 62 = .ok (.lstore 6, 2) := by decide +kernel
theorem dX1_skewPart_64 : decode cX1_skewPart 64 = .ok (.lload 8, 2) := by decide +kernel
theorem dX1_skewPart_66 : decode cX1_skewPart 66 = .ok (.iload 12, 2) := by decide +kernel
theorem dX1_skewPart_68 : decode cX1_skewPart 68 = .ok (.i2l, 1) := by decide +kernel
theorem dX1_skewPart_69 : decode cX1_skewPart 69 = .ok (.iload 13, 2) := by decide +kernel
theorem dX1_skewPart_71 : decode cX1_skewPart 71 = .ok (.i2l, 1) := by decide +kernel
theorem dX1_skewPart_72 : decode cX1_skewPart 72 = .ok (.lmul, 1) := by decide +kernel
theorem dX1_skewPart_73 : decode cX1_skewPart 73 = .ok (.ladd, 1) := by decide +kernel
theorem dX1_skewPart_74 : decode cX1_skewPart 74 = .ok (.lstore 8, 2) := by decide +kernel
theorem dX1_skewPart_76 : decode cX1_skewPart 76 = .ok (.lload 10, 2) := by decide +kernel
theorem dX1_skewPart_78 : decode cX1_skewPart 78 = .ok (.iload 12, 2) := by decide +kernel
theorem dX1_skewPart_80 : decode cX1_skewPart 80 = .ok (.i2l, 1) := by decide +kernel
theorem dX1_skewPart_81 : decode cX1_skewPart 81 = .ok (.iload 12, 2) := by decide +kernel
theorem dX1_skewPart_83 : decode cX1_skewPart 83 = .ok (.i2l, 1) := by decide +kernel
theorem dX1_skewPart_84 : decode cX1_skewPart 84 = .ok (.lmul, 1) := by decide +kernel
theorem dX1_skewPart_85 : decode cX1_skewPart 85 = .ok (.ladd, 1) := by decide +kernel
theorem dX1_skewPart_86 : decode cX1_skewPart 86 = .ok (.lstore 10, 2) := by decide +kernel
theorem dX1_skewPart_88 : decode cX1_skewPart 88 = .ok (.iinc 12 1, 3) := by decide +kernel
theorem dX1_skewPart_91 : decode cX1_skewPart 91 = .ok (.goto (-74), 3) := by decide +kernel
theorem dX1_skewPart_94 : decode cX1_skewPart 94 = .ok (.lload_n 2, 1) := by decide +kernel
theorem dX1_skewPart_95 : decode cX1_skewPart 95 = .ok (.ldc2_w 48, 3) := by decide +kernel
theorem dX1_skewPart_98 : decode cX1_skewPart 98 = .ok (.lcmp, 1) := by decide +kernel
theorem dX1_skewPart_99 : decode cX1_skewPart 99 = .ok (.ifCond .ge 7, 3) := by decide +kernel
theorem dX1_skewPart_102 : decode cX1_skewPart 102 = .ok (.ldc2_w 50, 3) := by decide +kernel
theorem dX1_skewPart_105 : decode cX1_skewPart 105 = .ok (.lreturn, 1) := by decide +kernel
theorem dX1_skewPart_106 : decode cX1_skewPart 106 = .ok (.lload_n 2, 1) := by decide +kernel
theorem dX1_skewPart_107 : decode cX1_skewPart 107 = .ok (.lload 8, 2) := by decide +kernel
theorem dX1_skewPart_109 : decode cX1_skewPart 109 = .ok (.lmul, 1) := by decide +kernel
theorem dX1_skewPart_110 : decode cX1_skewPart 110 = .ok (.lload 4, 2) := by decide +kernel
theorem dX1_skewPart_112 : decode cX1_skewPart 112 = .ok (.lload 6, 2) := by decide +kernel
theorem dX1_skewPart_114 : decode cX1_skewPart 114 = .ok (.lmul, 1) := by decide +kernel
theorem dX1_skewPart_115 : decode cX1_skewPart 115 = .ok (.lsub, 1) := by decide +kernel
theorem dX1_skewPart_116 : decode cX1_skewPart 116 = .ok (.lstore 12, 2) := by decide +kernel
theorem dX1_skewPart_118 : decode cX1_skewPart 118 = .ok (.lload_n 2, 1) := by decide +kernel
theorem dX1_skewPart_119 : decode cX1_skewPart 119 = .ok (.lload 10, 2) := by decide +kernel
theorem dX1_skewPart_121 : decode cX1_skewPart 121 = .ok (.lmul, 1) := by decide +kernel
theorem dX1_skewPart_122 : decode cX1_skewPart 122 = .ok (.lload 4, 2) := by decide +kernel
theorem dX1_skewPart_124 : decode cX1_skewPart 124 = .ok (.lload 4, 2) := by decide +kernel
theorem dX1_skewPart_126 : decode cX1_skewPart 126 = .ok (.lmul, 1) := by decide +kernel
theorem dX1_skewPart_127 : decode cX1_skewPart 127 = .ok (.lsub, 1) := by decide +kernel
theorem dX1_skewPart_128 : decode cX1_skewPart 128 = .ok (.lstore 14, 2) := by decide +kernel
theorem dX1_skewPart_130 : decode cX1_skewPart 130 = .ok (.lload 12, 2) := by decide +kernel
theorem dX1_skewPart_132 : decode cX1_skewPart 132 = .ok (.lload 14, 2) := by decide +kernel
theorem dX1_skewPart_134 : decode cX1_skewPart 134 = .ok (.invokestatic 52, 3) := by decide +kernel
theorem dX1_skewPart_137 : decode cX1_skewPart 137 = .ok (.lstore 16, 2) := by decide +kernel
theorem dX1_skewPart_139 : decode cX1_skewPart 139 = .ok (.lload 16, 2) := by decide +kernel
theorem dX1_skewPart_141 : decode cX1_skewPart 141 = .ok (.lconst 1, 1) := by decide +kernel
theorem dX1_skewPart_142 : decode cX1_skewPart 142 = .ok (.lcmp, 1) := by decide +kernel
theorem dX1_skewPart_143 : decode cX1_skewPart 143 = .ok (.ifCond .ge 7, 3) := by decide +kernel
theorem dX1_skewPart_146 : decode cX1_skewPart 146 = .ok (.ldc2_w 50, 3) := by decide +kernel
theorem dX1_skewPart_149 : decode cX1_skewPart 149 = .ok (.lreturn, 1) := by decide +kernel
theorem dX1_skewPart_150 : decode cX1_skewPart 150 = .ok (.iload_n 1, 1) := by decide +kernel
theorem dX1_skewPart_151 : decode cX1_skewPart 151 = .ok (.ifCond .eq 11, 3) := by decide +kernel
theorem dX1_skewPart_154 : decode cX1_skewPart 154 = .ok (.lload 14, 2) := by decide +kernel
theorem dX1_skewPart_156 : decode cX1_skewPart 156 = .ok (.lload 16, 2) := by decide +kernel
theorem dX1_skewPart_158 : decode cX1_skewPart 158 = .ok (.ldiv, 1) := by decide +kernel
theorem dX1_skewPart_159 : decode cX1_skewPart 159 = .ok (.goto 8, 3) := by decide +kernel
theorem dX1_skewPart_162 : decode cX1_skewPart 162 = .ok (.lload 12, 2) := by decide +kernel
theorem dX1_skewPart_164 : decode cX1_skewPart 164 = .ok (.lload 16, 2) := by decide +kernel
theorem dX1_skewPart_166 : decode cX1_skewPart 166 = .ok (.ldiv, 1) := by decide +kernel
theorem dX1_skewPart_167 : decode cX1_skewPart 167 = .ok (.lreturn, 1) := by decide +kernel
set_option maxRecDepth 20000 in
theorem ggX1_longestOf_X1_wayOut : GoodIn wsX1_longestOf wsX1_wayOut := goodIn_r _ [10, 11, 12, 13, 9, 14, 15, 16, 17, 18, 19, 20, 21, 22] (by decide +kernel) (by decide +kernel)
set_option maxRecDepth 20000 in
theorem gX1_longestOf_X1_wayOut : GoodIn wsX1_longestOf (wsV RX1 56 RX1 yX1_wayOut wsX1_wayOut) := goodIn_app (goodIn_of _ (by decide +kernel)) ggX1_longestOf_X1_wayOut
theorem dX1_longestOf_0 : decode cX1_longestOf 0 = .ok (.iconst 0, 1) := by decide +kernel
theorem dX1_longestOf_1 : decode cX1_longestOf 1 = .ok (.istore_n 2, 1) := by decide +kernel
theorem dX1_longestOf_2 : decode cX1_longestOf 2 = .ok (.iconst 0, 1) := by decide +kernel
theorem dX1_longestOf_3 : decode cX1_longestOf 3 = .ok (.istore_n 3, 1) := by decide +kernel
theorem dX1_longestOf_4 : decode cX1_longestOf 4 = .ok (.iconst 0, 1) := by decide +kernel
theorem dX1_longestOf_5 : decode cX1_longestOf 5 = .ok (.istore 4, 2) := by decide +kernel
theorem dX1_longestOf_7 : decode cX1_longestOf 7 = .ok (.iconst 0, 1) := by decide +kernel
theorem dX1_longestOf_8 : decode cX1_longestOf 8 = .ok (.istore 5, 2) := by decide +kernel
theorem dX1_longestOf_10 : decode cX1_longestOf 10 = .ok (.iload 5, 2) := by decide +kernel
theorem dX1_longestOf_12 : decode cX1_longestOf 12 = .ok (.aload_n 0, 1) := by decide +kernel
theorem dX1_longestOf_13 : decode cX1_longestOf 13 = .ok (.getfield 19, 3) := by decide +kernel
theorem dX1_longestOf_16 : decode cX1_longestOf 16 = .ok (.if_icmp .ge 53, 3) := by decide +kernel
theorem dX1_longestOf_19 : decode cX1_longestOf 19 = .ok (.aload_n 0, 1) := by decide +kernel
theorem dX1_longestOf_20 : decode cX1_longestOf 20 = .ok (.iload 5, 2) := by decide +kernel
theorem dX1_longestOf_22 : decode cX1_longestOf 22 = .ok (.iload_n 1, 1) := by decide +kernel
theorem dX1_longestOf_23 : decode cX1_longestOf 23 = .ok (.invokevirtual 56, 3) := by decide +kernel
theorem dX1_longestOf_26 : decode cX1_longestOf 26 = .ok (.istore 6, 2) := by decide +kernel
theorem dX1_longestOf_28 : decode cX1_longestOf 28 = .ok (.iload 6, 2) := by decide +kernel
theorem dX1_longestOf_30 : decode cX1_longestOf 30 = .ok (.ifCond .ne 8, 3) := by decide +kernel
theorem dX1_longestOf_33 : decode cX1_longestOf 33 = .ok (.iconst 0, 1) := by decide +kernel
theorem dX1_longestOf_34 : decode cX1_longestOf 34 = .ok (.istore_n 3, 1) := by decide +kernel
theorem dX1_longestOf_35 : decode cX1_longestOf 35 = .ok (.goto 18, 3) := by decide +kernel
theorem dX1_longestOf_38 : decode cX1_longestOf 38 = .ok (.iload 6, 2) := by decide +kernel
theorem dX1_longestOf_40 : decode cX1_longestOf 40 = .ok (.iload 4, 2) := by decide +kernel
theorem dX1_longestOf_42 : decode cX1_longestOf 42 = .ok (.if_icmp .ne 9, 3) := by decide +kernel
theorem dX1_longestOf_45 : decode cX1_longestOf 45 = .ok (.iinc 3 1, 3) := by decide +kernel
theorem dX1_longestOf_48 : decode cX1_longestOf 48 = .ok (.goto 5, 3) := by decide +kernel
theorem dX1_longestOf_51 : decode cX1_longestOf 51 = .ok (.iconst 1, 1) := by decide +kernel
theorem dX1_longestOf_52 : decode cX1_longestOf 52 = .ok (.istore_n 3, 1) := by decide +kernel
theorem dX1_longestOf_53 : decode cX1_longestOf 53 = .ok (.iload 6, 2) := by decide +kernel
theorem dX1_longestOf_55 : decode cX1_longestOf 55 = .ok (.istore 4, 2) := by decide +kernel
theorem dX1_longestOf_57 : decode cX1_longestOf 57 = .ok (.iload_n 2, 1) := by decide +kernel
theorem dX1_longestOf_58 : decode cX1_longestOf 58 = .ok (.iload_n 3, 1) := by decide +kernel
theorem dX1_longestOf_59 : decode cX1_longestOf 59 = .ok (.invokestatic 59, 3) := by decide +kernel
theorem dX1_longestOf_62 : decode cX1_longestOf 62 = .ok (.istore_n 2, 1) := by decide +kernel
theorem dX1_longestOf_63 : decode cX1_longestOf 63 = .ok (.iinc 5 1, 3) := by decide +kernel
theorem dX1_longestOf_66 : decode cX1_longestOf 66 = .ok (.goto (-56), 3) := by decide +kernel
theorem dX1_longestOf_69 : decode cX1_longestOf 69 = .ok (.iload_n 2, 1) := by decide +kernel
theorem dX1_longestOf_70 : decode cX1_longestOf 70 = .ok (.ireturn, 1) := by decide +kernel
set_option maxRecDepth 20000 in
theorem ggX1_wayOut_X1_greyOf : GoodIn wsX1_wayOut wsX1_greyOf := goodIn_r _ [5, 6, 7, 8, 9, 10, 11, 12, 13] (by decide +kernel) (by decide +kernel)
set_option maxRecDepth 20000 in
theorem gX1_wayOut_X1_greyOf : GoodIn wsX1_wayOut (wsV RX1 28 RX1 yX1_greyOf wsX1_greyOf) := goodIn_app (goodIn_of _ (by decide +kernel)) ggX1_wayOut_X1_greyOf
theorem dX1_wayOut_0 : decode cX1_wayOut 0 = .ok (.iload_n 2, 1) := by decide +kernel
theorem dX1_wayOut_1 : decode cX1_wayOut 1 = .ok (.iconst 1, 1) := by decide +kernel
theorem dX1_wayOut_2 : decode cX1_wayOut 2 = .ok (.if_icmp .lt 9, 3) := by decide +kernel
theorem dX1_wayOut_5 : decode cX1_wayOut 5 = .ok (.iload_n 2, 1) := by decide +kernel
theorem dX1_wayOut_6 : decode cX1_wayOut 6 = .ok (.bipush 10, 2) := by decide +kernel
theorem dX1_wayOut_8 : decode cX1_wayOut 8 = .ok (.if_icmp .le 5, 3) := by decide +kernel
theorem dX1_wayOut_11 : decode cX1_wayOut 11 = .ok (.iconst 0, 1) := by decide +kernel
theorem dX1_wayOut_12 : decode cX1_wayOut 12 = .ok (.ireturn, 1) := by decide +kernel
theorem dX1_wayOut_13 : decode cX1_wayOut 13 = .ok (.aload_n 0, 1) := by decide +kernel
theorem dX1_wayOut_14 : decode cX1_wayOut 14 = .ok (.iload_n 1, 1) := by decide +kernel
theorem dX1_wayOut_15 : decode cX1_wayOut 15 = .ok (.iload_n 2, 1) := by decide +kernel
theorem dX1_wayOut_16 : decode cX1_wayOut 16 = .ok (.iconst 1, 1) := by decide +kernel
theorem dX1_wayOut_17 : decode cX1_wayOut 17 = .ok (.isub, 1) := by decide +kernel
theorem dX1_wayOut_18 : decode cX1_wayOut 18 = .ok (.invokevirtual 28, 3) := by decide +kernel
theorem dX1_wayOut_21 : decode cX1_wayOut 21 = .ok (.istore_n 3, 1) := by decide +kernel
theorem dX1_wayOut_22 : decode cX1_wayOut 22 = .ok (.aload_n 0, 1) := by decide +kernel
theorem dX1_wayOut_23 : decode cX1_wayOut 23 = .ok (.iload_n 1, 1) := by decide +kernel
theorem dX1_wayOut_24 : decode cX1_wayOut 24 = .ok (.iload_n 2, 1) := by decide +kernel
theorem dX1_wayOut_25 : decode cX1_wayOut 25 = .ok (.invokevirtual 28, 3) := by decide +kernel
theorem dX1_wayOut_28 : decode cX1_wayOut 28 = .ok (.istore 4, 2) := by decide +kernel
theorem dX1_wayOut_30 : decode cX1_wayOut 30 = .ok (.aload_n 0, 1) := by decide +kernel
theorem dX1_wayOut_31 : decode cX1_wayOut 31 = .ok (.iload_n 1, 1) := by decide +kernel
theorem dX1_wayOut_32 : decode cX1_wayOut 32 = .ok (.iload_n 2, 1) := by decide +kernel
theorem dX1_wayOut_33 : decode cX1_wayOut 33 = .ok (.iconst 1, 1) := by decide +kernel
theorem dX1_wayOut_34 : decode cX1_wayOut 34 = .ok (.iadd, 1) := by decide +kernel
theorem dX1_wayOut_35 : decode cX1_wayOut 35 = .ok (.invokevirtual 28, 3) := by decide +kernel
theorem dX1_wayOut_38 : decode cX1_wayOut 38 = .ok (.istore 5, 2) := by decide +kernel
theorem dX1_wayOut_40 : decode cX1_wayOut 40 = .ok (.iload 4, 2) := by decide +kernel
theorem dX1_wayOut_42 : decode cX1_wayOut 42 = .ok (.iload_n 3, 1) := by decide +kernel
theorem dX1_wayOut_43 : decode cX1_wayOut 43 = .ok (.isub, 1) := by decide +kernel
theorem dX1_wayOut_44 : decode cX1_wayOut 44 = .ok (.bipush 24, 2) := by decide +kernel
theorem dX1_wayOut_46 : decode cX1_wayOut 46 = .ok (.if_icmp .lt 15, 3) := by decide +kernel
theorem dX1_wayOut_49 : decode cX1_wayOut 49 = .ok (.iload 4, 2) := by decide +kernel
theorem dX1_wayOut_51 : decode cX1_wayOut 51 = .ok (.iload 5, 2) := by decide +kernel
theorem dX1_wayOut_53 : decode cX1_wayOut 53 = .ok (.isub, 1) := by decide +kernel
theorem dX1_wayOut_54 : decode cX1_wayOut 54 = .ok (.bipush 24, 2) := by decide +kernel
theorem dX1_wayOut_56 : decode cX1_wayOut 56 = .ok (.if_icmp .lt 5, 3) := by decide +kernel
theorem dX1_wayOut_59 : decode cX1_wayOut 59 = .ok (.iconst 1, 1) := by decide +kernel
theorem dX1_wayOut_60 : decode cX1_wayOut 60 = .ok (.ireturn, 1) := by decide +kernel
theorem dX1_wayOut_61 : decode cX1_wayOut 61 = .ok (.iload_n 3, 1) := by decide +kernel
theorem dX1_wayOut_62 : decode cX1_wayOut 62 = .ok (.iload 4, 2) := by decide +kernel
theorem dX1_wayOut_64 : decode cX1_wayOut 64 = .ok (.isub, 1) := by decide +kernel
theorem dX1_wayOut_65 : decode cX1_wayOut 65 = .ok (.bipush 24, 2) := by decide +kernel
theorem dX1_wayOut_67 : decode cX1_wayOut 67 = .ok (.if_icmp .lt 15, 3) := by decide +kernel
theorem dX1_wayOut_70 : decode cX1_wayOut 70 = .ok (.iload 5, 2) := by decide +kernel
theorem dX1_wayOut_72 : decode cX1_wayOut 72 = .ok (.iload 4, 2) := by decide +kernel
theorem dX1_wayOut_74 : decode cX1_wayOut 74 = .ok (.isub, 1) := by decide +kernel
theorem dX1_wayOut_75 : decode cX1_wayOut 75 = .ok (.bipush 24, 2) := by decide +kernel
theorem dX1_wayOut_77 : decode cX1_wayOut 77 = .ok (.if_icmp .lt 5, 3) := by decide +kernel
theorem dX1_wayOut_80 : decode cX1_wayOut 80 = .ok (.iconst (-1), 1) := by decide +kernel
theorem dX1_wayOut_81 : decode cX1_wayOut 81 = .ok (.ireturn, 1) := by decide +kernel
theorem dX1_wayOut_82 : decode cX1_wayOut 82 = .ok (.iconst 0, 1) := by decide +kernel
theorem dX1_wayOut_83 : decode cX1_wayOut 83 = .ok (.ireturn, 1) := by decide +kernel
theorem dX2_within_0 : decode cX2_within 0 = .ok (.iload_n 0, 1) := by decide +kernel
theorem dX2_within_1 : decode cX2_within 1 = .ok (.iload_n 1, 1) := by decide +kernel
theorem dX2_within_2 : decode cX2_within 2 = .ok (.if_icmp .lt 12, 3) := by decide +kernel
theorem dX2_within_5 : decode cX2_within 5 = .ok (.iload_n 0, 1) := by decide +kernel
theorem dX2_within_6 : decode cX2_within 6 = .ok (.iload_n 2, 1) := by decide +kernel
theorem dX2_within_7 : decode cX2_within 7 = .ok (.if_icmp .gt 7, 3) := by decide +kernel
theorem dX2_within_10 : decode cX2_within 10 = .ok (.iconst 1, 1) := by decide +kernel
theorem dX2_within_11 : decode cX2_within 11 = .ok (.goto 4, 3) := by decide +kernel
theorem dX2_within_14 : decode cX2_within 14 = .ok (.iconst 0, 1) := by decide +kernel
theorem dX2_within_15 : decode cX2_within 15 = .ok (.ireturn, 1) := by decide +kernel
theorem dX2_atMostTop_0 : decode cX2_atMostTop 0 = .ok (.sipush 255, 3) := by decide +kernel
theorem dX2_atMostTop_3 : decode cX2_atMostTop 3 = .ok (.iload_n 0, 1) := by decide +kernel
theorem dX2_atMostTop_4 : decode cX2_atMostTop 4 = .ok (.invokestatic 9, 3) := by decide +kernel
theorem dX2_atMostTop_7 : decode cX2_atMostTop 7 = .ok (.ireturn, 1) := by decide +kernel
theorem dX2_rounded_0 : decode cX2_rounded 0 = .ok (.iload_n 1, 1) := by decide +kernel
theorem dX2_rounded_1 : decode cX2_rounded 1 = .ok (.iconst 1, 1) := by decide +kernel
theorem dX2_rounded_2 : decode cX2_rounded 2 = .ok (.if_icmp .ge 5, 3) := by decide +kernel
theorem dX2_rounded_5 : decode cX2_rounded 5 = .ok (.iconst 0, 1) := by decide +kernel
theorem dX2_rounded_6 : decode cX2_rounded 6 = .ok (.ireturn, 1) := by decide +kernel
theorem dX2_rounded_7 : decode cX2_rounded 7 = .ok (.iconst 2, 1) := by decide +kernel
theorem dX2_rounded_8 : decode cX2_rounded 8 = .ok (.iload_n 0, 1) := by decide +kernel
theorem dX2_rounded_9 : decode cX2_rounded 9 = .ok (.imul, 1) := by decide +kernel
theorem dX2_rounded_10 : decode cX2_rounded 10 = .ok (.iload_n 1, 1) := by decide +kernel
theorem dX2_rounded_11 : decode cX2_rounded 11 = .ok (.iadd, 1) := by decide +kernel
theorem dX2_rounded_12 : decode cX2_rounded 12 = .ok (.iconst 2, 1) := by decide +kernel
theorem dX2_rounded_13 : decode cX2_rounded 13 = .ok (.iload_n 1, 1) := by decide +kernel
theorem dX2_rounded_14 : decode cX2_rounded 14 = .ok (.imul, 1) := by decide +kernel
theorem dX2_rounded_15 : decode cX2_rounded 15 = .ok (.idiv, 1) := by decide +kernel
theorem dX2_rounded_16 : decode cX2_rounded 16 = .ok (.ireturn, 1) := by decide +kernel
theorem dX2_greatestDivisor_0 : decode cX2_greatestDivisor 0 = .ok (.lload_n 0, 1) := by decide +kernel
theorem dX2_greatestDivisor_1 : decode cX2_greatestDivisor 1 = .ok (.invokestatic 15, 3) := by decide +kernel
theorem dX2_greatestDivisor_4 : decode cX2_greatestDivisor 4 = .ok (.lstore 4, 2) := by decide +kernel
theorem dX2_greatestDivisor_6 : decode cX2_greatestDivisor 6 = .ok (.lload_n 2, 1) := by decide +kernel
theorem dX2_greatestDivisor_7 : decode cX2_greatestDivisor 7 = .ok (.invokestatic 15, 3) := by decide +kernel
theorem dX2_greatestDivisor_10 : decode cX2_greatestDivisor 10 = .ok (.lstore 6, 2) := by decide +kernel
theorem dX2_greatestDivisor_12 : decode cX2_greatestDivisor 12 = .ok (.iconst 0, 1) := by decide +kernel
theorem dX2_greatestDivisor_13 : decode cX2_greatestDivisor 13 = .ok (.istore 8, 2) := by decide +kernel
theorem dX2_greatestDivisor_15 : decode cX2_greatestDivisor 15 = .ok (.iload 8, 2) := by decide +kernel
theorem dX2_greatestDivisor_17 : decode cX2_greatestDivisor 17 = .ok (.sipush 200, 3) := by decide +kernel
theorem dX2_greatestDivisor_20 : decode cX2_greatestDivisor 20 = .ok (.if_icmp .ge 31, 3) := by decide +kernel
theorem dX2_greatestDivisor_23 : decode cX2_greatestDivisor 23 = .ok (.lload 6, 2) := by decide +kernel
theorem dX2_greatestDivisor_25 : decode cX2_greatestDivisor 25 = .ok (.lconst 0, 1) := by decide +kernel
theorem dX2_greatestDivisor_26 : decode cX2_greatestDivisor 26 = .ok (.lcmp, 1) := by decide +kernel
theorem dX2_greatestDivisor_27 : decode cX2_greatestDivisor 27 = .ok (.ifCond .eq 24, 3) := by decide +kernel
theorem dX2_greatestDivisor_30 : decode cX2_greatestDivisor 30 = .ok (.lload 4, 2) := by decide +kernel
theorem dX2_greatestDivisor_32 : decode cX2_greatestDivisor 32 = .ok (.lload 6, 2) := by decide +kernel
theorem dX2_greatestDivisor_34 : decode cX2_greatestDivisor 34 = .ok (.lrem, 1) := by decide +kernel
theorem dX2_greatestDivisor_35 : decode cX2_greatestDivisor 35 = .ok (.lstore 9, 2) := by decide +kernel
theorem dX2_greatestDivisor_37 : decode cX2_greatestDivisor 37 = .ok (.lload 6, 2) := by decide +kernel
theorem dX2_greatestDivisor_39 : decode cX2_greatestDivisor 39 = .ok (.lstore 4, 2) := by decide +kernel
theorem dX2_greatestDivisor_41 : decode cX2_greatestDivisor 41 = .ok (.lload 9, 2) := by decide +kernel
theorem dX2_greatestDivisor_43 : decode cX2_greatestDivisor 43 = .ok (.lstore 6, 2) := by decide +kernel
theorem dX2_greatestDivisor_45 : decode cX2_greatestDivisor 45 = .ok (.iinc 8 1, 3) := by decide +kernel
theorem dX2_greatestDivisor_48 : decode cX2_greatestDivisor 48 = .ok (.goto (-33), 3) := by decide +kernel
theorem dX2_greatestDivisor_51 : decode cX2_greatestDivisor 51 = .ok (.lload 4, 2) := by decide +kernel
theorem dX2_greatestDivisor_53 : decode cX2_greatestDivisor 53 = .ok (.lreturn, 1) := by decide +kernel
