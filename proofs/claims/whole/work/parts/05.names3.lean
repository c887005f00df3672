set_option maxRecDepth 20000 in
theorem ggX6_init_X0_init : GoodIn wsX6_init wsX0_init := goodIn_r _ [28, 29, 2, 3, 24, 30, 31, 32, 33, 64, 65, 66, 67] (by decide +kernel) (by decide +kernel)
set_option maxRecDepth 20000 in
theorem gX6_init_X0_init : GoodIn wsX6_init (wsX0_init) := ggX6_init_X0_init
set_option maxRecDepth 20000 in
theorem ggX6_init_X3_init : GoodIn wsX6_init wsX3_init := goodIn_r _ [36, 37, 2, 3, 38, 24, 39, 40, 41, 42, 43, 44, 45, 74, 75, 76, 77, 78, 79, 80, 81, 82] (by decide +kernel) (by decide +kernel)
set_option maxRecDepth 20000 in
theorem gX6_init_X3_init : GoodIn wsX6_init (wsX3_init) := ggX6_init_X3_init
set_option maxRecDepth 20000 in
theorem ggX6_init_X4_init : GoodIn wsX6_init wsX4_init := goodIn_r _ [48, 49, 2, 3, 24, 50, 51, 83, 84, 85] (by decide +kernel) (by decide +kernel)
set_option maxRecDepth 20000 in
theorem gX6_init_X4_init : GoodIn wsX6_init (wsX4_init) := ggX6_init_X4_init
set_option maxRecDepth 20000 in
theorem ggX6_init_X5_init : GoodIn wsX6_init wsX5_init := goodIn_r _ [54, 55, 2, 3, 56, 57, 86, 87, 88, 89, 90, 91, 92, 93, 94, 95, 96] (by decide +kernel) (by decide +kernel)
set_option maxRecDepth 20000 in
theorem gX6_init_X5_init : GoodIn wsX6_init (wsX5_init) := ggX6_init_X5_init
set_option maxRecDepth 20000 in
theorem ggX6_init_X1_init : GoodIn wsX6_init wsX1_init := goodIn_r _ [60, 61, 2, 3, 62, 24, 63, 97, 98, 99] (by decide +kernel) (by decide +kernel)
set_option maxRecDepth 20000 in
theorem gX6_init_X1_init : GoodIn wsX6_init (wsX1_init) := ggX6_init_X1_init
theorem dX6_init_0 : decode cX6_init 0 = .ok (.aload_n 0, 1) := by decide +kernel
theorem dX6_init_1 : decode cX6_init 1 = .ok (.invokespecial 5, 3) := by decide +kernel
theorem dX6_init_4 : decode cX6_init 4 = .ok (.aload_n 0, 1) := by decide +kernel
theorem dX6_init_5 : decode cX6_init 5 = .ok (.new 11, 3) := by decide +kernel
theorem dX6_init_8 : decode cX6_init 8 = .ok (.dup, 1) := by decide +kernel
theorem dX6_init_9 : decode cX6_init 9 = .ok (.invokespecial 13, 3) := by decide +kernel
theorem dX6_init_12 : decode cX6_init 12 = .ok (.putfield 14, 3) := by decide +kernel
theorem dX6_init_15 : decode cX6_init 15 = .ok (.aload_n 0, 1) := by decide +kernel
theorem dX6_init_16 : decode cX6_init 16 = .ok (.new 18, 3) := by decide +kernel
theorem dX6_init_19 : decode cX6_init 19 = .ok (.dup, 1) := by decide +kernel
theorem dX6_init_20 : decode cX6_init 20 = .ok (.invokespecial 20, 3) := by decide +kernel
theorem dX6_init_23 : decode cX6_init 23 = .ok (.putfield 21, 3) := by decide +kernel
theorem dX6_init_26 : decode cX6_init 26 = .ok (.aload_n 0, 1) := by decide +kernel
theorem dX6_init_27 : decode cX6_init 27 = .ok (.new 25, 3) := by decide +kernel
theorem dX6_init_30 : decode cX6_init 30 = .ok (.dup, 1) := by decide +kernel
theorem dX6_init_31 : decode cX6_init 31 = .ok (.invokespecial 27, 3) := by decide +kernel
theorem dX6_init_34 : decode cX6_init 34 = .ok (.putfield 28, 3) := by decide +kernel
theorem dX6_init_37 : decode cX6_init 37 = .ok (.aload_n 0, 1) := by decide +kernel
theorem dX6_init_38 : decode cX6_init 38 = .ok (.new 32, 3) := by decide +kernel
theorem dX6_init_41 : decode cX6_init 41 = .ok (.dup, 1) := by decide +kernel
theorem dX6_init_42 : decode cX6_init 42 = .ok (.invokespecial 34, 3) := by decide +kernel
theorem dX6_init_45 : decode cX6_init 45 = .ok (.putfield 35, 3) := by decide +kernel
theorem dX6_init_48 : decode cX6_init 48 = .ok (.aload_n 0, 1) := by decide +kernel
theorem dX6_init_49 : decode cX6_init 49 = .ok (.new 39, 3) := by decide +kernel
theorem dX6_init_52 : decode cX6_init 52 = .ok (.dup, 1) := by decide +kernel
theorem dX6_init_53 : decode cX6_init 53 = .ok (.invokespecial 41, 3) := by decide +kernel
theorem dX6_init_56 : decode cX6_init 56 = .ok (.putfield 42, 3) := by decide +kernel
theorem dX6_init_59 : decode cX6_init 59 = .ok (.aload_n 0, 1) := by decide +kernel
theorem dX6_init_60 : decode cX6_init 60 = .ok (.iconst 3, 1) := by decide +kernel
theorem dX6_init_61 : decode cX6_init 61 = .ok (.newarray .int, 2) := by decide +kernel
theorem dX6_init_63 : decode cX6_init 63 = .ok (.putfield 46, 3) := by decide +kernel
theorem dX6_init_66 : decode cX6_init 66 = .ok (.return_, 1) := by decide +kernel
set_option maxRecDepth 20000 in
theorem ggX6_cell_X6_isCell : GoodIn wsX6_cell wsX6_isCell := goodIn_r _ [9, 10, 11, 8, 12, 13, 14, 15, 16, 17, 18, 19] (by decide +kernel) (by decide +kernel)
set_option maxRecDepth 20000 in
theorem gX6_cell_X6_isCell : GoodIn wsX6_cell (va_wsS RX6 50 yX6_isCell wsX6_isCell) := goodIn_app (goodIn_of _ (by decide +kernel)) ggX6_cell_X6_isCell
set_option maxRecDepth 20000 in
theorem ggX6_cell_X2_within : GoodIn wsX6_cell wsX2_within := goodIn_r _ [16] (by decide +kernel) (by decide +kernel)
set_option maxRecDepth 20000 in
theorem gX6_cell_X2_within : GoodIn wsX6_cell (va_wsS RX6 54 yX2_within wsX2_within) := goodIn_app (goodIn_of _ (by decide +kernel)) ggX6_cell_X2_within
set_option maxRecDepth 20000 in
theorem ggX6_cell_X0_place : GoodIn wsX6_cell wsX0_place := goodIn_r _ [23] (by decide +kernel) (by decide +kernel)
set_option maxRecDepth 20000 in
theorem gX6_cell_X0_place : GoodIn wsX6_cell (va_wsS RX6 64 yX0_place wsX0_place) := goodIn_app (goodIn_of _ (by decide +kernel)) ggX6_cell_X0_place
theorem dX6_cell_0 : decode cX6_cell 0 = .ok (.iload_n 1, 1) := by decide +kernel
theorem dX6_cell_1 : decode cX6_cell 1 = .ok (.iload_n 2, 1) := by decide +kernel
theorem dX6_cell_2 : decode cX6_cell 2 = .ok (.invokestatic 50, 3) := by decide +kernel
theorem dX6_cell_5 : decode cX6_cell 5 = .ok (.ifCond .ne 5, 3) := by decide +kernel
theorem dX6_cell_8 : decode cX6_cell 8 = .ok (.iconst (-1), 1) := by decide +kernel
theorem dX6_cell_9 : decode cX6_cell 9 = .ok (.ireturn, 1) := by decide +kernel
theorem dX6_cell_10 : decode cX6_cell 10 = .ok (.iload_n 3, 1) := by decide +kernel
theorem dX6_cell_11 : decode cX6_cell 11 = .ok (.iconst 0, 1) := by decide +kernel
theorem dX6_cell_12 : decode cX6_cell 12 = .ok (.bipush 63, 2) := by decide +kernel
theorem dX6_cell_14 : decode cX6_cell 14 = .ok (.invokestatic 54, 3) := by decide +kernel
theorem dX6_cell_17 : decode cX6_cell 17 = .ok (.ifCond .eq 14, 3) := by decide +kernel
theorem dX6_cell_20 : decode cX6_cell 20 = .ok (.iload 4, 2) := by decide +kernel
theorem dX6_cell_22 : decode cX6_cell 22 = .ok (.iconst 0, 1) := by decide +kernel
theorem dX6_cell_23 : decode cX6_cell 23 = .ok (.bipush 127, 2) := by decide +kernel
theorem dX6_cell_25 : decode cX6_cell 25 = .ok (.invokestatic 54, 3) := by decide +kernel
theorem dX6_cell_28 : decode cX6_cell 28 = .ok (.ifCond .ne 6, 3) := by decide +kernel
theorem dX6_cell_31 : decode cX6_cell 31 = .ok (.bipush (-2), 2) := by decide +kernel
theorem dX6_cell_33 : decode cX6_cell 33 = .ok (.ireturn, 1) := by decide +kernel
theorem dX6_cell_34 : decode cX6_cell 34 = .ok (.aload_n 0, 1) := by decide +kernel
theorem dX6_cell_35 : decode cX6_cell 35 = .ok (.getfield 35, 3) := by decide +kernel
theorem dX6_cell_38 : decode cX6_cell 38 = .ok (.getfield 60, 3) := by decide +kernel
theorem dX6_cell_41 : decode cX6_cell 41 = .ok (.ifCond .eq 6, 3) := by decide +kernel
theorem dX6_cell_44 : decode cX6_cell 44 = .ok (.bipush (-3), 2) := by decide +kernel
theorem dX6_cell_46 : decode cX6_cell 46 = .ok (.ireturn, 1) := by decide +kernel
theorem dX6_cell_47 : decode cX6_cell 47 = .ok (.iload_n 1, 1) := by decide +kernel
theorem dX6_cell_48 : decode cX6_cell 48 = .ok (.iload_n 2, 1) := by decide +kernel
theorem dX6_cell_49 : decode cX6_cell 49 = .ok (.invokestatic 64, 3) := by decide +kernel
theorem dX6_cell_52 : decode cX6_cell 52 = .ok (.istore 5, 2) := by decide +kernel
theorem dX6_cell_54 : decode cX6_cell 54 = .ok (.aload_n 0, 1) := by decide +kernel
theorem dX6_cell_55 : decode cX6_cell 55 = .ok (.getfield 14, 3) := by decide +kernel
theorem dX6_cell_58 : decode cX6_cell 58 = .ok (.getfield 68, 3) := by decide +kernel
theorem dX6_cell_61 : decode cX6_cell 61 = .ok (.iload 5, 2) := by decide +kernel
theorem dX6_cell_63 : decode cX6_cell 63 = .ok (.iload_n 3, 1) := by decide +kernel
theorem dX6_cell_64 : decode cX6_cell 64 = .ok (.iastore, 1) := by decide +kernel
theorem dX6_cell_65 : decode cX6_cell 65 = .ok (.aload_n 0, 1) := by decide +kernel
theorem dX6_cell_66 : decode cX6_cell 66 = .ok (.getfield 14, 3) := by decide +kernel
theorem dX6_cell_69 : decode cX6_cell 69 = .ok (.getfield 71, 3) := by decide +kernel
theorem dX6_cell_72 : decode cX6_cell 72 = .ok (.iload 5, 2) := by decide +kernel
theorem dX6_cell_74 : decode cX6_cell 74 = .ok (.iload 4, 2) := by decide +kernel
theorem dX6_cell_76 : decode cX6_cell 76 = .ok (.iastore, 1) := by decide +kernel
theorem dX6_cell_77 : decode cX6_cell 77 = .ok (.iconst 1, 1) := by decide +kernel
theorem dX6_cell_78 : decode cX6_cell 78 = .ok (.ireturn, 1) := by decide +kernel
set_option maxRecDepth 20000 in
theorem ggX6_strip_X2_within : GoodIn wsX6_strip wsX2_within := goodIn_r _ [7] (by decide +kernel) (by decide +kernel)
set_option maxRecDepth 20000 in
theorem gX6_strip_X2_within : GoodIn wsX6_strip (va_wsS RX6 54 yX2_within wsX2_within) := goodIn_app (goodIn_of _ (by decide +kernel)) ggX6_strip_X2_within
set_option maxRecDepth 20000 in
theorem ggX6_strip_X0_readStrip : GoodIn wsX6_strip wsX0_readStrip := goodIn_r _ [12, 13, 14, 15, 16, 17, 11, 18, 19, 20, 21, 22, 6, 23, 24, 25, 26, 27, 53, 54, 55, 56] (by decide +kernel) (by decide +kernel)
set_option maxRecDepth 20000 in
theorem gX6_strip_X0_readStrip : GoodIn wsX6_strip (wsV RX6 74 RX0 yX0_readStrip wsX0_readStrip) := goodIn_app (goodIn_of _ (by decide +kernel)) ggX6_strip_X0_readStrip
set_option maxRecDepth 20000 in
theorem ggX6_strip_X0_countLive : GoodIn wsX6_strip wsX0_countLive := goodIn_r _ [31, 32, 33, 34, 11, 35, 13, 14, 53, 54, 55, 56] (by decide +kernel) (by decide +kernel)
set_option maxRecDepth 20000 in
theorem gX6_strip_X0_countLive : GoodIn wsX6_strip (wsV RX6 78 RX0 yX0_countLive wsX0_countLive) := goodIn_app (goodIn_of _ (by decide +kernel)) ggX6_strip_X0_countLive
theorem dX6_strip_0 : decode cX6_strip 0 = .ok (.iload_n 1, 1) := by decide +kernel
theorem dX6_strip_1 : decode cX6_strip 1 = .ok (.iconst 0, 1) := by decide +kernel
theorem dX6_strip_2 : decode cX6_strip 2 = .ok (.iconst 1, 1) := by decide +kernel
theorem dX6_strip_3 : decode cX6_strip 3 = .ok (.invokestatic 54, 3) := by decide +kernel
theorem dX6_strip_6 : decode cX6_strip 6 = .ok (.ifCond .ne 6, 3) := by decide +kernel
theorem dX6_strip_9 : decode cX6_strip 9 = .ok (.bipush (-2), 2) := by decide +kernel
theorem dX6_strip_11 : decode cX6_strip 11 = .ok (.ireturn, 1) := by decide +kernel
theorem dX6_strip_12 : decode cX6_strip 12 = .ok (.aload_n 0, 1) := by decide +kernel
theorem dX6_strip_13 : decode cX6_strip 13 = .ok (.getfield 35, 3) := by decide +kernel
theorem dX6_strip_16 : decode cX6_strip 16 = .ok (.getfield 60, 3) := by decide +kernel
theorem dX6_strip_19 : decode cX6_strip 19 = .ok (.ifCond .eq 6, 3) := by decide +kernel
theorem dX6_strip_22 : decode cX6_strip 22 = .ok (.bipush (-3), 2) := by decide +kernel
theorem dX6_strip_24 : decode cX6_strip 24 = .ok (.ireturn, 1) := by decide +kernel
theorem dX6_strip_25 : decode cX6_strip 25 = .ok (.aload_n 0, 1) := by decide +kernel
theorem dX6_strip_26 : decode cX6_strip 26 = .ok (.getfield 14, 3) := by decide +kernel
theorem dX6_strip_29 : decode cX6_strip 29 = .ok (.iload_n 1, 1) := by decide +kernel
theorem dX6_strip_30 : decode cX6_strip 30 = .ok (.iconst 1, 1) := by decide +kernel
theorem dX6_strip_31 : decode cX6_strip 31 = .ok (.if_icmp .ne 7, 3) := by decide +kernel
theorem dX6_strip_34 : decode cX6_strip 34 = .ok (.iconst 1, 1) := by decide +kernel
theorem dX6_strip_35 : decode cX6_strip 35 = .ok (.goto 4, 3) := by decide +kernel
theorem dX6_strip_38 : decode cX6_strip 38 = .ok (.iconst 0, 1) := by decide +kernel
theorem dX6_strip_39 : decode cX6_strip 39 = .ok (.invokevirtual 74, 3) := by decide +kernel
theorem dX6_strip_42 : decode cX6_strip 42 = .ok (.aload_n 0, 1) := by decide +kernel
theorem dX6_strip_43 : decode cX6_strip 43 = .ok (.getfield 14, 3) := by decide +kernel
theorem dX6_strip_46 : decode cX6_strip 46 = .ok (.invokevirtual 78, 3) := by decide +kernel
theorem dX6_strip_49 : decode cX6_strip 49 = .ok (.ireturn, 1) := by decide +kernel
set_option maxRecDepth 20000 in
theorem ggX6_ofCell_X6_isCell : GoodIn wsX6_ofCell wsX6_isCell := goodIn_r _ [9, 10, 11, 8, 12, 13, 14, 15, 16, 17, 18, 19] (by decide +kernel) (by decide +kernel)
set_option maxRecDepth 20000 in
theorem gX6_ofCell_X6_isCell : GoodIn wsX6_ofCell (va_wsS RX6 50 yX6_isCell wsX6_isCell) := goodIn_app (goodIn_of _ (by decide +kernel)) ggX6_ofCell_X6_isCell
set_option maxRecDepth 20000 in
theorem ggX6_ofCell_X0_place : GoodIn wsX6_ofCell wsX0_place := goodIn_r _ [23] (by decide +kernel) (by decide +kernel)
set_option maxRecDepth 20000 in
theorem gX6_ofCell_X0_place : GoodIn wsX6_ofCell (va_wsS RX6 64 yX0_place wsX0_place) := goodIn_app (goodIn_of _ (by decide +kernel)) ggX6_ofCell_X0_place
set_option maxRecDepth 20000 in
theorem ggX6_ofCell_X0_isLive : GoodIn wsX6_ofCell wsX0_isLive := goodIn_r _ [27, 28, 29, 36, 37, 38, 39] (by decide +kernel) (by decide +kernel)
set_option maxRecDepth 20000 in
theorem gX6_ofCell_X0_isLive : GoodIn wsX6_ofCell (wsV RX6 88 RX0 yX0_isLive wsX0_isLive) := goodIn_app (goodIn_of _ (by decide +kernel)) ggX6_ofCell_X0_isLive
theorem dX6_ofCell_0 : decode cX6_ofCell 0 = .ok (.iload_n 1, 1) := by decide +kernel
theorem dX6_ofCell_1 : decode cX6_ofCell 1 = .ok (.iload_n 2, 1) := by decide +kernel
theorem dX6_ofCell_2 : decode cX6_ofCell 2 = .ok (.invokestatic 50, 3) := by decide +kernel
theorem dX6_ofCell_5 : decode cX6_ofCell 5 = .ok (.ifCond .ne 5, 3) := by decide +kernel
theorem dX6_ofCell_8 : decode cX6_ofCell 8 = .ok (.iconst (-1), 1) := by decide +kernel
theorem dX6_ofCell_9 : decode cX6_ofCell 9 = .ok (.ireturn, 1) := by decide +kernel
theorem dX6_ofCell_10 : decode cX6_ofCell 10 = .ok (.iload_n 1, 1) := by decide +kernel
theorem dX6_ofCell_11 : decode cX6_ofCell 11 = .ok (.iload_n 2, 1) := by decide +kernel
theorem dX6_ofCell_12 : decode cX6_ofCell 12 = .ok (.invokestatic 64, 3) := by decide +kernel
theorem dX6_ofCell_15 : decode cX6_ofCell 15 = .ok (.istore 4, 2) := by decide +kernel
theorem dX6_ofCell_17 : decode cX6_ofCell 17 = .ok (.iload_n 3, 1) := by decide +kernel
theorem dX6_ofCell_18 : decode cX6_ofCell 18 = .ok (.tableswitch 96 0 4 #[34, 45, 56, 67, 78], 34) := by decide +kernel
theorem dX6_ofCell_52 : decode cX6_ofCell 52 = .ok (.aload_n 0, 1) := by decide +kernel
theorem dX6_ofCell_53 : decode cX6_ofCell 53 = .ok (.getfield 14, 3) := by decide +kernel
theorem dX6_ofCell_56 : decode cX6_ofCell 56 = .ok (.getfield 68, 3) := by decide +kernel
theorem dX6_ofCell_59 : decode cX6_ofCell 59 = .ok (.iload 4, 2) := by decide +kernel
theorem dX6_ofCell_61 : decode cX6_ofCell 61 = .ok (.iaload, 1) := by decide +kernel
theorem dX6_ofCell_62 : decode cX6_ofCell 62 = .ok (.ireturn, 1) := by decide +kernel
theorem dX6_ofCell_63 : decode cX6_ofCell 63 = .ok (.aload_n 0, 1) := by decide +kernel
theorem dX6_ofCell_64 : decode cX6_ofCell 64 = .ok (.getfield 14, 3) := by decide +kernel
theorem dX6_ofCell_67 : decode cX6_ofCell 67 = .ok (.getfield 71, 3) := by decide +kernel
theorem dX6_ofCell_70 : decode cX6_ofCell 70 = .ok (.iload 4, 2) := by decide +kernel
theorem dX6_ofCell_72 : decode cX6_ofCell 72 = .ok (.iaload, 1) := by decide +kernel
theorem dX6_ofCell_73 : decode cX6_ofCell 73 = .ok (.ireturn, 1) := by decide +kernel
theorem dX6_ofCell_74 : decode cX6_ofCell 74 = .ok (.aload_n 0, 1) := by decide +kernel
theorem dX6_ofCell_75 : decode cX6_ofCell 75 = .ok (.getfield 14, 3) := by decide +kernel
theorem dX6_ofCell_78 : decode cX6_ofCell 78 = .ok (.getfield 82, 3) := by decide +kernel
theorem dX6_ofCell_81 : decode cX6_ofCell 81 = .ok (.iload 4, 2) := by decide +kernel
theorem dX6_ofCell_83 : decode cX6_ofCell 83 = .ok (.iaload, 1) := by decide +kernel
theorem dX6_ofCell_84 : decode cX6_ofCell 84 = .ok (.ireturn, 1) := by decide +kernel
theorem dX6_ofCell_85 : decode cX6_ofCell 85 = .ok (.aload_n 0, 1) := by decide +kernel
theorem dX6_ofCell_86 : decode cX6_ofCell 86 = .ok (.getfield 14, 3) := by decide +kernel
theorem dX6_ofCell_89 : decode cX6_ofCell 89 = .ok (.getfield 85, 3) := by decide +kernel
theorem dX6_ofCell_92 : decode cX6_ofCell 92 = .ok (.iload 4, 2) := by decide +kernel
theorem dX6_ofCell_94 : decode cX6_ofCell 94 = .ok (.iaload, 1) := by decide +kernel
theorem dX6_ofCell_95 : decode cX6_ofCell 95 = .ok (.ireturn, 1) := by decide +kernel
theorem dX6_ofCell_96 : decode cX6_ofCell 96 = .ok (.aload_n 0, 1) := by decide +kernel
theorem dX6_ofCell_97 : decode cX6_ofCell 97 = .ok (.getfield 14, 3) := by decide +kernel
theorem dX6_ofCell_100 : decode cX6_ofCell 100 = .ok (.iload 4, 2) := by decide +kernel
theorem dX6_ofCell_102 : decode cX6_ofCell 102 = .ok (.invokevirtual 88, 3) := by decide +kernel
theorem dX6_ofCell_105 : decode cX6_ofCell 105 = .ok (.ifCond .eq 7, 3) := by decide +kernel
theorem dX6_ofCell_108 : decode cX6_ofCell 108 = .ok (.iconst 1, 1) := by decide +kernel
theorem dX6_ofCell_109 : decode cX6_ofCell 109 = .ok (.goto 4, 3) := by decide +kernel
theorem dX6_ofCell_112 : decode cX6_ofCell 112 = .ok (.iconst 0, 1) := by decide +kernel
theorem dX6_ofCell_113 : decode cX6_ofCell 113 = .ok (.ireturn, 1) := by decide +kernel
theorem dX6_ofCell_114 : decode cX6_ofCell 114 = .ok (.bipush (-2), 2) := by decide +kernel
theorem dX6_ofCell_116 : decode cX6_ofCell 116 = .ok (.ireturn, 1) := by decide +kernel
set_option maxRecDepth 20000 in
theorem ggX6_reading_X6_isCell : GoodIn wsX6_reading wsX6_isCell := goodIn_r _ [5, 6, 7, 4, 8, 9, 10, 11, 12, 13, 14, 15] (by decide +kernel) (by decide +kernel)
set_option maxRecDepth 20000 in
theorem gX6_reading_X6_isCell : GoodIn wsX6_reading (va_wsS RX6 50 yX6_isCell wsX6_isCell) := goodIn_app (goodIn_of _ (by decide +kernel)) ggX6_reading_X6_isCell
set_option maxRecDepth 20000 in
theorem ggX6_reading_X2_within : GoodIn wsX6_reading wsX2_within := goodIn_r _ [12] (by decide +kernel) (by decide +kernel)
set_option maxRecDepth 20000 in
theorem gX6_reading_X2_within : GoodIn wsX6_reading (va_wsS RX6 54 yX2_within wsX2_within) := goodIn_app (goodIn_of _ (by decide +kernel)) ggX6_reading_X2_within
set_option maxRecDepth 20000 in
theorem ggX6_reading_X0_place : GoodIn wsX6_reading wsX0_place := goodIn_r _ [19] (by decide +kernel) (by decide +kernel)
set_option maxRecDepth 20000 in
theorem gX6_reading_X0_place : GoodIn wsX6_reading (va_wsS RX6 64 yX0_place wsX0_place) := goodIn_app (goodIn_of _ (by decide +kernel)) ggX6_reading_X0_place
set_option maxRecDepth 20000 in
theorem ggX6_reading_X0_readingOf : GoodIn wsX6_reading wsX0_readingOf := goodIn_r _ [23, 24, 25, 26, 27, 11, 28, 29, 30, 31, 32, 39, 40, 41, 42] (by decide +kernel) (by decide +kernel)
set_option maxRecDepth 20000 in
theorem gX6_reading_X0_readingOf : GoodIn wsX6_reading (wsV RX6 92 RX0 yX0_readingOf wsX0_readingOf) := goodIn_app (goodIn_of _ (by decide +kernel)) ggX6_reading_X0_readingOf
theorem dX6_reading_0 : decode cX6_reading 0 = .ok (.iload_n 1, 1) := by decide +kernel
theorem dX6_reading_1 : decode cX6_reading 1 = .ok (.iload_n 2, 1) := by decide +kernel
theorem dX6_reading_2 : decode cX6_reading 2 = .ok (.invokestatic 50, 3) := by decide +kernel
theorem dX6_reading_5 : decode cX6_reading 5 = .ok (.ifCond .ne 5, 3) := by decide +kernel
theorem dX6_reading_8 : decode cX6_reading 8 = .ok (.iconst (-1), 1) := by decide +kernel
theorem dX6_reading_9 : decode cX6_reading 9 = .ok (.ireturn, 1) := by decide +kernel
theorem dX6_reading_10 : decode cX6_reading 10 = .ok (.iload_n 3, 1) := by decide +kernel
theorem dX6_reading_11 : decode cX6_reading 11 = .ok (.iconst 0, 1) := by decide +kernel
theorem dX6_reading_12 : decode cX6_reading 12 = .ok (.sipush 255, 3) := by decide +kernel
theorem dX6_reading_15 : decode cX6_reading 15 = .ok (.invokestatic 54, 3) := by decide +kernel
theorem dX6_reading_18 : decode cX6_reading 18 = .ok (.ifCond .ne 6, 3) := by decide +kernel
theorem dX6_reading_21 : decode cX6_reading 21 = .ok (.bipush (-2), 2) := by decide +kernel
theorem dX6_reading_23 : decode cX6_reading 23 = .ok (.ireturn, 1) := by decide +kernel
theorem dX6_reading_24 : decode cX6_reading 24 = .ok (.aload_n 0, 1) := by decide +kernel
theorem dX6_reading_25 : decode cX6_reading 25 = .ok (.getfield 14, 3) := by decide +kernel
theorem dX6_reading_28 : decode cX6_reading 28 = .ok (.iload_n 1, 1) := by decide +kernel
theorem dX6_reading_29 : decode cX6_reading 29 = .ok (.iload_n 2, 1) := by decide +kernel
theorem dX6_reading_30 : decode cX6_reading 30 = .ok (.invokestatic 64, 3) := by decide +kernel
theorem dX6_reading_33 : decode cX6_reading 33 = .ok (.iload_n 3, 1) := by decide +kernel
theorem dX6_reading_34 : decode cX6_reading 34 = .ok (.invokevirtual 92, 3) := by decide +kernel
theorem dX6_reading_37 : decode cX6_reading 37 = .ok (.ireturn, 1) := by decide +kernel
set_option maxRecDepth 20000 in
theorem ggX6_even_X6_isCell : GoodIn wsX6_even wsX6_isCell := goodIn_r _ [5, 6, 7, 4, 8, 9, 10, 11, 12, 13, 14, 15] (by decide +kernel) (by decide +kernel)
set_option maxRecDepth 20000 in
theorem gX6_even_X6_isCell : GoodIn wsX6_even (va_wsS RX6 50 yX6_isCell wsX6_isCell) := goodIn_app (goodIn_of _ (by decide +kernel)) ggX6_even_X6_isCell
set_option maxRecDepth 20000 in
theorem ggX6_even_X2_within : GoodIn wsX6_even wsX2_within := goodIn_r _ [12] (by decide +kernel) (by decide +kernel)
set_option maxRecDepth 20000 in
theorem gX6_even_X2_within : GoodIn wsX6_even (va_wsS RX6 54 yX2_within wsX2_within) := goodIn_app (goodIn_of _ (by decide +kernel)) ggX6_even_X2_within
set_option maxRecDepth 20000 in
theorem ggX6_even_X0_place : GoodIn wsX6_even wsX0_place := goodIn_r _ [19] (by decide +kernel) (by decide +kernel)
set_option maxRecDepth 20000 in
theorem gX6_even_X0_place : GoodIn wsX6_even (va_wsS RX6 64 yX0_place wsX0_place) := goodIn_app (goodIn_of _ (by decide +kernel)) ggX6_even_X0_place
set_option maxRecDepth 20000 in
theorem ggX6_even_X0_isLive : GoodIn wsX6_even wsX0_isLive := goodIn_r _ [23, 24, 25, 46, 47, 48, 49] (by decide +kernel) (by decide +kernel)
set_option maxRecDepth 20000 in
theorem gX6_even_X0_isLive : GoodIn wsX6_even (wsV RX6 88 RX0 yX0_isLive wsX0_isLive) := goodIn_app (goodIn_of _ (by decide +kernel)) ggX6_even_X0_isLive
set_option maxRecDepth 20000 in
theorem ggX6_even_X0_evenOf : GoodIn wsX6_even wsX0_evenOf := goodIn_r _ [29, 25, 24, 30, 31, 11, 32, 33, 34, 35, 36, 37, 38, 39, 46, 47, 48, 49] (by decide +kernel) (by decide +kernel)
set_option maxRecDepth 20000 in
theorem gX6_even_X0_evenOf : GoodIn wsX6_even (wsV RX6 95 RX0 yX0_evenOf wsX0_evenOf) := goodIn_app (goodIn_of _ (by decide +kernel)) ggX6_even_X0_evenOf
theorem dX6_even_0 : decode cX6_even 0 = .ok (.iload_n 1, 1) := by decide +kernel
theorem dX6_even_1 : decode cX6_even 1 = .ok (.iload_n 2, 1) := by decide +kernel
theorem dX6_even_2 : decode cX6_even 2 = .ok (.invokestatic 50, 3) := by decide +kernel
theorem dX6_even_5 : decode cX6_even 5 = .ok (.ifCond .ne 5, 3) := by decide +kernel
theorem dX6_even_8 : decode cX6_even 8 = .ok (.iconst (-1), 1) := by decide +kernel
theorem dX6_even_9 : decode cX6_even 9 = .ok (.ireturn, 1) := by decide +kernel
theorem dX6_even_10 : decode cX6_even 10 = .ok (.iload_n 3, 1) := by decide +kernel
theorem dX6_even_11 : decode cX6_even 11 = .ok (.iconst 0, 1) := by decide +kernel
theorem dX6_even_12 : decode cX6_even 12 = .ok (.sipush 255, 3) := by decide +kernel
theorem dX6_even_15 : decode cX6_even 15 = .ok (.invokestatic 54, 3) := by decide +kernel
theorem dX6_even_18 : decode cX6_even 18 = .ok (.ifCond .ne 6, 3) := by decide +kernel
theorem dX6_even_21 : decode cX6_even 21 = .ok (.bipush (-2), 2) := by decide +kernel
theorem dX6_even_23 : decode cX6_even 23 = .ok (.ireturn, 1) := by decide +kernel
theorem dX6_even_24 : decode cX6_even 24 = .ok (.iload_n 1, 1) := by decide +kernel
theorem dX6_even_25 : decode cX6_even 25 = .ok (.iload_n 2, 1) := by decide +kernel
theorem dX6_even_26 : decode cX6_even 26 = .ok (.invokestatic 64, 3) := by decide +kernel
theorem dX6_even_29 : decode cX6_even 29 = .ok (.istore 4, 2) := by decide +kernel
theorem dX6_even_31 : decode cX6_even 31 = .ok (.aload_n 0, 1) := by decide +kernel
theorem dX6_even_32 : decode cX6_even 32 = .ok (.getfield 14, 3) := by decide +kernel
theorem dX6_even_35 : decode cX6_even 35 = .ok (.iload 4, 2) := by decide +kernel
theorem dX6_even_37 : decode cX6_even 37 = .ok (.invokevirtual 88, 3) := by decide +kernel
theorem dX6_even_40 : decode cX6_even 40 = .ok (.ifCond .ne 6, 3) := by decide +kernel
theorem dX6_even_43 : decode cX6_even 43 = .ok (.bipush (-3), 2) := by decide +kernel
theorem dX6_even_45 : decode cX6_even 45 = .ok (.ireturn, 1) := by decide +kernel
theorem dX6_even_46 : decode cX6_even 46 = .ok (.aload_n 0, 1) := by decide +kernel
theorem dX6_even_47 : decode cX6_even 47 = .ok (.getfield 14, 3) := by decide +kernel
theorem dX6_even_50 : decode cX6_even 50 = .ok (.iload 4, 2) := by decide +kernel
theorem dX6_even_52 : decode cX6_even 52 = .ok (.iload_n 3, 1) := by decide +kernel
theorem dX6_even_53 : decode cX6_even 53 = .ok (.invokevirtual 95, 3) := by decide +kernel
theorem dX6_even_56 : decode cX6_even 56 = .ok (.ireturn, 1) := by decide +kernel
set_option maxRecDepth 20000 in
theorem ggX6_ground_X2_within : GoodIn wsX6_ground wsX2_within := goodIn_r _ [8] (by decide +kernel) (by decide +kernel)
set_option maxRecDepth 20000 in
theorem gX6_ground_X2_within : GoodIn wsX6_ground (va_wsS RX6 54 yX2_within wsX2_within) := goodIn_app (goodIn_of _ (by decide +kernel)) ggX6_ground_X2_within
theorem dX6_ground_0 : decode cX6_ground 0 = .ok (.iload_n 1, 1) := by decide +kernel
theorem dX6_ground_1 : decode cX6_ground 1 = .ok (.iconst 0, 1) := by decide +kernel
theorem dX6_ground_2 : decode cX6_ground 2 = .ok (.sipush 255, 3) := by decide +kernel
theorem dX6_ground_5 : decode cX6_ground 5 = .ok (.invokestatic 54, 3) := by decide +kernel
theorem dX6_ground_8 : decode cX6_ground 8 = .ok (.ifCond .ne 6, 3) := by decide +kernel
theorem dX6_ground_11 : decode cX6_ground 11 = .ok (.bipush (-2), 2) := by decide +kernel
theorem dX6_ground_13 : decode cX6_ground 13 = .ok (.ireturn, 1) := by decide +kernel
theorem dX6_ground_14 : decode cX6_ground 14 = .ok (.aload_n 0, 1) := by decide +kernel
theorem dX6_ground_15 : decode cX6_ground 15 = .ok (.getfield 35, 3) := by decide +kernel
theorem dX6_ground_18 : decode cX6_ground 18 = .ok (.getfield 60, 3) := by decide +kernel
theorem dX6_ground_21 : decode cX6_ground 21 = .ok (.ifCond .eq 6, 3) := by decide +kernel
theorem dX6_ground_24 : decode cX6_ground 24 = .ok (.bipush (-3), 2) := by decide +kernel
theorem dX6_ground_26 : decode cX6_ground 26 = .ok (.ireturn, 1) := by decide +kernel
theorem dX6_ground_27 : decode cX6_ground 27 = .ok (.aload_n 0, 1) := by decide +kernel
theorem dX6_ground_28 : decode cX6_ground 28 = .ok (.getfield 21, 3) := by decide +kernel
theorem dX6_ground_31 : decode cX6_ground 31 = .ok (.getfield 98, 3) := by decide +kernel
theorem dX6_ground_34 : decode cX6_ground 34 = .ok (.istore_n 2, 1) := by decide +kernel
theorem dX6_ground_35 : decode cX6_ground 35 = .ok (.aload_n 0, 1) := by decide +kernel
theorem dX6_ground_36 : decode cX6_ground 36 = .ok (.getfield 21, 3) := by decide +kernel
theorem dX6_ground_39 : decode cX6_ground 39 = .ok (.iload_n 1, 1) := by decide +kernel
theorem dX6_ground_40 : decode cX6_ground 40 = .ok (.putfield 98, 3) := by decide +kernel
theorem dX6_ground_43 : decode cX6_ground 43 = .ok (.iload_n 2, 1) := by decide +kernel
theorem dX6_ground_44 : decode cX6_ground 44 = .ok (.ireturn, 1) := by decide +kernel
set_option maxRecDepth 20000 in
theorem ggX6_patch_X2_within : GoodIn wsX6_patch wsX2_within := goodIn_r _ [7] (by decide +kernel) (by decide +kernel)
set_option maxRecDepth 20000 in
theorem gX6_patch_X2_within : GoodIn wsX6_patch (va_wsS RX6 54 yX2_within wsX2_within) := goodIn_app (goodIn_of _ (by decide +kernel)) ggX6_patch_X2_within
set_option maxRecDepth 20000 in
theorem ggX6_patch_X3_lay : GoodIn wsX6_patch wsX3_lay := goodIn_r _ [12, 13, 14, 15, 16, 17, 18, 19, 37, 38, 39, 40, 41, 42, 43, 44, 45] (by decide +kernel) (by decide +kernel)
set_option maxRecDepth 20000 in
theorem gX6_patch_X3_lay : GoodIn wsX6_patch (wsV RX6 102 RX3 yX3_lay wsX3_lay) := goodIn_app (goodIn_of _ (by decide +kernel)) ggX6_patch_X3_lay
theorem dX6_patch_0 : decode cX6_patch 0 = .ok (.iload_n 1, 1) := by decide +kernel
theorem dX6_patch_1 : decode cX6_patch 1 = .ok (.ifCond .lt 14, 3) := by decide +kernel
theorem dX6_patch_4 : decode cX6_patch 4 = .ok (.iload_n 1, 1) := by decide +kernel
theorem dX6_patch_5 : decode cX6_patch 5 = .ok (.iload_n 2, 1) := by decide +kernel
theorem dX6_patch_6 : decode cX6_patch 6 = .ok (.if_icmp .gt 9, 3) := by decide +kernel
theorem dX6_patch_9 : decode cX6_patch 9 = .ok (.iload_n 2, 1) := by decide +kernel
theorem dX6_patch_10 : decode cX6_patch 10 = .ok (.bipush 63, 2) := by decide +kernel
theorem dX6_patch_12 : decode cX6_patch 12 = .ok (.if_icmp .le 6, 3) := by decide +kernel
theorem dX6_patch_15 : decode cX6_patch 15 = .ok (.bipush (-2), 2) := by decide +kernel
theorem dX6_patch_17 : decode cX6_patch 17 = .ok (.ireturn, 1) := by decide +kernel
theorem dX6_patch_18 : decode cX6_patch 18 = .ok (.iload_n 3, 1) := by decide +kernel
theorem dX6_patch_19 : decode cX6_patch 19 = .ok (.ifCond .lt 16, 3) := by decide +kernel
theorem dX6_patch_22 : decode cX6_patch 22 = .ok (.iload_n 3, 1) := by decide +kernel
theorem dX6_patch_23 : decode cX6_patch 23 = .ok (.iload 4, 2) := by decide +kernel
theorem dX6_patch_25 : decode cX6_patch 25 = .ok (.if_icmp .gt 10, 3) := by decide +kernel
theorem dX6_patch_28 : decode cX6_patch 28 = .ok (.iload 4, 2) := by decide +kernel
theorem dX6_patch_30 : decode cX6_patch 30 = .ok (.bipush 12, 2) := by decide +kernel
theorem dX6_patch_32 : decode cX6_patch 32 = .ok (.if_icmp .lt 6, 3) := by decide +kernel
theorem dX6_patch_35 : decode cX6_patch 35 = .ok (.bipush (-2), 2) := by decide +kernel
theorem dX6_patch_37 : decode cX6_patch 37 = .ok (.ireturn, 1) := by decide +kernel
theorem dX6_patch_38 : decode cX6_patch 38 = .ok (.iload 5, 2) := by decide +kernel
theorem dX6_patch_40 : decode cX6_patch 40 = .ok (.bipush (-16), 2) := by decide +kernel
theorem dX6_patch_42 : decode cX6_patch 42 = .ok (.bipush 16, 2) := by decide +kernel
theorem dX6_patch_44 : decode cX6_patch 44 = .ok (.invokestatic 54, 3) := by decide +kernel
theorem dX6_patch_47 : decode cX6_patch 47 = .ok (.ifCond .ne 6, 3) := by decide +kernel
theorem dX6_patch_50 : decode cX6_patch 50 = .ok (.bipush (-2), 2) := by decide +kernel
theorem dX6_patch_52 : decode cX6_patch 52 = .ok (.ireturn, 1) := by decide +kernel
theorem dX6_patch_53 : decode cX6_patch 53 = .ok (.aload_n 0, 1) := by decide +kernel
theorem dX6_patch_54 : decode cX6_patch 54 = .ok (.getfield 35, 3) := by decide +kernel
theorem dX6_patch_57 : decode cX6_patch 57 = .ok (.getfield 60, 3) := by decide +kernel
theorem dX6_patch_60 : decode cX6_patch 60 = .ok (.ifCond .eq 6, 3) := by decide +kernel
theorem dX6_patch_63 : decode cX6_patch 63 = .ok (.bipush (-3), 2) := by decide +kernel
theorem dX6_patch_65 : decode cX6_patch 65 = .ok (.ireturn, 1) := by decide +kernel
theorem dX6_patch_66 : decode cX6_patch 66 = .ok (.aload_n 0, 1) := by decide +kernel
theorem dX6_patch_67 : decode cX6_patch 67 = .ok (.getfield 21, 3) := by decide +kernel
theorem dX6_patch_70 : decode cX6_patch 70 = .ok (.iload_n 1, 1) := by decide +kernel
theorem dX6_patch_71 : decode cX6_patch 71 = .ok (.iload_n 2, 1) := by decide +kernel
theorem dX6_patch_72 : decode cX6_patch 72 = .ok (.iload_n 3, 1) := by decide +kernel
theorem dX6_patch_73 : decode cX6_patch 73 = .ok (.iload 4, 2) := by decide +kernel
theorem dX6_patch_75 : decode cX6_patch 75 = .ok (.iload 5, 2) := by decide +kernel
theorem dX6_patch_77 : decode cX6_patch 77 = .ok (.invokevirtual 102, 3) := by decide +kernel
theorem dX6_patch_80 : decode cX6_patch 80 = .ok (.ireturn, 1) := by decide +kernel
set_option maxRecDepth 20000 in
theorem ggX6_tint_X6_isColour : GoodIn wsX6_tint wsX6_isColour := goodIn_r _ [9, 10, 11, 12, 13] (by decide +kernel) (by decide +kernel)
set_option maxRecDepth 20000 in
theorem gX6_tint_X6_isColour : GoodIn wsX6_tint (va_wsS RX6 109 yX6_isColour wsX6_isColour) := goodIn_app (goodIn_of _ (by decide +kernel)) ggX6_tint_X6_isColour
set_option maxRecDepth 20000 in
theorem ggX6_tint_X2_within : GoodIn wsX6_tint wsX2_within := goodIn_r _ [13] (by decide +kernel) (by decide +kernel)
set_option maxRecDepth 20000 in
theorem gX6_tint_X2_within : GoodIn wsX6_tint (va_wsS RX6 54 yX2_within wsX2_within) := goodIn_app (goodIn_of _ (by decide +kernel)) ggX6_tint_X2_within
theorem dX6_tint_0 : decode cX6_tint 0 = .ok (.iload_n 1, 1) := by decide +kernel
theorem dX6_tint_1 : decode cX6_tint 1 = .ok (.ifCond .lt 21, 3) := by decide +kernel
theorem dX6_tint_4 : decode cX6_tint 4 = .ok (.iload_n 1, 1) := by decide +kernel
theorem dX6_tint_5 : decode cX6_tint 5 = .ok (.aload_n 0, 1) := by decide +kernel
theorem dX6_tint_6 : decode cX6_tint 6 = .ok (.getfield 21, 3) := by decide +kernel
theorem dX6_tint_9 : decode cX6_tint 9 = .ok (.getfield 106, 3) := by decide +kernel
theorem dX6_tint_12 : decode cX6_tint 12 = .ok (.if_icmp .ge 10, 3) := by decide +kernel
theorem dX6_tint_15 : decode cX6_tint 15 = .ok (.iload_n 2, 1) := by decide +kernel
theorem dX6_tint_16 : decode cX6_tint 16 = .ok (.invokestatic 109, 3) := by decide +kernel
theorem dX6_tint_19 : decode cX6_tint 19 = .ok (.ifCond .ne 5, 3) := by decide +kernel
theorem dX6_tint_22 : decode cX6_tint 22 = .ok (.iconst (-1), 1) := by decide +kernel
theorem dX6_tint_23 : decode cX6_tint 23 = .ok (.ireturn, 1) := by decide +kernel
theorem dX6_tint_24 : decode cX6_tint 24 = .ok (.iload_n 3, 1) := by decide +kernel
theorem dX6_tint_25 : decode cX6_tint 25 = .ok (.iconst 0, 1) := by decide +kernel
theorem dX6_tint_26 : decode cX6_tint 26 = .ok (.sipush 255, 3) := by decide +kernel
theorem dX6_tint_29 : decode cX6_tint 29 = .ok (.invokestatic 54, 3) := by decide +kernel
theorem dX6_tint_32 : decode cX6_tint 32 = .ok (.ifCond .ne 6, 3) := by decide +kernel
theorem dX6_tint_35 : decode cX6_tint 35 = .ok (.bipush (-2), 2) := by decide +kernel
theorem dX6_tint_37 : decode cX6_tint 37 = .ok (.ireturn, 1) := by decide +kernel
theorem dX6_tint_38 : decode cX6_tint 38 = .ok (.aload_n 0, 1) := by decide +kernel
theorem dX6_tint_39 : decode cX6_tint 39 = .ok (.getfield 35, 3) := by decide +kernel
theorem dX6_tint_42 : decode cX6_tint 42 = .ok (.getfield 60, 3) := by decide +kernel
theorem dX6_tint_45 : decode cX6_tint 45 = .ok (.ifCond .eq 6, 3) := by decide +kernel
theorem dX6_tint_48 : decode cX6_tint 48 = .ok (.bipush (-3), 2) := by decide +kernel
theorem dX6_tint_50 : decode cX6_tint 50 = .ok (.ireturn, 1) := by decide +kernel
theorem dX6_tint_51 : decode cX6_tint 51 = .ok (.iload_n 1, 1) := by decide +kernel
theorem dX6_tint_52 : decode cX6_tint 52 = .ok (.iconst 3, 1) := by decide +kernel
theorem dX6_tint_53 : decode cX6_tint 53 = .ok (.imul, 1) := by decide +kernel
theorem dX6_tint_54 : decode cX6_tint 54 = .ok (.iload_n 2, 1) := by decide +kernel
theorem dX6_tint_55 : decode cX6_tint 55 = .ok (.iadd, 1) := by decide +kernel
theorem dX6_tint_56 : decode cX6_tint 56 = .ok (.istore 4, 2) := by decide +kernel
theorem dX6_tint_58 : decode cX6_tint 58 = .ok (.aload_n 0, 1) := by decide +kernel
theorem dX6_tint_59 : decode cX6_tint 59 = .ok (.getfield 21, 3) := by decide +kernel
theorem dX6_tint_62 : decode cX6_tint 62 = .ok (.getfield 112, 3) := by decide +kernel
theorem dX6_tint_65 : decode cX6_tint 65 = .ok (.iload 4, 2) := by decide +kernel
theorem dX6_tint_67 : decode cX6_tint 67 = .ok (.iaload, 1) := by decide +kernel
theorem dX6_tint_68 : decode cX6_tint 68 = .ok (.istore 5, 2) := by decide +kernel
theorem dX6_tint_70 : decode cX6_tint 70 = .ok (.aload_n 0, 1) := by decide +kernel
theorem dX6_tint_71 : decode cX6_tint 71 = .ok (.getfield 21, 3) := by decide +kernel
theorem dX6_tint_74 : decode cX6_tint 74 = .ok (.getfield 112, 3) := by decide +kernel
theorem dX6_tint_77 : decode cX6_tint 77 = .ok (.iload 4, 2) := by decide +kernel
theorem dX6_tint_79 : decode cX6_tint 79 = .ok (.iload_n 3, 1) := by decide +kernel
theorem dX6_tint_80 : decode cX6_tint 80 = .ok (.iastore, 1) := by decide +kernel
theorem dX6_tint_81 : decode cX6_tint 81 = .ok (.iload 5, 2) := by decide +kernel
theorem dX6_tint_83 : decode cX6_tint 83 = .ok (.ireturn, 1) := by decide +kernel
theorem dX6_blank_0 : decode cX6_blank 0 = .ok (.aload_n 0, 1) := by decide +kernel
theorem dX6_blank_1 : decode cX6_blank 1 = .ok (.getfield 35, 3) := by decide +kernel
theorem dX6_blank_4 : decode cX6_blank 4 = .ok (.getfield 60, 3) := by decide +kernel
theorem dX6_blank_7 : decode cX6_blank 7 = .ok (.ifCond .eq 6, 3) := by decide +kernel
theorem dX6_blank_10 : decode cX6_blank 10 = .ok (.bipush (-3), 2) := by decide +kernel
theorem dX6_blank_12 : decode cX6_blank 12 = .ok (.ireturn, 1) := by decide +kernel
theorem dX6_blank_13 : decode cX6_blank 13 = .ok (.aload_n 0, 1) := by decide +kernel
theorem dX6_blank_14 : decode cX6_blank 14 = .ok (.getfield 21, 3) := by decide +kernel
theorem dX6_blank_17 : decode cX6_blank 17 = .ok (.getfield 106, 3) := by decide +kernel
theorem dX6_blank_20 : decode cX6_blank 20 = .ok (.istore_n 1, 1) := by decide +kernel
theorem dX6_blank_21 : decode cX6_blank 21 = .ok (.aload_n 0, 1) := by decide +kernel
theorem dX6_blank_22 : decode cX6_blank 22 = .ok (.getfield 21, 3) := by decide +kernel
theorem dX6_blank_25 : decode cX6_blank 25 = .ok (.iconst 0, 1) := by decide +kernel
theorem dX6_blank_26 : decode cX6_blank 26 = .ok (.putfield 106, 3) := by decide +kernel
theorem dX6_blank_29 : decode cX6_blank 29 = .ok (.iload_n 1, 1) := by decide +kernel
theorem dX6_blank_30 : decode cX6_blank 30 = .ok (.ireturn, 1) := by decide +kernel
set_option maxRecDepth 20000 in
theorem ggX6_speck_X6_isColumn : GoodIn wsX6_speck wsX6_isColumn := goodIn_r _ [8, 9, 10, 11, 12] (by decide +kernel) (by decide +kernel)
set_option maxRecDepth 20000 in
theorem gX6_speck_X6_isColumn : GoodIn wsX6_speck (va_wsS RX6 115 yX6_isColumn wsX6_isColumn) := goodIn_app (goodIn_of _ (by decide +kernel)) ggX6_speck_X6_isColumn
set_option maxRecDepth 20000 in
theorem ggX6_speck_X2_within : GoodIn wsX6_speck wsX2_within := goodIn_r _ [12] (by decide +kernel) (by decide +kernel)
set_option maxRecDepth 20000 in
theorem gX6_speck_X2_within : GoodIn wsX6_speck (va_wsS RX6 54 yX2_within wsX2_within) := goodIn_app (goodIn_of _ (by decide +kernel)) ggX6_speck_X2_within
theorem dX6_speck_0 : decode cX6_speck 0 = .ok (.iload_n 1, 1) := by decide +kernel
theorem dX6_speck_1 : decode cX6_speck 1 = .ok (.invokestatic 115, 3) := by decide +kernel
theorem dX6_speck_4 : decode cX6_speck 4 = .ok (.ifCond .ne 5, 3) := by decide +kernel
theorem dX6_speck_7 : decode cX6_speck 7 = .ok (.iconst (-1), 1) := by decide +kernel
theorem dX6_speck_8 : decode cX6_speck 8 = .ok (.ireturn, 1) := by decide +kernel
theorem dX6_speck_9 : decode cX6_speck 9 = .ok (.iload_n 2, 1) := by decide +kernel
theorem dX6_speck_10 : decode cX6_speck 10 = .ok (.iconst 0, 1) := by decide +kernel
theorem dX6_speck_11 : decode cX6_speck 11 = .ok (.sipush 255, 3) := by decide +kernel
theorem dX6_speck_14 : decode cX6_speck 14 = .ok (.invokestatic 54, 3) := by decide +kernel
theorem dX6_speck_17 : decode cX6_speck 17 = .ok (.ifCond .ne 6, 3) := by decide +kernel
theorem dX6_speck_20 : decode cX6_speck 20 = .ok (.bipush (-2), 2) := by decide +kernel
theorem dX6_speck_22 : decode cX6_speck 22 = .ok (.ireturn, 1) := by decide +kernel
theorem dX6_speck_23 : decode cX6_speck 23 = .ok (.aload_n 0, 1) := by decide +kernel
theorem dX6_speck_24 : decode cX6_speck 24 = .ok (.getfield 35, 3) := by decide +kernel
theorem dX6_speck_27 : decode cX6_speck 27 = .ok (.getfield 60, 3) := by decide +kernel
theorem dX6_speck_30 : decode cX6_speck 30 = .ok (.ifCond .eq 6, 3) := by decide +kernel
theorem dX6_speck_33 : decode cX6_speck 33 = .ok (.bipush (-3), 2) := by decide +kernel
theorem dX6_speck_35 : decode cX6_speck 35 = .ok (.ireturn, 1) := by decide +kernel
theorem dX6_speck_36 : decode cX6_speck 36 = .ok (.aload_n 0, 1) := by decide +kernel
theorem dX6_speck_37 : decode cX6_speck 37 = .ok (.getfield 21, 3) := by decide +kernel
theorem dX6_speck_40 : decode cX6_speck 40 = .ok (.getfield 118, 3) := by decide +kernel
theorem dX6_speck_43 : decode cX6_speck 43 = .ok (.iload_n 1, 1) := by decide +kernel
theorem dX6_speck_44 : decode cX6_speck 44 = .ok (.iaload, 1) := by decide +kernel
theorem dX6_speck_45 : decode cX6_speck 45 = .ok (.istore_n 3, 1) := by decide +kernel
theorem dX6_speck_46 : decode cX6_speck 46 = .ok (.aload_n 0, 1) := by decide +kernel
theorem dX6_speck_47 : decode cX6_speck 47 = .ok (.getfield 21, 3) := by decide +kernel
theorem dX6_speck_50 : decode cX6_speck 50 = .ok (.getfield 118, 3) := by decide +kernel
theorem dX6_speck_53 : decode cX6_speck 53 = .ok (.iload_n 1, 1) := by decide +kernel
theorem dX6_speck_54 : decode cX6_speck 54 = .ok (.iload_n 2, 1) := by decide +kernel
theorem dX6_speck_55 : decode cX6_speck 55 = .ok (.iastore, 1) := by decide +kernel
theorem dX6_speck_56 : decode cX6_speck 56 = .ok (.iload_n 3, 1) := by decide +kernel
theorem dX6_speck_57 : decode cX6_speck 57 = .ok (.ireturn, 1) := by decide +kernel
set_option maxRecDepth 20000 in
theorem ggX6_light_X6_isCell : GoodIn wsX6_light wsX6_isCell := goodIn_r _ [5, 6, 7, 4, 8, 9, 10, 11, 12, 13, 14, 15] (by decide +kernel) (by decide +kernel)
set_option maxRecDepth 20000 in
theorem gX6_light_X6_isCell : GoodIn wsX6_light (va_wsS RX6 50 yX6_isCell wsX6_isCell) := goodIn_app (goodIn_of _ (by decide +kernel)) ggX6_light_X6_isCell
set_option maxRecDepth 20000 in
theorem ggX6_light_X2_within : GoodIn wsX6_light wsX2_within := goodIn_r _ [12] (by decide +kernel) (by decide +kernel)
set_option maxRecDepth 20000 in
theorem gX6_light_X2_within : GoodIn wsX6_light (va_wsS RX6 54 yX2_within wsX2_within) := goodIn_app (goodIn_of _ (by decide +kernel)) ggX6_light_X2_within
set_option maxRecDepth 20000 in
theorem ggX6_light_X3_lightOn : GoodIn wsX6_light wsX3_lightOn := goodIn_r _ [20, 21, 22, 23, 24, 25, 26, 27, 28, 19, 29, 30, 31, 32, 33, 34, 35, 36, 37, 38, 39, 40, 41, 42, 43, 11, 44, 51, 52, 53, 54, 55, 56, 57, 58, 59] (by decide +kernel) (by decide +kernel)
set_option maxRecDepth 20000 in
theorem gX6_light_X3_lightOn : GoodIn wsX6_light (wsV RX6 121 RX3 yX3_lightOn wsX3_lightOn) := goodIn_app (goodIn_of _ (by decide +kernel)) ggX6_light_X3_lightOn
theorem dX6_light_0 : decode cX6_light 0 = .ok (.iload_n 1, 1) := by decide +kernel
theorem dX6_light_1 : decode cX6_light 1 = .ok (.iload_n 2, 1) := by decide +kernel
theorem dX6_light_2 : decode cX6_light 2 = .ok (.invokestatic 50, 3) := by decide +kernel
theorem dX6_light_5 : decode cX6_light 5 = .ok (.ifCond .ne 5, 3) := by decide +kernel
theorem dX6_light_8 : decode cX6_light 8 = .ok (.iconst (-1), 1) := by decide +kernel
theorem dX6_light_9 : decode cX6_light 9 = .ok (.ireturn, 1) := by decide +kernel
theorem dX6_light_10 : decode cX6_light 10 = .ok (.iload_n 3, 1) := by decide +kernel
theorem dX6_light_11 : decode cX6_light 11 = .ok (.sipush (-1000), 3) := by decide +kernel
theorem dX6_light_14 : decode cX6_light 14 = .ok (.sipush 1000, 3) := by decide +kernel
theorem dX6_light_17 : decode cX6_light 17 = .ok (.invokestatic 54, 3) := by decide +kernel
theorem dX6_light_20 : decode cX6_light 20 = .ok (.ifCond .ne 6, 3) := by decide +kernel
theorem dX6_light_23 : decode cX6_light 23 = .ok (.bipush (-2), 2) := by decide +kernel
theorem dX6_light_25 : decode cX6_light 25 = .ok (.ireturn, 1) := by decide +kernel
theorem dX6_light_26 : decode cX6_light 26 = .ok (.iload 4, 2) := by decide +kernel
theorem dX6_light_28 : decode cX6_light 28 = .ok (.iconst 0, 1) := by decide +kernel
theorem dX6_light_29 : decode cX6_light 29 = .ok (.iconst 3, 1) := by decide +kernel
theorem dX6_light_30 : decode cX6_light 30 = .ok (.invokestatic 54, 3) := by decide +kernel
theorem dX6_light_33 : decode cX6_light 33 = .ok (.ifCond .ne 6, 3) := by decide +kernel
theorem dX6_light_36 : decode cX6_light 36 = .ok (.bipush (-2), 2) := by decide +kernel
theorem dX6_light_38 : decode cX6_light 38 = .ok (.ireturn, 1) := by decide +kernel
theorem dX6_light_39 : decode cX6_light 39 = .ok (.aload_n 0, 1) := by decide +kernel
theorem dX6_light_40 : decode cX6_light 40 = .ok (.getfield 21, 3) := by decide +kernel
theorem dX6_light_43 : decode cX6_light 43 = .ok (.iload_n 1, 1) := by decide +kernel
theorem dX6_light_44 : decode cX6_light 44 = .ok (.iload_n 2, 1) := by decide +kernel
theorem dX6_light_45 : decode cX6_light 45 = .ok (.iload_n 3, 1) := by decide +kernel
theorem dX6_light_46 : decode cX6_light 46 = .ok (.iload 4, 2) := by decide +kernel
theorem dX6_light_48 : decode cX6_light 48 = .ok (.invokevirtual 121, 3) := by decide +kernel
theorem dX6_light_51 : decode cX6_light 51 = .ok (.ireturn, 1) := by decide +kernel
set_option maxRecDepth 20000 in
theorem ggX6_lead_X6_isColour : GoodIn wsX6_lead wsX6_isColour := goodIn_r _ [7, 8, 9, 10, 11] (by decide +kernel) (by decide +kernel)
set_option maxRecDepth 20000 in
theorem gX6_lead_X6_isColour : GoodIn wsX6_lead (va_wsS RX6 109 yX6_isColour wsX6_isColour) := goodIn_app (goodIn_of _ (by decide +kernel)) ggX6_lead_X6_isColour
set_option maxRecDepth 20000 in
theorem ggX6_lead_X2_within : GoodIn wsX6_lead wsX2_within := goodIn_r _ [11] (by decide +kernel) (by decide +kernel)
set_option maxRecDepth 20000 in
theorem gX6_lead_X2_within : GoodIn wsX6_lead (va_wsS RX6 54 yX2_within wsX2_within) := goodIn_app (goodIn_of _ (by decide +kernel)) ggX6_lead_X2_within
theorem dX6_lead_0 : decode cX6_lead 0 = .ok (.iload_n 1, 1) := by decide +kernel
theorem dX6_lead_1 : decode cX6_lead 1 = .ok (.invokestatic 109, 3) := by decide +kernel
theorem dX6_lead_4 : decode cX6_lead 4 = .ok (.ifCond .eq 7, 3) := by decide +kernel
theorem dX6_lead_7 : decode cX6_lead 7 = .ok (.iload_n 1, 1) := by decide +kernel
theorem dX6_lead_8 : decode cX6_lead 8 = .ok (.ifCond .ne 5, 3) := by decide +kernel
theorem dX6_lead_11 : decode cX6_lead 11 = .ok (.iconst (-1), 1) := by decide +kernel
theorem dX6_lead_12 : decode cX6_lead 12 = .ok (.ireturn, 1) := by decide +kernel
theorem dX6_lead_13 : decode cX6_lead 13 = .ok (.iload_n 2, 1) := by decide +kernel
theorem dX6_lead_14 : decode cX6_lead 14 = .ok (.iconst 0, 1) := by decide +kernel
theorem dX6_lead_15 : decode cX6_lead 15 = .ok (.bipush 15, 2) := by decide +kernel
theorem dX6_lead_17 : decode cX6_lead 17 = .ok (.invokestatic 54, 3) := by decide +kernel
theorem dX6_lead_20 : decode cX6_lead 20 = .ok (.ifCond .ne 6, 3) := by decide +kernel
theorem dX6_lead_23 : decode cX6_lead 23 = .ok (.bipush (-2), 2) := by decide +kernel
theorem dX6_lead_25 : decode cX6_lead 25 = .ok (.ireturn, 1) := by decide +kernel
theorem dX6_lead_26 : decode cX6_lead 26 = .ok (.aload_n 0, 1) := by decide +kernel
theorem dX6_lead_27 : decode cX6_lead 27 = .ok (.getfield 35, 3) := by decide +kernel
theorem dX6_lead_30 : decode cX6_lead 30 = .ok (.getfield 60, 3) := by decide +kernel
theorem dX6_lead_33 : decode cX6_lead 33 = .ok (.ifCond .eq 6, 3) := by decide +kernel
theorem dX6_lead_36 : decode cX6_lead 36 = .ok (.bipush (-3), 2) := by decide +kernel
theorem dX6_lead_38 : decode cX6_lead 38 = .ok (.ireturn, 1) := by decide +kernel
theorem dX6_lead_39 : decode cX6_lead 39 = .ok (.aload_n 0, 1) := by decide +kernel
theorem dX6_lead_40 : decode cX6_lead 40 = .ok (.getfield 46, 3) := by decide +kernel
theorem dX6_lead_43 : decode cX6_lead 43 = .ok (.iload_n 1, 1) := by decide +kernel
theorem dX6_lead_44 : decode cX6_lead 44 = .ok (.iaload, 1) := by decide +kernel
theorem dX6_lead_45 : decode cX6_lead 45 = .ok (.istore_n 3, 1) := by decide +kernel
theorem dX6_lead_46 : decode cX6_lead 46 = .ok (.aload_n 0, 1) := by decide +kernel
theorem dX6_lead_47 : decode cX6_lead 47 = .ok (.getfield 46, 3) := by decide +kernel
theorem dX6_lead_50 : decode cX6_lead 50 = .ok (.iload_n 1, 1) := by decide +kernel
theorem dX6_lead_51 : decode cX6_lead 51 = .ok (.iload_n 2, 1) := by decide +kernel
theorem dX6_lead_52 : decode cX6_lead 52 = .ok (.iastore, 1) := by decide +kernel
theorem dX6_lead_53 : decode cX6_lead 53 = .ok (.iload_n 3, 1) := by decide +kernel
theorem dX6_lead_54 : decode cX6_lead 54 = .ok (.ireturn, 1) := by decide +kernel
set_option maxRecDepth 20000 in
theorem ggX6_pipe_X4_isStep : GoodIn wsX6_pipe wsX4_isStep := goodIn_r _ [7, 8, 9, 10, 11] (by decide +kernel) (by decide +kernel)
set_option maxRecDepth 20000 in
theorem gX6_pipe_X4_isStep : GoodIn wsX6_pipe (va_wsS RX6 125 yX4_isStep wsX4_isStep) := goodIn_app (goodIn_of _ (by decide +kernel)) ggX6_pipe_X4_isStep
set_option maxRecDepth 20000 in
theorem ggX6_pipe_X4_addStep : GoodIn wsX6_pipe wsX4_addStep := goodIn_r _ [15, 16, 17, 18, 36, 37, 38] (by decide +kernel) (by decide +kernel)
set_option maxRecDepth 20000 in
theorem gX6_pipe_X4_addStep : GoodIn wsX6_pipe (wsV RX6 128 RX4 yX4_addStep wsX4_addStep) := goodIn_app (goodIn_of _ (by decide +kernel)) ggX6_pipe_X4_addStep
theorem dX6_pipe_0 : decode cX6_pipe 0 = .ok (.iload_n 1, 1) := by decide +kernel
theorem dX6_pipe_1 : decode cX6_pipe 1 = .ok (.iload_n 2, 1) := by decide +kernel
theorem dX6_pipe_2 : decode cX6_pipe 2 = .ok (.invokestatic 125, 3) := by decide +kernel
theorem dX6_pipe_5 : decode cX6_pipe 5 = .ok (.ifCond .ne 6, 3) := by decide +kernel
theorem dX6_pipe_8 : decode cX6_pipe 8 = .ok (.bipush (-2), 2) := by decide +kernel
theorem dX6_pipe_10 : decode cX6_pipe 10 = .ok (.ireturn, 1) := by decide +kernel
theorem dX6_pipe_11 : decode cX6_pipe 11 = .ok (.aload_n 0, 1) := by decide +kernel
theorem dX6_pipe_12 : decode cX6_pipe 12 = .ok (.getfield 35, 3) := by decide +kernel
theorem dX6_pipe_15 : decode cX6_pipe 15 = .ok (.getfield 60, 3) := by decide +kernel
theorem dX6_pipe_18 : decode cX6_pipe 18 = .ok (.ifCond .eq 6, 3) := by decide +kernel
theorem dX6_pipe_21 : decode cX6_pipe 21 = .ok (.bipush (-3), 2) := by decide +kernel
theorem dX6_pipe_23 : decode cX6_pipe 23 = .ok (.ireturn, 1) := by decide +kernel
theorem dX6_pipe_24 : decode cX6_pipe 24 = .ok (.aload_n 0, 1) := by decide +kernel
theorem dX6_pipe_25 : decode cX6_pipe 25 = .ok (.getfield 28, 3) := by decide +kernel
theorem dX6_pipe_28 : decode cX6_pipe 28 = .ok (.iload_n 1, 1) := by decide +kernel
theorem dX6_pipe_29 : decode cX6_pipe 29 = .ok (.iload_n 2, 1) := by decide +kernel
theorem dX6_pipe_30 : decode cX6_pipe 30 = .ok (.invokevirtual 128, 3) := by decide +kernel
theorem dX6_pipe_33 : decode cX6_pipe 33 = .ok (.ireturn, 1) := by decide +kernel
set_option maxRecDepth 20000 in
theorem ggX6_unpipe_X4_dropStep : GoodIn wsX6_unpipe wsX4_dropStep := goodIn_r _ [9, 10, 11, 12, 19, 20, 21] (by decide +kernel) (by decide +kernel)
set_option maxRecDepth 20000 in
theorem gX6_unpipe_X4_dropStep : GoodIn wsX6_unpipe (wsV RX6 134 RX4 yX4_dropStep wsX4_dropStep) := goodIn_app (goodIn_of _ (by decide +kernel)) ggX6_unpipe_X4_dropStep
theorem dX6_unpipe_0 : decode cX6_unpipe 0 = .ok (.iload_n 1, 1) := by decide +kernel
theorem dX6_unpipe_1 : decode cX6_unpipe 1 = .ok (.ifCond .lt 14, 3) := by decide +kernel
theorem dX6_unpipe_4 : decode cX6_unpipe 4 = .ok (.iload_n 1, 1) := by decide +kernel
theorem dX6_unpipe_5 : decode cX6_unpipe 5 = .ok (.aload_n 0, 1) := by decide +kernel
theorem dX6_unpipe_6 : decode cX6_unpipe 6 = .ok (.getfield 28, 3) := by decide +kernel
theorem dX6_unpipe_9 : decode cX6_unpipe 9 = .ok (.getfield 131, 3) := by decide +kernel
theorem dX6_unpipe_12 : decode cX6_unpipe 12 = .ok (.if_icmp .lt 5, 3) := by decide +kernel
theorem dX6_unpipe_15 : decode cX6_unpipe 15 = .ok (.iconst (-1), 1) := by decide +kernel
theorem dX6_unpipe_16 : decode cX6_unpipe 16 = .ok (.ireturn, 1) := by decide +kernel
theorem dX6_unpipe_17 : decode cX6_unpipe 17 = .ok (.aload_n 0, 1) := by decide +kernel
theorem dX6_unpipe_18 : decode cX6_unpipe 18 = .ok (.getfield 35, 3) := by decide +kernel
theorem dX6_unpipe_21 : decode cX6_unpipe 21 = .ok (.getfield 60, 3) := by decide +kernel
theorem dX6_unpipe_24 : decode cX6_unpipe 24 = .ok (.ifCond .eq 6, 3) := by decide +kernel
theorem dX6_unpipe_27 : decode cX6_unpipe 27 = .ok (.bipush (-3), 2) := by decide +kernel
theorem dX6_unpipe_29 : decode cX6_unpipe 29 = .ok (.ireturn, 1) := by decide +kernel
theorem dX6_unpipe_30 : decode cX6_unpipe 30 = .ok (.aload_n 0, 1) := by decide +kernel
theorem dX6_unpipe_31 : decode cX6_unpipe 31 = .ok (.getfield 28, 3) := by decide +kernel
theorem dX6_unpipe_34 : decode cX6_unpipe 34 = .ok (.iload_n 1, 1) := by decide +kernel
theorem dX6_unpipe_35 : decode cX6_unpipe 35 = .ok (.invokevirtual 134, 3) := by decide +kernel
theorem dX6_unpipe_38 : decode cX6_unpipe 38 = .ok (.aload_n 0, 1) := by decide +kernel
theorem dX6_unpipe_39 : decode cX6_unpipe 39 = .ok (.getfield 28, 3) := by decide +kernel
theorem dX6_unpipe_42 : decode cX6_unpipe 42 = .ok (.getfield 131, 3) := by decide +kernel
theorem dX6_unpipe_45 : decode cX6_unpipe 45 = .ok (.ireturn, 1) := by decide +kernel
set_option maxRecDepth 20000 in
theorem ggX6_piped_X2_within : GoodIn wsX6_piped wsX2_within := goodIn_r _ [5] (by decide +kernel) (by decide +kernel)
set_option maxRecDepth 20000 in
theorem gX6_piped_X2_within : GoodIn wsX6_piped (va_wsS RX6 54 yX2_within wsX2_within) := goodIn_app (goodIn_of _ (by decide +kernel)) ggX6_piped_X2_within
set_option maxRecDepth 20000 in
theorem ggX6_piped_X4_through : GoodIn wsX6_piped wsX4_through := goodIn_r _ [10, 11, 12, 13, 14, 15, 9, 16, 17, 18, 19, 20, 21, 22, 4, 23, 24, 25, 26, 33, 34, 35] (by decide +kernel) (by decide +kernel)
set_option maxRecDepth 20000 in
theorem gX6_piped_X4_through : GoodIn wsX6_piped (wsV RX6 138 RX4 yX4_through wsX4_through) := goodIn_app (goodIn_of _ (by decide +kernel)) ggX6_piped_X4_through
theorem dX6_piped_0 : decode cX6_piped 0 = .ok (.iload_n 1, 1) := by decide +kernel
theorem dX6_piped_1 : decode cX6_piped 1 = .ok (.iconst 0, 1) := by decide +kernel
theorem dX6_piped_2 : decode cX6_piped 2 = .ok (.sipush 255, 3) := by decide +kernel
theorem dX6_piped_5 : decode cX6_piped 5 = .ok (.invokestatic 54, 3) := by decide +kernel
theorem dX6_piped_8 : decode cX6_piped 8 = .ok (.ifCond .ne 6, 3) := by decide +kernel
theorem dX6_piped_11 : decode cX6_piped 11 = .ok (.bipush (-2), 2) := by decide +kernel
theorem dX6_piped_13 : decode cX6_piped 13 = .ok (.ireturn, 1) := by decide +kernel
theorem dX6_piped_14 : decode cX6_piped 14 = .ok (.aload_n 0, 1) := by decide +kernel
theorem dX6_piped_15 : decode cX6_piped 15 = .ok (.getfield 28, 3) := by decide +kernel
theorem dX6_piped_18 : decode cX6_piped 18 = .ok (.iload_n 1, 1) := by decide +kernel
theorem dX6_piped_19 : decode cX6_piped 19 = .ok (.invokevirtual 138, 3) := by decide +kernel
theorem dX6_piped_22 : decode cX6_piped 22 = .ok (.ireturn, 1) := by decide +kernel
set_option maxRecDepth 20000 in
theorem ggX6_threshold_X2_within : GoodIn wsX6_threshold wsX2_within := goodIn_r _ [8] (by decide +kernel) (by decide +kernel)
set_option maxRecDepth 20000 in
theorem gX6_threshold_X2_within : GoodIn wsX6_threshold (va_wsS RX6 54 yX2_within wsX2_within) := goodIn_app (goodIn_of _ (by decide +kernel)) ggX6_threshold_X2_within
theorem dX6_threshold_0 : decode cX6_threshold 0 = .ok (.iload_n 1, 1) := by decide +kernel
theorem dX6_threshold_1 : decode cX6_threshold 1 = .ok (.iconst 0, 1) := by decide +kernel
theorem dX6_threshold_2 : decode cX6_threshold 2 = .ok (.sipush 256, 3) := by decide +kernel
theorem dX6_threshold_5 : decode cX6_threshold 5 = .ok (.invokestatic 54, 3) := by decide +kernel
theorem dX6_threshold_8 : decode cX6_threshold 8 = .ok (.ifCond .ne 6, 3) := by decide +kernel
theorem dX6_threshold_11 : decode cX6_threshold 11 = .ok (.bipush (-2), 2) := by decide +kernel
theorem dX6_threshold_13 : decode cX6_threshold 13 = .ok (.ireturn, 1) := by decide +kernel
theorem dX6_threshold_14 : decode cX6_threshold 14 = .ok (.aload_n 0, 1) := by decide +kernel
theorem dX6_threshold_15 : decode cX6_threshold 15 = .ok (.getfield 35, 3) := by decide +kernel
theorem dX6_threshold_18 : decode cX6_threshold 18 = .ok (.getfield 60, 3) := by decide +kernel
theorem dX6_threshold_21 : decode cX6_threshold 21 = .ok (.ifCond .eq 6, 3) := by decide +kernel
theorem dX6_threshold_24 : decode cX6_threshold 24 = .ok (.bipush (-3), 2) := by decide +kernel
theorem dX6_threshold_26 : decode cX6_threshold 26 = .ok (.ireturn, 1) := by decide +kernel
theorem dX6_threshold_27 : decode cX6_threshold 27 = .ok (.aload_n 0, 1) := by decide +kernel
theorem dX6_threshold_28 : decode cX6_threshold 28 = .ok (.getfield 42, 3) := by decide +kernel
theorem dX6_threshold_31 : decode cX6_threshold 31 = .ok (.getfield 142, 3) := by decide +kernel
theorem dX6_threshold_34 : decode cX6_threshold 34 = .ok (.istore_n 2, 1) := by decide +kernel
theorem dX6_threshold_35 : decode cX6_threshold 35 = .ok (.aload_n 0, 1) := by decide +kernel
theorem dX6_threshold_36 : decode cX6_threshold 36 = .ok (.getfield 42, 3) := by decide +kernel
theorem dX6_threshold_39 : decode cX6_threshold 39 = .ok (.iload_n 1, 1) := by decide +kernel
theorem dX6_threshold_40 : decode cX6_threshold 40 = .ok (.putfield 142, 3) := by decide +kernel
theorem dX6_threshold_43 : decode cX6_threshold 43 = .ok (.iload_n 2, 1) := by decide +kernel
theorem dX6_threshold_44 : decode cX6_threshold 44 = .ok (.ireturn, 1) := by decide +kernel
set_option maxRecDepth 20000 in
theorem ggX6_begin_X2_within : GoodIn wsX6_begin wsX2_within := goodIn_r _ [9] (by decide +kernel) (by decide +kernel)
set_option maxRecDepth 20000 in
theorem gX6_begin_X2_within : GoodIn wsX6_begin (va_wsS RX6 54 yX2_within wsX2_within) := goodIn_app (goodIn_of _ (by decide +kernel)) ggX6_begin_X2_within
set_option maxRecDepth 20000 in
theorem ggX6_begin_X6_reach : GoodIn wsX6_begin wsX6_reach := goodIn_r _ [14, 15, 16, 17, 18, 19, 35, 36, 37, 38, 39, 40] (by decide +kernel) (by decide +kernel)
set_option maxRecDepth 20000 in
theorem gX6_begin_X6_reach : GoodIn wsX6_begin (wsV RX6 145 RX6 yX6_reach wsX6_reach) := goodIn_app (goodIn_of _ (by decide +kernel)) ggX6_begin_X6_reach
set_option maxRecDepth 20000 in
theorem ggX6_begin_X5_start : GoodIn wsX6_begin wsX5_start := goodIn_r _ [24, 25, 26, 27, 28, 29, 30, 31, 32, 33, 34, 41, 42, 43, 44, 45, 46, 47, 48, 49, 50, 51] (by decide +kernel) (by decide +kernel)
set_option maxRecDepth 20000 in
theorem gX6_begin_X5_start : GoodIn wsX6_begin (wsV RX6 148 RX5 yX5_start wsX5_start) := goodIn_app (goodIn_of _ (by decide +kernel)) ggX6_begin_X5_start
theorem dX6_begin_0 : decode cX6_begin 0 = .ok (.iload_n 1, 1) := by decide +kernel
theorem dX6_begin_1 : decode cX6_begin 1 = .ok (.iconst 1, 1) := by decide +kernel
theorem dX6_begin_2 : decode cX6_begin 2 = .ok (.bipush 40, 2) := by decide +kernel
theorem dX6_begin_4 : decode cX6_begin 4 = .ok (.invokestatic 54, 3) := by decide +kernel
theorem dX6_begin_7 : decode cX6_begin 7 = .ok (.ifCond .ne 6, 3) := by decide +kernel
theorem dX6_begin_10 : decode cX6_begin 10 = .ok (.bipush (-2), 2) := by decide +kernel
theorem dX6_begin_12 : decode cX6_begin 12 = .ok (.ireturn, 1) := by decide +kernel
theorem dX6_begin_13 : decode cX6_begin 13 = .ok (.aload_n 0, 1) := by decide +kernel
theorem dX6_begin_14 : decode cX6_begin 14 = .ok (.getfield 35, 3) := by decide +kernel
theorem dX6_begin_17 : decode cX6_begin 17 = .ok (.getfield 60, 3) := by decide +kernel
theorem dX6_begin_20 : decode cX6_begin 20 = .ok (.ifCond .eq 6, 3) := by decide +kernel
theorem dX6_begin_23 : decode cX6_begin 23 = .ok (.bipush (-3), 2) := by decide +kernel
theorem dX6_begin_25 : decode cX6_begin 25 = .ok (.ireturn, 1) := by decide +kernel
theorem dX6_begin_26 : decode cX6_begin 26 = .ok (.aload_n 0, 1) := by decide +kernel
theorem dX6_begin_27 : decode cX6_begin 27 = .ok (.getfield 35, 3) := by decide +kernel
theorem dX6_begin_30 : decode cX6_begin 30 = .ok (.iload_n 1, 1) := by decide +kernel
theorem dX6_begin_31 : decode cX6_begin 31 = .ok (.aload_n 0, 1) := by decide +kernel
theorem dX6_begin_32 : decode cX6_begin 32 = .ok (.invokevirtual 145, 3) := by decide +kernel
theorem dX6_begin_35 : decode cX6_begin 35 = .ok (.invokevirtual 148, 3) := by decide +kernel
theorem dX6_begin_38 : decode cX6_begin 38 = .ok (.aload_n 0, 1) := by decide +kernel
theorem dX6_begin_39 : decode cX6_begin 39 = .ok (.getfield 42, 3) := by decide +kernel
theorem dX6_begin_42 : decode cX6_begin 42 = .ok (.iconst 0, 1) := by decide +kernel
theorem dX6_begin_43 : decode cX6_begin 43 = .ok (.putfield 152, 3) := by decide +kernel
theorem dX6_begin_46 : decode cX6_begin 46 = .ok (.aload_n 0, 1) := by decide +kernel
theorem dX6_begin_47 : decode cX6_begin 47 = .ok (.getfield 35, 3) := by decide +kernel
theorem dX6_begin_50 : decode cX6_begin 50 = .ok (.getfield 153, 3) := by decide +kernel
theorem dX6_begin_53 : decode cX6_begin 53 = .ok (.ireturn, 1) := by decide +kernel
set_option maxRecDepth 20000 in
theorem ggX6_ticks_X2_within : GoodIn wsX6_ticks wsX2_within := goodIn_r _ [5] (by decide +kernel) (by decide +kernel)
set_option maxRecDepth 20000 in
theorem gX6_ticks_X2_within : GoodIn wsX6_ticks (va_wsS RX6 54 yX2_within wsX2_within) := goodIn_app (goodIn_of _ (by decide +kernel)) ggX6_ticks_X2_within
set_option maxRecDepth 20000 in
theorem ggX6_ticks_X5_tick : GoodIn wsX6_ticks wsX5_tick := goodIn_r _ [10, 11, 12, 13, 14, 15, 16, 9, 17, 18, 19, 20, 21, 22, 23, 24, 25, 26, 27, 28, 29, 30, 31, 32, 33, 34, 35, 36, 37, 38, 39, 40, 41, 42, 43, 44, 51, 52, 53, 54, 55, 56, 57, 58, 59, 60, 61] (by decide +kernel) (by decide +kernel)
set_option maxRecDepth 20000 in
theorem gX6_ticks_X5_tick : GoodIn wsX6_ticks (wsV RX6 156 RX5 yX5_tick wsX5_tick) := goodIn_app (goodIn_of _ (by decide +kernel)) ggX6_ticks_X5_tick
theorem dX6_ticks_0 : decode cX6_ticks 0 = .ok (.iload_n 1, 1) := by decide +kernel
theorem dX6_ticks_1 : decode cX6_ticks 1 = .ok (.iconst 0, 1) := by decide +kernel
theorem dX6_ticks_2 : decode cX6_ticks 2 = .ok (.sipush 200, 3) := by decide +kernel
theorem dX6_ticks_5 : decode cX6_ticks 5 = .ok (.invokestatic 54, 3) := by decide +kernel
theorem dX6_ticks_8 : decode cX6_ticks 8 = .ok (.ifCond .ne 6, 3) := by decide +kernel
theorem dX6_ticks_11 : decode cX6_ticks 11 = .ok (.bipush (-2), 2) := by decide +kernel
theorem dX6_ticks_13 : decode cX6_ticks 13 = .ok (.ireturn, 1) := by decide +kernel
theorem dX6_ticks_14 : decode cX6_ticks 14 = .ok (.iconst 0, 1) := by decide +kernel
theorem dX6_ticks_15 : decode cX6_ticks 15 = .ok (.istore_n 2, 1) := by decide +kernel
theorem dX6_ticks_16 : decode cX6_ticks 16 = .ok (.iconst 0, 1) := by decide +kernel
theorem dX6_ticks_17 : decode cX6_ticks 17 = .ok (.istore_n 3, 1) := by decide +kernel
theorem dX6_ticks_18 : decode cX6_ticks 18 = .ok (.iload_n 3, 1) := by decide +kernel
theorem dX6_ticks_19 : decode cX6_ticks 19 = .ok (.iload_n 1, 1) := by decide +kernel
theorem dX6_ticks_20 : decode cX6_ticks 20 = .ok (.if_icmp .ge 19, 3) := by decide +kernel
theorem dX6_ticks_23 : decode cX6_ticks 23 = .ok (.iload_n 2, 1) := by decide +kernel
theorem dX6_ticks_24 : decode cX6_ticks 24 = .ok (.aload_n 0, 1) := by decide +kernel
theorem dX6_ticks_25 : decode cX6_ticks 25 = .ok (.getfield 35, 3) := by decide +kernel
theorem dX6_ticks_28 : decode cX6_ticks 28 = .ok (.invokevirtual 156, 3) := by decide +kernel
theorem dX6_ticks_31 : decode cX6_ticks 31 = .ok (.iadd, 1) := by decide +kernel
theorem dX6_ticks_32 : decode cX6_ticks 32 = .ok (.istore_n 2, 1) := by decide +kernel
theorem dX6_ticks_33 : decode cX6_ticks 33 = .ok (.iinc 3 1, 3) := by decide +kernel
theorem dX6_ticks_36 : decode cX6_ticks 36 = .ok (.goto (-18), 3) := by decide +kernel
theorem dX6_ticks_39 : decode cX6_ticks 39 = .ok (.iload_n 2, 1) := by decide +kernel
theorem dX6_ticks_40 : decode cX6_ticks 40 = .ok (.ireturn, 1) := by decide +kernel
set_option maxRecDepth 20000 in
theorem ggX6_take_X0_place : GoodIn wsX6_take wsX0_place := goodIn_r _ [11] (by decide +kernel) (by decide +kernel)
set_option maxRecDepth 20000 in
theorem gX6_take_X0_place : GoodIn wsX6_take (va_wsS RX6 64 yX0_place wsX0_place) := goodIn_app (goodIn_of _ (by decide +kernel)) ggX6_take_X0_place
set_option maxRecDepth 20000 in
theorem ggX6_take_X6_lineValue : GoodIn wsX6_take wsX6_lineValue := goodIn_r _ [16, 17, 18, 19, 20, 21, 15, 22, 23, 24, 25, 26, 10, 27, 28, 9, 11, 29, 30, 31, 32, 33, 34, 35, 36, 37, 38, 39, 40, 41, 42, 43, 44, 45, 46, 47, 48, 49, 50, 51, 52, 53, 54, 55, 56, 57, 58, 59, 60, 61, 62, 63, 64, 65, 66, 67, 68, 69, 70, 71, 72, 73, 8, 74, 75, 76, 77, 78, 79, 80, 81, 82, 83, 84, 85, 86, 87, 88, 89, 90, 91, 92, 93, 94, 95, 96, 97, 98, 99, 100, 101, 102, 103, 104, 105, 106, 107, 108, 109, 110, 125, 126, 127, 128, 129, 130, 131, 132, 133, 134, 135, 136, 137, 138, 139, 140] (by decide +kernel) (by decide +kernel)
