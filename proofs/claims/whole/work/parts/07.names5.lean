theorem dX7_init_0 : decode cX7_init 0 = .ok (.aload_n 0, 1) := by decide +kernel
theorem dX7_init_1 : decode cX7_init 1 = .ok (.invokespecial 1, 3) := by decide +kernel
theorem dX7_init_4 : decode cX7_init 4 = .ok (.aload_n 0, 1) := by decide +kernel
theorem dX7_init_5 : decode cX7_init 5 = .ok (.bipush 36, 2) := by decide +kernel
theorem dX7_init_7 : decode cX7_init 7 = .ok (.newarray .int, 2) := by decide +kernel
theorem dX7_init_9 : decode cX7_init 9 = .ok (.putfield 7, 3) := by decide +kernel
theorem dX7_init_12 : decode cX7_init 12 = .ok (.aload_n 0, 1) := by decide +kernel
theorem dX7_init_13 : decode cX7_init 13 = .ok (.bipush 36, 2) := by decide +kernel
theorem dX7_init_15 : decode cX7_init 15 = .ok (.newarray .int, 2) := by decide +kernel
theorem dX7_init_17 : decode cX7_init 17 = .ok (.putfield 13, 3) := by decide +kernel
theorem dX7_init_20 : decode cX7_init 20 = .ok (.aload_n 0, 1) := by decide +kernel
theorem dX7_init_21 : decode cX7_init 21 = .ok (.bipush 36, 2) := by decide +kernel
theorem dX7_init_23 : decode cX7_init 23 = .ok (.newarray .int, 2) := by decide +kernel
theorem dX7_init_25 : decode cX7_init 25 = .ok (.putfield 16, 3) := by decide +kernel
theorem dX7_init_28 : decode cX7_init 28 = .ok (.aload_n 0, 1) := by decide +kernel
theorem dX7_init_29 : decode cX7_init 29 = .ok (.bipush 36, 2) := by decide +kernel
theorem dX7_init_31 : decode cX7_init 31 = .ok (.newarray .int, 2) := by decide +kernel
theorem dX7_init_33 : decode cX7_init 33 = .ok (.putfield 19, 3) := by decide +kernel
theorem dX7_init_36 : decode cX7_init 36 = .ok (.aload_n 0, 1) := by decide +kernel
theorem dX7_init_37 : decode cX7_init 37 = .ok (.sipush 255, 3) := by decide +kernel
theorem dX7_init_40 : decode cX7_init 40 = .ok (.putfield 22, 3) := by decide +kernel
theorem dX7_init_43 : decode cX7_init 43 = .ok (.aload_n 0, 1) := by decide +kernel
theorem dX7_init_44 : decode cX7_init 44 = .ok (.bipush 12, 2) := by decide +kernel
theorem dX7_init_46 : decode cX7_init 46 = .ok (.newarray .int, 2) := by decide +kernel
theorem dX7_init_48 : decode cX7_init 48 = .ok (.putfield 26, 3) := by decide +kernel
theorem dX7_init_51 : decode cX7_init 51 = .ok (.aload_n 0, 1) := by decide +kernel
theorem dX7_init_52 : decode cX7_init 52 = .ok (.bipush 12, 2) := by decide +kernel
theorem dX7_init_54 : decode cX7_init 54 = .ok (.newarray .int, 2) := by decide +kernel
theorem dX7_init_56 : decode cX7_init 56 = .ok (.putfield 29, 3) := by decide +kernel
theorem dX7_init_59 : decode cX7_init 59 = .ok (.aload_n 0, 1) := by decide +kernel
theorem dX7_init_60 : decode cX7_init 60 = .ok (.bipush 12, 2) := by decide +kernel
theorem dX7_init_62 : decode cX7_init 62 = .ok (.newarray .int, 2) := by decide +kernel
theorem dX7_init_64 : decode cX7_init 64 = .ok (.putfield 32, 3) := by decide +kernel
theorem dX7_init_67 : decode cX7_init 67 = .ok (.aload_n 0, 1) := by decide +kernel
theorem dX7_init_68 : decode cX7_init 68 = .ok (.bipush 12, 2) := by decide +kernel
theorem dX7_init_70 : decode cX7_init 70 = .ok (.newarray .int, 2) := by decide +kernel
theorem dX7_init_72 : decode cX7_init 72 = .ok (.putfield 35, 3) := by decide +kernel
theorem dX7_init_75 : decode cX7_init 75 = .ok (.aload_n 0, 1) := by decide +kernel
theorem dX7_init_76 : decode cX7_init 76 = .ok (.bipush 12, 2) := by decide +kernel
theorem dX7_init_78 : decode cX7_init 78 = .ok (.newarray .int, 2) := by decide +kernel
theorem dX7_init_80 : decode cX7_init 80 = .ok (.putfield 38, 3) := by decide +kernel
theorem dX7_init_83 : decode cX7_init 83 = .ok (.aload_n 0, 1) := by decide +kernel
theorem dX7_init_84 : decode cX7_init 84 = .ok (.bipush 36, 2) := by decide +kernel
theorem dX7_init_86 : decode cX7_init 86 = .ok (.newarray .int, 2) := by decide +kernel
theorem dX7_init_88 : decode cX7_init 88 = .ok (.putfield 41, 3) := by decide +kernel
theorem dX7_init_91 : decode cX7_init 91 = .ok (.aload_n 0, 1) := by decide +kernel
theorem dX7_init_92 : decode cX7_init 92 = .ok (.bipush 12, 2) := by decide +kernel
theorem dX7_init_94 : decode cX7_init 94 = .ok (.newarray .int, 2) := by decide +kernel
theorem dX7_init_96 : decode cX7_init 96 = .ok (.putfield 44, 3) := by decide +kernel
theorem dX7_init_99 : decode cX7_init 99 = .ok (.aload_n 0, 1) := by decide +kernel
theorem dX7_init_100 : decode cX7_init 100 = .ok (.iconst 3, 1) := by decide +kernel
theorem dX7_init_101 : decode cX7_init 101 = .ok (.newarray .int, 2) := by decide +kernel
theorem dX7_init_103 : decode cX7_init 103 = .ok (.putfield 47, 3) := by decide +kernel
theorem dX7_init_106 : decode cX7_init 106 = .ok (.aload_n 0, 1) := by decide +kernel
theorem dX7_init_107 : decode cX7_init 107 = .ok (.iconst 4, 1) := by decide +kernel
theorem dX7_init_108 : decode cX7_init 108 = .ok (.newarray .int, 2) := by decide +kernel
theorem dX7_init_110 : decode cX7_init 110 = .ok (.putfield 50, 3) := by decide +kernel
theorem dX7_init_113 : decode cX7_init 113 = .ok (.aload_n 0, 1) := by decide +kernel
theorem dX7_init_114 : decode cX7_init 114 = .ok (.iconst 4, 1) := by decide +kernel
theorem dX7_init_115 : decode cX7_init 115 = .ok (.newarray .int, 2) := by decide +kernel
theorem dX7_init_117 : decode cX7_init 117 = .ok (.putfield 53, 3) := by decide +kernel
theorem dX7_init_120 : decode cX7_init 120 = .ok (.aload_n 0, 1) := by decide +kernel
theorem dX7_init_121 : decode cX7_init 121 = .ok (.sipush 128, 3) := by decide +kernel
theorem dX7_init_124 : decode cX7_init 124 = .ok (.putfield 56, 3) := by decide +kernel
theorem dX7_init_127 : decode cX7_init 127 = .ok (.aload_n 0, 1) := by decide +kernel
theorem dX7_init_128 : decode cX7_init 128 = .ok (.bipush (-9), 2) := by decide +kernel
theorem dX7_init_130 : decode cX7_init 130 = .ok (.putfield 59, 3) := by decide +kernel
theorem dX7_init_133 : decode cX7_init 133 = .ok (.aload_n 0, 1) := by decide +kernel
theorem dX7_init_134 : decode cX7_init 134 = .ok (.bipush (-4), 2) := by decide +kernel
theorem dX7_init_136 : decode cX7_init 136 = .ok (.putfield 62, 3) := by decide +kernel
theorem dX7_init_139 : decode cX7_init 139 = .ok (.aload_n 0, 1) := by decide +kernel
theorem dX7_init_140 : decode cX7_init 140 = .ok (.sipush 1440, 3) := by decide +kernel
theorem dX7_init_143 : decode cX7_init 143 = .ok (.newarray .int, 2) := by decide +kernel
theorem dX7_init_145 : decode cX7_init 145 = .ok (.putfield 65, 3) := by decide +kernel
theorem dX7_init_148 : decode cX7_init 148 = .ok (.iconst 0, 1) := by decide +kernel
theorem dX7_init_149 : decode cX7_init 149 = .ok (.istore_n 1, 1) := by decide +kernel
theorem dX7_init_150 : decode cX7_init 150 = .ok (.iload_n 1, 1) := by decide +kernel
theorem dX7_init_151 : decode cX7_init 151 = .ok (.bipush 36, 2) := by decide +kernel
theorem dX7_init_153 : decode cX7_init 153 = .ok (.if_icmp .ge 26, 3) := by decide +kernel
theorem dX7_init_156 : decode cX7_init 156 = .ok (.aload_n 0, 1) := by decide +kernel
theorem dX7_init_157 : decode cX7_init 157 = .ok (.getfield 13, 3) := by decide +kernel
theorem dX7_init_160 : decode cX7_init 160 = .ok (.iload_n 1, 1) := by decide +kernel
theorem dX7_init_161 : decode cX7_init 161 = .ok (.bipush 64, 2) := by decide +kernel
theorem dX7_init_163 : decode cX7_init 163 = .ok (.iastore, 1) := by decide +kernel
theorem dX7_init_164 : decode cX7_init 164 = .ok (.aload_n 0, 1) := by decide +kernel
theorem dX7_init_165 : decode cX7_init 165 = .ok (.getfield 19, 3) := by decide +kernel
theorem dX7_init_168 : decode cX7_init 168 = .ok (.iload_n 1, 1) := by decide +kernel
theorem dX7_init_169 : decode cX7_init 169 = .ok (.sipush 255, 3) := by decide +kernel
theorem dX7_init_172 : decode cX7_init 172 = .ok (.iastore, 1) := by decide +kernel
theorem dX7_init_173 : decode cX7_init 173 = .ok (.iinc 1 1, 3) := by decide +kernel
theorem dX7_init_176 : decode cX7_init 176 = .ok (.goto (-26), 3) := by decide +kernel
theorem dX7_init_179 : decode cX7_init 179 = .ok (.return_, 1) := by decide +kernel
theorem dX7_within_0 : decode cX7_within 0 = .ok (.iload_n 0, 1) := by decide +kernel
theorem dX7_within_1 : decode cX7_within 1 = .ok (.iload_n 1, 1) := by decide +kernel
theorem dX7_within_2 : decode cX7_within 2 = .ok (.if_icmp .lt 12, 3) := by decide +kernel
theorem dX7_within_5 : decode cX7_within 5 = .ok (.iload_n 0, 1) := by decide +kernel
theorem dX7_within_6 : decode cX7_within 6 = .ok (.iload_n 2, 1) := by decide +kernel
theorem dX7_within_7 : decode cX7_within 7 = .ok (.if_icmp .gt 7, 3) := by decide +kernel
theorem dX7_within_10 : decode cX7_within 10 = .ok (.iconst 1, 1) := by decide +kernel
theorem dX7_within_11 : decode cX7_within 11 = .ok (.goto 4, 3) := by decide +kernel
theorem dX7_within_14 : decode cX7_within 14 = .ok (.iconst 0, 1) := by decide +kernel
theorem dX7_within_15 : decode cX7_within 15 = .ok (.ireturn, 1) := by decide +kernel
set_option maxRecDepth 20000 in
theorem ggX7_isColour_X7_within : GoodIn wsX7_isColour wsX7_within := goodIn_r _ [4] (by decide +kernel) (by decide +kernel)
set_option maxRecDepth 20000 in
theorem gX7_isColour_X7_within : GoodIn wsX7_isColour (va_wsS RX7 68 yX7_within wsX7_within) := goodIn_app (goodIn_of _ (by decide +kernel)) ggX7_isColour_X7_within
theorem dX7_isColour_0 : decode cX7_isColour 0 = .ok (.iload_n 0, 1) := by decide +kernel
theorem dX7_isColour_1 : decode cX7_isColour 1 = .ok (.iconst 0, 1) := by decide +kernel
theorem dX7_isColour_2 : decode cX7_isColour 2 = .ok (.iconst 2, 1) := by decide +kernel
theorem dX7_isColour_3 : decode cX7_isColour 3 = .ok (.invokestatic 68, 3) := by decide +kernel
theorem dX7_isColour_6 : decode cX7_isColour 6 = .ok (.ireturn, 1) := by decide +kernel
set_option maxRecDepth 20000 in
theorem ggX7_isColumn_X7_within : GoodIn wsX7_isColumn wsX7_within := goodIn_r _ [4] (by decide +kernel) (by decide +kernel)
set_option maxRecDepth 20000 in
theorem gX7_isColumn_X7_within : GoodIn wsX7_isColumn (va_wsS RX7 68 yX7_within wsX7_within) := goodIn_app (goodIn_of _ (by decide +kernel)) ggX7_isColumn_X7_within
theorem dX7_isColumn_0 : decode cX7_isColumn 0 = .ok (.iload_n 0, 1) := by decide +kernel
theorem dX7_isColumn_1 : decode cX7_isColumn 1 = .ok (.iconst 0, 1) := by decide +kernel
theorem dX7_isColumn_2 : decode cX7_isColumn 2 = .ok (.bipush 11, 2) := by decide +kernel
theorem dX7_isColumn_4 : decode cX7_isColumn 4 = .ok (.invokestatic 68, 3) := by decide +kernel
theorem dX7_isColumn_7 : decode cX7_isColumn 7 = .ok (.ireturn, 1) := by decide +kernel
set_option maxRecDepth 20000 in
theorem ggX7_isCell_X7_isColour : GoodIn wsX7_isCell wsX7_isColour := goodIn_r _ [4, 5, 6, 3, 7] (by decide +kernel) (by decide +kernel)
set_option maxRecDepth 20000 in
theorem gX7_isCell_X7_isColour : GoodIn wsX7_isCell (va_wsS RX7 72 yX7_isColour wsX7_isColour) := goodIn_app (goodIn_of _ (by decide +kernel)) ggX7_isCell_X7_isColour
set_option maxRecDepth 20000 in
theorem ggX7_isCell_X7_isColumn : GoodIn wsX7_isCell wsX7_isColumn := goodIn_r _ [10, 5, 6, 3, 7] (by decide +kernel) (by decide +kernel)
set_option maxRecDepth 20000 in
theorem gX7_isCell_X7_isColumn : GoodIn wsX7_isCell (va_wsS RX7 76 yX7_isColumn wsX7_isColumn) := goodIn_app (goodIn_of _ (by decide +kernel)) ggX7_isCell_X7_isColumn
theorem dX7_isCell_0 : decode cX7_isCell 0 = .ok (.iload_n 0, 1) := by decide +kernel
theorem dX7_isCell_1 : decode cX7_isCell 1 = .ok (.invokestatic 72, 3) := by decide +kernel
theorem dX7_isCell_4 : decode cX7_isCell 4 = .ok (.ifCond .eq 14, 3) := by decide +kernel
theorem dX7_isCell_7 : decode cX7_isCell 7 = .ok (.iload_n 1, 1) := by decide +kernel
theorem dX7_isCell_8 : decode cX7_isCell 8 = .ok (.invokestatic 76, 3) := by decide +kernel
theorem dX7_isCell_11 : decode cX7_isCell 11 = .ok (.ifCond .eq 7, 3) := by decide +kernel
theorem dX7_isCell_14 : decode cX7_isCell 14 = .ok (.iconst 1, 1) := by decide +kernel
theorem dX7_isCell_15 : decode cX7_isCell 15 = .ok (.goto 4, 3) := by decide +kernel
theorem dX7_isCell_18 : decode cX7_isCell 18 = .ok (.iconst 0, 1) := by decide +kernel
theorem dX7_isCell_19 : decode cX7_isCell 19 = .ok (.ireturn, 1) := by decide +kernel
theorem dX7_atMost_0 : decode cX7_atMost 0 = .ok (.iload_n 0, 1) := by decide +kernel
theorem dX7_atMost_1 : decode cX7_atMost 1 = .ok (.iload_n 1, 1) := by decide +kernel
theorem dX7_atMost_2 : decode cX7_atMost 2 = .ok (.if_icmp .le 7, 3) := by decide +kernel
theorem dX7_atMost_5 : decode cX7_atMost 5 = .ok (.iload_n 1, 1) := by decide +kernel
theorem dX7_atMost_6 : decode cX7_atMost 6 = .ok (.goto 4, 3) := by decide +kernel
theorem dX7_atMost_9 : decode cX7_atMost 9 = .ok (.iload_n 0, 1) := by decide +kernel
theorem dX7_atMost_10 : decode cX7_atMost 10 = .ok (.ireturn, 1) := by decide +kernel
theorem dX7_atLeast_0 : decode cX7_atLeast 0 = .ok (.iload_n 0, 1) := by decide +kernel
theorem dX7_atLeast_1 : decode cX7_atLeast 1 = .ok (.iload_n 1, 1) := by decide +kernel
theorem dX7_atLeast_2 : decode cX7_atLeast 2 = .ok (.if_icmp .ge 7, 3) := by decide +kernel
theorem dX7_atLeast_5 : decode cX7_atLeast 5 = .ok (.iload_n 1, 1) := by decide +kernel
theorem dX7_atLeast_6 : decode cX7_atLeast 6 = .ok (.goto 4, 3) := by decide +kernel
theorem dX7_atLeast_9 : decode cX7_atLeast 9 = .ok (.iload_n 0, 1) := by decide +kernel
theorem dX7_atLeast_10 : decode cX7_atLeast 10 = .ok (.ireturn, 1) := by decide +kernel
theorem dX7_rounded_0 : decode cX7_rounded 0 = .ok (.iconst 2, 1) := by decide +kernel
theorem dX7_rounded_1 : decode cX7_rounded 1 = .ok (.iload_n 0, 1) := by decide +kernel
theorem dX7_rounded_2 : decode cX7_rounded 2 = .ok (.imul, 1) := by decide +kernel
theorem dX7_rounded_3 : decode cX7_rounded 3 = .ok (.iload_n 1, 1) := by decide +kernel
theorem dX7_rounded_4 : decode cX7_rounded 4 = .ok (.iadd, 1) := by decide +kernel
theorem dX7_rounded_5 : decode cX7_rounded 5 = .ok (.iconst 2, 1) := by decide +kernel
theorem dX7_rounded_6 : decode cX7_rounded 6 = .ok (.iload_n 1, 1) := by decide +kernel
theorem dX7_rounded_7 : decode cX7_rounded 7 = .ok (.imul, 1) := by decide +kernel
theorem dX7_rounded_8 : decode cX7_rounded 8 = .ok (.idiv, 1) := by decide +kernel
theorem dX7_rounded_9 : decode cX7_rounded 9 = .ok (.ireturn, 1) := by decide +kernel
set_option maxRecDepth 20000 in
theorem ggX7_cell_X7_isCell : GoodIn wsX7_cell wsX7_isCell := goodIn_r _ [7, 8, 9, 6, 10, 11, 12, 13, 14, 15, 16] (by decide +kernel) (by decide +kernel)
set_option maxRecDepth 20000 in
theorem gX7_cell_X7_isCell : GoodIn wsX7_cell (va_wsS RX7 79 yX7_isCell wsX7_isCell) := goodIn_app (goodIn_of _ (by decide +kernel)) ggX7_cell_X7_isCell
set_option maxRecDepth 20000 in
theorem ggX7_cell_X7_within : GoodIn wsX7_cell wsX7_within := goodIn_r _ [13] (by decide +kernel) (by decide +kernel)
set_option maxRecDepth 20000 in
theorem gX7_cell_X7_within : GoodIn wsX7_cell (va_wsS RX7 68 yX7_within wsX7_within) := goodIn_app (goodIn_of _ (by decide +kernel)) ggX7_cell_X7_within
theorem dX7_cell_0 : decode cX7_cell 0 = .ok (.iload_n 1, 1) := by decide +kernel
theorem dX7_cell_1 : decode cX7_cell 1 = .ok (.iload_n 2, 1) := by decide +kernel
theorem dX7_cell_2 : decode cX7_cell 2 = .ok (.invokestatic 79, 3) := by decide +kernel
theorem dX7_cell_5 : decode cX7_cell 5 = .ok (.ifCond .ne 5, 3) := by decide +kernel
theorem dX7_cell_8 : decode cX7_cell 8 = .ok (.iconst (-1), 1) := by decide +kernel
theorem dX7_cell_9 : decode cX7_cell 9 = .ok (.ireturn, 1) := by decide +kernel
theorem dX7_cell_10 : decode cX7_cell 10 = .ok (.iload_n 3, 1) := by decide +kernel
theorem dX7_cell_11 : decode cX7_cell 11 = .ok (.iconst 0, 1) := by decide +kernel
theorem dX7_cell_12 : decode cX7_cell 12 = .ok (.bipush 63, 2) := by decide +kernel
theorem dX7_cell_14 : decode cX7_cell 14 = .ok (.invokestatic 68, 3) := by decide +kernel
theorem dX7_cell_17 : decode cX7_cell 17 = .ok (.ifCond .eq 14, 3) := by decide +kernel
theorem dX7_cell_20 : decode cX7_cell 20 = .ok (.iload 4, 2) := by decide +kernel
theorem dX7_cell_22 : decode cX7_cell 22 = .ok (.iconst 0, 1) := by decide +kernel
theorem dX7_cell_23 : decode cX7_cell 23 = .ok (.bipush 127, 2) := by decide +kernel
theorem dX7_cell_25 : decode cX7_cell 25 = .ok (.invokestatic 68, 3) := by decide +kernel
theorem dX7_cell_28 : decode cX7_cell 28 = .ok (.ifCond .ne 6, 3) := by decide +kernel
theorem dX7_cell_31 : decode cX7_cell 31 = .ok (.bipush (-2), 2) := by decide +kernel
theorem dX7_cell_33 : decode cX7_cell 33 = .ok (.ireturn, 1) := by decide +kernel
theorem dX7_cell_34 : decode cX7_cell 34 = .ok (.aload_n 0, 1) := by decide +kernel
theorem dX7_cell_35 : decode cX7_cell 35 = .ok (.getfield 83, 3) := by decide +kernel
theorem dX7_cell_38 : decode cX7_cell 38 = .ok (.ifCond .eq 6, 3) := by decide +kernel
theorem dX7_cell_41 : decode cX7_cell 41 = .ok (.bipush (-3), 2) := by decide +kernel
theorem dX7_cell_43 : decode cX7_cell 43 = .ok (.ireturn, 1) := by decide +kernel
theorem dX7_cell_44 : decode cX7_cell 44 = .ok (.aload_n 0, 1) := by decide +kernel
theorem dX7_cell_45 : decode cX7_cell 45 = .ok (.getfield 7, 3) := by decide +kernel
theorem dX7_cell_48 : decode cX7_cell 48 = .ok (.bipush 12, 2) := by decide +kernel
theorem dX7_cell_50 : decode cX7_cell 50 = .ok (.iload_n 1, 1) := by decide +kernel
theorem dX7_cell_51 : decode cX7_cell 51 = .ok (.imul, 1) := by decide +kernel
theorem dX7_cell_52 : decode cX7_cell 52 = .ok (.iload_n 2, 1) := by decide +kernel
theorem dX7_cell_53 : decode cX7_cell 53 = .ok (.iadd, 1) := by decide +kernel
theorem dX7_cell_54 : decode cX7_cell 54 = .ok (.iload_n 3, 1) := by decide +kernel
theorem dX7_cell_55 : decode cX7_cell 55 = .ok (.iastore, 1) := by decide +kernel
theorem dX7_cell_56 : decode cX7_cell 56 = .ok (.aload_n 0, 1) := by decide +kernel
theorem dX7_cell_57 : decode cX7_cell 57 = .ok (.getfield 13, 3) := by decide +kernel
theorem dX7_cell_60 : decode cX7_cell 60 = .ok (.bipush 12, 2) := by decide +kernel
theorem dX7_cell_62 : decode cX7_cell 62 = .ok (.iload_n 1, 1) := by decide +kernel
theorem dX7_cell_63 : decode cX7_cell 63 = .ok (.imul, 1) := by decide +kernel
theorem dX7_cell_64 : decode cX7_cell 64 = .ok (.iload_n 2, 1) := by decide +kernel
theorem dX7_cell_65 : decode cX7_cell 65 = .ok (.iadd, 1) := by decide +kernel
theorem dX7_cell_66 : decode cX7_cell 66 = .ok (.iload 4, 2) := by decide +kernel
theorem dX7_cell_68 : decode cX7_cell 68 = .ok (.iastore, 1) := by decide +kernel
theorem dX7_cell_69 : decode cX7_cell 69 = .ok (.iconst 1, 1) := by decide +kernel
theorem dX7_cell_70 : decode cX7_cell 70 = .ok (.ireturn, 1) := by decide +kernel
set_option maxRecDepth 20000 in
theorem ggX7_readingOf_X7_atMost : GoodIn wsX7_readingOf wsX7_atMost := goodIn_r _ [6] (by decide +kernel) (by decide +kernel)
set_option maxRecDepth 20000 in
theorem gX7_readingOf_X7_atMost : GoodIn wsX7_readingOf (va_wsS RX7 87 yX7_atMost wsX7_atMost) := goodIn_app (goodIn_of _ (by decide +kernel)) ggX7_readingOf_X7_atMost
theorem dX7_readingOf_0 : decode cX7_readingOf 0 = .ok (.aload_n 0, 1) := by decide +kernel
theorem dX7_readingOf_1 : decode cX7_readingOf 1 = .ok (.getfield 7, 3) := by decide +kernel
theorem dX7_readingOf_4 : decode cX7_readingOf 4 = .ok (.iload_n 1, 1) := by decide +kernel
theorem dX7_readingOf_5 : decode cX7_readingOf 5 = .ok (.iaload, 1) := by decide +kernel
theorem dX7_readingOf_6 : decode cX7_readingOf 6 = .ok (.iload_n 2, 1) := by decide +kernel
theorem dX7_readingOf_7 : decode cX7_readingOf 7 = .ok (.aload_n 0, 1) := by decide +kernel
theorem dX7_readingOf_8 : decode cX7_readingOf 8 = .ok (.getfield 13, 3) := by decide +kernel
theorem dX7_readingOf_11 : decode cX7_readingOf 11 = .ok (.iload_n 1, 1) := by decide +kernel
theorem dX7_readingOf_12 : decode cX7_readingOf 12 = .ok (.iaload, 1) := by decide +kernel
theorem dX7_readingOf_13 : decode cX7_readingOf 13 = .ok (.imul, 1) := by decide +kernel
theorem dX7_readingOf_14 : decode cX7_readingOf 14 = .ok (.bipush 64, 2) := by decide +kernel
theorem dX7_readingOf_16 : decode cX7_readingOf 16 = .ok (.idiv, 1) := by decide +kernel
theorem dX7_readingOf_17 : decode cX7_readingOf 17 = .ok (.iadd, 1) := by decide +kernel
theorem dX7_readingOf_18 : decode cX7_readingOf 18 = .ok (.sipush 255, 3) := by decide +kernel
theorem dX7_readingOf_21 : decode cX7_readingOf 21 = .ok (.invokestatic 87, 3) := by decide +kernel
theorem dX7_readingOf_24 : decode cX7_readingOf 24 = .ok (.ireturn, 1) := by decide +kernel
theorem dX7_isLive_0 : decode cX7_isLive 0 = .ok (.aload_n 0, 1) := by decide +kernel
theorem dX7_isLive_1 : decode cX7_isLive 1 = .ok (.getfield 19, 3) := by decide +kernel
theorem dX7_isLive_4 : decode cX7_isLive 4 = .ok (.iload_n 1, 1) := by decide +kernel
theorem dX7_isLive_5 : decode cX7_isLive 5 = .ok (.iaload, 1) := by decide +kernel
theorem dX7_isLive_6 : decode cX7_isLive 6 = .ok (.aload_n 0, 1) := by decide +kernel
theorem dX7_isLive_7 : decode cX7_isLive 7 = .ok (.getfield 16, 3) := by decide +kernel
theorem dX7_isLive_10 : decode cX7_isLive 10 = .ok (.iload_n 1, 1) := by decide +kernel
theorem dX7_isLive_11 : decode cX7_isLive 11 = .ok (.iaload, 1) := by decide +kernel
theorem dX7_isLive_12 : decode cX7_isLive 12 = .ok (.bipush 16, 2) := by decide +kernel
theorem dX7_isLive_14 : decode cX7_isLive 14 = .ok (.iadd, 1) := by decide +kernel
theorem dX7_isLive_15 : decode cX7_isLive 15 = .ok (.if_icmp .lt 7, 3) := by decide +kernel
theorem dX7_isLive_18 : decode cX7_isLive 18 = .ok (.iconst 1, 1) := by decide +kernel
theorem dX7_isLive_19 : decode cX7_isLive 19 = .ok (.goto 4, 3) := by decide +kernel
theorem dX7_isLive_22 : decode cX7_isLive 22 = .ok (.iconst 0, 1) := by decide +kernel
theorem dX7_isLive_23 : decode cX7_isLive 23 = .ok (.ireturn, 1) := by decide +kernel
set_option maxRecDepth 20000 in
theorem ggX7_manyLive_X7_isLive : GoodIn wsX7_manyLive wsX7_isLive := goodIn_r _ [5, 6, 7, 8, 9, 10, 11, 12, 13, 14, 15, 16, 17, 18, 19, 20, 21, 22, 23, 24, 25, 26, 27, 28, 29, 30, 31, 32, 33, 34, 35, 36, 37] (by decide +kernel) (by decide +kernel)
set_option maxRecDepth 20000 in
theorem gX7_manyLive_X7_isLive : GoodIn wsX7_manyLive (wsV RX7 91 RX7 yX7_isLive wsX7_isLive) := goodIn_app (goodIn_of _ (by decide +kernel)) ggX7_manyLive_X7_isLive
theorem dX7_manyLive_0 : decode cX7_manyLive 0 = .ok (.iconst 0, 1) := by decide +kernel
theorem dX7_manyLive_1 : decode cX7_manyLive 1 = .ok (.istore_n 1, 1) := by decide +kernel
theorem dX7_manyLive_2 : decode cX7_manyLive 2 = .ok (.iconst 0, 1) := by decide +kernel
theorem dX7_manyLive_3 : decode cX7_manyLive 3 = .ok (.istore_n 2, 1) := by decide +kernel
theorem dX7_manyLive_4 : decode cX7_manyLive 4 = .ok (.iload_n 2, 1) := by decide +kernel
theorem dX7_manyLive_5 : decode cX7_manyLive 5 = .ok (.bipush 36, 2) := by decide +kernel
theorem dX7_manyLive_7 : decode cX7_manyLive 7 = .ok (.if_icmp .ge 25, 3) := by decide +kernel
theorem dX7_manyLive_10 : decode cX7_manyLive 10 = .ok (.iload_n 1, 1) := by decide +kernel
theorem dX7_manyLive_11 : decode cX7_manyLive 11 = .ok (.aload_n 0, 1) := by decide +kernel
theorem dX7_manyLive_12 : decode cX7_manyLive 12 = .ok (.iload_n 2, 1) := by decide +kernel
theorem dX7_manyLive_13 : decode cX7_manyLive 13 = .ok (.invokevirtual 91, 3) := by decide +kernel
theorem dX7_manyLive_16 : decode cX7_manyLive 16 = .ok (.ifCond .eq 7, 3) := by decide +kernel
theorem dX7_manyLive_19 : decode cX7_manyLive 19 = .ok (.iconst 1, 1) := by decide +kernel
theorem dX7_manyLive_20 : decode cX7_manyLive 20 = .ok (.goto 4, 3) := by decide +kernel
theorem dX7_manyLive_23 : decode cX7_manyLive 23 = .ok (.iconst 0, 1) := by decide +kernel
theorem dX7_manyLive_24 : decode cX7_manyLive 24 = .ok (.iadd, 1) := by decide +kernel
theorem dX7_manyLive_25 : decode cX7_manyLive 25 = .ok (.istore_n 1, 1) := by decide +kernel
theorem dX7_manyLive_26 : decode cX7_manyLive 26 = .ok (.iinc 2 1, 3) := by decide +kernel
theorem dX7_manyLive_29 : decode cX7_manyLive 29 = .ok (.goto (-25), 3) := by decide +kernel
theorem dX7_manyLive_32 : decode cX7_manyLive 32 = .ok (.iload_n 1, 1) := by decide +kernel
theorem dX7_manyLive_33 : decode cX7_manyLive 33 = .ok (.ireturn, 1) := by decide +kernel
set_option maxRecDepth 20000 in
theorem ggX7_strip_X7_within : GoodIn wsX7_strip wsX7_within := goodIn_r _ [7] (by decide +kernel) (by decide +kernel)
set_option maxRecDepth 20000 in
theorem gX7_strip_X7_within : GoodIn wsX7_strip (va_wsS RX7 68 yX7_within wsX7_within) := goodIn_app (goodIn_of _ (by decide +kernel)) ggX7_strip_X7_within
set_option maxRecDepth 20000 in
theorem ggX7_strip_X7_readingOf : GoodIn wsX7_strip wsX7_readingOf := goodIn_r _ [11, 12, 13, 14, 15, 6, 16, 25, 26, 27, 28, 29, 30, 31, 32, 33, 34, 35, 36, 37, 38, 39, 40, 41, 42, 43, 44, 45, 46, 47, 48, 49, 50, 51, 52, 53, 54] (by decide +kernel) (by decide +kernel)
set_option maxRecDepth 20000 in
theorem gX7_strip_X7_readingOf : GoodIn wsX7_strip (wsV RX7 94 RX7 yX7_readingOf wsX7_readingOf) := goodIn_app (goodIn_of _ (by decide +kernel)) ggX7_strip_X7_readingOf
set_option maxRecDepth 20000 in
theorem ggX7_strip_X7_manyLive : GoodIn wsX7_strip wsX7_manyLive := goodIn_r _ [20, 21, 22, 23, 6, 24, 3, 2, 25, 26, 27, 28, 29, 30, 31, 32, 33, 34, 35, 36, 37, 38, 39, 40, 41, 42, 43, 44, 45, 46, 47, 48, 49, 50, 51, 52, 53, 54] (by decide +kernel) (by decide +kernel)
set_option maxRecDepth 20000 in
theorem gX7_strip_X7_manyLive : GoodIn wsX7_strip (wsV RX7 97 RX7 yX7_manyLive wsX7_manyLive) := goodIn_app (goodIn_of _ (by decide +kernel)) ggX7_strip_X7_manyLive
theorem dX7_strip_0 : decode cX7_strip 0 = .ok (.iload_n 1, 1) := by decide +kernel
theorem dX7_strip_1 : decode cX7_strip 1 = .ok (.iconst 0, 1) := by decide +kernel
theorem dX7_strip_2 : decode cX7_strip 2 = .ok (.iconst 1, 1) := by decide +kernel
theorem dX7_strip_3 : decode cX7_strip 3 = .ok (.invokestatic 68, 3) := by decide +kernel
theorem dX7_strip_6 : decode cX7_strip 6 = .ok (.ifCond .ne 6, 3) := by decide +kernel
theorem dX7_strip_9 : decode cX7_strip 9 = .ok (.bipush (-2), 2) := by decide +kernel
theorem dX7_strip_11 : decode cX7_strip 11 = .ok (.ireturn, 1) := by decide +kernel
theorem dX7_strip_12 : decode cX7_strip 12 = .ok (.aload_n 0, 1) := by decide +kernel
theorem dX7_strip_13 : decode cX7_strip 13 = .ok (.getfield 83, 3) := by decide +kernel
theorem dX7_strip_16 : decode cX7_strip 16 = .ok (.ifCond .eq 6, 3) := by decide +kernel
theorem dX7_strip_19 : decode cX7_strip 19 = .ok (.bipush (-3), 2) := by decide +kernel
theorem dX7_strip_21 : decode cX7_strip 21 = .ok (.ireturn, 1) := by decide +kernel
theorem dX7_strip_22 : decode cX7_strip 22 = .ok (.iconst 0, 1) := by decide +kernel
theorem dX7_strip_23 : decode cX7_strip 23 = .ok (.istore_n 2, 1) := by decide +kernel
theorem dX7_strip_24 : decode cX7_strip 24 = .ok (.iload_n 2, 1) := by decide +kernel
theorem dX7_strip_25 : decode cX7_strip 25 = .ok (.bipush 36, 2) := by decide +kernel
theorem dX7_strip_27 : decode cX7_strip 27 = .ok (.if_icmp .ge 62, 3) := by decide +kernel
theorem dX7_strip_30 : decode cX7_strip 30 = .ok (.aload_n 0, 1) := by decide +kernel
theorem dX7_strip_31 : decode cX7_strip 31 = .ok (.getfield 16, 3) := by decide +kernel
theorem dX7_strip_34 : decode cX7_strip 34 = .ok (.iload_n 2, 1) := by decide +kernel
theorem dX7_strip_35 : decode cX7_strip 35 = .ok (.iload_n 1, 1) := by decide +kernel
theorem dX7_strip_36 : decode cX7_strip 36 = .ok (.ifCond .ne 12, 3) := by decide +kernel
theorem dX7_strip_39 : decode cX7_strip 39 = .ok (.aload_n 0, 1) := by decide +kernel
theorem dX7_strip_40 : decode cX7_strip 40 = .ok (.iload_n 2, 1) := by decide +kernel
theorem dX7_strip_41 : decode cX7_strip 41 = .ok (.iconst 0, 1) := by decide +kernel
theorem dX7_strip_42 : decode cX7_strip 42 = .ok (.invokevirtual 94, 3) := by decide +kernel
theorem dX7_strip_45 : decode cX7_strip 45 = .ok (.goto 9, 3) := by decide +kernel
theorem dX7_strip_48 : decode cX7_strip 48 = .ok (.aload_n 0, 1) := by decide +kernel
theorem dX7_strip_49 : decode cX7_strip 49 = .ok (.getfield 16, 3) := by decide +kernel
theorem dX7_strip_52 : decode cX7_strip 52 = .ok (.iload_n 2, 1) := by decide +kernel
theorem dX7_strip_53 : decode cX7_strip 53 = .ok (.iaload, 1) := by decide +kernel
theorem dX7_strip_54 : decode cX7_strip 54 = .ok (.iastore, 1) := by decide +kernel
theorem dX7_strip_55 : decode cX7_strip 55 = .ok (.aload_n 0, 1) := by decide +kernel
theorem dX7_strip_56 : decode cX7_strip 56 = .ok (.getfield 19, 3) := by decide +kernel
theorem dX7_strip_59 : decode cX7_strip 59 = .ok (.iload_n 2, 1) := by decide +kernel
theorem dX7_strip_60 : decode cX7_strip 60 = .ok (.iload_n 1, 1) := by decide +kernel
theorem dX7_strip_61 : decode cX7_strip 61 = .ok (.iconst 1, 1) := by decide +kernel
theorem dX7_strip_62 : decode cX7_strip 62 = .ok (.if_icmp .ne 14, 3) := by decide +kernel
theorem dX7_strip_65 : decode cX7_strip 65 = .ok (.aload_n 0, 1) := by decide +kernel
theorem dX7_strip_66 : decode cX7_strip 66 = .ok (.iload_n 2, 1) := by decide +kernel
theorem dX7_strip_67 : decode cX7_strip 67 = .ok (.sipush 255, 3) := by decide +kernel
theorem dX7_strip_70 : decode cX7_strip 70 = .ok (.invokevirtual 94, 3) := by decide +kernel
theorem dX7_strip_73 : decode cX7_strip 73 = .ok (.goto 9, 3) := by decide +kernel
theorem dX7_strip_76 : decode cX7_strip 76 = .ok (.aload_n 0, 1) := by decide +kernel
theorem dX7_strip_77 : decode cX7_strip 77 = .ok (.getfield 19, 3) := by decide +kernel
theorem dX7_strip_80 : decode cX7_strip 80 = .ok (.iload_n 2, 1) := by decide +kernel
theorem dX7_strip_81 : decode cX7_strip 81 = .ok (.iaload, 1) := by decide +kernel
theorem dX7_strip_82 : decode cX7_strip 82 = .ok (.iastore, 1) := by decide +kernel
theorem dX7_strip_83 : decode cX7_strip 83 = .ok (.iinc 2 1, 3) := by decide +kernel
theorem dX7_strip_86 : decode cX7_strip 86 = .ok (.goto (-62), 3) := by decide +kernel
theorem dX7_strip_89 : decode cX7_strip 89 = .ok (.aload_n 0, 1) := by decide +kernel
theorem dX7_strip_90 : decode cX7_strip 90 = .ok (.invokevirtual 97, 3) := by decide +kernel
theorem dX7_strip_93 : decode cX7_strip 93 = .ok (.ireturn, 1) := by decide +kernel
set_option maxRecDepth 20000 in
theorem ggX7_ofCell_X7_isCell : GoodIn wsX7_ofCell wsX7_isCell := goodIn_r _ [8, 9, 10, 7, 11, 12, 13, 14, 15, 16, 17] (by decide +kernel) (by decide +kernel)
set_option maxRecDepth 20000 in
theorem gX7_ofCell_X7_isCell : GoodIn wsX7_ofCell (va_wsS RX7 79 yX7_isCell wsX7_isCell) := goodIn_app (goodIn_of _ (by decide +kernel)) ggX7_ofCell_X7_isCell
set_option maxRecDepth 20000 in
theorem ggX7_ofCell_X7_isLive : GoodIn wsX7_ofCell wsX7_isLive := goodIn_r _ [21, 4, 3, 22, 23, 24, 25, 26, 27, 28, 29, 30, 31, 32, 33, 34, 35, 36, 37, 38, 39, 40, 41, 42, 43, 44, 45, 46, 47, 48, 49, 50, 51] (by decide +kernel) (by decide +kernel)
set_option maxRecDepth 20000 in
theorem gX7_ofCell_X7_isLive : GoodIn wsX7_ofCell (wsV RX7 91 RX7 yX7_isLive wsX7_isLive) := goodIn_app (goodIn_of _ (by decide +kernel)) ggX7_ofCell_X7_isLive
theorem dX7_ofCell_0 : decode cX7_ofCell 0 = .ok (.iload_n 1, 1) := by decide +kernel
theorem dX7_ofCell_1 : decode cX7_ofCell 1 = .ok (.iload_n 2, 1) := by decide +kernel
theorem dX7_ofCell_2 : decode cX7_ofCell 2 = .ok (.invokestatic 79, 3) := by decide +kernel
theorem dX7_ofCell_5 : decode cX7_ofCell 5 = .ok (.ifCond .ne 5, 3) := by decide +kernel
theorem dX7_ofCell_8 : decode cX7_ofCell 8 = .ok (.iconst (-1), 1) := by decide +kernel
theorem dX7_ofCell_9 : decode cX7_ofCell 9 = .ok (.ireturn, 1) := by decide +kernel
theorem dX7_ofCell_10 : decode cX7_ofCell 10 = .ok (.bipush 12, 2) := by decide +kernel
theorem dX7_ofCell_12 : decode cX7_ofCell 12 = .ok (.iload_n 1, 1) := by decide +kernel
theorem dX7_ofCell_13 : decode cX7_ofCell 13 = .ok (.imul, 1) := by decide +kernel
theorem dX7_ofCell_14 : decode cX7_ofCell 14 = .ok (.iload_n 2, 1) := by decide +kernel
theorem dX7_ofCell_15 : decode cX7_ofCell 15 = .ok (.iadd, 1) := by decide +kernel
theorem dX7_ofCell_16 : decode cX7_ofCell 16 = .ok (.istore 4, 2) := by decide +kernel
theorem dX7_ofCell_18 : decode cX7_ofCell 18 = .ok (.iload_n 3, 1) := by decide +kernel
theorem dX7_ofCell_19 : decode cX7_ofCell 19 = .ok (.tableswitch 80 0 4 #[33, 41, 49, 57, 65], 33) := by decide +kernel
theorem dX7_ofCell_52 : decode cX7_ofCell 52 = .ok (.aload_n 0, 1) := by decide +kernel
theorem dX7_ofCell_53 : decode cX7_ofCell 53 = .ok (.getfield 7, 3) := by decide +kernel
theorem dX7_ofCell_56 : decode cX7_ofCell 56 = .ok (.iload 4, 2) := by decide +kernel
theorem dX7_ofCell_58 : decode cX7_ofCell 58 = .ok (.iaload, 1) := by decide +kernel
theorem dX7_ofCell_59 : decode cX7_ofCell 59 = .ok (.ireturn, 1) := by decide +kernel
theorem dX7_ofCell_60 : decode cX7_ofCell 60 = .ok (.aload_n 0, 1) := by decide +kernel
theorem dX7_ofCell_61 : decode cX7_ofCell 61 = .ok (.getfield 13, 3) := by decide +kernel
theorem dX7_ofCell_64 : decode cX7_ofCell 64 = .ok (.iload 4, 2) := by decide +kernel
theorem dX7_ofCell_66 : decode cX7_ofCell 66 = .ok (.iaload, 1) := by decide +kernel
theorem dX7_ofCell_67 : decode cX7_ofCell 67 = .ok (.ireturn, 1) := by decide +kernel
theorem dX7_ofCell_68 : decode cX7_ofCell 68 = .ok (.aload_n 0, 1) := by decide +kernel
theorem dX7_ofCell_69 : decode cX7_ofCell 69 = .ok (.getfield 16, 3) := by decide +kernel
theorem dX7_ofCell_72 : decode cX7_ofCell 72 = .ok (.iload 4, 2) := by decide +kernel
theorem dX7_ofCell_74 : decode cX7_ofCell 74 = .ok (.iaload, 1) := by decide +kernel
theorem dX7_ofCell_75 : decode cX7_ofCell 75 = .ok (.ireturn, 1) := by decide +kernel
theorem dX7_ofCell_76 : decode cX7_ofCell 76 = .ok (.aload_n 0, 1) := by decide +kernel
theorem dX7_ofCell_77 : decode cX7_ofCell 77 = .ok (.getfield 19, 3) := by decide +kernel
theorem dX7_ofCell_80 : decode cX7_ofCell 80 = .ok (.iload 4, 2) := by decide +kernel
theorem dX7_ofCell_82 : decode cX7_ofCell 82 = .ok (.iaload, 1) := by decide +kernel
theorem dX7_ofCell_83 : decode cX7_ofCell 83 = .ok (.ireturn, 1) := by decide +kernel
theorem dX7_ofCell_84 : decode cX7_ofCell 84 = .ok (.aload_n 0, 1) := by decide +kernel
theorem dX7_ofCell_85 : decode cX7_ofCell 85 = .ok (.iload 4, 2) := by decide +kernel
theorem dX7_ofCell_87 : decode cX7_ofCell 87 = .ok (.invokevirtual 91, 3) := by decide +kernel
theorem dX7_ofCell_90 : decode cX7_ofCell 90 = .ok (.ifCond .eq 7, 3) := by decide +kernel
theorem dX7_ofCell_93 : decode cX7_ofCell 93 = .ok (.iconst 1, 1) := by decide +kernel
theorem dX7_ofCell_94 : decode cX7_ofCell 94 = .ok (.goto 4, 3) := by decide +kernel
theorem dX7_ofCell_97 : decode cX7_ofCell 97 = .ok (.iconst 0, 1) := by decide +kernel
theorem dX7_ofCell_98 : decode cX7_ofCell 98 = .ok (.ireturn, 1) := by decide +kernel
theorem dX7_ofCell_99 : decode cX7_ofCell 99 = .ok (.bipush (-2), 2) := by decide +kernel
theorem dX7_ofCell_101 : decode cX7_ofCell 101 = .ok (.ireturn, 1) := by decide +kernel
set_option maxRecDepth 20000 in
theorem ggX7_reading_X7_isCell : GoodIn wsX7_reading wsX7_isCell := goodIn_r _ [4, 5, 6, 3, 7, 8, 9, 10, 11, 12, 13] (by decide +kernel) (by decide +kernel)
set_option maxRecDepth 20000 in
theorem gX7_reading_X7_isCell : GoodIn wsX7_reading (va_wsS RX7 79 yX7_isCell wsX7_isCell) := goodIn_app (goodIn_of _ (by decide +kernel)) ggX7_reading_X7_isCell
set_option maxRecDepth 20000 in
theorem ggX7_reading_X7_within : GoodIn wsX7_reading wsX7_within := goodIn_r _ [10] (by decide +kernel) (by decide +kernel)
set_option maxRecDepth 20000 in
theorem gX7_reading_X7_within : GoodIn wsX7_reading (va_wsS RX7 68 yX7_within wsX7_within) := goodIn_app (goodIn_of _ (by decide +kernel)) ggX7_reading_X7_within
set_option maxRecDepth 20000 in
theorem ggX7_reading_X7_readingOf : GoodIn wsX7_reading wsX7_readingOf := goodIn_r _ [17, 18, 19, 20, 21, 3, 22, 23, 24, 25, 26, 27, 28, 29, 30, 31, 32, 33, 34, 35, 36, 37, 38, 39, 40, 41, 42, 43, 44, 45, 46, 47, 48, 49, 50, 51, 52] (by decide +kernel) (by decide +kernel)
set_option maxRecDepth 20000 in
theorem gX7_reading_X7_readingOf : GoodIn wsX7_reading (wsV RX7 94 RX7 yX7_readingOf wsX7_readingOf) := goodIn_app (goodIn_of _ (by decide +kernel)) ggX7_reading_X7_readingOf
theorem dX7_reading_0 : decode cX7_reading 0 = .ok (.iload_n 1, 1) := by decide +kernel
theorem dX7_reading_1 : decode cX7_reading 1 = .ok (.iload_n 2, 1) := by decide +kernel
theorem dX7_reading_2 : decode cX7_reading 2 = .ok (.invokestatic 79, 3) := by decide +kernel
theorem dX7_reading_5 : decode cX7_reading 5 = .ok (.ifCond .ne 5, 3) := by decide +kernel
theorem dX7_reading_8 : decode cX7_reading 8 = .ok (.iconst (-1), 1) := by decide +kernel
theorem dX7_reading_9 : decode cX7_reading 9 = .ok (.ireturn, 1) := by decide +kernel
theorem dX7_reading_10 : decode cX7_reading 10 = .ok (.iload_n 3, 1) := by decide +kernel
theorem dX7_reading_11 : decode cX7_reading 11 = .ok (.iconst 0, 1) := by decide +kernel
theorem dX7_reading_12 : decode cX7_reading 12 = .ok (.sipush 255, 3) := by decide +kernel
theorem dX7_reading_15 : decode cX7_reading 15 = .ok (.invokestatic 68, 3) := by decide +kernel
theorem dX7_reading_18 : decode cX7_reading 18 = .ok (.ifCond .eq 17, 3) := by decide +kernel
theorem dX7_reading_21 : decode cX7_reading 21 = .ok (.aload_n 0, 1) := by decide +kernel
theorem dX7_reading_22 : decode cX7_reading 22 = .ok (.bipush 12, 2) := by decide +kernel
theorem dX7_reading_24 : decode cX7_reading 24 = .ok (.iload_n 1, 1) := by decide +kernel
theorem dX7_reading_25 : decode cX7_reading 25 = .ok (.imul, 1) := by decide +kernel
theorem dX7_reading_26 : decode cX7_reading 26 = .ok (.iload_n 2, 1) := by decide +kernel
theorem dX7_reading_27 : decode cX7_reading 27 = .ok (.iadd, 1) := by decide +kernel
theorem dX7_reading_28 : decode cX7_reading 28 = .ok (.iload_n 3, 1) := by decide +kernel
theorem dX7_reading_29 : decode cX7_reading 29 = .ok (.invokevirtual 94, 3) := by decide +kernel
theorem dX7_reading_32 : decode cX7_reading 32 = .ok (.goto 5, 3) := by decide +kernel
theorem dX7_reading_35 : decode cX7_reading 35 = .ok (.bipush (-2), 2) := by decide +kernel
theorem dX7_reading_37 : decode cX7_reading 37 = .ok (.ireturn, 1) := by decide +kernel
set_option maxRecDepth 20000 in
theorem ggX7_evenOf_X7_rounded : GoodIn wsX7_evenOf wsX7_rounded := goodIn_r _ [6] (by decide +kernel) (by decide +kernel)
set_option maxRecDepth 20000 in
theorem gX7_evenOf_X7_rounded : GoodIn wsX7_evenOf (va_wsS RX7 101 yX7_rounded wsX7_rounded) := goodIn_app (goodIn_of _ (by decide +kernel)) ggX7_evenOf_X7_rounded
set_option maxRecDepth 20000 in
theorem ggX7_evenOf_X7_atMost : GoodIn wsX7_evenOf wsX7_atMost := goodIn_r _ [9] (by decide +kernel) (by decide +kernel)
set_option maxRecDepth 20000 in
theorem gX7_evenOf_X7_atMost : GoodIn wsX7_evenOf (va_wsS RX7 87 yX7_atMost wsX7_atMost) := goodIn_app (goodIn_of _ (by decide +kernel)) ggX7_evenOf_X7_atMost
theorem dX7_evenOf_0 : decode cX7_evenOf 0 = .ok (.iload_n 2, 1) := by decide +kernel
theorem dX7_evenOf_1 : decode cX7_evenOf 1 = .ok (.aload_n 0, 1) := by decide +kernel
theorem dX7_evenOf_2 : decode cX7_evenOf 2 = .ok (.getfield 16, 3) := by decide +kernel
theorem dX7_evenOf_5 : decode cX7_evenOf 5 = .ok (.iload_n 1, 1) := by decide +kernel
theorem dX7_evenOf_6 : decode cX7_evenOf 6 = .ok (.iaload, 1) := by decide +kernel
theorem dX7_evenOf_7 : decode cX7_evenOf 7 = .ok (.if_icmp .ge 7, 3) := by decide +kernel
theorem dX7_evenOf_10 : decode cX7_evenOf 10 = .ok (.iconst 0, 1) := by decide +kernel
theorem dX7_evenOf_11 : decode cX7_evenOf 11 = .ok (.goto 37, 3) := by decide +kernel
theorem dX7_evenOf_14 : decode cX7_evenOf 14 = .ok (.sipush 255, 3) := by decide +kernel
theorem dX7_evenOf_17 : decode cX7_evenOf 17 = .ok (.iload_n 2, 1) := by decide +kernel
theorem dX7_evenOf_18 : decode cX7_evenOf 18 = .ok (.aload_n 0, 1) := by decide +kernel
theorem dX7_evenOf_19 : decode cX7_evenOf 19 = .ok (.getfield 16, 3) := by decide +kernel
theorem dX7_evenOf_22 : decode cX7_evenOf 22 = .ok (.iload_n 1, 1) := by decide +kernel
theorem dX7_evenOf_23 : decode cX7_evenOf 23 = .ok (.iaload, 1) := by decide +kernel
theorem dX7_evenOf_24 : decode cX7_evenOf 24 = .ok (.isub, 1) := by decide +kernel
theorem dX7_evenOf_25 : decode cX7_evenOf 25 = .ok (.imul, 1) := by decide +kernel
theorem dX7_evenOf_26 : decode cX7_evenOf 26 = .ok (.aload_n 0, 1) := by decide +kernel
theorem dX7_evenOf_27 : decode cX7_evenOf 27 = .ok (.getfield 19, 3) := by decide +kernel
theorem dX7_evenOf_30 : decode cX7_evenOf 30 = .ok (.iload_n 1, 1) := by decide +kernel
theorem dX7_evenOf_31 : decode cX7_evenOf 31 = .ok (.iaload, 1) := by decide +kernel
theorem dX7_evenOf_32 : decode cX7_evenOf 32 = .ok (.aload_n 0, 1) := by decide +kernel
theorem dX7_evenOf_33 : decode cX7_evenOf 33 = .ok (.getfield 16, 3) := by decide +kernel
theorem dX7_evenOf_36 : decode cX7_evenOf 36 = .ok (.iload_n 1, 1) := by decide +kernel
theorem dX7_evenOf_37 : decode cX7_evenOf 37 = .ok (.iaload, 1) := by decide +kernel
theorem dX7_evenOf_38 : decode cX7_evenOf 38 = .ok (.isub, 1) := by decide +kernel
theorem dX7_evenOf_39 : decode cX7_evenOf 39 = .ok (.invokestatic 101, 3) := by decide +kernel
theorem dX7_evenOf_42 : decode cX7_evenOf 42 = .ok (.sipush 255, 3) := by decide +kernel
theorem dX7_evenOf_45 : decode cX7_evenOf 45 = .ok (.invokestatic 87, 3) := by decide +kernel
theorem dX7_evenOf_48 : decode cX7_evenOf 48 = .ok (.ireturn, 1) := by decide +kernel
set_option maxRecDepth 20000 in
theorem ggX7_even_X7_isCell : GoodIn wsX7_even wsX7_isCell := goodIn_r _ [4, 5, 6, 3, 7, 8, 9, 10, 11, 12, 13] (by decide +kernel) (by decide +kernel)
set_option maxRecDepth 20000 in
theorem gX7_even_X7_isCell : GoodIn wsX7_even (va_wsS RX7 79 yX7_isCell wsX7_isCell) := goodIn_app (goodIn_of _ (by decide +kernel)) ggX7_even_X7_isCell
set_option maxRecDepth 20000 in
theorem ggX7_even_X7_within : GoodIn wsX7_even wsX7_within := goodIn_r _ [10] (by decide +kernel) (by decide +kernel)
set_option maxRecDepth 20000 in
theorem gX7_even_X7_within : GoodIn wsX7_even (va_wsS RX7 68 yX7_within wsX7_within) := goodIn_app (goodIn_of _ (by decide +kernel)) ggX7_even_X7_within
set_option maxRecDepth 20000 in
theorem ggX7_even_X7_isLive : GoodIn wsX7_even wsX7_isLive := goodIn_r _ [17, 18, 19, 30, 31, 32, 33, 34, 35, 36, 37, 38, 39, 40, 41, 42, 43, 44, 45, 46, 47, 48, 49, 50, 51, 52, 53, 54, 55, 56, 57, 58, 59] (by decide +kernel) (by decide +kernel)
set_option maxRecDepth 20000 in
theorem gX7_even_X7_isLive : GoodIn wsX7_even (wsV RX7 91 RX7 yX7_isLive wsX7_isLive) := goodIn_app (goodIn_of _ (by decide +kernel)) ggX7_even_X7_isLive
set_option maxRecDepth 20000 in
theorem ggX7_even_X7_evenOf : GoodIn wsX7_even wsX7_evenOf := goodIn_r _ [23, 19, 18, 24, 25, 3, 26, 27, 28, 29, 30, 31, 32, 33, 34, 35, 36, 37, 38, 39, 40, 41, 42, 43, 44, 45, 46, 47, 48, 49, 50, 51, 52, 53, 54, 55, 56, 57, 58, 59] (by decide +kernel) (by decide +kernel)
set_option maxRecDepth 20000 in
theorem gX7_even_X7_evenOf : GoodIn wsX7_even (wsV RX7 104 RX7 yX7_evenOf wsX7_evenOf) := goodIn_app (goodIn_of _ (by decide +kernel)) ggX7_even_X7_evenOf
theorem dX7_even_0 : decode cX7_even 0 = .ok (.iload_n 1, 1) := by decide +kernel
theorem dX7_even_1 : decode cX7_even 1 = .ok (.iload_n 2, 1) := by decide +kernel
theorem dX7_even_2 : decode cX7_even 2 = .ok (.invokestatic 79, 3) := by decide +kernel
theorem dX7_even_5 : decode cX7_even 5 = .ok (.ifCond .ne 5, 3) := by decide +kernel
theorem dX7_even_8 : decode cX7_even 8 = .ok (.iconst (-1), 1) := by decide +kernel
theorem dX7_even_9 : decode cX7_even 9 = .ok (.ireturn, 1) := by decide +kernel
theorem dX7_even_10 : decode cX7_even 10 = .ok (.iload_n 3, 1) := by decide +kernel
theorem dX7_even_11 : decode cX7_even 11 = .ok (.iconst 0, 1) := by decide +kernel
theorem dX7_even_12 : decode cX7_even 12 = .ok (.sipush 255, 3) := by decide +kernel
theorem dX7_even_15 : decode cX7_even 15 = .ok (.invokestatic 68, 3) := by decide +kernel
theorem dX7_even_18 : decode cX7_even 18 = .ok (.ifCond .ne 6, 3) := by decide +kernel
theorem dX7_even_21 : decode cX7_even 21 = .ok (.bipush (-2), 2) := by decide +kernel
theorem dX7_even_23 : decode cX7_even 23 = .ok (.ireturn, 1) := by decide +kernel
theorem dX7_even_24 : decode cX7_even 24 = .ok (.aload_n 0, 1) := by decide +kernel
theorem dX7_even_25 : decode cX7_even 25 = .ok (.bipush 12, 2) := by decide +kernel
theorem dX7_even_27 : decode cX7_even 27 = .ok (.iload_n 1, 1) := by decide +kernel
theorem dX7_even_28 : decode cX7_even 28 = .ok (.imul, 1) := by decide +kernel
theorem dX7_even_29 : decode cX7_even 29 = .ok (.iload_n 2, 1) := by decide +kernel
theorem dX7_even_30 : decode cX7_even 30 = .ok (.iadd, 1) := by decide +kernel
theorem dX7_even_31 : decode cX7_even 31 = .ok (.invokevirtual 91, 3) := by decide +kernel
theorem dX7_even_34 : decode cX7_even 34 = .ok (.ifCond .eq 17, 3) := by decide +kernel
theorem dX7_even_37 : decode cX7_even 37 = .ok (.aload_n 0, 1) := by decide +kernel
theorem dX7_even_38 : decode cX7_even 38 = .ok (.bipush 12, 2) := by decide +kernel
theorem dX7_even_40 : decode cX7_even 40 = .ok (.iload_n 1, 1) := by decide +kernel
theorem dX7_even_41 : decode cX7_even 41 = .ok (.imul, 1) := by decide +kernel
theorem dX7_even_42 : decode cX7_even 42 = .ok (.iload_n 2, 1) := by decide +kernel
theorem dX7_even_43 : decode cX7_even 43 = .ok (.iadd, 1) := by decide +kernel
theorem dX7_even_44 : decode cX7_even 44 = .ok (.iload_n 3, 1) := by decide +kernel
theorem dX7_even_45 : decode cX7_even 45 = .ok (.invokevirtual 104, 3) := by decide +kernel
theorem dX7_even_48 : decode cX7_even 48 = .ok (.goto 5, 3) := by decide +kernel
theorem dX7_even_51 : decode cX7_even 51 = .ok (.bipush (-3), 2) := by decide +kernel
theorem dX7_even_53 : decode cX7_even 53 = .ok (.ireturn, 1) := by decide +kernel
set_option maxRecDepth 20000 in
theorem ggX7_ground_X7_within : GoodIn wsX7_ground wsX7_within := goodIn_r _ [6] (by decide +kernel) (by decide +kernel)
set_option maxRecDepth 20000 in
theorem gX7_ground_X7_within : GoodIn wsX7_ground (va_wsS RX7 68 yX7_within wsX7_within) := goodIn_app (goodIn_of _ (by decide +kernel)) ggX7_ground_X7_within
theorem dX7_ground_0 : decode cX7_ground 0 = .ok (.iload_n 1, 1) := by decide +kernel
theorem dX7_ground_1 : decode cX7_ground 1 = .ok (.iconst 0, 1) := by decide +kernel
theorem dX7_ground_2 : decode cX7_ground 2 = .ok (.sipush 255, 3) := by decide +kernel
theorem dX7_ground_5 : decode cX7_ground 5 = .ok (.invokestatic 68, 3) := by decide +kernel
theorem dX7_ground_8 : decode cX7_ground 8 = .ok (.ifCond .ne 6, 3) := by decide +kernel
theorem dX7_ground_11 : decode cX7_ground 11 = .ok (.bipush (-2), 2) := by decide +kernel
theorem dX7_ground_13 : decode cX7_ground 13 = .ok (.ireturn, 1) := by decide +kernel
theorem dX7_ground_14 : decode cX7_ground 14 = .ok (.aload_n 0, 1) := by decide +kernel
theorem dX7_ground_15 : decode cX7_ground 15 = .ok (.getfield 83, 3) := by decide +kernel
theorem dX7_ground_18 : decode cX7_ground 18 = .ok (.ifCond .eq 6, 3) := by decide +kernel
theorem dX7_ground_21 : decode cX7_ground 21 = .ok (.bipush (-3), 2) := by decide +kernel
theorem dX7_ground_23 : decode cX7_ground 23 = .ok (.ireturn, 1) := by decide +kernel
theorem dX7_ground_24 : decode cX7_ground 24 = .ok (.aload_n 0, 1) := by decide +kernel
theorem dX7_ground_25 : decode cX7_ground 25 = .ok (.getfield 22, 3) := by decide +kernel
theorem dX7_ground_28 : decode cX7_ground 28 = .ok (.istore_n 2, 1) := by decide +kernel
theorem dX7_ground_29 : decode cX7_ground 29 = .ok (.aload_n 0, 1) := by decide +kernel
theorem dX7_ground_30 : decode cX7_ground 30 = .ok (.iload_n 1, 1) := by decide +kernel
theorem dX7_ground_31 : decode cX7_ground 31 = .ok (.putfield 22, 3) := by decide +kernel
theorem dX7_ground_34 : decode cX7_ground 34 = .ok (.iload_n 2, 1) := by decide +kernel
theorem dX7_ground_35 : decode cX7_ground 35 = .ok (.ireturn, 1) := by decide +kernel
set_option maxRecDepth 20000 in
theorem ggX7_patch_X7_within : GoodIn wsX7_patch wsX7_within := goodIn_r _ [12] (by decide +kernel) (by decide +kernel)
set_option maxRecDepth 20000 in
theorem gX7_patch_X7_within : GoodIn wsX7_patch (va_wsS RX7 68 yX7_within wsX7_within) := goodIn_app (goodIn_of _ (by decide +kernel)) ggX7_patch_X7_within
theorem dX7_patch_0 : decode cX7_patch 0 = .ok (.iload_n 1, 1) := by decide +kernel
theorem dX7_patch_1 : decode cX7_patch 1 = .ok (.ifCond .lt 43, 3) := by decide +kernel
theorem dX7_patch_4 : decode cX7_patch 4 = .ok (.iload_n 1, 1) := by decide +kernel
theorem dX7_patch_5 : decode cX7_patch 5 = .ok (.iload_n 2, 1) := by decide +kernel
theorem dX7_patch_6 : decode cX7_patch 6 = .ok (.if_icmp .gt 38, 3) := by decide +kernel
theorem dX7_patch_9 : decode cX7_patch 9 = .ok (.iload_n 2, 1) := by decide +kernel
theorem dX7_patch_10 : decode cX7_patch 10 = .ok (.bipush 63, 2) := by decide +kernel
theorem dX7_patch_12 : decode cX7_patch 12 = .ok (.if_icmp .gt 32, 3) := by decide +kernel
theorem dX7_patch_15 : decode cX7_patch 15 = .ok (.iload_n 3, 1) := by decide +kernel
theorem dX7_patch_16 : decode cX7_patch 16 = .ok (.ifCond .lt 28, 3) := by decide +kernel
theorem dX7_patch_19 : decode cX7_patch 19 = .ok (.iload_n 3, 1) := by decide +kernel
theorem dX7_patch_20 : decode cX7_patch 20 = .ok (.iload 4, 2) := by decide +kernel
theorem dX7_patch_22 : decode cX7_patch 22 = .ok (.if_icmp .gt 22, 3) := by decide +kernel
theorem dX7_patch_25 : decode cX7_patch 25 = .ok (.iload 4, 2) := by decide +kernel
theorem dX7_patch_27 : decode cX7_patch 27 = .ok (.bipush 12, 2) := by decide +kernel
theorem dX7_patch_29 : decode cX7_patch 29 = .ok (.if_icmp .ge 15, 3) := by decide +kernel
theorem dX7_patch_32 : decode cX7_patch 32 = .ok (.iload 5, 2) := by decide +kernel
theorem dX7_patch_34 : decode cX7_patch 34 = .ok (.bipush (-16), 2) := by decide +kernel
theorem dX7_patch_36 : decode cX7_patch 36 = .ok (.bipush 16, 2) := by decide +kernel
theorem dX7_patch_38 : decode cX7_patch 38 = .ok (.invokestatic 68, 3) := by decide +kernel
theorem dX7_patch_41 : decode cX7_patch 41 = .ok (.ifCond .ne 6, 3) := by decide +kernel
theorem dX7_patch_44 : decode cX7_patch 44 = .ok (.bipush (-2), 2) := by decide +kernel
theorem dX7_patch_46 : decode cX7_patch 46 = .ok (.ireturn, 1) := by decide +kernel
theorem dX7_patch_47 : decode cX7_patch 47 = .ok (.aload_n 0, 1) := by decide +kernel
theorem dX7_patch_48 : decode cX7_patch 48 = .ok (.getfield 83, 3) := by decide +kernel
theorem dX7_patch_51 : decode cX7_patch 51 = .ok (.ifCond .eq 6, 3) := by decide +kernel
theorem dX7_patch_54 : decode cX7_patch 54 = .ok (.bipush (-3), 2) := by decide +kernel
theorem dX7_patch_56 : decode cX7_patch 56 = .ok (.ireturn, 1) := by decide +kernel
theorem dX7_patch_57 : decode cX7_patch 57 = .ok (.aload_n 0, 1) := by decide +kernel
theorem dX7_patch_58 : decode cX7_patch 58 = .ok (.getfield 107, 3) := by decide +kernel
theorem dX7_patch_61 : decode cX7_patch 61 = .ok (.bipush 12, 2) := by decide +kernel
theorem dX7_patch_63 : decode cX7_patch 63 = .ok (.if_icmp .ne 6, 3) := by decide +kernel
theorem dX7_patch_66 : decode cX7_patch 66 = .ok (.bipush (-4), 2) := by decide +kernel
theorem dX7_patch_68 : decode cX7_patch 68 = .ok (.ireturn, 1) := by decide +kernel
theorem dX7_patch_69 : decode cX7_patch 69 = .ok (.aload_n 0, 1) := by decide +kernel
theorem dX7_patch_70 : decode cX7_patch 70 = .ok (.getfield 26, 3) := by decide +kernel
theorem dX7_patch_73 : decode cX7_patch 73 = .ok (.aload_n 0, 1) := by decide +kernel
theorem dX7_patch_74 : decode cX7_patch 74 = .ok (.getfield 107, 3) := by decide +kernel
theorem dX7_patch_77 : decode cX7_patch 77 = .ok (.iload_n 1, 1) := by decide +kernel
theorem dX7_patch_78 : decode cX7_patch 78 = .ok (.iastore, 1) := by decide +kernel
theorem dX7_patch_79 : decode cX7_patch 79 = .ok (.aload_n 0, 1) := by decide +kernel
theorem dX7_patch_80 : decode cX7_patch 80 = .ok (.getfield 29, 3) := by decide +kernel
theorem dX7_patch_83 : decode cX7_patch 83 = .ok (.aload_n 0, 1) := by decide +kernel
theorem dX7_patch_84 : decode cX7_patch 84 = .ok (.getfield 107, 3) := by decide +kernel
theorem dX7_patch_87 : decode cX7_patch 87 = .ok (.iload_n 2, 1) := by decide +kernel
theorem dX7_patch_88 : decode cX7_patch 88 = .ok (.iastore, 1) := by decide +kernel
theorem dX7_patch_89 : decode cX7_patch 89 = .ok (.aload_n 0, 1) := by decide +kernel
theorem dX7_patch_90 : decode cX7_patch 90 = .ok (.getfield 32, 3) := by decide +kernel
theorem dX7_patch_93 : decode cX7_patch 93 = .ok (.aload_n 0, 1) := by decide +kernel
theorem dX7_patch_94 : decode cX7_patch 94 = .ok (.getfield 107, 3) := by decide +kernel
theorem dX7_patch_97 : decode cX7_patch 97 = .ok (.iload_n 3, 1) := by decide +kernel
theorem dX7_patch_98 : decode cX7_patch 98 = .ok (.iastore, 1) := by decide +kernel
theorem dX7_patch_99 : decode cX7_patch 99 = .ok (.aload_n 0, 1) := by decide +kernel
theorem dX7_patch_100 : decode cX7_patch 100 = .ok (.getfield 35, 3) := by decide +kernel
theorem dX7_patch_103 : decode cX7_patch 103 = .ok (.aload_n 0, 1) := by decide +kernel
theorem dX7_patch_104 : decode cX7_patch 104 = .ok (.getfield 107, 3) := by decide +kernel
theorem dX7_patch_107 : decode cX7_patch 107 = .ok (.iload 4, 2) := by decide +kernel
theorem dX7_patch_109 : decode cX7_patch 109 = .ok (.iastore, 1) := by decide +kernel
theorem dX7_patch_110 : decode cX7_patch 110 = .ok (.aload_n 0, 1) := by decide +kernel
theorem dX7_patch_111 : decode cX7_patch 111 = .ok (.getfield 38, 3) := by decide +kernel
theorem dX7_patch_114 : decode cX7_patch 114 = .ok (.aload_n 0, 1) := by decide +kernel
theorem dX7_patch_115 : decode cX7_patch 115 = .ok (.getfield 107, 3) := by decide +kernel
theorem dX7_patch_118 : decode cX7_patch 118 = .ok (.iload 5, 2) := by decide +kernel
theorem dX7_patch_120 : decode cX7_patch 120 = .ok (.iastore, 1) := by decide +kernel
theorem dX7_patch_121 : decode cX7_patch 121 = .ok (.iconst 0, 1) := by decide +kernel
theorem dX7_patch_122 : decode cX7_patch 122 = .ok (.istore 6, 2) := by decide +kernel
theorem dX7_patch_124 : decode cX7_patch 124 = .ok (.iload 6, 2) := by decide +kernel
theorem dX7_patch_126 : decode cX7_patch 126 = .ok (.iconst 3, 1) := by decide +kernel
theorem dX7_patch_127 : decode cX7_patch 127 = .ok (.if_icmp .ge 24, 3) := by decide +kernel
theorem dX7_patch_130 : decode cX7_patch 130 = .ok (.aload_n 0, 1) := by decide +kernel
theorem dX7_patch_131 : decode cX7_patch 131 = .ok (.getfield 41, 3) := by decide +kernel
theorem dX7_patch_134 : decode cX7_patch 134 = .ok (.iconst 3, 1) := by decide +kernel
theorem dX7_patch_135 : decode cX7_patch 135 = .ok (.aload_n 0, 1) := by decide +kernel
theorem dX7_patch_136 : decode cX7_patch 136 = .ok (.getfield 107, 3) := by decide +kernel
theorem dX7_patch_139 : decode cX7_patch 139 = .ok (.imul, 1) := by decide +kernel
theorem dX7_patch_140 : decode cX7_patch 140 = .ok (.iload 6, 2) := by decide +kernel
theorem dX7_patch_142 : decode cX7_patch 142 = .ok (.iadd, 1) := by decide +kernel
theorem dX7_patch_143 : decode cX7_patch 143 = .ok (.iconst 0, 1) := by decide +kernel
theorem dX7_patch_144 : decode cX7_patch 144 = .ok (.iastore, 1) := by decide +kernel
theorem dX7_patch_145 : decode cX7_patch 145 = .ok (.iinc 6 1, 3) := by decide +kernel
theorem dX7_patch_148 : decode cX7_patch 148 = .ok (.goto (-24), 3) := by decide +kernel
theorem dX7_patch_151 : decode cX7_patch 151 = .ok (.aload_n 0, 1) := by decide +kernel
theorem dX7_patch_152 : decode cX7_patch 152 = .ok (.dup, 1) := by decide +kernel
theorem dX7_patch_153 : decode cX7_patch 153 = .ok (.getfield 107, 3) := by decide +kernel
theorem dX7_patch_156 : decode cX7_patch 156 = .ok (.iconst 1, 1) := by decide +kernel
theorem dX7_patch_157 : decode cX7_patch 157 = .ok (.iadd, 1) := by decide +kernel
theorem dX7_patch_158 : decode cX7_patch 158 = .ok (.putfield 107, 3) := by decide +kernel
theorem dX7_patch_161 : decode cX7_patch 161 = .ok (.aload_n 0, 1) := by decide +kernel
theorem dX7_patch_162 : decode cX7_patch 162 = .ok (.getfield 107, 3) := by decide +kernel
theorem dX7_patch_165 : decode cX7_patch 165 = .ok (.iconst 1, 1) := by decide +kernel
theorem dX7_patch_166 : decode cX7_patch 166 = .ok (.isub, 1) := by decide +kernel
theorem dX7_patch_167 : decode cX7_patch 167 = .ok (.ireturn, 1) := by decide +kernel
set_option maxRecDepth 20000 in
theorem ggX7_tint_X7_within : GoodIn wsX7_tint wsX7_within := goodIn_r _ [7] (by decide +kernel) (by decide +kernel)
set_option maxRecDepth 20000 in
theorem gX7_tint_X7_within : GoodIn wsX7_tint (va_wsS RX7 68 yX7_within wsX7_within) := goodIn_app (goodIn_of _ (by decide +kernel)) ggX7_tint_X7_within
set_option maxRecDepth 20000 in
theorem ggX7_tint_X7_isColour : GoodIn wsX7_tint wsX7_isColour := goodIn_r _ [10, 4, 5, 6, 7] (by decide +kernel) (by decide +kernel)
set_option maxRecDepth 20000 in
theorem gX7_tint_X7_isColour : GoodIn wsX7_tint (va_wsS RX7 72 yX7_isColour wsX7_isColour) := goodIn_app (goodIn_of _ (by decide +kernel)) ggX7_tint_X7_isColour
theorem dX7_tint_0 : decode cX7_tint 0 = .ok (.iload_n 1, 1) := by decide +kernel
theorem dX7_tint_1 : decode cX7_tint 1 = .ok (.iconst 0, 1) := by decide +kernel
theorem dX7_tint_2 : decode cX7_tint 2 = .ok (.aload_n 0, 1) := by decide +kernel
theorem dX7_tint_3 : decode cX7_tint 3 = .ok (.getfield 107, 3) := by decide +kernel
theorem dX7_tint_6 : decode cX7_tint 6 = .ok (.iconst 1, 1) := by decide +kernel
theorem dX7_tint_7 : decode cX7_tint 7 = .ok (.isub, 1) := by decide +kernel
theorem dX7_tint_8 : decode cX7_tint 8 = .ok (.invokestatic 68, 3) := by decide +kernel
theorem dX7_tint_11 : decode cX7_tint 11 = .ok (.ifCond .eq 10, 3) := by decide +kernel
theorem dX7_tint_14 : decode cX7_tint 14 = .ok (.iload_n 2, 1) := by decide +kernel
theorem dX7_tint_15 : decode cX7_tint 15 = .ok (.invokestatic 72, 3) := by decide +kernel
theorem dX7_tint_18 : decode cX7_tint 18 = .ok (.ifCond .ne 5, 3) := by decide +kernel
theorem dX7_tint_21 : decode cX7_tint 21 = .ok (.iconst (-1), 1) := by decide +kernel
theorem dX7_tint_22 : decode cX7_tint 22 = .ok (.ireturn, 1) := by decide +kernel
theorem dX7_tint_23 : decode cX7_tint 23 = .ok (.iload_n 3, 1) := by decide +kernel
theorem dX7_tint_24 : decode cX7_tint 24 = .ok (.iconst 0, 1) := by decide +kernel
theorem dX7_tint_25 : decode cX7_tint 25 = .ok (.sipush 255, 3) := by decide +kernel
theorem dX7_tint_28 : decode cX7_tint 28 = .ok (.invokestatic 68, 3) := by decide +kernel
theorem dX7_tint_31 : decode cX7_tint 31 = .ok (.ifCond .ne 6, 3) := by decide +kernel
theorem dX7_tint_34 : decode cX7_tint 34 = .ok (.bipush (-2), 2) := by decide +kernel
theorem dX7_tint_36 : decode cX7_tint 36 = .ok (.ireturn, 1) := by decide +kernel
theorem dX7_tint_37 : decode cX7_tint 37 = .ok (.aload_n 0, 1) := by decide +kernel
theorem dX7_tint_38 : decode cX7_tint 38 = .ok (.getfield 83, 3) := by decide +kernel
theorem dX7_tint_41 : decode cX7_tint 41 = .ok (.ifCond .eq 6, 3) := by decide +kernel
theorem dX7_tint_44 : decode cX7_tint 44 = .ok (.bipush (-3), 2) := by decide +kernel
theorem dX7_tint_46 : decode cX7_tint 46 = .ok (.ireturn, 1) := by decide +kernel
theorem dX7_tint_47 : decode cX7_tint 47 = .ok (.aload_n 0, 1) := by decide +kernel
theorem dX7_tint_48 : decode cX7_tint 48 = .ok (.getfield 41, 3) := by decide +kernel
theorem dX7_tint_51 : decode cX7_tint 51 = .ok (.iconst 3, 1) := by decide +kernel
theorem dX7_tint_52 : decode cX7_tint 52 = .ok (.iload_n 1, 1) := by decide +kernel
theorem dX7_tint_53 : decode cX7_tint 53 = .ok (.imul, 1) := by decide +kernel
theorem dX7_tint_54 : decode cX7_tint 54 = .ok (.iload_n 2, 1) := by decide +kernel
theorem dX7_tint_55 : decode cX7_tint 55 = .ok (.iadd, 1) := by decide +kernel
theorem dX7_tint_56 : decode cX7_tint 56 = .ok (.iaload, 1) := by decide +kernel
theorem dX7_tint_57 : decode cX7_tint 57 = .ok (.istore 4, 2) := by decide +kernel
theorem dX7_tint_59 : decode cX7_tint 59 = .ok (.aload_n 0, 1) := by decide +kernel
theorem dX7_tint_60 : decode cX7_tint 60 = .ok (.getfield 41, 3) := by decide +kernel
theorem dX7_tint_63 : decode cX7_tint 63 = .ok (.iconst 3, 1) := by decide +kernel
theorem dX7_tint_64 : decode cX7_tint 64 = .ok (.iload_n 1, 1) := by decide +kernel
theorem dX7_tint_65 : decode cX7_tint 65 = .ok (.imul, 1) := by decide +kernel
theorem dX7_tint_66 : decode cX7_tint 66 = .ok (.iload_n 2, 1) := by decide +kernel
theorem dX7_tint_67 : decode cX7_tint 67 = .ok (.iadd, 1) := by decide +kernel
theorem dX7_tint_68 : decode cX7_tint 68 = .ok (.iload_n 3, 1) := by decide +kernel
theorem dX7_tint_69 : decode cX7_tint 69 = .ok (.iastore, 1) := by decide +kernel
theorem dX7_tint_70 : decode cX7_tint 70 = .ok (.iload 4, 2) := by decide +kernel
theorem dX7_tint_72 : decode cX7_tint 72 = .ok (.ireturn, 1) := by decide +kernel
theorem dX7_blank_0 : decode cX7_blank 0 = .ok (.aload_n 0, 1) := by decide +kernel
theorem dX7_blank_1 : decode cX7_blank 1 = .ok (.getfield 83, 3) := by decide +kernel
theorem dX7_blank_4 : decode cX7_blank 4 = .ok (.ifCond .eq 6, 3) := by decide +kernel
theorem dX7_blank_7 : decode cX7_blank 7 = .ok (.bipush (-3), 2) := by decide +kernel
theorem dX7_blank_9 : decode cX7_blank 9 = .ok (.ireturn, 1) := by decide +kernel
theorem dX7_blank_10 : decode cX7_blank 10 = .ok (.aload_n 0, 1) := by decide +kernel
theorem dX7_blank_11 : decode cX7_blank 11 = .ok (.getfield 107, 3) := by decide +kernel
theorem dX7_blank_14 : decode cX7_blank 14 = .ok (.istore_n 1, 1) := by decide +kernel
theorem dX7_blank_15 : decode cX7_blank 15 = .ok (.aload_n 0, 1) := by decide +kernel
theorem dX7_blank_16 : decode cX7_blank 16 = .ok (.iconst 0, 1) := by decide +kernel
theorem dX7_blank_17 : decode cX7_blank 17 = .ok (.putfield 107, 3) := by decide +kernel
theorem dX7_blank_20 : decode cX7_blank 20 = .ok (.iload_n 1, 1) := by decide +kernel
theorem dX7_blank_21 : decode cX7_blank 21 = .ok (.ireturn, 1) := by decide +kernel
set_option maxRecDepth 20000 in
theorem ggX7_speck_X7_isColumn : GoodIn wsX7_speck wsX7_isColumn := goodIn_r _ [6, 7, 8, 5, 9] (by decide +kernel) (by decide +kernel)
set_option maxRecDepth 20000 in
theorem gX7_speck_X7_isColumn : GoodIn wsX7_speck (va_wsS RX7 76 yX7_isColumn wsX7_isColumn) := goodIn_app (goodIn_of _ (by decide +kernel)) ggX7_speck_X7_isColumn
set_option maxRecDepth 20000 in
theorem ggX7_speck_X7_within : GoodIn wsX7_speck wsX7_within := goodIn_r _ [9] (by decide +kernel) (by decide +kernel)
set_option maxRecDepth 20000 in
theorem gX7_speck_X7_within : GoodIn wsX7_speck (va_wsS RX7 68 yX7_within wsX7_within) := goodIn_app (goodIn_of _ (by decide +kernel)) ggX7_speck_X7_within
theorem dX7_speck_0 : decode cX7_speck 0 = .ok (.iload_n 1, 1) := by decide +kernel
theorem dX7_speck_1 : decode cX7_speck 1 = .ok (.invokestatic 76, 3) := by decide +kernel
theorem dX7_speck_4 : decode cX7_speck 4 = .ok (.ifCond .ne 5, 3) := by decide +kernel
theorem dX7_speck_7 : decode cX7_speck 7 = .ok (.iconst (-1), 1) := by decide +kernel
theorem dX7_speck_8 : decode cX7_speck 8 = .ok (.ireturn, 1) := by decide +kernel
theorem dX7_speck_9 : decode cX7_speck 9 = .ok (.iload_n 2, 1) := by decide +kernel
theorem dX7_speck_10 : decode cX7_speck 10 = .ok (.iconst 0, 1) := by decide +kernel
theorem dX7_speck_11 : decode cX7_speck 11 = .ok (.sipush 255, 3) := by decide +kernel
theorem dX7_speck_14 : decode cX7_speck 14 = .ok (.invokestatic 68, 3) := by decide +kernel
theorem dX7_speck_17 : decode cX7_speck 17 = .ok (.ifCond .ne 6, 3) := by decide +kernel
theorem dX7_speck_20 : decode cX7_speck 20 = .ok (.bipush (-2), 2) := by decide +kernel
theorem dX7_speck_22 : decode cX7_speck 22 = .ok (.ireturn, 1) := by decide +kernel
theorem dX7_speck_23 : decode cX7_speck 23 = .ok (.aload_n 0, 1) := by decide +kernel
theorem dX7_speck_24 : decode cX7_speck 24 = .ok (.getfield 83, 3) := by decide +kernel
theorem dX7_speck_27 : decode cX7_speck 27 = .ok (.ifCond .eq 6, 3) := by decide +kernel
theorem dX7_speck_30 : decode cX7_speck 30 = .ok (.bipush (-3), 2) := by decide +kernel
theorem dX7_speck_32 : decode cX7_speck 32 = .ok (.ireturn, 1) := by decide +kernel
theorem dX7_speck_33 : decode cX7_speck 33 = .ok (.aload_n 0, 1) := by decide +kernel
theorem dX7_speck_34 : decode cX7_speck 34 = .ok (.getfield 44, 3) := by decide +kernel
theorem dX7_speck_37 : decode cX7_speck 37 = .ok (.iload_n 1, 1) := by decide +kernel
theorem dX7_speck_38 : decode cX7_speck 38 = .ok (.iaload, 1) := by decide +kernel
theorem dX7_speck_39 : decode cX7_speck 39 = .ok (.istore_n 3, 1) := by decide +kernel
theorem dX7_speck_40 : decode cX7_speck 40 = .ok (.aload_n 0, 1) := by decide +kernel
theorem dX7_speck_41 : decode cX7_speck 41 = .ok (.getfield 44, 3) := by decide +kernel
theorem dX7_speck_44 : decode cX7_speck 44 = .ok (.iload_n 1, 1) := by decide +kernel
theorem dX7_speck_45 : decode cX7_speck 45 = .ok (.iload_n 2, 1) := by decide +kernel
theorem dX7_speck_46 : decode cX7_speck 46 = .ok (.iastore, 1) := by decide +kernel
theorem dX7_speck_47 : decode cX7_speck 47 = .ok (.iload_n 3, 1) := by decide +kernel
theorem dX7_speck_48 : decode cX7_speck 48 = .ok (.ireturn, 1) := by decide +kernel
theorem dX7_down_0 : decode cX7_down 0 = .ok (.iload_n 0, 1) := by decide +kernel
theorem dX7_down_1 : decode cX7_down 1 = .ok (.ifCond .lt 9, 3) := by decide +kernel
theorem dX7_down_4 : decode cX7_down 4 = .ok (.iload_n 0, 1) := by decide +kernel
theorem dX7_down_5 : decode cX7_down 5 = .ok (.iload_n 1, 1) := by decide +kernel
theorem dX7_down_6 : decode cX7_down 6 = .ok (.idiv, 1) := by decide +kernel
theorem dX7_down_7 : decode cX7_down 7 = .ok (.goto 11, 3) := by decide +kernel
theorem dX7_down_10 : decode cX7_down 10 = .ok (.iload_n 1, 1) := by decide +kernel
theorem dX7_down_11 : decode cX7_down 11 = .ok (.iconst 1, 1) := by decide +kernel
theorem dX7_down_12 : decode cX7_down 12 = .ok (.isub, 1) := by decide +kernel
theorem dX7_down_13 : decode cX7_down 13 = .ok (.iload_n 0, 1) := by decide +kernel
theorem dX7_down_14 : decode cX7_down 14 = .ok (.isub, 1) := by decide +kernel
theorem dX7_down_15 : decode cX7_down 15 = .ok (.iload_n 1, 1) := by decide +kernel
theorem dX7_down_16 : decode cX7_down 16 = .ok (.idiv, 1) := by decide +kernel
theorem dX7_down_17 : decode cX7_down 17 = .ok (.ineg, 1) := by decide +kernel
theorem dX7_down_18 : decode cX7_down 18 = .ok (.ireturn, 1) := by decide +kernel
set_option maxRecDepth 20000 in
theorem ggX7_isCovered_X7_down : GoodIn wsX7_isCovered wsX7_down := goodIn_r _ [9] (by decide +kernel) (by decide +kernel)
set_option maxRecDepth 20000 in
theorem gX7_isCovered_X7_down : GoodIn wsX7_isCovered (va_wsS RX7 110 yX7_down wsX7_down) := goodIn_app (goodIn_of _ (by decide +kernel)) ggX7_isCovered_X7_down
set_option maxRecDepth 20000 in
theorem ggX7_isCovered_X7_within : GoodIn wsX7_isCovered wsX7_within := goodIn_r _ [12] (by decide +kernel) (by decide +kernel)
set_option maxRecDepth 20000 in
theorem gX7_isCovered_X7_within : GoodIn wsX7_isCovered (va_wsS RX7 68 yX7_within wsX7_within) := goodIn_app (goodIn_of _ (by decide +kernel)) ggX7_isCovered_X7_within
theorem dX7_isCovered_0 : decode cX7_isCovered 0 = .ok (.iload_n 2, 1) := by decide +kernel
theorem dX7_isCovered_1 : decode cX7_isCovered 1 = .ok (.aload_n 0, 1) := by decide +kernel
theorem dX7_isCovered_2 : decode cX7_isCovered 2 = .ok (.getfield 26, 3) := by decide +kernel
theorem dX7_isCovered_5 : decode cX7_isCovered 5 = .ok (.iload_n 1, 1) := by decide +kernel
theorem dX7_isCovered_6 : decode cX7_isCovered 6 = .ok (.iaload, 1) := by decide +kernel
theorem dX7_isCovered_7 : decode cX7_isCovered 7 = .ok (.if_icmp .lt 13, 3) := by decide +kernel
theorem dX7_isCovered_10 : decode cX7_isCovered 10 = .ok (.iload_n 2, 1) := by decide +kernel
theorem dX7_isCovered_11 : decode cX7_isCovered 11 = .ok (.aload_n 0, 1) := by decide +kernel
theorem dX7_isCovered_12 : decode cX7_isCovered 12 = .ok (.getfield 29, 3) := by decide +kernel
theorem dX7_isCovered_15 : decode cX7_isCovered 15 = .ok (.iload_n 1, 1) := by decide +kernel
theorem dX7_isCovered_16 : decode cX7_isCovered 16 = .ok (.iaload, 1) := by decide +kernel
theorem dX7_isCovered_17 : decode cX7_isCovered 17 = .ok (.if_icmp .le 5, 3) := by decide +kernel
theorem dX7_isCovered_20 : decode cX7_isCovered 20 = .ok (.iconst 0, 1) := by decide +kernel
theorem dX7_isCovered_21 : decode cX7_isCovered 21 = .ok (.ireturn, 1) := by decide +kernel
theorem dX7_isCovered_22 : decode cX7_isCovered 22 = .ok (.iload_n 3, 1) := by decide +kernel
theorem dX7_isCovered_23 : decode cX7_isCovered 23 = .ok (.aload_n 0, 1) := by decide +kernel
theorem dX7_isCovered_24 : decode cX7_isCovered 24 = .ok (.getfield 38, 3) := by decide +kernel
theorem dX7_isCovered_27 : decode cX7_isCovered 27 = .ok (.iload_n 1, 1) := by decide +kernel
theorem dX7_isCovered_28 : decode cX7_isCovered 28 = .ok (.iaload, 1) := by decide +kernel
theorem dX7_isCovered_29 : decode cX7_isCovered 29 = .ok (.iload_n 2, 1) := by decide +kernel
theorem dX7_isCovered_30 : decode cX7_isCovered 30 = .ok (.aload_n 0, 1) := by decide +kernel
theorem dX7_isCovered_31 : decode cX7_isCovered 31 = .ok (.getfield 26, 3) := by decide +kernel
theorem dX7_isCovered_34 : decode cX7_isCovered 34 = .ok (.iload_n 1, 1) := by decide +kernel
theorem dX7_isCovered_35 : decode cX7_isCovered 35 = .ok (.iaload, 1) := by decide +kernel
theorem dX7_isCovered_36 : decode cX7_isCovered 36 = .ok (.isub, 1) := by decide +kernel
theorem dX7_isCovered_37 : decode cX7_isCovered 37 = .ok (.imul, 1) := by decide +kernel
theorem dX7_isCovered_38 : decode cX7_isCovered 38 = .ok (.bipush 8, 2) := by decide +kernel
theorem dX7_isCovered_40 : decode cX7_isCovered 40 = .ok (.invokestatic 110, 3) := by decide +kernel
theorem dX7_isCovered_43 : decode cX7_isCovered 43 = .ok (.isub, 1) := by decide +kernel
theorem dX7_isCovered_44 : decode cX7_isCovered 44 = .ok (.aload_n 0, 1) := by decide +kernel
theorem dX7_isCovered_45 : decode cX7_isCovered 45 = .ok (.getfield 32, 3) := by decide +kernel
theorem dX7_isCovered_48 : decode cX7_isCovered 48 = .ok (.iload_n 1, 1) := by decide +kernel
theorem dX7_isCovered_49 : decode cX7_isCovered 49 = .ok (.iaload, 1) := by decide +kernel
theorem dX7_isCovered_50 : decode cX7_isCovered 50 = .ok (.aload_n 0, 1) := by decide +kernel
theorem dX7_isCovered_51 : decode cX7_isCovered 51 = .ok (.getfield 35, 3) := by decide +kernel
theorem dX7_isCovered_54 : decode cX7_isCovered 54 = .ok (.iload_n 1, 1) := by decide +kernel
theorem dX7_isCovered_55 : decode cX7_isCovered 55 = .ok (.iaload, 1) := by decide +kernel
theorem dX7_isCovered_56 : decode cX7_isCovered 56 = .ok (.invokestatic 68, 3) := by decide +kernel
theorem dX7_isCovered_59 : decode cX7_isCovered 59 = .ok (.ireturn, 1) := by decide +kernel
set_option maxRecDepth 20000 in
theorem ggX7_pageAt_X7_isCovered : GoodIn wsX7_pageAt wsX7_isCovered := goodIn_r _ [8, 9, 10, 11, 12, 13, 14, 15, 7, 16, 17, 18, 19, 20, 21, 22, 23, 24, 25, 26, 27, 28, 29, 30, 31, 32, 33, 34, 35, 36, 37, 38, 39, 40, 41, 42, 43, 44, 45, 46, 47, 48, 49] (by decide +kernel) (by decide +kernel)
set_option maxRecDepth 20000 in
theorem gX7_pageAt_X7_isCovered : GoodIn wsX7_pageAt (wsV RX7 113 RX7 yX7_isCovered wsX7_isCovered) := goodIn_app (goodIn_of _ (by decide +kernel)) ggX7_pageAt_X7_isCovered
theorem dX7_pageAt_0 : decode cX7_pageAt 0 = .ok (.aload_n 0, 1) := by decide +kernel
theorem dX7_pageAt_1 : decode cX7_pageAt 1 = .ok (.getfield 22, 3) := by decide +kernel
theorem dX7_pageAt_4 : decode cX7_pageAt 4 = .ok (.istore 4, 2) := by decide +kernel
theorem dX7_pageAt_6 : decode cX7_pageAt 6 = .ok (.iconst 0, 1) := by decide +kernel
theorem dX7_pageAt_7 : decode cX7_pageAt 7 = .ok (.istore 5, 2) := by decide +kernel
theorem dX7_pageAt_9 : decode cX7_pageAt 9 = .ok (.iload 5, 2) := by decide +kernel
theorem dX7_pageAt_11 : decode cX7_pageAt 11 = .ok (.aload_n 0, 1) := by decide +kernel
theorem dX7_pageAt_12 : decode cX7_pageAt 12 = .ok (.getfield 107, 3) := by decide +kernel
theorem dX7_pageAt_15 : decode cX7_pageAt 15 = .ok (.if_icmp .ge 38, 3) := by decide +kernel
theorem dX7_pageAt_18 : decode cX7_pageAt 18 = .ok (.aload_n 0, 1) := by decide +kernel
theorem dX7_pageAt_19 : decode cX7_pageAt 19 = .ok (.iload 5, 2) := by decide +kernel
theorem dX7_pageAt_21 : decode cX7_pageAt 21 = .ok (.iload_n 2, 1) := by decide +kernel
theorem dX7_pageAt_22 : decode cX7_pageAt 22 = .ok (.iload_n 3, 1) := by decide +kernel
theorem dX7_pageAt_23 : decode cX7_pageAt 23 = .ok (.invokevirtual 113, 3) := by decide +kernel
theorem dX7_pageAt_26 : decode cX7_pageAt 26 = .ok (.ifCond .eq 17, 3) := by decide +kernel
theorem dX7_pageAt_29 : decode cX7_pageAt 29 = .ok (.aload_n 0, 1) := by decide +kernel
theorem dX7_pageAt_30 : decode cX7_pageAt 30 = .ok (.getfield 41, 3) := by decide +kernel
theorem dX7_pageAt_33 : decode cX7_pageAt 33 = .ok (.iconst 3, 1) := by decide +kernel
theorem dX7_pageAt_34 : decode cX7_pageAt 34 = .ok (.iload 5, 2) := by decide +kernel
theorem dX7_pageAt_36 : decode cX7_pageAt 36 = .ok (.imul, 1) := by decide +kernel
theorem dX7_pageAt_37 : decode cX7_pageAt 37 = .ok (.iload_n 1, 1) := by decide +kernel
theorem dX7_pageAt_38 : decode cX7_pageAt 38 = .ok (.iadd, 1) := by decide +kernel
theorem dX7_pageAt_39 : decode cX7_pageAt 39 = .ok (.iaload, 1) := by decide +kernel
theorem dX7_pageAt_40 : decode cX7_pageAt 40 = .ok (.goto 5, 3) := by decide +kernel
theorem dX7_pageAt_43 : decode cX7_pageAt 43 = .ok (.iload 4, 2) := by decide +kernel
theorem dX7_pageAt_45 : decode cX7_pageAt 45 = .ok (.istore 4, 2) := by decide +kernel
theorem dX7_pageAt_47 : decode cX7_pageAt 47 = .ok (.iinc 5 1, 3) := by decide +kernel
theorem dX7_pageAt_50 : decode cX7_pageAt 50 = .ok (.goto (-41), 3) := by decide +kernel
theorem dX7_pageAt_53 : decode cX7_pageAt 53 = .ok (.iload 4, 2) := by decide +kernel
theorem dX7_pageAt_55 : decode cX7_pageAt 55 = .ok (.ireturn, 1) := by decide +kernel
set_option maxRecDepth 20000 in
theorem ggX7_lightAt_X7_down : GoodIn wsX7_lightAt wsX7_down := goodIn_r _ [5] (by decide +kernel) (by decide +kernel)
set_option maxRecDepth 20000 in
theorem gX7_lightAt_X7_down : GoodIn wsX7_lightAt (va_wsS RX7 110 yX7_down wsX7_down) := goodIn_app (goodIn_of _ (by decide +kernel)) ggX7_lightAt_X7_down
set_option maxRecDepth 20000 in
theorem ggX7_lightAt_X7_pageAt : GoodIn wsX7_lightAt wsX7_pageAt := goodIn_r _ [9, 10, 11, 12, 13, 14, 15, 4, 16, 17, 18, 19, 20, 21, 2, 3, 5, 22, 23, 24, 31, 32, 33, 34, 35, 36, 37, 38, 39, 40, 41, 42, 43, 44, 45, 46, 47, 48, 49, 50, 51, 52, 53, 54, 55, 56, 57, 58, 59, 60] (by decide +kernel) (by decide +kernel)
set_option maxRecDepth 20000 in
theorem gX7_lightAt_X7_pageAt : GoodIn wsX7_lightAt (wsV RX7 116 RX7 yX7_pageAt wsX7_pageAt) := goodIn_app (goodIn_of _ (by decide +kernel)) ggX7_lightAt_X7_pageAt
set_option maxRecDepth 20000 in
theorem ggX7_lightAt_X7_rounded : GoodIn wsX7_lightAt wsX7_rounded := goodIn_r _ [27] (by decide +kernel) (by decide +kernel)
set_option maxRecDepth 20000 in
theorem gX7_lightAt_X7_rounded : GoodIn wsX7_lightAt (va_wsS RX7 101 yX7_rounded wsX7_rounded) := goodIn_app (goodIn_of _ (by decide +kernel)) ggX7_lightAt_X7_rounded
set_option maxRecDepth 20000 in
theorem ggX7_lightAt_X7_atLeast : GoodIn wsX7_lightAt wsX7_atLeast := goodIn_r _ [30] (by decide +kernel) (by decide +kernel)
set_option maxRecDepth 20000 in
theorem gX7_lightAt_X7_atLeast : GoodIn wsX7_lightAt (va_wsS RX7 120 yX7_atLeast wsX7_atLeast) := goodIn_app (goodIn_of _ (by decide +kernel)) ggX7_lightAt_X7_atLeast
theorem dX7_lightAt_0 : decode cX7_lightAt 0 = .ok (.iload_n 3, 1) := by decide +kernel
theorem dX7_lightAt_1 : decode cX7_lightAt 1 = .ok (.iconst 4, 1) := by decide +kernel
theorem dX7_lightAt_2 : decode cX7_lightAt 2 = .ok (.invokestatic 110, 3) := by decide +kernel
theorem dX7_lightAt_5 : decode cX7_lightAt 5 = .ok (.istore 4, 2) := by decide +kernel
