set_option maxRecDepth 20000 in
theorem gX6_take_X6_lineValue : GoodIn wsX6_take (wsV RX6 165 RX6 yX6_lineValue wsX6_lineValue) := goodIn_app (goodIn_of _ (by decide +kernel)) ggX6_take_X6_lineValue
theorem dX6_take_0 : decode cX6_take 0 = .ok (.aload_n 0, 1) := by decide +kernel
theorem dX6_take_1 : decode cX6_take 1 = .ok (.getfield 35, 3) := by decide +kernel
theorem dX6_take_4 : decode cX6_take 4 = .ok (.getfield 60, 3) := by decide +kernel
theorem dX6_take_7 : decode cX6_take 7 = .ok (.ifCond .ne 6, 3) := by decide +kernel
theorem dX6_take_10 : decode cX6_take 10 = .ok (.bipush (-3), 2) := by decide +kernel
theorem dX6_take_12 : decode cX6_take 12 = .ok (.ireturn, 1) := by decide +kernel
theorem dX6_take_13 : decode cX6_take 13 = .ok (.aload_n 0, 1) := by decide +kernel
theorem dX6_take_14 : decode cX6_take 14 = .ok (.getfield 35, 3) := by decide +kernel
theorem dX6_take_17 : decode cX6_take 17 = .ok (.getfield 159, 3) := by decide +kernel
theorem dX6_take_20 : decode cX6_take 20 = .ok (.ifCond .le 15, 3) := by decide +kernel
theorem dX6_take_23 : decode cX6_take 23 = .ok (.aload_n 0, 1) := by decide +kernel
theorem dX6_take_24 : decode cX6_take 24 = .ok (.getfield 42, 3) := by decide +kernel
theorem dX6_take_27 : decode cX6_take 27 = .ok (.getfield 152, 3) := by decide +kernel
theorem dX6_take_30 : decode cX6_take 30 = .ok (.bipush 40, 2) := by decide +kernel
theorem dX6_take_32 : decode cX6_take 32 = .ok (.if_icmp .lt 6, 3) := by decide +kernel
theorem dX6_take_35 : decode cX6_take 35 = .ok (.bipush (-9), 2) := by decide +kernel
theorem dX6_take_37 : decode cX6_take 37 = .ok (.ireturn, 1) := by decide +kernel
theorem dX6_take_38 : decode cX6_take 38 = .ok (.aload_n 0, 1) := by decide +kernel
theorem dX6_take_39 : decode cX6_take 39 = .ok (.getfield 42, 3) := by decide +kernel
theorem dX6_take_42 : decode cX6_take 42 = .ok (.getfield 152, 3) := by decide +kernel
theorem dX6_take_45 : decode cX6_take 45 = .ok (.istore_n 1, 1) := by decide +kernel
theorem dX6_take_46 : decode cX6_take 46 = .ok (.iconst 0, 1) := by decide +kernel
theorem dX6_take_47 : decode cX6_take 47 = .ok (.istore_n 2, 1) := by decide +kernel
theorem dX6_take_48 : decode cX6_take 48 = .ok (.iload_n 2, 1) := by decide +kernel
theorem dX6_take_49 : decode cX6_take 49 = .ok (.iconst 3, 1) := by decide +kernel
theorem dX6_take_50 : decode cX6_take 50 = .ok (.if_icmp .ge 48, 3) := by decide +kernel
theorem dX6_take_53 : decode cX6_take 53 = .ok (.iconst 0, 1) := by decide +kernel
theorem dX6_take_54 : decode cX6_take 54 = .ok (.istore_n 3, 1) := by decide +kernel
theorem dX6_take_55 : decode cX6_take 55 = .ok (.iload_n 3, 1) := by decide +kernel
theorem dX6_take_56 : decode cX6_take 56 = .ok (.bipush 12, 2) := by decide +kernel
theorem dX6_take_58 : decode cX6_take 58 = .ok (.if_icmp .ge 34, 3) := by decide +kernel
theorem dX6_take_61 : decode cX6_take 61 = .ok (.aload_n 0, 1) := by decide +kernel
theorem dX6_take_62 : decode cX6_take 62 = .ok (.getfield 42, 3) := by decide +kernel
theorem dX6_take_65 : decode cX6_take 65 = .ok (.getfield 162, 3) := by decide +kernel
theorem dX6_take_68 : decode cX6_take 68 = .ok (.iload_n 1, 1) := by decide +kernel
theorem dX6_take_69 : decode cX6_take 69 = .ok (.bipush 36, 2) := by decide +kernel
theorem dX6_take_71 : decode cX6_take 71 = .ok (.imul, 1) := by decide +kernel
theorem dX6_take_72 : decode cX6_take 72 = .ok (.iload_n 2, 1) := by decide +kernel
theorem dX6_take_73 : decode cX6_take 73 = .ok (.iload_n 3, 1) := by decide +kernel
theorem dX6_take_74 : decode cX6_take 74 = .ok (.invokestatic 64, 3) := by decide +kernel
theorem dX6_take_77 : decode cX6_take 77 = .ok (.iadd, 1) := by decide +kernel
theorem dX6_take_78 : decode cX6_take 78 = .ok (.aload_n 0, 1) := by decide +kernel
theorem dX6_take_79 : decode cX6_take 79 = .ok (.iload_n 1, 1) := by decide +kernel
theorem dX6_take_80 : decode cX6_take 80 = .ok (.iload_n 2, 1) := by decide +kernel
theorem dX6_take_81 : decode cX6_take 81 = .ok (.iload_n 3, 1) := by decide +kernel
theorem dX6_take_82 : decode cX6_take 82 = .ok (.invokevirtual 165, 3) := by decide +kernel
theorem dX6_take_85 : decode cX6_take 85 = .ok (.iastore, 1) := by decide +kernel
theorem dX6_take_86 : decode cX6_take 86 = .ok (.iinc 3 1, 3) := by decide +kernel
theorem dX6_take_89 : decode cX6_take 89 = .ok (.goto (-34), 3) := by decide +kernel
theorem dX6_take_92 : decode cX6_take 92 = .ok (.iinc 2 1, 3) := by decide +kernel
theorem dX6_take_95 : decode cX6_take 95 = .ok (.goto (-47), 3) := by decide +kernel
theorem dX6_take_98 : decode cX6_take 98 = .ok (.aload_n 0, 1) := by decide +kernel
theorem dX6_take_99 : decode cX6_take 99 = .ok (.getfield 42, 3) := by decide +kernel
theorem dX6_take_102 : decode cX6_take 102 = .ok (.dup, 1) := by decide +kernel
theorem dX6_take_103 : decode cX6_take 103 = .ok (.getfield 152, 3) := by decide +kernel
theorem dX6_take_106 : decode cX6_take 106 = .ok (.iconst 1, 1) := by decide +kernel
theorem dX6_take_107 : decode cX6_take 107 = .ok (.iadd, 1) := by decide +kernel
theorem dX6_take_108 : decode cX6_take 108 = .ok (.putfield 152, 3) := by decide +kernel
theorem dX6_take_111 : decode cX6_take 111 = .ok (.aload_n 0, 1) := by decide +kernel
theorem dX6_take_112 : decode cX6_take 112 = .ok (.getfield 35, 3) := by decide +kernel
theorem dX6_take_115 : decode cX6_take 115 = .ok (.dup, 1) := by decide +kernel
theorem dX6_take_116 : decode cX6_take 116 = .ok (.getfield 159, 3) := by decide +kernel
theorem dX6_take_119 : decode cX6_take 119 = .ok (.iconst 1, 1) := by decide +kernel
theorem dX6_take_120 : decode cX6_take 120 = .ok (.isub, 1) := by decide +kernel
theorem dX6_take_121 : decode cX6_take 121 = .ok (.putfield 159, 3) := by decide +kernel
theorem dX6_take_124 : decode cX6_take 124 = .ok (.aload_n 0, 1) := by decide +kernel
theorem dX6_take_125 : decode cX6_take 125 = .ok (.getfield 42, 3) := by decide +kernel
theorem dX6_take_128 : decode cX6_take 128 = .ok (.getfield 152, 3) := by decide +kernel
theorem dX6_take_131 : decode cX6_take 131 = .ok (.aload_n 0, 1) := by decide +kernel
theorem dX6_take_132 : decode cX6_take 132 = .ok (.getfield 35, 3) := by decide +kernel
theorem dX6_take_135 : decode cX6_take 135 = .ok (.getfield 169, 3) := by decide +kernel
theorem dX6_take_138 : decode cX6_take 138 = .ok (.if_icmp .lt 11, 3) := by decide +kernel
theorem dX6_take_141 : decode cX6_take 141 = .ok (.aload_n 0, 1) := by decide +kernel
theorem dX6_take_142 : decode cX6_take 142 = .ok (.getfield 35, 3) := by decide +kernel
theorem dX6_take_145 : decode cX6_take 145 = .ok (.iconst 0, 1) := by decide +kernel
theorem dX6_take_146 : decode cX6_take 146 = .ok (.putfield 60, 3) := by decide +kernel
theorem dX6_take_149 : decode cX6_take 149 = .ok (.iload_n 1, 1) := by decide +kernel
theorem dX6_take_150 : decode cX6_take 150 = .ok (.ireturn, 1) := by decide +kernel
theorem dX6_stop_0 : decode cX6_stop 0 = .ok (.aload_n 0, 1) := by decide +kernel
theorem dX6_stop_1 : decode cX6_stop 1 = .ok (.getfield 35, 3) := by decide +kernel
theorem dX6_stop_4 : decode cX6_stop 4 = .ok (.getfield 60, 3) := by decide +kernel
theorem dX6_stop_7 : decode cX6_stop 7 = .ok (.ifCond .ne 6, 3) := by decide +kernel
theorem dX6_stop_10 : decode cX6_stop 10 = .ok (.bipush (-3), 2) := by decide +kernel
theorem dX6_stop_12 : decode cX6_stop 12 = .ok (.ireturn, 1) := by decide +kernel
theorem dX6_stop_13 : decode cX6_stop 13 = .ok (.aload_n 0, 1) := by decide +kernel
theorem dX6_stop_14 : decode cX6_stop 14 = .ok (.getfield 35, 3) := by decide +kernel
theorem dX6_stop_17 : decode cX6_stop 17 = .ok (.iconst 0, 1) := by decide +kernel
theorem dX6_stop_18 : decode cX6_stop 18 = .ok (.putfield 60, 3) := by decide +kernel
theorem dX6_stop_21 : decode cX6_stop 21 = .ok (.aload_n 0, 1) := by decide +kernel
theorem dX6_stop_22 : decode cX6_stop 22 = .ok (.getfield 35, 3) := by decide +kernel
theorem dX6_stop_25 : decode cX6_stop 25 = .ok (.iconst 0, 1) := by decide +kernel
theorem dX6_stop_26 : decode cX6_stop 26 = .ok (.putfield 159, 3) := by decide +kernel
theorem dX6_stop_29 : decode cX6_stop 29 = .ok (.aload_n 0, 1) := by decide +kernel
theorem dX6_stop_30 : decode cX6_stop 30 = .ok (.getfield 35, 3) := by decide +kernel
theorem dX6_stop_33 : decode cX6_stop 33 = .ok (.getfield 169, 3) := by decide +kernel
theorem dX6_stop_36 : decode cX6_stop 36 = .ok (.aload_n 0, 1) := by decide +kernel
theorem dX6_stop_37 : decode cX6_stop 37 = .ok (.getfield 42, 3) := by decide +kernel
theorem dX6_stop_40 : decode cX6_stop 40 = .ok (.getfield 152, 3) := by decide +kernel
theorem dX6_stop_43 : decode cX6_stop 43 = .ok (.isub, 1) := by decide +kernel
theorem dX6_stop_44 : decode cX6_stop 44 = .ok (.ireturn, 1) := by decide +kernel
set_option maxRecDepth 20000 in
theorem ggX6_head_X6_reach : GoodIn wsX6_head wsX6_reach := goodIn_r _ [13, 14, 15, 16, 17, 18, 19, 20, 21, 22, 23, 24] (by decide +kernel) (by decide +kernel)
set_option maxRecDepth 20000 in
theorem gX6_head_X6_reach : GoodIn wsX6_head (wsV RX6 145 RX6 yX6_reach wsX6_reach) := goodIn_app (goodIn_of _ (by decide +kernel)) ggX6_head_X6_reach
theorem dX6_head_0 : decode cX6_head 0 = .ok (.iload_n 1, 1) := by decide +kernel
theorem dX6_head_1 : decode cX6_head 1 = .ok (.tableswitch 120 0 7 #[47, 59, 67, 75, 83, 91, 99, 115], 47) := by decide +kernel
theorem dX6_head_48 : decode cX6_head 48 = .ok (.aload_n 0, 1) := by decide +kernel
theorem dX6_head_49 : decode cX6_head 49 = .ok (.getfield 35, 3) := by decide +kernel
theorem dX6_head_52 : decode cX6_head 52 = .ok (.getfield 171, 3) := by decide +kernel
theorem dX6_head_55 : decode cX6_head 55 = .ok (.sipush 1000, 3) := by decide +kernel
theorem dX6_head_58 : decode cX6_head 58 = .ok (.iadd, 1) := by decide +kernel
theorem dX6_head_59 : decode cX6_head 59 = .ok (.ireturn, 1) := by decide +kernel
theorem dX6_head_60 : decode cX6_head 60 = .ok (.aload_n 0, 1) := by decide +kernel
theorem dX6_head_61 : decode cX6_head 61 = .ok (.getfield 35, 3) := by decide +kernel
theorem dX6_head_64 : decode cX6_head 64 = .ok (.getfield 174, 3) := by decide +kernel
theorem dX6_head_67 : decode cX6_head 67 = .ok (.ireturn, 1) := by decide +kernel
theorem dX6_head_68 : decode cX6_head 68 = .ok (.aload_n 0, 1) := by decide +kernel
theorem dX6_head_69 : decode cX6_head 69 = .ok (.getfield 35, 3) := by decide +kernel
theorem dX6_head_72 : decode cX6_head 72 = .ok (.getfield 177, 3) := by decide +kernel
theorem dX6_head_75 : decode cX6_head 75 = .ok (.ireturn, 1) := by decide +kernel
theorem dX6_head_76 : decode cX6_head 76 = .ok (.aload_n 0, 1) := by decide +kernel
theorem dX6_head_77 : decode cX6_head 77 = .ok (.getfield 35, 3) := by decide +kernel
theorem dX6_head_80 : decode cX6_head 80 = .ok (.getfield 159, 3) := by decide +kernel
theorem dX6_head_83 : decode cX6_head 83 = .ok (.ireturn, 1) := by decide +kernel
theorem dX6_head_84 : decode cX6_head 84 = .ok (.aload_n 0, 1) := by decide +kernel
theorem dX6_head_85 : decode cX6_head 85 = .ok (.getfield 35, 3) := by decide +kernel
theorem dX6_head_88 : decode cX6_head 88 = .ok (.getfield 180, 3) := by decide +kernel
theorem dX6_head_91 : decode cX6_head 91 = .ok (.ireturn, 1) := by decide +kernel
theorem dX6_head_92 : decode cX6_head 92 = .ok (.aload_n 0, 1) := by decide +kernel
theorem dX6_head_93 : decode cX6_head 93 = .ok (.getfield 35, 3) := by decide +kernel
theorem dX6_head_96 : decode cX6_head 96 = .ok (.getfield 183, 3) := by decide +kernel
theorem dX6_head_99 : decode cX6_head 99 = .ok (.ireturn, 1) := by decide +kernel
theorem dX6_head_100 : decode cX6_head 100 = .ok (.aload_n 0, 1) := by decide +kernel
theorem dX6_head_101 : decode cX6_head 101 = .ok (.getfield 35, 3) := by decide +kernel
theorem dX6_head_104 : decode cX6_head 104 = .ok (.getfield 60, 3) := by decide +kernel
theorem dX6_head_107 : decode cX6_head 107 = .ok (.ifCond .eq 7, 3) := by decide +kernel
theorem dX6_head_110 : decode cX6_head 110 = .ok (.iconst 1, 1) := by decide +kernel
theorem dX6_head_111 : decode cX6_head 111 = .ok (.goto 4, 3) := by decide +kernel
theorem dX6_head_114 : decode cX6_head 114 = .ok (.iconst 0, 1) := by decide +kernel
theorem dX6_head_115 : decode cX6_head 115 = .ok (.ireturn, 1) := by decide +kernel
theorem dX6_head_116 : decode cX6_head 116 = .ok (.aload_n 0, 1) := by decide +kernel
theorem dX6_head_117 : decode cX6_head 117 = .ok (.invokevirtual 145, 3) := by decide +kernel
theorem dX6_head_120 : decode cX6_head 120 = .ok (.ireturn, 1) := by decide +kernel
theorem dX6_head_121 : decode cX6_head 121 = .ok (.bipush (-2), 2) := by decide +kernel
theorem dX6_head_123 : decode cX6_head 123 = .ok (.ireturn, 1) := by decide +kernel
set_option maxRecDepth 20000 in
theorem ggX6_whole_X6_isCell : GoodIn wsX6_whole wsX6_isCell := goodIn_r _ [4, 5, 6, 3, 7, 8, 9, 10, 11, 12, 13, 14] (by decide +kernel) (by decide +kernel)
set_option maxRecDepth 20000 in
theorem gX6_whole_X6_isCell : GoodIn wsX6_whole (va_wsS RX6 50 yX6_isCell wsX6_isCell) := goodIn_app (goodIn_of _ (by decide +kernel)) ggX6_whole_X6_isCell
set_option maxRecDepth 20000 in
theorem ggX6_whole_X2_within : GoodIn wsX6_whole wsX2_within := goodIn_r _ [11] (by decide +kernel) (by decide +kernel)
set_option maxRecDepth 20000 in
theorem gX6_whole_X2_within : GoodIn wsX6_whole (va_wsS RX6 54 yX2_within wsX2_within) := goodIn_app (goodIn_of _ (by decide +kernel)) ggX6_whole_X2_within
set_option maxRecDepth 20000 in
theorem ggX6_whole_X6_lineValue : GoodIn wsX6_whole wsX6_lineValue := goodIn_r _ [18, 19, 20, 21, 22, 23, 3, 24, 25, 26, 27, 28, 29, 30, 31, 32, 33, 34, 35, 36, 37, 38, 39, 40, 41, 42, 43, 44, 45, 46, 47, 48, 49, 50, 51, 52, 53, 54, 55, 56, 57, 58, 59, 60, 61, 62, 63, 64, 65, 66, 67, 68, 69, 70, 71, 72, 73, 74, 75, 76, 10, 77, 78, 79, 80, 81, 82, 83, 84, 85, 86, 87, 88, 89, 90, 91, 92, 93, 94, 95, 96, 97, 98, 99, 100, 101, 102, 103, 104, 105, 106, 107, 108, 109, 110, 111, 112, 113, 114, 115, 116, 117, 118, 119, 120, 121, 122, 123, 124, 125, 126, 127, 128, 129, 130, 131] (by decide +kernel) (by decide +kernel)
set_option maxRecDepth 20000 in
theorem gX6_whole_X6_lineValue : GoodIn wsX6_whole (wsV RX6 165 RX6 yX6_lineValue wsX6_lineValue) := goodIn_app (goodIn_of _ (by decide +kernel)) ggX6_whole_X6_lineValue
theorem dX6_whole_0 : decode cX6_whole 0 = .ok (.iload_n 2, 1) := by decide +kernel
theorem dX6_whole_1 : decode cX6_whole 1 = .ok (.iload_n 3, 1) := by decide +kernel
theorem dX6_whole_2 : decode cX6_whole 2 = .ok (.invokestatic 50, 3) := by decide +kernel
theorem dX6_whole_5 : decode cX6_whole 5 = .ok (.ifCond .ne 5, 3) := by decide +kernel
theorem dX6_whole_8 : decode cX6_whole 8 = .ok (.iconst (-1), 1) := by decide +kernel
theorem dX6_whole_9 : decode cX6_whole 9 = .ok (.ireturn, 1) := by decide +kernel
theorem dX6_whole_10 : decode cX6_whole 10 = .ok (.iload_n 1, 1) := by decide +kernel
theorem dX6_whole_11 : decode cX6_whole 11 = .ok (.iconst 0, 1) := by decide +kernel
theorem dX6_whole_12 : decode cX6_whole 12 = .ok (.bipush 39, 2) := by decide +kernel
theorem dX6_whole_14 : decode cX6_whole 14 = .ok (.invokestatic 54, 3) := by decide +kernel
theorem dX6_whole_17 : decode cX6_whole 17 = .ok (.ifCond .ne 6, 3) := by decide +kernel
theorem dX6_whole_20 : decode cX6_whole 20 = .ok (.bipush (-2), 2) := by decide +kernel
theorem dX6_whole_22 : decode cX6_whole 22 = .ok (.ireturn, 1) := by decide +kernel
theorem dX6_whole_23 : decode cX6_whole 23 = .ok (.aload_n 0, 1) := by decide +kernel
theorem dX6_whole_24 : decode cX6_whole 24 = .ok (.iload_n 1, 1) := by decide +kernel
theorem dX6_whole_25 : decode cX6_whole 25 = .ok (.iload_n 2, 1) := by decide +kernel
theorem dX6_whole_26 : decode cX6_whole 26 = .ok (.iload_n 3, 1) := by decide +kernel
theorem dX6_whole_27 : decode cX6_whole 27 = .ok (.invokevirtual 165, 3) := by decide +kernel
theorem dX6_whole_30 : decode cX6_whole 30 = .ok (.ireturn, 1) := by decide +kernel
set_option maxRecDepth 20000 in
theorem ggX6_pixel_X1_has : GoodIn wsX6_pixel wsX1_has := goodIn_r _ [7, 8, 33, 34, 35] (by decide +kernel) (by decide +kernel)
set_option maxRecDepth 20000 in
theorem gX6_pixel_X1_has : GoodIn wsX6_pixel (wsV RX6 186 RX1 yX1_has wsX1_has) := goodIn_app (goodIn_of _ (by decide +kernel)) ggX6_pixel_X1_has
set_option maxRecDepth 20000 in
theorem ggX6_pixel_X6_isCell : GoodIn wsX6_pixel wsX6_isCell := goodIn_r _ [12, 13, 14, 11, 15, 16, 17, 18, 19, 20, 21, 22] (by decide +kernel) (by decide +kernel)
set_option maxRecDepth 20000 in
theorem gX6_pixel_X6_isCell : GoodIn wsX6_pixel (va_wsS RX6 50 yX6_isCell wsX6_isCell) := goodIn_app (goodIn_of _ (by decide +kernel)) ggX6_pixel_X6_isCell
set_option maxRecDepth 20000 in
theorem ggX6_pixel_X0_place : GoodIn wsX6_pixel wsX0_place := goodIn_r _ [26] (by decide +kernel) (by decide +kernel)
set_option maxRecDepth 20000 in
theorem gX6_pixel_X0_place : GoodIn wsX6_pixel (va_wsS RX6 64 yX0_place wsX0_place) := goodIn_app (goodIn_of _ (by decide +kernel)) ggX6_pixel_X0_place
theorem dX6_pixel_0 : decode cX6_pixel 0 = .ok (.aload_n 0, 1) := by decide +kernel
theorem dX6_pixel_1 : decode cX6_pixel 1 = .ok (.getfield 42, 3) := by decide +kernel
theorem dX6_pixel_4 : decode cX6_pixel 4 = .ok (.iload_n 1, 1) := by decide +kernel
theorem dX6_pixel_5 : decode cX6_pixel 5 = .ok (.invokevirtual 186, 3) := by decide +kernel
theorem dX6_pixel_8 : decode cX6_pixel 8 = .ok (.ifCond .eq 11, 3) := by decide +kernel
theorem dX6_pixel_11 : decode cX6_pixel 11 = .ok (.iload_n 2, 1) := by decide +kernel
theorem dX6_pixel_12 : decode cX6_pixel 12 = .ok (.iload_n 3, 1) := by decide +kernel
theorem dX6_pixel_13 : decode cX6_pixel 13 = .ok (.invokestatic 50, 3) := by decide +kernel
theorem dX6_pixel_16 : decode cX6_pixel 16 = .ok (.ifCond .ne 5, 3) := by decide +kernel
theorem dX6_pixel_19 : decode cX6_pixel 19 = .ok (.iconst (-1), 1) := by decide +kernel
theorem dX6_pixel_20 : decode cX6_pixel 20 = .ok (.ireturn, 1) := by decide +kernel
theorem dX6_pixel_21 : decode cX6_pixel 21 = .ok (.aload_n 0, 1) := by decide +kernel
theorem dX6_pixel_22 : decode cX6_pixel 22 = .ok (.getfield 42, 3) := by decide +kernel
theorem dX6_pixel_25 : decode cX6_pixel 25 = .ok (.getfield 162, 3) := by decide +kernel
theorem dX6_pixel_28 : decode cX6_pixel 28 = .ok (.iload_n 1, 1) := by decide +kernel
theorem dX6_pixel_29 : decode cX6_pixel 29 = .ok (.bipush 36, 2) := by decide +kernel
theorem dX6_pixel_31 : decode cX6_pixel 31 = .ok (.imul, 1) := by decide +kernel
theorem dX6_pixel_32 : decode cX6_pixel 32 = .ok (.iload_n 2, 1) := by decide +kernel
theorem dX6_pixel_33 : decode cX6_pixel 33 = .ok (.iload_n 3, 1) := by decide +kernel
theorem dX6_pixel_34 : decode cX6_pixel 34 = .ok (.invokestatic 64, 3) := by decide +kernel
theorem dX6_pixel_37 : decode cX6_pixel 37 = .ok (.iadd, 1) := by decide +kernel
theorem dX6_pixel_38 : decode cX6_pixel 38 = .ok (.iaload, 1) := by decide +kernel
theorem dX6_pixel_39 : decode cX6_pixel 39 = .ok (.ireturn, 1) := by decide +kernel
set_option maxRecDepth 20000 in
theorem ggX6_grey_X1_has : GoodIn wsX6_grey wsX1_has := goodIn_r _ [6, 7, 30, 31, 32] (by decide +kernel) (by decide +kernel)
set_option maxRecDepth 20000 in
theorem gX6_grey_X1_has : GoodIn wsX6_grey (wsV RX6 186 RX1 yX1_has wsX1_has) := goodIn_app (goodIn_of _ (by decide +kernel)) ggX6_grey_X1_has
set_option maxRecDepth 20000 in
theorem ggX6_grey_X6_isColumn : GoodIn wsX6_grey wsX6_isColumn := goodIn_r _ [11, 12, 13, 14, 15] (by decide +kernel) (by decide +kernel)
set_option maxRecDepth 20000 in
theorem gX6_grey_X6_isColumn : GoodIn wsX6_grey (va_wsS RX6 115 yX6_isColumn wsX6_isColumn) := goodIn_app (goodIn_of _ (by decide +kernel)) ggX6_grey_X6_isColumn
set_option maxRecDepth 20000 in
theorem ggX6_grey_X1_greyOf : GoodIn wsX6_grey wsX1_greyOf := goodIn_r _ [19, 20, 21, 22, 14, 23, 30, 31, 32] (by decide +kernel) (by decide +kernel)
set_option maxRecDepth 20000 in
theorem gX6_grey_X1_greyOf : GoodIn wsX6_grey (wsV RX6 189 RX1 yX1_greyOf wsX1_greyOf) := goodIn_app (goodIn_of _ (by decide +kernel)) ggX6_grey_X1_greyOf
theorem dX6_grey_0 : decode cX6_grey 0 = .ok (.aload_n 0, 1) := by decide +kernel
theorem dX6_grey_1 : decode cX6_grey 1 = .ok (.getfield 42, 3) := by decide +kernel
theorem dX6_grey_4 : decode cX6_grey 4 = .ok (.iload_n 1, 1) := by decide +kernel
theorem dX6_grey_5 : decode cX6_grey 5 = .ok (.invokevirtual 186, 3) := by decide +kernel
theorem dX6_grey_8 : decode cX6_grey 8 = .ok (.ifCond .eq 10, 3) := by decide +kernel
theorem dX6_grey_11 : decode cX6_grey 11 = .ok (.iload_n 2, 1) := by decide +kernel
theorem dX6_grey_12 : decode cX6_grey 12 = .ok (.invokestatic 115, 3) := by decide +kernel
theorem dX6_grey_15 : decode cX6_grey 15 = .ok (.ifCond .ne 5, 3) := by decide +kernel
theorem dX6_grey_18 : decode cX6_grey 18 = .ok (.iconst (-1), 1) := by decide +kernel
theorem dX6_grey_19 : decode cX6_grey 19 = .ok (.ireturn, 1) := by decide +kernel
theorem dX6_grey_20 : decode cX6_grey 20 = .ok (.aload_n 0, 1) := by decide +kernel
theorem dX6_grey_21 : decode cX6_grey 21 = .ok (.getfield 42, 3) := by decide +kernel
theorem dX6_grey_24 : decode cX6_grey 24 = .ok (.iload_n 1, 1) := by decide +kernel
theorem dX6_grey_25 : decode cX6_grey 25 = .ok (.iload_n 2, 1) := by decide +kernel
theorem dX6_grey_26 : decode cX6_grey 26 = .ok (.invokevirtual 189, 3) := by decide +kernel
theorem dX6_grey_29 : decode cX6_grey 29 = .ok (.ireturn, 1) := by decide +kernel
set_option maxRecDepth 20000 in
theorem ggX6_dark_X1_has : GoodIn wsX6_dark wsX1_has := goodIn_r _ [6, 7, 28, 29, 30] (by decide +kernel) (by decide +kernel)
set_option maxRecDepth 20000 in
theorem gX6_dark_X1_has : GoodIn wsX6_dark (wsV RX6 186 RX1 yX1_has wsX1_has) := goodIn_app (goodIn_of _ (by decide +kernel)) ggX6_dark_X1_has
set_option maxRecDepth 20000 in
theorem ggX6_dark_X1_darkSet : GoodIn wsX6_dark wsX1_darkSet := goodIn_r _ [11, 12, 13, 14, 15, 5, 16, 17, 18, 19, 20, 21, 28, 29, 30] (by decide +kernel) (by decide +kernel)
set_option maxRecDepth 20000 in
theorem gX6_dark_X1_darkSet : GoodIn wsX6_dark (wsV RX6 192 RX1 yX1_darkSet wsX1_darkSet) := goodIn_app (goodIn_of _ (by decide +kernel)) ggX6_dark_X1_darkSet
theorem dX6_dark_0 : decode cX6_dark 0 = .ok (.aload_n 0, 1) := by decide +kernel
theorem dX6_dark_1 : decode cX6_dark 1 = .ok (.getfield 42, 3) := by decide +kernel
theorem dX6_dark_4 : decode cX6_dark 4 = .ok (.iload_n 1, 1) := by decide +kernel
theorem dX6_dark_5 : decode cX6_dark 5 = .ok (.invokevirtual 186, 3) := by decide +kernel
theorem dX6_dark_8 : decode cX6_dark 8 = .ok (.ifCond .ne 5, 3) := by decide +kernel
theorem dX6_dark_11 : decode cX6_dark 11 = .ok (.iconst (-1), 1) := by decide +kernel
theorem dX6_dark_12 : decode cX6_dark 12 = .ok (.ireturn, 1) := by decide +kernel
theorem dX6_dark_13 : decode cX6_dark 13 = .ok (.aload_n 0, 1) := by decide +kernel
theorem dX6_dark_14 : decode cX6_dark 14 = .ok (.getfield 42, 3) := by decide +kernel
theorem dX6_dark_17 : decode cX6_dark 17 = .ok (.iload_n 1, 1) := by decide +kernel
theorem dX6_dark_18 : decode cX6_dark 18 = .ok (.invokevirtual 192, 3) := by decide +kernel
theorem dX6_dark_21 : decode cX6_dark 21 = .ok (.ireturn, 1) := by decide +kernel
set_option maxRecDepth 20000 in
theorem ggX6_run_X1_has : GoodIn wsX6_run wsX1_has := goodIn_r _ [6, 7, 40, 41, 42] (by decide +kernel) (by decide +kernel)
set_option maxRecDepth 20000 in
theorem gX6_run_X1_has : GoodIn wsX6_run (wsV RX6 186 RX1 yX1_has wsX1_has) := goodIn_app (goodIn_of _ (by decide +kernel)) ggX6_run_X1_has
set_option maxRecDepth 20000 in
theorem ggX6_run_X1_darkSet : GoodIn wsX6_run wsX1_darkSet := goodIn_r _ [11, 12, 13, 14, 15, 5, 16, 17, 18, 19, 20, 21, 40, 41, 42] (by decide +kernel) (by decide +kernel)
set_option maxRecDepth 20000 in
theorem gX6_run_X1_darkSet : GoodIn wsX6_run (wsV RX6 192 RX1 yX1_darkSet wsX1_darkSet) := goodIn_app (goodIn_of _ (by decide +kernel)) ggX6_run_X1_darkSet
set_option maxRecDepth 20000 in
theorem ggX6_run_X1_runStart : GoodIn wsX6_run wsX1_runStart := goodIn_r _ [24, 25, 26, 5, 27, 28, 29, 30] (by decide +kernel) (by decide +kernel)
set_option maxRecDepth 20000 in
theorem gX6_run_X1_runStart : GoodIn wsX6_run (va_wsS RX6 195 yX1_runStart wsX1_runStart) := goodIn_app (goodIn_of _ (by decide +kernel)) ggX6_run_X1_runStart
set_option maxRecDepth 20000 in
theorem ggX6_run_X1_runLength : GoodIn wsX6_run wsX1_runLength := goodIn_r _ [33, 28, 29, 5, 30] (by decide +kernel) (by decide +kernel)
set_option maxRecDepth 20000 in
theorem gX6_run_X1_runLength : GoodIn wsX6_run (va_wsS RX6 198 yX1_runLength wsX1_runLength) := goodIn_app (goodIn_of _ (by decide +kernel)) ggX6_run_X1_runLength
theorem dX6_run_0 : decode cX6_run 0 = .ok (.aload_n 0, 1) := by decide +kernel
theorem dX6_run_1 : decode cX6_run 1 = .ok (.getfield 42, 3) := by decide +kernel
theorem dX6_run_4 : decode cX6_run 4 = .ok (.iload_n 1, 1) := by decide +kernel
theorem dX6_run_5 : decode cX6_run 5 = .ok (.invokevirtual 186, 3) := by decide +kernel
theorem dX6_run_8 : decode cX6_run 8 = .ok (.ifCond .ne 5, 3) := by decide +kernel
theorem dX6_run_11 : decode cX6_run 11 = .ok (.iconst (-1), 1) := by decide +kernel
theorem dX6_run_12 : decode cX6_run 12 = .ok (.ireturn, 1) := by decide +kernel
theorem dX6_run_13 : decode cX6_run 13 = .ok (.aload_n 0, 1) := by decide +kernel
theorem dX6_run_14 : decode cX6_run 14 = .ok (.getfield 42, 3) := by decide +kernel
theorem dX6_run_17 : decode cX6_run 17 = .ok (.iload_n 1, 1) := by decide +kernel
theorem dX6_run_18 : decode cX6_run 18 = .ok (.invokevirtual 192, 3) := by decide +kernel
theorem dX6_run_21 : decode cX6_run 21 = .ok (.istore 4, 2) := by decide +kernel
theorem dX6_run_23 : decode cX6_run 23 = .ok (.iload 4, 2) := by decide +kernel
theorem dX6_run_25 : decode cX6_run 25 = .ok (.iload_n 2, 1) := by decide +kernel
theorem dX6_run_26 : decode cX6_run 26 = .ok (.invokestatic 195, 3) := by decide +kernel
theorem dX6_run_29 : decode cX6_run 29 = .ok (.istore 5, 2) := by decide +kernel
theorem dX6_run_31 : decode cX6_run 31 = .ok (.iload 5, 2) := by decide +kernel
theorem dX6_run_33 : decode cX6_run 33 = .ok (.bipush (-9), 2) := by decide +kernel
theorem dX6_run_35 : decode cX6_run 35 = .ok (.if_icmp .ne 5, 3) := by decide +kernel
theorem dX6_run_38 : decode cX6_run 38 = .ok (.iconst (-1), 1) := by decide +kernel
theorem dX6_run_39 : decode cX6_run 39 = .ok (.ireturn, 1) := by decide +kernel
theorem dX6_run_40 : decode cX6_run 40 = .ok (.iload_n 3, 1) := by decide +kernel
theorem dX6_run_41 : decode cX6_run 41 = .ok (.lookupswitch 38 #[(0, 27), (1, 30)], 27) := by decide +kernel
theorem dX6_run_68 : decode cX6_run 68 = .ok (.iload 5, 2) := by decide +kernel
theorem dX6_run_70 : decode cX6_run 70 = .ok (.ireturn, 1) := by decide +kernel
theorem dX6_run_71 : decode cX6_run 71 = .ok (.iload 4, 2) := by decide +kernel
theorem dX6_run_73 : decode cX6_run 73 = .ok (.iload 5, 2) := by decide +kernel
theorem dX6_run_75 : decode cX6_run 75 = .ok (.invokestatic 198, 3) := by decide +kernel
theorem dX6_run_78 : decode cX6_run 78 = .ok (.ireturn, 1) := by decide +kernel
theorem dX6_run_79 : decode cX6_run 79 = .ok (.bipush (-2), 2) := by decide +kernel
theorem dX6_run_81 : decode cX6_run 81 = .ok (.ireturn, 1) := by decide +kernel
set_option maxRecDepth 20000 in
theorem ggX6_edge_X1_has : GoodIn wsX6_edge wsX1_has := goodIn_r _ [6, 7, 41, 42, 43] (by decide +kernel) (by decide +kernel)
set_option maxRecDepth 20000 in
theorem gX6_edge_X1_has : GoodIn wsX6_edge (wsV RX6 186 RX1 yX1_has wsX1_has) := goodIn_app (goodIn_of _ (by decide +kernel)) ggX6_edge_X1_has
set_option maxRecDepth 20000 in
theorem ggX6_edge_X1_edgeOf : GoodIn wsX6_edge wsX1_edgeOf := goodIn_r _ [11, 12, 13, 14, 5, 15, 16, 17, 18, 19, 20, 21, 22, 23, 24, 25, 26, 27, 28, 29, 30, 31, 32, 33, 34, 41, 42, 43] (by decide +kernel) (by decide +kernel)
set_option maxRecDepth 20000 in
theorem gX6_edge_X1_edgeOf : GoodIn wsX6_edge (wsV RX6 201 RX1 yX1_edgeOf wsX1_edgeOf) := goodIn_app (goodIn_of _ (by decide +kernel)) ggX6_edge_X1_edgeOf
theorem dX6_edge_0 : decode cX6_edge 0 = .ok (.aload_n 0, 1) := by decide +kernel
theorem dX6_edge_1 : decode cX6_edge 1 = .ok (.getfield 42, 3) := by decide +kernel
theorem dX6_edge_4 : decode cX6_edge 4 = .ok (.iload_n 1, 1) := by decide +kernel
theorem dX6_edge_5 : decode cX6_edge 5 = .ok (.invokevirtual 186, 3) := by decide +kernel
theorem dX6_edge_8 : decode cX6_edge 8 = .ok (.ifCond .ne 5, 3) := by decide +kernel
theorem dX6_edge_11 : decode cX6_edge 11 = .ok (.iconst (-1), 1) := by decide +kernel
theorem dX6_edge_12 : decode cX6_edge 12 = .ok (.ireturn, 1) := by decide +kernel
theorem dX6_edge_13 : decode cX6_edge 13 = .ok (.aload_n 0, 1) := by decide +kernel
theorem dX6_edge_14 : decode cX6_edge 14 = .ok (.getfield 42, 3) := by decide +kernel
theorem dX6_edge_17 : decode cX6_edge 17 = .ok (.iload_n 1, 1) := by decide +kernel
theorem dX6_edge_18 : decode cX6_edge 18 = .ok (.invokevirtual 201, 3) := by decide +kernel
theorem dX6_edge_21 : decode cX6_edge 21 = .ok (.ireturn, 1) := by decide +kernel
set_option maxRecDepth 20000 in
theorem ggX6_skew_X2_within : GoodIn wsX6_skew wsX2_within := goodIn_r _ [6] (by decide +kernel) (by decide +kernel)
set_option maxRecDepth 20000 in
theorem gX6_skew_X2_within : GoodIn wsX6_skew (va_wsS RX6 54 yX2_within wsX2_within) := goodIn_app (goodIn_of _ (by decide +kernel)) ggX6_skew_X2_within
set_option maxRecDepth 20000 in
theorem ggX6_skew_X1_skewPart : GoodIn wsX6_skew wsX1_skewPart := goodIn_r _ [11, 12, 13, 14, 15, 16, 17, 10, 18, 19, 20, 21, 22, 23, 24, 25, 26, 27, 28, 29, 30, 5, 31, 32, 33, 34, 35, 36, 37, 38, 39, 40, 41, 42, 43, 44, 45, 46, 47, 54, 55, 56] (by decide +kernel) (by decide +kernel)
set_option maxRecDepth 20000 in
theorem gX6_skew_X1_skewPart : GoodIn wsX6_skew (wsV RX6 206 RX1 yX1_skewPart wsX1_skewPart) := goodIn_app (goodIn_of _ (by decide +kernel)) ggX6_skew_X1_skewPart
theorem dX6_skew_0 : decode cX6_skew 0 = .ok (.iload_n 1, 1) := by decide +kernel
theorem dX6_skew_1 : decode cX6_skew 1 = .ok (.iconst 0, 1) := by decide +kernel
theorem dX6_skew_2 : decode cX6_skew 2 = .ok (.iconst 1, 1) := by decide +kernel
theorem dX6_skew_3 : decode cX6_skew 3 = .ok (.invokestatic 54, 3) := by decide +kernel
theorem dX6_skew_6 : decode cX6_skew 6 = .ok (.ifCond .ne 7, 3) := by decide +kernel
theorem dX6_skew_9 : decode cX6_skew 9 = .ok (.ldc2_w 204, 3) := by decide +kernel
theorem dX6_skew_12 : decode cX6_skew 12 = .ok (.lreturn, 1) := by decide +kernel
theorem dX6_skew_13 : decode cX6_skew 13 = .ok (.aload_n 0, 1) := by decide +kernel
theorem dX6_skew_14 : decode cX6_skew 14 = .ok (.getfield 42, 3) := by decide +kernel
theorem dX6_skew_17 : decode cX6_skew 17 = .ok (.iload_n 1, 1) := by decide +kernel
theorem dX6_skew_18 : decode cX6_skew 18 = .ok (.iconst 1, 1) := by decide +kernel
theorem dX6_skew_19 : decode cX6_skew 19 = .ok (.if_icmp .ne 7, 3) := by decide +kernel
theorem dX6_skew_22 : decode cX6_skew 22 = .ok (.iconst 1, 1) := by decide +kernel
theorem dX6_skew_23 : decode cX6_skew 23 = .ok (.goto 4, 3) := by decide +kernel
theorem dX6_skew_26 : decode cX6_skew 26 = .ok (.iconst 0, 1) := by decide +kernel
theorem dX6_skew_27 : decode cX6_skew 27 = .ok (.invokevirtual 206, 3) := by decide +kernel
theorem dX6_skew_30 : decode cX6_skew 30 = .ok (.lreturn, 1) := by decide +kernel
set_option maxRecDepth 20000 in
theorem ggX6_longest_X6_isColumn : GoodIn wsX6_longest wsX6_isColumn := goodIn_r _ [5, 6, 7, 8, 9] (by decide +kernel) (by decide +kernel)
set_option maxRecDepth 20000 in
theorem gX6_longest_X6_isColumn : GoodIn wsX6_longest (va_wsS RX6 115 yX6_isColumn wsX6_isColumn) := goodIn_app (goodIn_of _ (by decide +kernel)) ggX6_longest_X6_isColumn
set_option maxRecDepth 20000 in
theorem ggX6_longest_X1_longestOf : GoodIn wsX6_longest wsX1_longestOf := goodIn_r _ [14, 15, 16, 17, 18, 19, 20, 21, 22, 13, 23, 24, 25, 26, 27, 28, 29, 30, 8, 31, 38, 39, 40] (by decide +kernel) (by decide +kernel)
set_option maxRecDepth 20000 in
theorem gX6_longest_X1_longestOf : GoodIn wsX6_longest (wsV RX6 210 RX1 yX1_longestOf wsX1_longestOf) := goodIn_app (goodIn_of _ (by decide +kernel)) ggX6_longest_X1_longestOf
theorem dX6_longest_0 : decode cX6_longest 0 = .ok (.iload_n 1, 1) := by decide +kernel
theorem dX6_longest_1 : decode cX6_longest 1 = .ok (.invokestatic 115, 3) := by decide +kernel
theorem dX6_longest_4 : decode cX6_longest 4 = .ok (.ifCond .ne 5, 3) := by decide +kernel
theorem dX6_longest_7 : decode cX6_longest 7 = .ok (.iconst (-1), 1) := by decide +kernel
theorem dX6_longest_8 : decode cX6_longest 8 = .ok (.ireturn, 1) := by decide +kernel
theorem dX6_longest_9 : decode cX6_longest 9 = .ok (.aload_n 0, 1) := by decide +kernel
theorem dX6_longest_10 : decode cX6_longest 10 = .ok (.getfield 42, 3) := by decide +kernel
theorem dX6_longest_13 : decode cX6_longest 13 = .ok (.iload_n 1, 1) := by decide +kernel
theorem dX6_longest_14 : decode cX6_longest 14 = .ok (.invokevirtual 210, 3) := by decide +kernel
theorem dX6_longest_17 : decode cX6_longest 17 = .ok (.ireturn, 1) := by decide +kernel
set_option maxRecDepth 20000 in
theorem ggX6_streaks_X1_longestOf : GoodIn wsX6_streaks wsX1_longestOf := goodIn_r _ [6, 7, 8, 9, 10, 11, 12, 13, 14, 5, 15, 16, 17, 18, 19, 20, 21, 22, 23, 24, 31, 32, 33] (by decide +kernel) (by decide +kernel)
set_option maxRecDepth 20000 in
theorem gX6_streaks_X1_longestOf : GoodIn wsX6_streaks (wsV RX6 210 RX1 yX1_longestOf wsX1_longestOf) := goodIn_app (goodIn_of _ (by decide +kernel)) ggX6_streaks_X1_longestOf
theorem dX6_streaks_0 : decode cX6_streaks 0 = .ok (.iconst 0, 1) := by decide +kernel
theorem dX6_streaks_1 : decode cX6_streaks 1 = .ok (.istore_n 1, 1) := by decide +kernel
theorem dX6_streaks_2 : decode cX6_streaks 2 = .ok (.iconst 0, 1) := by decide +kernel
theorem dX6_streaks_3 : decode cX6_streaks 3 = .ok (.istore_n 2, 1) := by decide +kernel
theorem dX6_streaks_4 : decode cX6_streaks 4 = .ok (.iload_n 2, 1) := by decide +kernel
theorem dX6_streaks_5 : decode cX6_streaks 5 = .ok (.bipush 12, 2) := by decide +kernel
theorem dX6_streaks_7 : decode cX6_streaks 7 = .ok (.if_icmp .ge 27, 3) := by decide +kernel
theorem dX6_streaks_10 : decode cX6_streaks 10 = .ok (.aload_n 0, 1) := by decide +kernel
theorem dX6_streaks_11 : decode cX6_streaks 11 = .ok (.getfield 42, 3) := by decide +kernel
theorem dX6_streaks_14 : decode cX6_streaks 14 = .ok (.iload_n 2, 1) := by decide +kernel
theorem dX6_streaks_15 : decode cX6_streaks 15 = .ok (.invokevirtual 210, 3) := by decide +kernel
theorem dX6_streaks_18 : decode cX6_streaks 18 = .ok (.iconst 4, 1) := by decide +kernel
theorem dX6_streaks_19 : decode cX6_streaks 19 = .ok (.if_icmp .lt 9, 3) := by decide +kernel
theorem dX6_streaks_22 : decode cX6_streaks 22 = .ok (.iload_n 1, 1) := by decide +kernel
theorem dX6_streaks_23 : decode cX6_streaks 23 = .ok (.iconst 1, 1) := by decide +kernel
theorem dX6_streaks_24 : decode cX6_streaks 24 = .ok (.iload_n 2, 1) := by decide +kernel
theorem dX6_streaks_25 : decode cX6_streaks 25 = .ok (.ishl, 1) := by decide +kernel
theorem dX6_streaks_26 : decode cX6_streaks 26 = .ok (.ior, 1) := by decide +kernel
theorem dX6_streaks_27 : decode cX6_streaks 27 = .ok (.istore_n 1, 1) := by decide +kernel
theorem dX6_streaks_28 : decode cX6_streaks 28 = .ok (.iinc 2 1, 3) := by decide +kernel
theorem dX6_streaks_31 : decode cX6_streaks 31 = .ok (.goto (-27), 3) := by decide +kernel
theorem dX6_streaks_34 : decode cX6_streaks 34 = .ok (.iload_n 1, 1) := by decide +kernel
theorem dX6_streaks_35 : decode cX6_streaks 35 = .ok (.ireturn, 1) := by decide +kernel
set_option maxRecDepth 20000 in
theorem ggX6_many_X0_countLive : GoodIn wsX6_many wsX0_countLive := goodIn_r _ [14, 15, 16, 17, 13, 18, 19, 20, 79, 80, 81, 82] (by decide +kernel) (by decide +kernel)
set_option maxRecDepth 20000 in
theorem gX6_many_X0_countLive : GoodIn wsX6_many (wsV RX6 78 RX0 yX0_countLive wsX0_countLive) := goodIn_app (goodIn_of _ (by decide +kernel)) ggX6_many_X0_countLive
set_option maxRecDepth 20000 in
theorem ggX6_many_X1_countRuns : GoodIn wsX6_many wsX1_countRuns := goodIn_r _ [25, 26, 27, 28, 29, 24, 30, 31, 32, 33, 34, 35, 36, 37, 38, 39, 40, 41, 42, 43, 44, 45, 46, 65, 66, 67] (by decide +kernel) (by decide +kernel)
set_option maxRecDepth 20000 in
theorem gX6_many_X1_countRuns : GoodIn wsX6_many (wsV RX6 213 RX1 yX1_countRuns wsX1_countRuns) := goodIn_app (goodIn_of _ (by decide +kernel)) ggX6_many_X1_countRuns
theorem dX6_many_0 : decode cX6_many 0 = .ok (.iload_n 1, 1) := by decide +kernel
theorem dX6_many_1 : decode cX6_many 1 = .ok (.tableswitch 87 0 5 #[39, 47, 55, 63, 71, 79], 39) := by decide +kernel
theorem dX6_many_40 : decode cX6_many 40 = .ok (.aload_n 0, 1) := by decide +kernel
theorem dX6_many_41 : decode cX6_many 41 = .ok (.getfield 21, 3) := by decide +kernel
theorem dX6_many_44 : decode cX6_many 44 = .ok (.getfield 106, 3) := by decide +kernel
theorem dX6_many_47 : decode cX6_many 47 = .ok (.ireturn, 1) := by decide +kernel
theorem dX6_many_48 : decode cX6_many 48 = .ok (.aload_n 0, 1) := by decide +kernel
theorem dX6_many_49 : decode cX6_many 49 = .ok (.getfield 28, 3) := by decide +kernel
theorem dX6_many_52 : decode cX6_many 52 = .ok (.getfield 131, 3) := by decide +kernel
theorem dX6_many_55 : decode cX6_many 55 = .ok (.ireturn, 1) := by decide +kernel
theorem dX6_many_56 : decode cX6_many 56 = .ok (.aload_n 0, 1) := by decide +kernel
theorem dX6_many_57 : decode cX6_many 57 = .ok (.getfield 42, 3) := by decide +kernel
theorem dX6_many_60 : decode cX6_many 60 = .ok (.getfield 152, 3) := by decide +kernel
theorem dX6_many_63 : decode cX6_many 63 = .ok (.ireturn, 1) := by decide +kernel
theorem dX6_many_64 : decode cX6_many 64 = .ok (.aload_n 0, 1) := by decide +kernel
theorem dX6_many_65 : decode cX6_many 65 = .ok (.getfield 14, 3) := by decide +kernel
theorem dX6_many_68 : decode cX6_many 68 = .ok (.invokevirtual 78, 3) := by decide +kernel
theorem dX6_many_71 : decode cX6_many 71 = .ok (.ireturn, 1) := by decide +kernel
theorem dX6_many_72 : decode cX6_many 72 = .ok (.aload_n 0, 1) := by decide +kernel
theorem dX6_many_73 : decode cX6_many 73 = .ok (.getfield 35, 3) := by decide +kernel
theorem dX6_many_76 : decode cX6_many 76 = .ok (.getfield 169, 3) := by decide +kernel
theorem dX6_many_79 : decode cX6_many 79 = .ok (.ireturn, 1) := by decide +kernel
theorem dX6_many_80 : decode cX6_many 80 = .ok (.aload_n 0, 1) := by decide +kernel
theorem dX6_many_81 : decode cX6_many 81 = .ok (.getfield 42, 3) := by decide +kernel
theorem dX6_many_84 : decode cX6_many 84 = .ok (.invokevirtual 213, 3) := by decide +kernel
theorem dX6_many_87 : decode cX6_many 87 = .ok (.ireturn, 1) := by decide +kernel
theorem dX6_many_88 : decode cX6_many 88 = .ok (.bipush (-2), 2) := by decide +kernel
theorem dX6_many_90 : decode cX6_many 90 = .ok (.ireturn, 1) := by decide +kernel
set_option maxRecDepth 20000 in
theorem ggX6_isColour_X2_within : GoodIn wsX6_isColour wsX2_within := goodIn_r _ [4] (by decide +kernel) (by decide +kernel)
set_option maxRecDepth 20000 in
theorem gX6_isColour_X2_within : GoodIn wsX6_isColour (va_wsS RX6 54 yX2_within wsX2_within) := goodIn_app (goodIn_of _ (by decide +kernel)) ggX6_isColour_X2_within
theorem dX6_isColour_0 : decode cX6_isColour 0 = .ok (.iload_n 0, 1) := by decide +kernel
theorem dX6_isColour_1 : decode cX6_isColour 1 = .ok (.iconst 0, 1) := by decide +kernel
theorem dX6_isColour_2 : decode cX6_isColour 2 = .ok (.iconst 2, 1) := by decide +kernel
theorem dX6_isColour_3 : decode cX6_isColour 3 = .ok (.invokestatic 54, 3) := by decide +kernel
theorem dX6_isColour_6 : decode cX6_isColour 6 = .ok (.ireturn, 1) := by decide +kernel
set_option maxRecDepth 20000 in
theorem ggX6_isColumn_X2_within : GoodIn wsX6_isColumn wsX2_within := goodIn_r _ [4] (by decide +kernel) (by decide +kernel)
set_option maxRecDepth 20000 in
theorem gX6_isColumn_X2_within : GoodIn wsX6_isColumn (va_wsS RX6 54 yX2_within wsX2_within) := goodIn_app (goodIn_of _ (by decide +kernel)) ggX6_isColumn_X2_within
theorem dX6_isColumn_0 : decode cX6_isColumn 0 = .ok (.iload_n 0, 1) := by decide +kernel
theorem dX6_isColumn_1 : decode cX6_isColumn 1 = .ok (.iconst 0, 1) := by decide +kernel
theorem dX6_isColumn_2 : decode cX6_isColumn 2 = .ok (.bipush 11, 2) := by decide +kernel
theorem dX6_isColumn_4 : decode cX6_isColumn 4 = .ok (.invokestatic 54, 3) := by decide +kernel
theorem dX6_isColumn_7 : decode cX6_isColumn 7 = .ok (.ireturn, 1) := by decide +kernel
set_option maxRecDepth 20000 in
theorem ggX6_isCell_X6_isColour : GoodIn wsX6_isCell wsX6_isColour := goodIn_r _ [4, 5, 6, 7, 8] (by decide +kernel) (by decide +kernel)
set_option maxRecDepth 20000 in
theorem gX6_isCell_X6_isColour : GoodIn wsX6_isCell (va_wsS RX6 109 yX6_isColour wsX6_isColour) := goodIn_app (goodIn_of _ (by decide +kernel)) ggX6_isCell_X6_isColour
set_option maxRecDepth 20000 in
theorem ggX6_isCell_X6_isColumn : GoodIn wsX6_isCell wsX6_isColumn := goodIn_r _ [11, 5, 6, 7, 8] (by decide +kernel) (by decide +kernel)
set_option maxRecDepth 20000 in
theorem gX6_isCell_X6_isColumn : GoodIn wsX6_isCell (va_wsS RX6 115 yX6_isColumn wsX6_isColumn) := goodIn_app (goodIn_of _ (by decide +kernel)) ggX6_isCell_X6_isColumn
theorem dX6_isCell_0 : decode cX6_isCell 0 = .ok (.iload_n 0, 1) := by decide +kernel
theorem dX6_isCell_1 : decode cX6_isCell 1 = .ok (.invokestatic 109, 3) := by decide +kernel
theorem dX6_isCell_4 : decode cX6_isCell 4 = .ok (.ifCond .eq 14, 3) := by decide +kernel
theorem dX6_isCell_7 : decode cX6_isCell 7 = .ok (.iload_n 1, 1) := by decide +kernel
theorem dX6_isCell_8 : decode cX6_isCell 8 = .ok (.invokestatic 115, 3) := by decide +kernel
theorem dX6_isCell_11 : decode cX6_isCell 11 = .ok (.ifCond .eq 7, 3) := by decide +kernel
theorem dX6_isCell_14 : decode cX6_isCell 14 = .ok (.iconst 1, 1) := by decide +kernel
theorem dX6_isCell_15 : decode cX6_isCell 15 = .ok (.goto 4, 3) := by decide +kernel
theorem dX6_isCell_18 : decode cX6_isCell 18 = .ok (.iconst 0, 1) := by decide +kernel
theorem dX6_isCell_19 : decode cX6_isCell 19 = .ok (.ireturn, 1) := by decide +kernel
theorem dX6_reach_0 : decode cX6_reach 0 = .ok (.iconst 0, 1) := by decide +kernel
theorem dX6_reach_1 : decode cX6_reach 1 = .ok (.istore_n 1, 1) := by decide +kernel
theorem dX6_reach_2 : decode cX6_reach 2 = .ok (.iconst 0, 1) := by decide +kernel
theorem dX6_reach_3 : decode cX6_reach 3 = .ok (.istore_n 2, 1) := by decide +kernel
theorem dX6_reach_4 : decode cX6_reach 4 = .ok (.iload_n 2, 1) := by decide +kernel
theorem dX6_reach_5 : decode cX6_reach 5 = .ok (.iconst 3, 1) := by decide +kernel
theorem dX6_reach_6 : decode cX6_reach 6 = .ok (.if_icmp .ge 26, 3) := by decide +kernel
theorem dX6_reach_9 : decode cX6_reach 9 = .ok (.iload_n 1, 1) := by decide +kernel
theorem dX6_reach_10 : decode cX6_reach 10 = .ok (.aload_n 0, 1) := by decide +kernel
theorem dX6_reach_11 : decode cX6_reach 11 = .ok (.getfield 46, 3) := by decide +kernel
theorem dX6_reach_14 : decode cX6_reach 14 = .ok (.iload_n 2, 1) := by decide +kernel
theorem dX6_reach_15 : decode cX6_reach 15 = .ok (.iaload, 1) := by decide +kernel
theorem dX6_reach_16 : decode cX6_reach 16 = .ok (.iconst 4, 1) := by decide +kernel
theorem dX6_reach_17 : decode cX6_reach 17 = .ok (.iadd, 1) := by decide +kernel
theorem dX6_reach_18 : decode cX6_reach 18 = .ok (.iconst 1, 1) := by decide +kernel
theorem dX6_reach_19 : decode cX6_reach 19 = .ok (.isub, 1) := by decide +kernel
theorem dX6_reach_20 : decode cX6_reach 20 = .ok (.iconst 4, 1) := by decide +kernel
theorem dX6_reach_21 : decode cX6_reach 21 = .ok (.idiv, 1) := by decide +kernel
theorem dX6_reach_22 : decode cX6_reach 22 = .ok (.invokestatic 216, 3) := by decide +kernel
theorem dX6_reach_25 : decode cX6_reach 25 = .ok (.istore_n 1, 1) := by decide +kernel
theorem dX6_reach_26 : decode cX6_reach 26 = .ok (.iinc 2 1, 3) := by decide +kernel
theorem dX6_reach_29 : decode cX6_reach 29 = .ok (.goto (-25), 3) := by decide +kernel
theorem dX6_reach_32 : decode cX6_reach 32 = .ok (.iload_n 1, 1) := by decide +kernel
theorem dX6_reach_33 : decode cX6_reach 33 = .ok (.ireturn, 1) := by decide +kernel
set_option maxRecDepth 20000 in
theorem ggX6_lineValue_X6_valueAt : GoodIn wsX6_lineValue wsX6_valueAt := goodIn_r _ [7, 8, 9, 10, 11, 12, 13, 14, 15, 16, 17, 18, 19, 20, 21, 22, 23, 24, 25, 6, 26, 1, 27, 28, 29, 30, 31, 32, 33, 34, 35, 36, 37, 38, 39, 40, 41, 42, 43, 44, 45, 46, 47, 48, 49, 50, 51, 52, 53, 54, 55, 56, 57, 58, 59, 60, 61, 62, 63, 64, 65, 66, 67, 68, 69, 70, 71, 72, 73, 74, 75, 76, 77, 78, 79, 80, 94, 95, 96, 97, 98, 99, 100, 101, 102, 103, 104, 105, 106, 107, 108, 109, 110, 111, 112] (by decide +kernel) (by decide +kernel)
set_option maxRecDepth 20000 in
theorem gX6_lineValue_X6_valueAt : GoodIn wsX6_lineValue (wsV RX6 221 RX6 yX6_valueAt wsX6_valueAt) := goodIn_app (goodIn_of _ (by decide +kernel)) ggX6_lineValue_X6_valueAt
set_option maxRecDepth 20000 in
theorem ggX6_lineValue_X2_rounded : GoodIn wsX6_lineValue wsX2_rounded := goodIn_r _ [61] (by decide +kernel) (by decide +kernel)
set_option maxRecDepth 20000 in
theorem gX6_lineValue_X2_rounded : GoodIn wsX6_lineValue (va_wsS RX6 224 yX2_rounded wsX2_rounded) := goodIn_app (goodIn_of _ (by decide +kernel)) ggX6_lineValue_X2_rounded
set_option maxRecDepth 20000 in
theorem ggX6_lineValue_X4_through : GoodIn wsX6_lineValue wsX4_through := goodIn_r _ [85, 86, 87, 88, 89, 90, 84, 91, 92, 39, 40, 41, 93, 70, 60, 71, 72, 73, 74, 113, 114, 115] (by decide +kernel) (by decide +kernel)
set_option maxRecDepth 20000 in
theorem gX6_lineValue_X4_through : GoodIn wsX6_lineValue (wsV RX6 138 RX4 yX4_through wsX4_through) := goodIn_app (goodIn_of _ (by decide +kernel)) ggX6_lineValue_X4_through
theorem dX6_lineValue_0 : decode cX6_lineValue 0 = .ok (.iload_n 1, 1) := by decide +kernel
theorem dX6_lineValue_1 : decode cX6_lineValue 1 = .ok (.aload_n 0, 1) := by decide +kernel
theorem dX6_lineValue_2 : decode cX6_lineValue 2 = .ok (.getfield 46, 3) := by decide +kernel
theorem dX6_lineValue_5 : decode cX6_lineValue 5 = .ok (.iload_n 2, 1) := by decide +kernel
theorem dX6_lineValue_6 : decode cX6_lineValue 6 = .ok (.iaload, 1) := by decide +kernel
theorem dX6_lineValue_7 : decode cX6_lineValue 7 = .ok (.iconst 4, 1) := by decide +kernel
theorem dX6_lineValue_8 : decode cX6_lineValue 8 = .ok (.idiv, 1) := by decide +kernel
theorem dX6_lineValue_9 : decode cX6_lineValue 9 = .ok (.iadd, 1) := by decide +kernel
theorem dX6_lineValue_10 : decode cX6_lineValue 10 = .ok (.istore 4, 2) := by decide +kernel
theorem dX6_lineValue_12 : decode cX6_lineValue 12 = .ok (.aload_n 0, 1) := by decide +kernel
theorem dX6_lineValue_13 : decode cX6_lineValue 13 = .ok (.getfield 46, 3) := by decide +kernel
theorem dX6_lineValue_16 : decode cX6_lineValue 16 = .ok (.iload_n 2, 1) := by decide +kernel
theorem dX6_lineValue_17 : decode cX6_lineValue 17 = .ok (.iaload, 1) := by decide +kernel
theorem dX6_lineValue_18 : decode cX6_lineValue 18 = .ok (.iconst 4, 1) := by decide +kernel
theorem dX6_lineValue_19 : decode cX6_lineValue 19 = .ok (.irem, 1) := by decide +kernel
theorem dX6_lineValue_20 : decode cX6_lineValue 20 = .ok (.istore 5, 2) := by decide +kernel
theorem dX6_lineValue_22 : decode cX6_lineValue 22 = .ok (.aload_n 0, 1) := by decide +kernel
theorem dX6_lineValue_23 : decode cX6_lineValue 23 = .ok (.iload 4, 2) := by decide +kernel
theorem dX6_lineValue_25 : decode cX6_lineValue 25 = .ok (.iload_n 2, 1) := by decide +kernel
theorem dX6_lineValue_26 : decode cX6_lineValue 26 = .ok (.iload_n 3, 1) := by decide +kernel
theorem dX6_lineValue_27 : decode cX6_lineValue 27 = .ok (.invokevirtual 221, 3) := by decide +kernel
theorem dX6_lineValue_30 : decode cX6_lineValue 30 = .ok (.istore 6, 2) := by decide +kernel
theorem dX6_lineValue_32 : decode cX6_lineValue 32 = .ok (.iload 5, 2) := by decide +kernel
theorem dX6_lineValue_34 : decode cX6_lineValue 34 = .ok (.ifCond .le 34, 3) := by decide +kernel
theorem dX6_lineValue_37 : decode cX6_lineValue 37 = .ok (.aload_n 0, 1) := by decide +kernel
theorem dX6_lineValue_38 : decode cX6_lineValue 38 = .ok (.iload 4, 2) := by decide +kernel
theorem dX6_lineValue_40 : decode cX6_lineValue 40 = .ok (.iconst 1, 1) := by decide +kernel
theorem dX6_lineValue_41 : decode cX6_lineValue 41 = .ok (.iadd, 1) := by decide +kernel
theorem dX6_lineValue_42 : decode cX6_lineValue 42 = .ok (.iload_n 2, 1) := by decide +kernel
theorem dX6_lineValue_43 : decode cX6_lineValue 43 = .ok (.iload_n 3, 1) := by decide +kernel
theorem dX6_lineValue_44 : decode cX6_lineValue 44 = .ok (.invokevirtual 221, 3) := by decide +kernel
theorem dX6_lineValue_47 : decode cX6_lineValue 47 = .ok (.istore 7, 2) := by decide +kernel
theorem dX6_lineValue_49 : decode cX6_lineValue 49 = .ok (.iload 6, 2) := by decide +kernel
theorem dX6_lineValue_51 : decode cX6_lineValue 51 = .ok (.iconst 4, 1) := by decide +kernel
theorem dX6_lineValue_52 : decode cX6_lineValue 52 = .ok (.iload 5, 2) := by decide +kernel
theorem dX6_lineValue_54 : decode cX6_lineValue 54 = .ok (.isub, 1) := by decide +kernel
theorem dX6_lineValue_55 : decode cX6_lineValue 55 = .ok (.imul, 1) := by decide +kernel
theorem dX6_lineValue_56 : decode cX6_lineValue 56 = .ok (.iload 7, 2) := by decide +kernel
theorem dX6_lineValue_58 : decode cX6_lineValue 58 = .ok (.iload 5, 2) := by decide +kernel
theorem dX6_lineValue_60 : decode cX6_lineValue 60 = .ok (.imul, 1) := by decide +kernel
theorem dX6_lineValue_61 : decode cX6_lineValue 61 = .ok (.iadd, 1) := by decide +kernel
theorem dX6_lineValue_62 : decode cX6_lineValue 62 = .ok (.iconst 4, 1) := by decide +kernel
theorem dX6_lineValue_63 : decode cX6_lineValue 63 = .ok (.invokestatic 224, 3) := by decide +kernel
theorem dX6_lineValue_66 : decode cX6_lineValue 66 = .ok (.istore 6, 2) := by decide +kernel
theorem dX6_lineValue_68 : decode cX6_lineValue 68 = .ok (.aload_n 0, 1) := by decide +kernel
theorem dX6_lineValue_69 : decode cX6_lineValue 69 = .ok (.getfield 28, 3) := by decide +kernel
theorem dX6_lineValue_72 : decode cX6_lineValue 72 = .ok (.iload 6, 2) := by decide +kernel
theorem dX6_lineValue_74 : decode cX6_lineValue 74 = .ok (.invokevirtual 138, 3) := by decide +kernel
theorem dX6_lineValue_77 : decode cX6_lineValue 77 = .ok (.ireturn, 1) := by decide +kernel
set_option maxRecDepth 20000 in
theorem ggX6_valueAt_X0_nearestLive : GoodIn wsX6_valueAt wsX0_nearestLive := goodIn_r _ [6, 7, 8, 5, 9, 10, 11, 12, 13, 14, 15, 82, 83, 84, 85] (by decide +kernel) (by decide +kernel)
set_option maxRecDepth 20000 in
theorem gX6_valueAt_X0_nearestLive : GoodIn wsX6_valueAt (wsV RX6 227 RX0 yX0_nearestLive wsX0_nearestLive) := goodIn_app (goodIn_of _ (by decide +kernel)) ggX6_valueAt_X0_nearestLive
set_option maxRecDepth 20000 in
theorem ggX6_valueAt_X6_liveValue : GoodIn wsX6_valueAt wsX6_liveValue := goodIn_r _ [20, 21, 22, 1, 23, 24, 25, 26, 27, 28, 29, 30, 31, 32, 33, 34, 35, 36, 37, 38, 39, 40, 41, 42, 43, 44, 45, 46, 47, 48, 49, 50, 51, 52, 53, 54, 55, 56, 57, 8, 5, 9, 58, 59, 60, 61, 62, 63, 64, 65, 66, 67, 68, 69, 70, 71, 72, 73, 15, 14, 74, 76, 77, 78, 79, 80, 81, 86, 87, 88, 89, 90, 91, 92, 93, 94, 82, 83, 84, 85] (by decide +kernel) (by decide +kernel)
set_option maxRecDepth 20000 in
theorem gX6_valueAt_X6_liveValue : GoodIn wsX6_valueAt (wsV RX6 230 RX6 yX6_liveValue wsX6_liveValue) := goodIn_app (goodIn_of _ (by decide +kernel)) ggX6_valueAt_X6_liveValue
set_option maxRecDepth 20000 in
theorem ggX6_valueAt_X2_rounded : GoodIn wsX6_valueAt wsX2_rounded := goodIn_r _ [56] (by decide +kernel) (by decide +kernel)
set_option maxRecDepth 20000 in
theorem gX6_valueAt_X2_rounded : GoodIn wsX6_valueAt (va_wsS RX6 224 yX2_rounded wsX2_rounded) := goodIn_app (goodIn_of _ (by decide +kernel)) ggX6_valueAt_X2_rounded
theorem dX6_valueAt_0 : decode cX6_valueAt 0 = .ok (.aload_n 0, 1) := by decide +kernel
theorem dX6_valueAt_1 : decode cX6_valueAt 1 = .ok (.getfield 14, 3) := by decide +kernel
theorem dX6_valueAt_4 : decode cX6_valueAt 4 = .ok (.iload_n 2, 1) := by decide +kernel
theorem dX6_valueAt_5 : decode cX6_valueAt 5 = .ok (.iload_n 3, 1) := by decide +kernel
theorem dX6_valueAt_6 : decode cX6_valueAt 6 = .ok (.iconst (-1), 1) := by decide +kernel
theorem dX6_valueAt_7 : decode cX6_valueAt 7 = .ok (.invokevirtual 227, 3) := by decide +kernel
theorem dX6_valueAt_10 : decode cX6_valueAt 10 = .ok (.istore 4, 2) := by decide +kernel
theorem dX6_valueAt_12 : decode cX6_valueAt 12 = .ok (.iload 4, 2) := by decide +kernel
theorem dX6_valueAt_14 : decode cX6_valueAt 14 = .ok (.iload_n 3, 1) := by decide +kernel
theorem dX6_valueAt_15 : decode cX6_valueAt 15 = .ok (.if_icmp .ne 11, 3) := by decide +kernel
theorem dX6_valueAt_18 : decode cX6_valueAt 18 = .ok (.aload_n 0, 1) := by decide +kernel
theorem dX6_valueAt_19 : decode cX6_valueAt 19 = .ok (.iload_n 1, 1) := by decide +kernel
theorem dX6_valueAt_20 : decode cX6_valueAt 20 = .ok (.iload_n 2, 1) := by decide +kernel
theorem dX6_valueAt_21 : decode cX6_valueAt 21 = .ok (.iload_n 3, 1) := by decide +kernel
theorem dX6_valueAt_22 : decode cX6_valueAt 22 = .ok (.invokevirtual 230, 3) := by decide +kernel
theorem dX6_valueAt_25 : decode cX6_valueAt 25 = .ok (.ireturn, 1) := by decide +kernel
theorem dX6_valueAt_26 : decode cX6_valueAt 26 = .ok (.aload_n 0, 1) := by decide +kernel
theorem dX6_valueAt_27 : decode cX6_valueAt 27 = .ok (.getfield 14, 3) := by decide +kernel
theorem dX6_valueAt_30 : decode cX6_valueAt 30 = .ok (.iload_n 2, 1) := by decide +kernel
theorem dX6_valueAt_31 : decode cX6_valueAt 31 = .ok (.iload_n 3, 1) := by decide +kernel
theorem dX6_valueAt_32 : decode cX6_valueAt 32 = .ok (.iconst 1, 1) := by decide +kernel
theorem dX6_valueAt_33 : decode cX6_valueAt 33 = .ok (.invokevirtual 227, 3) := by decide +kernel
theorem dX6_valueAt_36 : decode cX6_valueAt 36 = .ok (.istore 5, 2) := by decide +kernel
theorem dX6_valueAt_38 : decode cX6_valueAt 38 = .ok (.iload 4, 2) := by decide +kernel
theorem dX6_valueAt_40 : decode cX6_valueAt 40 = .ok (.bipush (-9), 2) := by decide +kernel
theorem dX6_valueAt_42 : decode cX6_valueAt 42 = .ok (.if_icmp .ne 12, 3) := by decide +kernel
theorem dX6_valueAt_45 : decode cX6_valueAt 45 = .ok (.iload 5, 2) := by decide +kernel
theorem dX6_valueAt_47 : decode cX6_valueAt 47 = .ok (.bipush (-9), 2) := by decide +kernel
theorem dX6_valueAt_49 : decode cX6_valueAt 49 = .ok (.if_icmp .ne 5, 3) := by decide +kernel
theorem dX6_valueAt_52 : decode cX6_valueAt 52 = .ok (.iconst 0, 1) := by decide +kernel
theorem dX6_valueAt_53 : decode cX6_valueAt 53 = .ok (.ireturn, 1) := by decide +kernel
theorem dX6_valueAt_54 : decode cX6_valueAt 54 = .ok (.iload 4, 2) := by decide +kernel
theorem dX6_valueAt_56 : decode cX6_valueAt 56 = .ok (.bipush (-9), 2) := by decide +kernel
theorem dX6_valueAt_58 : decode cX6_valueAt 58 = .ok (.if_icmp .ne 12, 3) := by decide +kernel
theorem dX6_valueAt_61 : decode cX6_valueAt 61 = .ok (.aload_n 0, 1) := by decide +kernel
theorem dX6_valueAt_62 : decode cX6_valueAt 62 = .ok (.iload_n 1, 1) := by decide +kernel
theorem dX6_valueAt_63 : decode cX6_valueAt 63 = .ok (.iload_n 2, 1) := by decide +kernel
theorem dX6_valueAt_64 : decode cX6_valueAt 64 = .ok (.iload 5, 2) := by decide +kernel
theorem dX6_valueAt_66 : decode cX6_valueAt 66 = .ok (.invokevirtual 230, 3) := by decide +kernel
theorem dX6_valueAt_69 : decode cX6_valueAt 69 = .ok (.ireturn, 1) := by decide +kernel
theorem dX6_valueAt_70 : decode cX6_valueAt 70 = .ok (.iload 5, 2) := by decide +kernel
theorem dX6_valueAt_72 : decode cX6_valueAt 72 = .ok (.bipush (-9), 2) := by decide +kernel
theorem dX6_valueAt_74 : decode cX6_valueAt 74 = .ok (.if_icmp .ne 12, 3) := by decide +kernel
theorem dX6_valueAt_77 : decode cX6_valueAt 77 = .ok (.aload_n 0, 1) := by decide +kernel
theorem dX6_valueAt_78 : decode cX6_valueAt 78 = .ok (.iload_n 1, 1) := by decide +kernel
theorem dX6_valueAt_79 : decode cX6_valueAt 79 = .ok (.iload_n 2, 1) := by decide +kernel
theorem dX6_valueAt_80 : decode cX6_valueAt 80 = .ok (.iload 4, 2) := by decide +kernel
theorem dX6_valueAt_82 : decode cX6_valueAt 82 = .ok (.invokevirtual 230, 3) := by decide +kernel
theorem dX6_valueAt_85 : decode cX6_valueAt 85 = .ok (.ireturn, 1) := by decide +kernel
theorem dX6_valueAt_86 : decode cX6_valueAt 86 = .ok (.aload_n 0, 1) := by decide +kernel
theorem dX6_valueAt_87 : decode cX6_valueAt 87 = .ok (.iload_n 1, 1) := by decide +kernel
theorem dX6_valueAt_88 : decode cX6_valueAt 88 = .ok (.iload_n 2, 1) := by decide +kernel
theorem dX6_valueAt_89 : decode cX6_valueAt 89 = .ok (.iload 4, 2) := by decide +kernel
theorem dX6_valueAt_91 : decode cX6_valueAt 91 = .ok (.invokevirtual 230, 3) := by decide +kernel
theorem dX6_valueAt_94 : decode cX6_valueAt 94 = .ok (.istore 6, 2) := by decide +kernel
theorem dX6_valueAt_96 : decode cX6_valueAt 96 = .ok (.aload_n 0, 1) := by decide +kernel
theorem dX6_valueAt_97 : decode cX6_valueAt 97 = .ok (.iload_n 1, 1) := by decide +kernel
theorem dX6_valueAt_98 : decode cX6_valueAt 98 = .ok (.iload_n 2, 1) := by decide +kernel
theorem dX6_valueAt_99 : decode cX6_valueAt 99 = .ok (.iload 5, 2) := by decide +kernel
theorem dX6_valueAt_101 : decode cX6_valueAt 101 = .ok (.invokevirtual 230, 3) := by decide +kernel
theorem dX6_valueAt_104 : decode cX6_valueAt 104 = .ok (.istore 7, 2) := by decide +kernel
theorem dX6_valueAt_106 : decode cX6_valueAt 106 = .ok (.iload 6, 2) := by decide +kernel
theorem dX6_valueAt_108 : decode cX6_valueAt 108 = .ok (.iload 5, 2) := by decide +kernel
theorem dX6_valueAt_110 : decode cX6_valueAt 110 = .ok (.iload_n 3, 1) := by decide +kernel
theorem dX6_valueAt_111 : decode cX6_valueAt 111 = .ok (.isub, 1) := by decide +kernel
theorem dX6_valueAt_112 : decode cX6_valueAt 112 = .ok (.imul, 1) := by decide +kernel
theorem dX6_valueAt_113 : decode cX6_valueAt 113 = .ok (.iload 7, 2) := by decide +kernel
theorem dX6_valueAt_115 : decode cX6_valueAt 115 = .ok (.iload_n 3, 1) := by decide +kernel
theorem dX6_valueAt_116 : decode cX6_valueAt 116 = .ok (.iload 4, 2) := by decide +kernel
theorem dX6_valueAt_118 : decode cX6_valueAt 118 = .ok (.isub, 1) := by decide +kernel
theorem dX6_valueAt_119 : decode cX6_valueAt 119 = .ok (.imul, 1) := by decide +kernel
theorem dX6_valueAt_120 : decode cX6_valueAt 120 = .ok (.iadd, 1) := by decide +kernel
theorem dX6_valueAt_121 : decode cX6_valueAt 121 = .ok (.iload 5, 2) := by decide +kernel
theorem dX6_valueAt_123 : decode cX6_valueAt 123 = .ok (.iload 4, 2) := by decide +kernel
theorem dX6_valueAt_125 : decode cX6_valueAt 125 = .ok (.isub, 1) := by decide +kernel
theorem dX6_valueAt_126 : decode cX6_valueAt 126 = .ok (.invokestatic 224, 3) := by decide +kernel
theorem dX6_valueAt_129 : decode cX6_valueAt 129 = .ok (.ireturn, 1) := by decide +kernel
set_option maxRecDepth 20000 in
theorem ggX6_liveValue_J9_floorDiv_7cf53 : GoodIn wsX6_liveValue wsJ9_floorDiv_7cf53 := goodIn_r _ [7] (by decide +kernel) (by decide +kernel)
set_option maxRecDepth 20000 in
theorem gX6_liveValue_J9_floorDiv_7cf53 : GoodIn wsX6_liveValue (va_wsS RX6 233 yJ9_floorDiv_7cf53 wsJ9_floorDiv_7cf53) := goodIn_app (goodIn_of _ (by decide +kernel)) ggX6_liveValue_J9_floorDiv_7cf53
set_option maxRecDepth 20000 in
theorem ggX6_liveValue_X3_lightOn : GoodIn wsX6_liveValue wsX3_lightOn := goodIn_r _ [12, 13, 14, 15, 16, 17, 18, 19, 20, 11, 21, 22, 23, 24, 25, 26, 27, 28, 29, 30, 31, 32, 33, 34, 35, 36, 37, 67, 68, 69, 70, 71, 72, 73, 74, 75] (by decide +kernel) (by decide +kernel)
set_option maxRecDepth 20000 in
theorem gX6_liveValue_X3_lightOn : GoodIn wsX6_liveValue (wsV RX6 121 RX3 yX3_lightOn wsX3_lightOn) := goodIn_app (goodIn_of _ (by decide +kernel)) ggX6_liveValue_X3_lightOn
set_option maxRecDepth 20000 in
theorem ggX6_liveValue_X0_place : GoodIn wsX6_liveValue wsX0_place := goodIn_r _ [41] (by decide +kernel) (by decide +kernel)
set_option maxRecDepth 20000 in
theorem gX6_liveValue_X0_place : GoodIn wsX6_liveValue (va_wsS RX6 64 yX0_place wsX0_place) := goodIn_app (goodIn_of _ (by decide +kernel)) ggX6_liveValue_X0_place
set_option maxRecDepth 20000 in
theorem ggX6_liveValue_X0_readingOf : GoodIn wsX6_liveValue wsX0_readingOf := goodIn_r _ [45, 46, 47, 48, 49, 36, 50, 51, 52, 16, 53, 76, 77, 78, 79] (by decide +kernel) (by decide +kernel)
set_option maxRecDepth 20000 in
theorem gX6_liveValue_X0_readingOf : GoodIn wsX6_liveValue (wsV RX6 92 RX0 yX0_readingOf wsX0_readingOf) := goodIn_app (goodIn_of _ (by decide +kernel)) ggX6_liveValue_X0_readingOf
set_option maxRecDepth 20000 in
theorem ggX6_liveValue_X0_evenOf : GoodIn wsX6_liveValue wsX0_evenOf := goodIn_r _ [57, 58, 59, 60, 35, 36, 37, 48, 49, 50, 51, 52, 16, 53, 76, 77, 78, 79] (by decide +kernel) (by decide +kernel)
set_option maxRecDepth 20000 in
theorem gX6_liveValue_X0_evenOf : GoodIn wsX6_liveValue (wsV RX6 95 RX0 yX0_evenOf wsX0_evenOf) := goodIn_app (goodIn_of _ (by decide +kernel)) ggX6_liveValue_X0_evenOf
theorem dX6_liveValue_0 : decode cX6_liveValue 0 = .ok (.iconst 4, 1) := by decide +kernel
theorem dX6_liveValue_1 : decode cX6_liveValue 1 = .ok (.iload_n 1, 1) := by decide +kernel
theorem dX6_liveValue_2 : decode cX6_liveValue 2 = .ok (.imul, 1) := by decide +kernel
theorem dX6_liveValue_3 : decode cX6_liveValue 3 = .ok (.aload_n 0, 1) := by decide +kernel
theorem dX6_liveValue_4 : decode cX6_liveValue 4 = .ok (.getfield 46, 3) := by decide +kernel
theorem dX6_liveValue_7 : decode cX6_liveValue 7 = .ok (.iload_n 2, 1) := by decide +kernel
theorem dX6_liveValue_8 : decode cX6_liveValue 8 = .ok (.iaload, 1) := by decide +kernel
theorem dX6_liveValue_9 : decode cX6_liveValue 9 = .ok (.isub, 1) := by decide +kernel
theorem dX6_liveValue_10 : decode cX6_liveValue 10 = .ok (.istore 4, 2) := by decide +kernel
theorem dX6_liveValue_12 : decode cX6_liveValue 12 = .ok (.iload 4, 2) := by decide +kernel
theorem dX6_liveValue_14 : decode cX6_liveValue 14 = .ok (.iconst 4, 1) := by decide +kernel
theorem dX6_liveValue_15 : decode cX6_liveValue 15 = .ok (.invokestatic 233, 3) := by decide +kernel
theorem dX6_liveValue_18 : decode cX6_liveValue 18 = .ok (.istore 5, 2) := by decide +kernel
theorem dX6_liveValue_20 : decode cX6_liveValue 20 = .ok (.aload_n 0, 1) := by decide +kernel
theorem dX6_liveValue_21 : decode cX6_liveValue 21 = .ok (.getfield 21, 3) := by decide +kernel
theorem dX6_liveValue_24 : decode cX6_liveValue 24 = .ok (.iload_n 2, 1) := by decide +kernel
theorem dX6_liveValue_25 : decode cX6_liveValue 25 = .ok (.iload_n 3, 1) := by decide +kernel
theorem dX6_liveValue_26 : decode cX6_liveValue 26 = .ok (.iload 5, 2) := by decide +kernel
theorem dX6_liveValue_28 : decode cX6_liveValue 28 = .ok (.iload 4, 2) := by decide +kernel
theorem dX6_liveValue_30 : decode cX6_liveValue 30 = .ok (.iconst 4, 1) := by decide +kernel
theorem dX6_liveValue_31 : decode cX6_liveValue 31 = .ok (.iload 5, 2) := by decide +kernel
theorem dX6_liveValue_33 : decode cX6_liveValue 33 = .ok (.imul, 1) := by decide +kernel
theorem dX6_liveValue_34 : decode cX6_liveValue 34 = .ok (.isub, 1) := by decide +kernel
theorem dX6_liveValue_35 : decode cX6_liveValue 35 = .ok (.invokevirtual 121, 3) := by decide +kernel
theorem dX6_liveValue_38 : decode cX6_liveValue 38 = .ok (.istore 6, 2) := by decide +kernel
theorem dX6_liveValue_40 : decode cX6_liveValue 40 = .ok (.iload_n 2, 1) := by decide +kernel
theorem dX6_liveValue_41 : decode cX6_liveValue 41 = .ok (.iload_n 3, 1) := by decide +kernel
theorem dX6_liveValue_42 : decode cX6_liveValue 42 = .ok (.invokestatic 64, 3) := by decide +kernel
theorem dX6_liveValue_45 : decode cX6_liveValue 45 = .ok (.istore 7, 2) := by decide +kernel
theorem dX6_liveValue_47 : decode cX6_liveValue 47 = .ok (.aload_n 0, 1) := by decide +kernel
theorem dX6_liveValue_48 : decode cX6_liveValue 48 = .ok (.getfield 14, 3) := by decide +kernel
theorem dX6_liveValue_51 : decode cX6_liveValue 51 = .ok (.iload 7, 2) := by decide +kernel
theorem dX6_liveValue_53 : decode cX6_liveValue 53 = .ok (.aload_n 0, 1) := by decide +kernel
theorem dX6_liveValue_54 : decode cX6_liveValue 54 = .ok (.getfield 14, 3) := by decide +kernel
theorem dX6_liveValue_57 : decode cX6_liveValue 57 = .ok (.iload 7, 2) := by decide +kernel
theorem dX6_liveValue_59 : decode cX6_liveValue 59 = .ok (.iload 6, 2) := by decide +kernel
theorem dX6_liveValue_61 : decode cX6_liveValue 61 = .ok (.invokevirtual 92, 3) := by decide +kernel
theorem dX6_liveValue_64 : decode cX6_liveValue 64 = .ok (.invokevirtual 95, 3) := by decide +kernel
theorem dX6_liveValue_67 : decode cX6_liveValue 67 = .ok (.ireturn, 1) := by decide +kernel
