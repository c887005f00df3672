theorem dX7_tick_211 : decode cX7_tick 211 = .ok (.getfield 62, 3) := by decide +kernel
theorem dX7_tick_214 : decode cX7_tick 214 = .ok (.aload_n 0, 1) := by decide +kernel
theorem dX7_tick_215 : decode cX7_tick 215 = .ok (.getfield 163, 3) := by decide +kernel
theorem dX7_tick_218 : decode cX7_tick 218 = .ok (.iconst 4, 1) := by decide +kernel
theorem dX7_tick_219 : decode cX7_tick 219 = .ok (.isub, 1) := by decide +kernel
theorem dX7_tick_220 : decode cX7_tick 220 = .ok (.if_icmp .ne 7, 3) := by decide +kernel
theorem dX7_tick_223 : decode cX7_tick 223 = .ok (.iconst 0, 1) := by decide +kernel
theorem dX7_tick_224 : decode cX7_tick 224 = .ok (.goto 4, 3) := by decide +kernel
theorem dX7_tick_227 : decode cX7_tick 227 = .ok (.iconst 4, 1) := by decide +kernel
theorem dX7_tick_228 : decode cX7_tick 228 = .ok (.putfield 160, 3) := by decide +kernel
theorem dX7_tick_231 : decode cX7_tick 231 = .ok (.return_, 1) := by decide +kernel
set_option maxRecDepth 20000 in
theorem ggX7_ticks_X7_within : GoodIn wsX7_ticks wsX7_within := goodIn_r _ [5] (by decide +kernel) (by decide +kernel)
set_option maxRecDepth 20000 in
theorem gX7_ticks_X7_within : GoodIn wsX7_ticks (va_wsS RX7 68 yX7_within wsX7_within) := goodIn_app (goodIn_of _ (by decide +kernel)) ggX7_ticks_X7_within
set_option maxRecDepth 20000 in
theorem ggX7_ticks_X7_tick : GoodIn wsX7_ticks wsX7_tick := goodIn_r _ [9, 10, 11, 1, 12, 13, 14, 15, 16, 17, 18, 4, 19, 20, 21, 22, 23, 24, 25, 26, 27, 28, 29, 30, 31, 32, 33, 34, 35, 36, 37, 38, 39, 40, 41, 42, 43, 44, 45, 46, 47, 48, 49, 50, 51, 52, 53, 54, 55, 56, 57, 58, 59, 60, 61, 62, 63, 64] (by decide +kernel) (by decide +kernel)
set_option maxRecDepth 20000 in
theorem gX7_ticks_X7_tick : GoodIn wsX7_ticks (wsV RX7 182 RX7 yX7_tick wsX7_tick) := goodIn_app (goodIn_of _ (by decide +kernel)) ggX7_ticks_X7_tick
theorem dX7_ticks_0 : decode cX7_ticks 0 = .ok (.iload_n 1, 1) := by decide +kernel
theorem dX7_ticks_1 : decode cX7_ticks 1 = .ok (.iconst 0, 1) := by decide +kernel
theorem dX7_ticks_2 : decode cX7_ticks 2 = .ok (.sipush 200, 3) := by decide +kernel
theorem dX7_ticks_5 : decode cX7_ticks 5 = .ok (.invokestatic 68, 3) := by decide +kernel
theorem dX7_ticks_8 : decode cX7_ticks 8 = .ok (.ifCond .ne 6, 3) := by decide +kernel
theorem dX7_ticks_11 : decode cX7_ticks 11 = .ok (.bipush (-2), 2) := by decide +kernel
theorem dX7_ticks_13 : decode cX7_ticks 13 = .ok (.ireturn, 1) := by decide +kernel
theorem dX7_ticks_14 : decode cX7_ticks 14 = .ok (.aload_n 0, 1) := by decide +kernel
theorem dX7_ticks_15 : decode cX7_ticks 15 = .ok (.getfield 151, 3) := by decide +kernel
theorem dX7_ticks_18 : decode cX7_ticks 18 = .ok (.istore_n 2, 1) := by decide +kernel
theorem dX7_ticks_19 : decode cX7_ticks 19 = .ok (.iconst 0, 1) := by decide +kernel
theorem dX7_ticks_20 : decode cX7_ticks 20 = .ok (.istore_n 3, 1) := by decide +kernel
theorem dX7_ticks_21 : decode cX7_ticks 21 = .ok (.iload_n 3, 1) := by decide +kernel
theorem dX7_ticks_22 : decode cX7_ticks 22 = .ok (.iload_n 1, 1) := by decide +kernel
theorem dX7_ticks_23 : decode cX7_ticks 23 = .ok (.if_icmp .ge 13, 3) := by decide +kernel
theorem dX7_ticks_26 : decode cX7_ticks 26 = .ok (.aload_n 0, 1) := by decide +kernel
theorem dX7_ticks_27 : decode cX7_ticks 27 = .ok (.invokevirtual 182, 3) := by decide +kernel
theorem dX7_ticks_30 : decode cX7_ticks 30 = .ok (.iinc 3 1, 3) := by decide +kernel
theorem dX7_ticks_33 : decode cX7_ticks 33 = .ok (.goto (-12), 3) := by decide +kernel
theorem dX7_ticks_36 : decode cX7_ticks 36 = .ok (.aload_n 0, 1) := by decide +kernel
theorem dX7_ticks_37 : decode cX7_ticks 37 = .ok (.getfield 151, 3) := by decide +kernel
theorem dX7_ticks_40 : decode cX7_ticks 40 = .ok (.iload_n 2, 1) := by decide +kernel
theorem dX7_ticks_41 : decode cX7_ticks 41 = .ok (.isub, 1) := by decide +kernel
theorem dX7_ticks_42 : decode cX7_ticks 42 = .ok (.ireturn, 1) := by decide +kernel
set_option maxRecDepth 20000 in
theorem ggX7_take_X7_wholeOf : GoodIn wsX7_take wsX7_wholeOf := goodIn_r _ [10, 11, 12, 13, 14, 9, 15, 16, 17, 18, 19, 20, 21, 22, 23, 24, 25, 26, 27, 28, 29, 30, 31, 32, 33, 34, 35, 36, 37, 38, 39, 40, 41, 42, 43, 44, 45, 46, 47, 48, 49, 50, 51, 52, 53, 54, 55, 56, 57, 58, 59, 60, 61, 62, 63, 64, 65, 66, 67, 68, 69, 70, 71, 72, 73, 74, 75, 76, 77, 78, 79, 80, 81, 82, 83, 84, 85, 86, 87, 88, 89, 90, 91, 92, 93, 94, 95, 96, 97, 98, 99, 100, 101, 102, 103, 104, 105, 106, 107, 108, 109, 110, 111, 112, 113, 114, 115] (by decide +kernel) (by decide +kernel)
set_option maxRecDepth 20000 in
theorem gX7_take_X7_wholeOf : GoodIn wsX7_take (wsV RX7 145 RX7 yX7_wholeOf wsX7_wholeOf) := goodIn_app (goodIn_of _ (by decide +kernel)) ggX7_take_X7_wholeOf
theorem dX7_take_0 : decode cX7_take 0 = .ok (.aload_n 0, 1) := by decide +kernel
theorem dX7_take_1 : decode cX7_take 1 = .ok (.getfield 83, 3) := by decide +kernel
theorem dX7_take_4 : decode cX7_take 4 = .ok (.ifCond .ne 6, 3) := by decide +kernel
theorem dX7_take_7 : decode cX7_take 7 = .ok (.bipush (-3), 2) := by decide +kernel
theorem dX7_take_9 : decode cX7_take 9 = .ok (.ireturn, 1) := by decide +kernel
theorem dX7_take_10 : decode cX7_take 10 = .ok (.aload_n 0, 1) := by decide +kernel
theorem dX7_take_11 : decode cX7_take 11 = .ok (.getfield 151, 3) := by decide +kernel
theorem dX7_take_14 : decode cX7_take 14 = .ok (.aload_n 0, 1) := by decide +kernel
theorem dX7_take_15 : decode cX7_take 15 = .ok (.getfield 154, 3) := by decide +kernel
theorem dX7_take_18 : decode cX7_take 18 = .ok (.if_icmp .ne 6, 3) := by decide +kernel
theorem dX7_take_21 : decode cX7_take 21 = .ok (.bipush (-9), 2) := by decide +kernel
theorem dX7_take_23 : decode cX7_take 23 = .ok (.ireturn, 1) := by decide +kernel
theorem dX7_take_24 : decode cX7_take 24 = .ok (.iconst 0, 1) := by decide +kernel
theorem dX7_take_25 : decode cX7_take 25 = .ok (.istore_n 1, 1) := by decide +kernel
theorem dX7_take_26 : decode cX7_take 26 = .ok (.iload_n 1, 1) := by decide +kernel
theorem dX7_take_27 : decode cX7_take 27 = .ok (.bipush 36, 2) := by decide +kernel
theorem dX7_take_29 : decode cX7_take 29 = .ok (.if_icmp .ge 39, 3) := by decide +kernel
theorem dX7_take_32 : decode cX7_take 32 = .ok (.aload_n 0, 1) := by decide +kernel
theorem dX7_take_33 : decode cX7_take 33 = .ok (.getfield 65, 3) := by decide +kernel
theorem dX7_take_36 : decode cX7_take 36 = .ok (.bipush 36, 2) := by decide +kernel
theorem dX7_take_38 : decode cX7_take 38 = .ok (.aload_n 0, 1) := by decide +kernel
theorem dX7_take_39 : decode cX7_take 39 = .ok (.getfield 154, 3) := by decide +kernel
theorem dX7_take_42 : decode cX7_take 42 = .ok (.imul, 1) := by decide +kernel
theorem dX7_take_43 : decode cX7_take 43 = .ok (.iload_n 1, 1) := by decide +kernel
theorem dX7_take_44 : decode cX7_take 44 = .ok (.iadd, 1) := by decide +kernel
theorem dX7_take_45 : decode cX7_take 45 = .ok (.aload_n 0, 1) := by decide +kernel
theorem dX7_take_46 : decode cX7_take 46 = .ok (.aload_n 0, 1) := by decide +kernel
theorem dX7_take_47 : decode cX7_take 47 = .ok (.getfield 154, 3) := by decide +kernel
theorem dX7_take_50 : decode cX7_take 50 = .ok (.iload_n 1, 1) := by decide +kernel
theorem dX7_take_51 : decode cX7_take 51 = .ok (.bipush 12, 2) := by decide +kernel
theorem dX7_take_53 : decode cX7_take 53 = .ok (.idiv, 1) := by decide +kernel
theorem dX7_take_54 : decode cX7_take 54 = .ok (.iload_n 1, 1) := by decide +kernel
theorem dX7_take_55 : decode cX7_take 55 = .ok (.bipush 12, 2) := by decide +kernel
theorem dX7_take_57 : decode cX7_take 57 = .ok (.irem, 1) := by decide +kernel
theorem dX7_take_58 : decode cX7_take 58 = .ok (.invokevirtual 145, 3) := by decide +kernel
theorem dX7_take_61 : decode cX7_take 61 = .ok (.iastore, 1) := by decide +kernel
theorem dX7_take_62 : decode cX7_take 62 = .ok (.iinc 1 1, 3) := by decide +kernel
theorem dX7_take_65 : decode cX7_take 65 = .ok (.goto (-39), 3) := by decide +kernel
theorem dX7_take_68 : decode cX7_take 68 = .ok (.aload_n 0, 1) := by decide +kernel
theorem dX7_take_69 : decode cX7_take 69 = .ok (.dup, 1) := by decide +kernel
theorem dX7_take_70 : decode cX7_take 70 = .ok (.getfield 154, 3) := by decide +kernel
theorem dX7_take_73 : decode cX7_take 73 = .ok (.iconst 1, 1) := by decide +kernel
theorem dX7_take_74 : decode cX7_take 74 = .ok (.iadd, 1) := by decide +kernel
theorem dX7_take_75 : decode cX7_take 75 = .ok (.putfield 154, 3) := by decide +kernel
theorem dX7_take_78 : decode cX7_take 78 = .ok (.aload_n 0, 1) := by decide +kernel
theorem dX7_take_79 : decode cX7_take 79 = .ok (.aload_n 0, 1) := by decide +kernel
theorem dX7_take_80 : decode cX7_take 80 = .ok (.getfield 154, 3) := by decide +kernel
theorem dX7_take_83 : decode cX7_take 83 = .ok (.aload_n 0, 1) := by decide +kernel
theorem dX7_take_84 : decode cX7_take 84 = .ok (.getfield 148, 3) := by decide +kernel
theorem dX7_take_87 : decode cX7_take 87 = .ok (.if_icmp .ge 7, 3) := by decide +kernel
theorem dX7_take_90 : decode cX7_take 90 = .ok (.iconst 1, 1) := by decide +kernel
theorem dX7_take_91 : decode cX7_take 91 = .ok (.goto 4, 3) := by decide +kernel
theorem dX7_take_94 : decode cX7_take 94 = .ok (.iconst 0, 1) := by decide +kernel
theorem dX7_take_95 : decode cX7_take 95 = .ok (.putfield 83, 3) := by decide +kernel
theorem dX7_take_98 : decode cX7_take 98 = .ok (.aload_n 0, 1) := by decide +kernel
theorem dX7_take_99 : decode cX7_take 99 = .ok (.getfield 154, 3) := by decide +kernel
theorem dX7_take_102 : decode cX7_take 102 = .ok (.iconst 1, 1) := by decide +kernel
theorem dX7_take_103 : decode cX7_take 103 = .ok (.isub, 1) := by decide +kernel
theorem dX7_take_104 : decode cX7_take 104 = .ok (.ireturn, 1) := by decide +kernel
theorem dX7_stop_0 : decode cX7_stop 0 = .ok (.aload_n 0, 1) := by decide +kernel
theorem dX7_stop_1 : decode cX7_stop 1 = .ok (.getfield 83, 3) := by decide +kernel
theorem dX7_stop_4 : decode cX7_stop 4 = .ok (.ifCond .ne 6, 3) := by decide +kernel
theorem dX7_stop_7 : decode cX7_stop 7 = .ok (.bipush (-3), 2) := by decide +kernel
theorem dX7_stop_9 : decode cX7_stop 9 = .ok (.ireturn, 1) := by decide +kernel
theorem dX7_stop_10 : decode cX7_stop 10 = .ok (.aload_n 0, 1) := by decide +kernel
theorem dX7_stop_11 : decode cX7_stop 11 = .ok (.iconst 0, 1) := by decide +kernel
theorem dX7_stop_12 : decode cX7_stop 12 = .ok (.putfield 83, 3) := by decide +kernel
theorem dX7_stop_15 : decode cX7_stop 15 = .ok (.aload_n 0, 1) := by decide +kernel
theorem dX7_stop_16 : decode cX7_stop 16 = .ok (.aload_n 0, 1) := by decide +kernel
theorem dX7_stop_17 : decode cX7_stop 17 = .ok (.getfield 154, 3) := by decide +kernel
theorem dX7_stop_20 : decode cX7_stop 20 = .ok (.putfield 151, 3) := by decide +kernel
theorem dX7_stop_23 : decode cX7_stop 23 = .ok (.aload_n 0, 1) := by decide +kernel
theorem dX7_stop_24 : decode cX7_stop 24 = .ok (.getfield 148, 3) := by decide +kernel
theorem dX7_stop_27 : decode cX7_stop 27 = .ok (.aload_n 0, 1) := by decide +kernel
theorem dX7_stop_28 : decode cX7_stop 28 = .ok (.getfield 154, 3) := by decide +kernel
theorem dX7_stop_31 : decode cX7_stop 31 = .ok (.isub, 1) := by decide +kernel
theorem dX7_stop_32 : decode cX7_stop 32 = .ok (.ireturn, 1) := by decide +kernel
set_option maxRecDepth 20000 in
theorem ggX7_head_X7_reach : GoodIn wsX7_head wsX7_reach := goodIn_r _ [13, 14, 15, 16, 12, 17, 18, 19, 20, 21, 22, 23, 24, 25, 26, 27, 28, 29, 30, 31, 32, 33, 34, 35, 36, 37, 38, 39, 40, 41, 42, 43, 44, 45, 46, 47] (by decide +kernel) (by decide +kernel)
set_option maxRecDepth 20000 in
theorem gX7_head_X7_reach : GoodIn wsX7_head (wsV RX7 157 RX7 yX7_reach wsX7_reach) := goodIn_app (goodIn_of _ (by decide +kernel)) ggX7_head_X7_reach
theorem dX7_head_0 : decode cX7_head 0 = .ok (.iload_n 1, 1) := by decide +kernel
theorem dX7_head_1 : decode cX7_head 1 = .ok (.tableswitch 104 0 7 #[47, 56, 61, 66, 76, 81, 86, 99], 47) := by decide +kernel
theorem dX7_head_48 : decode cX7_head 48 = .ok (.aload_n 0, 1) := by decide +kernel
theorem dX7_head_49 : decode cX7_head 49 = .ok (.getfield 62, 3) := by decide +kernel
theorem dX7_head_52 : decode cX7_head 52 = .ok (.sipush 1000, 3) := by decide +kernel
theorem dX7_head_55 : decode cX7_head 55 = .ok (.iadd, 1) := by decide +kernel
theorem dX7_head_56 : decode cX7_head 56 = .ok (.ireturn, 1) := by decide +kernel
theorem dX7_head_57 : decode cX7_head 57 = .ok (.aload_n 0, 1) := by decide +kernel
theorem dX7_head_58 : decode cX7_head 58 = .ok (.getfield 160, 3) := by decide +kernel
theorem dX7_head_61 : decode cX7_head 61 = .ok (.ireturn, 1) := by decide +kernel
theorem dX7_head_62 : decode cX7_head 62 = .ok (.aload_n 0, 1) := by decide +kernel
theorem dX7_head_63 : decode cX7_head 63 = .ok (.getfield 163, 3) := by decide +kernel
theorem dX7_head_66 : decode cX7_head 66 = .ok (.ireturn, 1) := by decide +kernel
theorem dX7_head_67 : decode cX7_head 67 = .ok (.aload_n 0, 1) := by decide +kernel
theorem dX7_head_68 : decode cX7_head 68 = .ok (.getfield 151, 3) := by decide +kernel
theorem dX7_head_71 : decode cX7_head 71 = .ok (.aload_n 0, 1) := by decide +kernel
theorem dX7_head_72 : decode cX7_head 72 = .ok (.getfield 154, 3) := by decide +kernel
theorem dX7_head_75 : decode cX7_head 75 = .ok (.isub, 1) := by decide +kernel
theorem dX7_head_76 : decode cX7_head 76 = .ok (.ireturn, 1) := by decide +kernel
theorem dX7_head_77 : decode cX7_head 77 = .ok (.aload_n 0, 1) := by decide +kernel
theorem dX7_head_78 : decode cX7_head 78 = .ok (.getfield 166, 3) := by decide +kernel
theorem dX7_head_81 : decode cX7_head 81 = .ok (.ireturn, 1) := by decide +kernel
theorem dX7_head_82 : decode cX7_head 82 = .ok (.aload_n 0, 1) := by decide +kernel
theorem dX7_head_83 : decode cX7_head 83 = .ok (.getfield 169, 3) := by decide +kernel
theorem dX7_head_86 : decode cX7_head 86 = .ok (.ireturn, 1) := by decide +kernel
theorem dX7_head_87 : decode cX7_head 87 = .ok (.aload_n 0, 1) := by decide +kernel
theorem dX7_head_88 : decode cX7_head 88 = .ok (.getfield 83, 3) := by decide +kernel
theorem dX7_head_91 : decode cX7_head 91 = .ok (.ifCond .eq 7, 3) := by decide +kernel
theorem dX7_head_94 : decode cX7_head 94 = .ok (.iconst 1, 1) := by decide +kernel
theorem dX7_head_95 : decode cX7_head 95 = .ok (.goto 4, 3) := by decide +kernel
theorem dX7_head_98 : decode cX7_head 98 = .ok (.iconst 0, 1) := by decide +kernel
theorem dX7_head_99 : decode cX7_head 99 = .ok (.ireturn, 1) := by decide +kernel
theorem dX7_head_100 : decode cX7_head 100 = .ok (.aload_n 0, 1) := by decide +kernel
theorem dX7_head_101 : decode cX7_head 101 = .ok (.invokevirtual 157, 3) := by decide +kernel
theorem dX7_head_104 : decode cX7_head 104 = .ok (.ireturn, 1) := by decide +kernel
theorem dX7_head_105 : decode cX7_head 105 = .ok (.bipush (-2), 2) := by decide +kernel
theorem dX7_head_107 : decode cX7_head 107 = .ok (.ireturn, 1) := by decide +kernel
set_option maxRecDepth 20000 in
theorem ggX7_isTaken_X7_within : GoodIn wsX7_isTaken wsX7_within := goodIn_r _ [5] (by decide +kernel) (by decide +kernel)
set_option maxRecDepth 20000 in
theorem gX7_isTaken_X7_within : GoodIn wsX7_isTaken (va_wsS RX7 68 yX7_within wsX7_within) := goodIn_app (goodIn_of _ (by decide +kernel)) ggX7_isTaken_X7_within
theorem dX7_isTaken_0 : decode cX7_isTaken 0 = .ok (.iload_n 1, 1) := by decide +kernel
theorem dX7_isTaken_1 : decode cX7_isTaken 1 = .ok (.iconst 0, 1) := by decide +kernel
theorem dX7_isTaken_2 : decode cX7_isTaken 2 = .ok (.aload_n 0, 1) := by decide +kernel
theorem dX7_isTaken_3 : decode cX7_isTaken 3 = .ok (.getfield 154, 3) := by decide +kernel
theorem dX7_isTaken_6 : decode cX7_isTaken 6 = .ok (.iconst 1, 1) := by decide +kernel
theorem dX7_isTaken_7 : decode cX7_isTaken 7 = .ok (.isub, 1) := by decide +kernel
theorem dX7_isTaken_8 : decode cX7_isTaken 8 = .ok (.invokestatic 68, 3) := by decide +kernel
theorem dX7_isTaken_11 : decode cX7_isTaken 11 = .ok (.ireturn, 1) := by decide +kernel
set_option maxRecDepth 20000 in
theorem ggX7_pixel_X7_isTaken : GoodIn wsX7_pixel wsX7_isTaken := goodIn_r _ [6, 7, 8, 9, 5, 10, 20, 21, 22, 23, 24, 25, 26, 27, 28, 29, 30, 31, 32, 33, 34, 35, 36, 37, 38, 39, 40, 41, 42, 43, 44, 45, 46, 47, 48, 49] (by decide +kernel) (by decide +kernel)
set_option maxRecDepth 20000 in
theorem gX7_pixel_X7_isTaken : GoodIn wsX7_pixel (wsV RX7 185 RX7 yX7_isTaken wsX7_isTaken) := goodIn_app (goodIn_of _ (by decide +kernel)) ggX7_pixel_X7_isTaken
set_option maxRecDepth 20000 in
theorem ggX7_pixel_X7_isCell : GoodIn wsX7_pixel wsX7_isCell := goodIn_r _ [13, 14, 15, 5, 16, 8, 9, 10, 17, 18, 19] (by decide +kernel) (by decide +kernel)
set_option maxRecDepth 20000 in
theorem gX7_pixel_X7_isCell : GoodIn wsX7_pixel (va_wsS RX7 79 yX7_isCell wsX7_isCell) := goodIn_app (goodIn_of _ (by decide +kernel)) ggX7_pixel_X7_isCell
theorem dX7_pixel_0 : decode cX7_pixel 0 = .ok (.aload_n 0, 1) := by decide +kernel
theorem dX7_pixel_1 : decode cX7_pixel 1 = .ok (.iload_n 1, 1) := by decide +kernel
theorem dX7_pixel_2 : decode cX7_pixel 2 = .ok (.invokevirtual 185, 3) := by decide +kernel
theorem dX7_pixel_5 : decode cX7_pixel 5 = .ok (.ifCond .eq 30, 3) := by decide +kernel
theorem dX7_pixel_8 : decode cX7_pixel 8 = .ok (.iload_n 2, 1) := by decide +kernel
theorem dX7_pixel_9 : decode cX7_pixel 9 = .ok (.iload_n 3, 1) := by decide +kernel
theorem dX7_pixel_10 : decode cX7_pixel 10 = .ok (.invokestatic 79, 3) := by decide +kernel
theorem dX7_pixel_13 : decode cX7_pixel 13 = .ok (.ifCond .eq 22, 3) := by decide +kernel
theorem dX7_pixel_16 : decode cX7_pixel 16 = .ok (.aload_n 0, 1) := by decide +kernel
theorem dX7_pixel_17 : decode cX7_pixel 17 = .ok (.getfield 65, 3) := by decide +kernel
theorem dX7_pixel_20 : decode cX7_pixel 20 = .ok (.bipush 36, 2) := by decide +kernel
theorem dX7_pixel_22 : decode cX7_pixel 22 = .ok (.iload_n 1, 1) := by decide +kernel
theorem dX7_pixel_23 : decode cX7_pixel 23 = .ok (.imul, 1) := by decide +kernel
theorem dX7_pixel_24 : decode cX7_pixel 24 = .ok (.bipush 12, 2) := by decide +kernel
theorem dX7_pixel_26 : decode cX7_pixel 26 = .ok (.iload_n 2, 1) := by decide +kernel
theorem dX7_pixel_27 : decode cX7_pixel 27 = .ok (.imul, 1) := by decide +kernel
theorem dX7_pixel_28 : decode cX7_pixel 28 = .ok (.iadd, 1) := by decide +kernel
theorem dX7_pixel_29 : decode cX7_pixel 29 = .ok (.iload_n 3, 1) := by decide +kernel
theorem dX7_pixel_30 : decode cX7_pixel 30 = .ok (.iadd, 1) := by decide +kernel
theorem dX7_pixel_31 : decode cX7_pixel 31 = .ok (.iaload, 1) := by decide +kernel
theorem dX7_pixel_32 : decode cX7_pixel 32 = .ok (.goto 4, 3) := by decide +kernel
theorem dX7_pixel_35 : decode cX7_pixel 35 = .ok (.iconst (-1), 1) := by decide +kernel
theorem dX7_pixel_36 : decode cX7_pixel 36 = .ok (.ireturn, 1) := by decide +kernel
set_option maxRecDepth 20000 in
theorem ggX7_greyOf_X7_rounded : GoodIn wsX7_greyOf wsX7_rounded := goodIn_r _ [5] (by decide +kernel) (by decide +kernel)
set_option maxRecDepth 20000 in
theorem gX7_greyOf_X7_rounded : GoodIn wsX7_greyOf (va_wsS RX7 101 yX7_rounded wsX7_rounded) := goodIn_app (goodIn_of _ (by decide +kernel)) ggX7_greyOf_X7_rounded
theorem dX7_greyOf_0 : decode cX7_greyOf 0 = .ok (.bipush 36, 2) := by decide +kernel
theorem dX7_greyOf_2 : decode cX7_greyOf 2 = .ok (.iload_n 1, 1) := by decide +kernel
theorem dX7_greyOf_3 : decode cX7_greyOf 3 = .ok (.imul, 1) := by decide +kernel
theorem dX7_greyOf_4 : decode cX7_greyOf 4 = .ok (.iload_n 2, 1) := by decide +kernel
theorem dX7_greyOf_5 : decode cX7_greyOf 5 = .ok (.iadd, 1) := by decide +kernel
theorem dX7_greyOf_6 : decode cX7_greyOf 6 = .ok (.istore_n 3, 1) := by decide +kernel
theorem dX7_greyOf_7 : decode cX7_greyOf 7 = .ok (.iconst 2, 1) := by decide +kernel
theorem dX7_greyOf_8 : decode cX7_greyOf 8 = .ok (.aload_n 0, 1) := by decide +kernel
theorem dX7_greyOf_9 : decode cX7_greyOf 9 = .ok (.getfield 65, 3) := by decide +kernel
theorem dX7_greyOf_12 : decode cX7_greyOf 12 = .ok (.iload_n 3, 1) := by decide +kernel
theorem dX7_greyOf_13 : decode cX7_greyOf 13 = .ok (.iaload, 1) := by decide +kernel
theorem dX7_greyOf_14 : decode cX7_greyOf 14 = .ok (.imul, 1) := by decide +kernel
theorem dX7_greyOf_15 : decode cX7_greyOf 15 = .ok (.iconst 5, 1) := by decide +kernel
theorem dX7_greyOf_16 : decode cX7_greyOf 16 = .ok (.aload_n 0, 1) := by decide +kernel
theorem dX7_greyOf_17 : decode cX7_greyOf 17 = .ok (.getfield 65, 3) := by decide +kernel
theorem dX7_greyOf_20 : decode cX7_greyOf 20 = .ok (.iload_n 3, 1) := by decide +kernel
theorem dX7_greyOf_21 : decode cX7_greyOf 21 = .ok (.bipush 12, 2) := by decide +kernel
theorem dX7_greyOf_23 : decode cX7_greyOf 23 = .ok (.iadd, 1) := by decide +kernel
theorem dX7_greyOf_24 : decode cX7_greyOf 24 = .ok (.iaload, 1) := by decide +kernel
theorem dX7_greyOf_25 : decode cX7_greyOf 25 = .ok (.imul, 1) := by decide +kernel
theorem dX7_greyOf_26 : decode cX7_greyOf 26 = .ok (.iadd, 1) := by decide +kernel
theorem dX7_greyOf_27 : decode cX7_greyOf 27 = .ok (.aload_n 0, 1) := by decide +kernel
theorem dX7_greyOf_28 : decode cX7_greyOf 28 = .ok (.getfield 65, 3) := by decide +kernel
theorem dX7_greyOf_31 : decode cX7_greyOf 31 = .ok (.iload_n 3, 1) := by decide +kernel
theorem dX7_greyOf_32 : decode cX7_greyOf 32 = .ok (.bipush 24, 2) := by decide +kernel
theorem dX7_greyOf_34 : decode cX7_greyOf 34 = .ok (.iadd, 1) := by decide +kernel
theorem dX7_greyOf_35 : decode cX7_greyOf 35 = .ok (.iaload, 1) := by decide +kernel
theorem dX7_greyOf_36 : decode cX7_greyOf 36 = .ok (.iadd, 1) := by decide +kernel
theorem dX7_greyOf_37 : decode cX7_greyOf 37 = .ok (.bipush 8, 2) := by decide +kernel
theorem dX7_greyOf_39 : decode cX7_greyOf 39 = .ok (.invokestatic 101, 3) := by decide +kernel
theorem dX7_greyOf_42 : decode cX7_greyOf 42 = .ok (.ireturn, 1) := by decide +kernel
set_option maxRecDepth 20000 in
theorem ggX7_grey_X7_isTaken : GoodIn wsX7_grey wsX7_isTaken := goodIn_r _ [5, 6, 7, 8, 4, 9, 21, 22, 23, 24, 25, 26, 27, 28, 29, 30, 31, 32, 33, 34, 35, 36, 37, 38, 39, 40, 41, 42, 43, 44, 45, 46, 47, 48, 49, 50] (by decide +kernel) (by decide +kernel)
set_option maxRecDepth 20000 in
theorem gX7_grey_X7_isTaken : GoodIn wsX7_grey (wsV RX7 185 RX7 yX7_isTaken wsX7_isTaken) := goodIn_app (goodIn_of _ (by decide +kernel)) ggX7_grey_X7_isTaken
set_option maxRecDepth 20000 in
theorem ggX7_grey_X7_isColumn : GoodIn wsX7_grey wsX7_isColumn := goodIn_r _ [12, 7, 8, 4, 9] (by decide +kernel) (by decide +kernel)
set_option maxRecDepth 20000 in
theorem gX7_grey_X7_isColumn : GoodIn wsX7_grey (va_wsS RX7 76 yX7_isColumn wsX7_isColumn) := goodIn_app (goodIn_of _ (by decide +kernel)) ggX7_grey_X7_isColumn
set_option maxRecDepth 20000 in
theorem ggX7_grey_X7_greyOf : GoodIn wsX7_grey wsX7_greyOf := goodIn_r _ [16, 17, 18, 19, 4, 20, 21, 22, 23, 24, 25, 26, 27, 28, 29, 30, 31, 32, 33, 34, 35, 36, 37, 38, 39, 40, 41, 42, 43, 44, 45, 46, 47, 48, 49, 50] (by decide +kernel) (by decide +kernel)
set_option maxRecDepth 20000 in
theorem gX7_grey_X7_greyOf : GoodIn wsX7_grey (wsV RX7 188 RX7 yX7_greyOf wsX7_greyOf) := goodIn_app (goodIn_of _ (by decide +kernel)) ggX7_grey_X7_greyOf
theorem dX7_grey_0 : decode cX7_grey 0 = .ok (.aload_n 0, 1) := by decide +kernel
theorem dX7_grey_1 : decode cX7_grey 1 = .ok (.iload_n 1, 1) := by decide +kernel
theorem dX7_grey_2 : decode cX7_grey 2 = .ok (.invokevirtual 185, 3) := by decide +kernel
theorem dX7_grey_5 : decode cX7_grey 5 = .ok (.ifCond .eq 19, 3) := by decide +kernel
theorem dX7_grey_8 : decode cX7_grey 8 = .ok (.iload_n 2, 1) := by decide +kernel
theorem dX7_grey_9 : decode cX7_grey 9 = .ok (.invokestatic 76, 3) := by decide +kernel
theorem dX7_grey_12 : decode cX7_grey 12 = .ok (.ifCond .eq 12, 3) := by decide +kernel
theorem dX7_grey_15 : decode cX7_grey 15 = .ok (.aload_n 0, 1) := by decide +kernel
theorem dX7_grey_16 : decode cX7_grey 16 = .ok (.iload_n 1, 1) := by decide +kernel
theorem dX7_grey_17 : decode cX7_grey 17 = .ok (.iload_n 2, 1) := by decide +kernel
theorem dX7_grey_18 : decode cX7_grey 18 = .ok (.invokevirtual 188, 3) := by decide +kernel
theorem dX7_grey_21 : decode cX7_grey 21 = .ok (.goto 4, 3) := by decide +kernel
theorem dX7_grey_24 : decode cX7_grey 24 = .ok (.iconst (-1), 1) := by decide +kernel
theorem dX7_grey_25 : decode cX7_grey 25 = .ok (.ireturn, 1) := by decide +kernel
set_option maxRecDepth 20000 in
theorem ggX7_darkOf_X7_greyOf : GoodIn wsX7_darkOf wsX7_greyOf := goodIn_r _ [6, 7, 8, 9, 5, 10, 11, 12, 13, 14, 15, 16, 17, 18, 19, 20, 21, 22, 23, 24, 25, 26, 27, 28, 29, 30, 31, 32, 33, 34, 35, 36, 37, 38, 39, 40] (by decide +kernel) (by decide +kernel)
set_option maxRecDepth 20000 in
theorem gX7_darkOf_X7_greyOf : GoodIn wsX7_darkOf (wsV RX7 188 RX7 yX7_greyOf wsX7_greyOf) := goodIn_app (goodIn_of _ (by decide +kernel)) ggX7_darkOf_X7_greyOf
theorem dX7_darkOf_0 : decode cX7_darkOf 0 = .ok (.iconst 0, 1) := by decide +kernel
theorem dX7_darkOf_1 : decode cX7_darkOf 1 = .ok (.istore_n 2, 1) := by decide +kernel
theorem dX7_darkOf_2 : decode cX7_darkOf 2 = .ok (.iconst 0, 1) := by decide +kernel
theorem dX7_darkOf_3 : decode cX7_darkOf 3 = .ok (.istore_n 3, 1) := by decide +kernel
theorem dX7_darkOf_4 : decode cX7_darkOf 4 = .ok (.iload_n 3, 1) := by decide +kernel
theorem dX7_darkOf_5 : decode cX7_darkOf 5 = .ok (.bipush 12, 2) := by decide +kernel
theorem dX7_darkOf_7 : decode cX7_darkOf 7 = .ok (.if_icmp .ge 32, 3) := by decide +kernel
theorem dX7_darkOf_10 : decode cX7_darkOf 10 = .ok (.iload_n 2, 1) := by decide +kernel
theorem dX7_darkOf_11 : decode cX7_darkOf 11 = .ok (.aload_n 0, 1) := by decide +kernel
theorem dX7_darkOf_12 : decode cX7_darkOf 12 = .ok (.iload_n 1, 1) := by decide +kernel
theorem dX7_darkOf_13 : decode cX7_darkOf 13 = .ok (.iload_n 3, 1) := by decide +kernel
theorem dX7_darkOf_14 : decode cX7_darkOf 14 = .ok (.invokevirtual 188, 3) := by decide +kernel
theorem dX7_darkOf_17 : decode cX7_darkOf 17 = .ok (.aload_n 0, 1) := by decide +kernel
theorem dX7_darkOf_18 : decode cX7_darkOf 18 = .ok (.getfield 56, 3) := by decide +kernel
theorem dX7_darkOf_21 : decode cX7_darkOf 21 = .ok (.if_icmp .ge 9, 3) := by decide +kernel
theorem dX7_darkOf_24 : decode cX7_darkOf 24 = .ok (.iconst 1, 1) := by decide +kernel
theorem dX7_darkOf_25 : decode cX7_darkOf 25 = .ok (.iload_n 3, 1) := by decide +kernel
theorem dX7_darkOf_26 : decode cX7_darkOf 26 = .ok (.ishl, 1) := by decide +kernel
theorem dX7_darkOf_27 : decode cX7_darkOf 27 = .ok (.goto 4, 3) := by decide +kernel
theorem dX7_darkOf_30 : decode cX7_darkOf 30 = .ok (.iconst 0, 1) := by decide +kernel
theorem dX7_darkOf_31 : decode cX7_darkOf 31 = .ok (.ior, 1) := by decide +kernel
theorem dX7_darkOf_32 : decode cX7_darkOf 32 = .ok (.istore_n 2, 1) := by decide +kernel
theorem dX7_darkOf_33 : decode cX7_darkOf 33 = .ok (.iinc 3 1, 3) := by decide +kernel
theorem dX7_darkOf_36 : decode cX7_darkOf 36 = .ok (.goto (-32), 3) := by decide +kernel
theorem dX7_darkOf_39 : decode cX7_darkOf 39 = .ok (.iload_n 2, 1) := by decide +kernel
theorem dX7_darkOf_40 : decode cX7_darkOf 40 = .ok (.ireturn, 1) := by decide +kernel
set_option maxRecDepth 20000 in
theorem ggX7_dark_X7_isTaken : GoodIn wsX7_dark wsX7_isTaken := goodIn_r _ [5, 6, 7, 8, 4, 9, 23, 24, 25, 26, 27, 28, 29, 30, 31, 32, 33, 34, 35, 36, 37, 38, 39, 40, 41, 42, 43, 44, 45, 46, 47, 48, 49, 50, 51, 52] (by decide +kernel) (by decide +kernel)
set_option maxRecDepth 20000 in
theorem gX7_dark_X7_isTaken : GoodIn wsX7_dark (wsV RX7 185 RX7 yX7_isTaken wsX7_isTaken) := goodIn_app (goodIn_of _ (by decide +kernel)) ggX7_dark_X7_isTaken
set_option maxRecDepth 20000 in
theorem ggX7_dark_X7_darkOf : GoodIn wsX7_dark wsX7_darkOf := goodIn_r _ [13, 14, 15, 16, 17, 4, 18, 19, 20, 21, 22, 23, 24, 25, 26, 27, 28, 29, 30, 31, 32, 33, 34, 35, 36, 37, 38, 39, 40, 41, 42, 43, 44, 45, 46, 47, 48, 49, 50, 51, 52] (by decide +kernel) (by decide +kernel)
set_option maxRecDepth 20000 in
theorem gX7_dark_X7_darkOf : GoodIn wsX7_dark (wsV RX7 191 RX7 yX7_darkOf wsX7_darkOf) := goodIn_app (goodIn_of _ (by decide +kernel)) ggX7_dark_X7_darkOf
theorem dX7_dark_0 : decode cX7_dark 0 = .ok (.aload_n 0, 1) := by decide +kernel
theorem dX7_dark_1 : decode cX7_dark 1 = .ok (.iload_n 1, 1) := by decide +kernel
theorem dX7_dark_2 : decode cX7_dark 2 = .ok (.invokevirtual 185, 3) := by decide +kernel
theorem dX7_dark_5 : decode cX7_dark 5 = .ok (.ifCond .eq 11, 3) := by decide +kernel
theorem dX7_dark_8 : decode cX7_dark 8 = .ok (.aload_n 0, 1) := by decide +kernel
theorem dX7_dark_9 : decode cX7_dark 9 = .ok (.iload_n 1, 1) := by decide +kernel
theorem dX7_dark_10 : decode cX7_dark 10 = .ok (.invokevirtual 191, 3) := by decide +kernel
theorem dX7_dark_13 : decode cX7_dark 13 = .ok (.goto 4, 3) := by decide +kernel
theorem dX7_dark_16 : decode cX7_dark 16 = .ok (.iconst (-1), 1) := by decide +kernel
theorem dX7_dark_17 : decode cX7_dark 17 = .ok (.ireturn, 1) := by decide +kernel
theorem dX7_begins_0 : decode cX7_begins 0 = .ok (.iload_n 0, 1) := by decide +kernel
theorem dX7_begins_1 : decode cX7_begins 1 = .ok (.iload_n 0, 1) := by decide +kernel
theorem dX7_begins_2 : decode cX7_begins 2 = .ok (.iconst 1, 1) := by decide +kernel
theorem dX7_begins_3 : decode cX7_begins 3 = .ok (.ishl, 1) := by decide +kernel
theorem dX7_begins_4 : decode cX7_begins 4 = .ok (.iconst (-1), 1) := by decide +kernel
theorem dX7_begins_5 : decode cX7_begins 5 = .ok (.ixor, 1) := by decide +kernel
theorem dX7_begins_6 : decode cX7_begins 6 = .ok (.iand, 1) := by decide +kernel
theorem dX7_begins_7 : decode cX7_begins 7 = .ok (.ireturn, 1) := by decide +kernel
theorem dX7_sizeOf_0 : decode cX7_sizeOf 0 = .ok (.iconst 0, 1) := by decide +kernel
theorem dX7_sizeOf_1 : decode cX7_sizeOf 1 = .ok (.istore_n 1, 1) := by decide +kernel
theorem dX7_sizeOf_2 : decode cX7_sizeOf 2 = .ok (.iconst 0, 1) := by decide +kernel
theorem dX7_sizeOf_3 : decode cX7_sizeOf 3 = .ok (.istore_n 2, 1) := by decide +kernel
theorem dX7_sizeOf_4 : decode cX7_sizeOf 4 = .ok (.iload_n 2, 1) := by decide +kernel
theorem dX7_sizeOf_5 : decode cX7_sizeOf 5 = .ok (.bipush 12, 2) := by decide +kernel
theorem dX7_sizeOf_7 : decode cX7_sizeOf 7 = .ok (.if_icmp .ge 17, 3) := by decide +kernel
theorem dX7_sizeOf_10 : decode cX7_sizeOf 10 = .ok (.iload_n 1, 1) := by decide +kernel
theorem dX7_sizeOf_11 : decode cX7_sizeOf 11 = .ok (.iload_n 0, 1) := by decide +kernel
theorem dX7_sizeOf_12 : decode cX7_sizeOf 12 = .ok (.iload_n 2, 1) := by decide +kernel
theorem dX7_sizeOf_13 : decode cX7_sizeOf 13 = .ok (.ishr, 1) := by decide +kernel
theorem dX7_sizeOf_14 : decode cX7_sizeOf 14 = .ok (.iconst 1, 1) := by decide +kernel
theorem dX7_sizeOf_15 : decode cX7_sizeOf 15 = .ok (.iand, 1) := by decide +kernel
theorem dX7_sizeOf_16 : decode cX7_sizeOf 16 = .ok (.iadd, 1) := by decide +kernel
theorem dX7_sizeOf_17 : decode cX7_sizeOf 17 = .ok (.istore_n 1, 1) := by decide +kernel
theorem dX7_sizeOf_18 : decode cX7_sizeOf 18 = .ok (.iinc 2 1, 3) := by decide +kernel
theorem dX7_sizeOf_21 : decode cX7_sizeOf 21 = .ok (.goto (-17), 3) := by decide +kernel
theorem dX7_sizeOf_24 : decode cX7_sizeOf 24 = .ok (.iload_n 1, 1) := by decide +kernel
theorem dX7_sizeOf_25 : decode cX7_sizeOf 25 = .ok (.ireturn, 1) := by decide +kernel
set_option maxRecDepth 20000 in
theorem ggX7_run_X7_isTaken : GoodIn wsX7_run wsX7_isTaken := goodIn_r _ [5, 6, 7, 8, 4, 9, 29, 30, 31, 32, 33, 34, 35, 36, 37, 38, 39, 40, 41, 42, 43, 44, 45, 46, 47, 48, 49, 50, 51, 52, 53, 54, 55, 56, 57, 58] (by decide +kernel) (by decide +kernel)
set_option maxRecDepth 20000 in
theorem gX7_run_X7_isTaken : GoodIn wsX7_run (wsV RX7 185 RX7 yX7_isTaken wsX7_isTaken) := goodIn_app (goodIn_of _ (by decide +kernel)) ggX7_run_X7_isTaken
set_option maxRecDepth 20000 in
theorem ggX7_run_X7_darkOf : GoodIn wsX7_run wsX7_darkOf := goodIn_r _ [13, 14, 15, 16, 17, 4, 18, 19, 20, 21, 22, 29, 30, 31, 32, 33, 34, 35, 36, 37, 38, 39, 40, 41, 42, 43, 44, 45, 46, 47, 48, 49, 50, 51, 52, 53, 54, 55, 56, 57, 58] (by decide +kernel) (by decide +kernel)
set_option maxRecDepth 20000 in
theorem gX7_run_X7_darkOf : GoodIn wsX7_run (wsV RX7 191 RX7 yX7_darkOf wsX7_darkOf) := goodIn_app (goodIn_of _ (by decide +kernel)) ggX7_run_X7_darkOf
set_option maxRecDepth 20000 in
theorem ggX7_run_X7_begins : GoodIn wsX7_run wsX7_begins := goodIn_r _ [25] (by decide +kernel) (by decide +kernel)
set_option maxRecDepth 20000 in
theorem gX7_run_X7_begins : GoodIn wsX7_run (va_wsS RX7 194 yX7_begins wsX7_begins) := goodIn_app (goodIn_of _ (by decide +kernel)) ggX7_run_X7_begins
set_option maxRecDepth 20000 in
theorem ggX7_run_X7_sizeOf : GoodIn wsX7_run wsX7_sizeOf := goodIn_r _ [28] (by decide +kernel) (by decide +kernel)
set_option maxRecDepth 20000 in
theorem gX7_run_X7_sizeOf : GoodIn wsX7_run (va_wsS RX7 197 yX7_sizeOf wsX7_sizeOf) := goodIn_app (goodIn_of _ (by decide +kernel)) ggX7_run_X7_sizeOf
set_option maxRecDepth 20000 in
theorem ggX7_run_X7_within : GoodIn wsX7_run wsX7_within := goodIn_r _ [9] (by decide +kernel) (by decide +kernel)
set_option maxRecDepth 20000 in
theorem gX7_run_X7_within : GoodIn wsX7_run (va_wsS RX7 68 yX7_within wsX7_within) := goodIn_app (goodIn_of _ (by decide +kernel)) ggX7_run_X7_within
theorem dX7_run_0 : decode cX7_run 0 = .ok (.aload_n 0, 1) := by decide +kernel
theorem dX7_run_1 : decode cX7_run 1 = .ok (.iload_n 1, 1) := by decide +kernel
theorem dX7_run_2 : decode cX7_run 2 = .ok (.invokevirtual 185, 3) := by decide +kernel
theorem dX7_run_5 : decode cX7_run 5 = .ok (.ifCond .ne 5, 3) := by decide +kernel
theorem dX7_run_8 : decode cX7_run 8 = .ok (.iconst (-1), 1) := by decide +kernel
theorem dX7_run_9 : decode cX7_run 9 = .ok (.ireturn, 1) := by decide +kernel
theorem dX7_run_10 : decode cX7_run 10 = .ok (.aload_n 0, 1) := by decide +kernel
theorem dX7_run_11 : decode cX7_run 11 = .ok (.iload_n 1, 1) := by decide +kernel
theorem dX7_run_12 : decode cX7_run 12 = .ok (.invokevirtual 191, 3) := by decide +kernel
theorem dX7_run_15 : decode cX7_run 15 = .ok (.istore 4, 2) := by decide +kernel
theorem dX7_run_17 : decode cX7_run 17 = .ok (.iload_n 2, 1) := by decide +kernel
theorem dX7_run_18 : decode cX7_run 18 = .ok (.iconst 0, 1) := by decide +kernel
theorem dX7_run_19 : decode cX7_run 19 = .ok (.iload 4, 2) := by decide +kernel
theorem dX7_run_21 : decode cX7_run 21 = .ok (.invokestatic 194, 3) := by decide +kernel
theorem dX7_run_24 : decode cX7_run 24 = .ok (.invokestatic 197, 3) := by decide +kernel
theorem dX7_run_27 : decode cX7_run 27 = .ok (.iconst 1, 1) := by decide +kernel
theorem dX7_run_28 : decode cX7_run 28 = .ok (.isub, 1) := by decide +kernel
theorem dX7_run_29 : decode cX7_run 29 = .ok (.invokestatic 68, 3) := by decide +kernel
theorem dX7_run_32 : decode cX7_run 32 = .ok (.ifCond .ne 5, 3) := by decide +kernel
theorem dX7_run_35 : decode cX7_run 35 = .ok (.iconst (-1), 1) := by decide +kernel
theorem dX7_run_36 : decode cX7_run 36 = .ok (.ireturn, 1) := by decide +kernel
theorem dX7_run_37 : decode cX7_run 37 = .ok (.iload_n 3, 1) := by decide +kernel
theorem dX7_run_38 : decode cX7_run 38 = .ok (.iconst 0, 1) := by decide +kernel
theorem dX7_run_39 : decode cX7_run 39 = .ok (.iconst 1, 1) := by decide +kernel
theorem dX7_run_40 : decode cX7_run 40 = .ok (.invokestatic 68, 3) := by decide +kernel
theorem dX7_run_43 : decode cX7_run 43 = .ok (.ifCond .ne 6, 3) := by decide +kernel
theorem dX7_run_46 : decode cX7_run 46 = .ok (.bipush (-2), 2) := by decide +kernel
theorem dX7_run_48 : decode cX7_run 48 = .ok (.ireturn, 1) := by decide +kernel
theorem dX7_run_49 : decode cX7_run 49 = .ok (.iconst 0, 1) := by decide +kernel
theorem dX7_run_50 : decode cX7_run 50 = .ok (.istore 5, 2) := by decide +kernel
theorem dX7_run_52 : decode cX7_run 52 = .ok (.iload_n 2, 1) := by decide +kernel
theorem dX7_run_53 : decode cX7_run 53 = .ok (.istore 6, 2) := by decide +kernel
theorem dX7_run_55 : decode cX7_run 55 = .ok (.iload 6, 2) := by decide +kernel
theorem dX7_run_57 : decode cX7_run 57 = .ok (.ifCond .gt 16, 3) := by decide +kernel
theorem dX7_run_60 : decode cX7_run 60 = .ok (.iload 4, 2) := by decide +kernel
theorem dX7_run_62 : decode cX7_run 62 = .ok (.invokestatic 194, 3) := by decide +kernel
theorem dX7_run_65 : decode cX7_run 65 = .ok (.iload 5, 2) := by decide +kernel
theorem dX7_run_67 : decode cX7_run 67 = .ok (.ishr, 1) := by decide +kernel
theorem dX7_run_68 : decode cX7_run 68 = .ok (.iconst 1, 1) := by decide +kernel
theorem dX7_run_69 : decode cX7_run 69 = .ok (.iand, 1) := by decide +kernel
theorem dX7_run_70 : decode cX7_run 70 = .ok (.ifCond .ne 24, 3) := by decide +kernel
theorem dX7_run_73 : decode cX7_run 73 = .ok (.iload 6, 2) := by decide +kernel
theorem dX7_run_75 : decode cX7_run 75 = .ok (.iload 4, 2) := by decide +kernel
theorem dX7_run_77 : decode cX7_run 77 = .ok (.invokestatic 194, 3) := by decide +kernel
theorem dX7_run_80 : decode cX7_run 80 = .ok (.iload 5, 2) := by decide +kernel
theorem dX7_run_82 : decode cX7_run 82 = .ok (.ishr, 1) := by decide +kernel
theorem dX7_run_83 : decode cX7_run 83 = .ok (.iconst 1, 1) := by decide +kernel
theorem dX7_run_84 : decode cX7_run 84 = .ok (.iand, 1) := by decide +kernel
theorem dX7_run_85 : decode cX7_run 85 = .ok (.isub, 1) := by decide +kernel
theorem dX7_run_86 : decode cX7_run 86 = .ok (.istore 6, 2) := by decide +kernel
theorem dX7_run_88 : decode cX7_run 88 = .ok (.iinc 5 1, 3) := by decide +kernel
theorem dX7_run_91 : decode cX7_run 91 = .ok (.goto (-36), 3) := by decide +kernel
theorem dX7_run_94 : decode cX7_run 94 = .ok (.iconst 0, 1) := by decide +kernel
theorem dX7_run_95 : decode cX7_run 95 = .ok (.istore 7, 2) := by decide +kernel
theorem dX7_run_97 : decode cX7_run 97 = .ok (.iload 4, 2) := by decide +kernel
theorem dX7_run_99 : decode cX7_run 99 = .ok (.iload 5, 2) := by decide +kernel
theorem dX7_run_101 : decode cX7_run 101 = .ok (.iload 7, 2) := by decide +kernel
theorem dX7_run_103 : decode cX7_run 103 = .ok (.iadd, 1) := by decide +kernel
theorem dX7_run_104 : decode cX7_run 104 = .ok (.ishr, 1) := by decide +kernel
theorem dX7_run_105 : decode cX7_run 105 = .ok (.iconst 1, 1) := by decide +kernel
theorem dX7_run_106 : decode cX7_run 106 = .ok (.iand, 1) := by decide +kernel
theorem dX7_run_107 : decode cX7_run 107 = .ok (.iconst 1, 1) := by decide +kernel
theorem dX7_run_108 : decode cX7_run 108 = .ok (.if_icmp .ne 9, 3) := by decide +kernel
theorem dX7_run_111 : decode cX7_run 111 = .ok (.iinc 7 1, 3) := by decide +kernel
theorem dX7_run_114 : decode cX7_run 114 = .ok (.goto (-17), 3) := by decide +kernel
theorem dX7_run_117 : decode cX7_run 117 = .ok (.iload_n 3, 1) := by decide +kernel
theorem dX7_run_118 : decode cX7_run 118 = .ok (.ifCond .ne 8, 3) := by decide +kernel
theorem dX7_run_121 : decode cX7_run 121 = .ok (.iload 5, 2) := by decide +kernel
theorem dX7_run_123 : decode cX7_run 123 = .ok (.goto 5, 3) := by decide +kernel
theorem dX7_run_126 : decode cX7_run 126 = .ok (.iload 7, 2) := by decide +kernel
theorem dX7_run_128 : decode cX7_run 128 = .ok (.ireturn, 1) := by decide +kernel
set_option maxRecDepth 20000 in
theorem ggX7_edgeOf_X7_darkOf : GoodIn wsX7_edgeOf wsX7_darkOf := goodIn_r _ [5, 6, 7, 8, 9, 4, 10, 11, 12, 13, 14, 15, 16, 17, 18, 19, 20, 21, 22, 23, 24, 25, 26, 27, 28, 29, 30, 31, 32, 33, 34, 35, 36, 37, 38, 39, 40, 41, 42, 43, 44] (by decide +kernel) (by decide +kernel)
set_option maxRecDepth 20000 in
theorem gX7_edgeOf_X7_darkOf : GoodIn wsX7_edgeOf (wsV RX7 191 RX7 yX7_darkOf wsX7_darkOf) := goodIn_app (goodIn_of _ (by decide +kernel)) ggX7_edgeOf_X7_darkOf
theorem dX7_edgeOf_0 : decode cX7_edgeOf 0 = .ok (.aload_n 0, 1) := by decide +kernel
theorem dX7_edgeOf_1 : decode cX7_edgeOf 1 = .ok (.iload_n 1, 1) := by decide +kernel
theorem dX7_edgeOf_2 : decode cX7_edgeOf 2 = .ok (.invokevirtual 191, 3) := by decide +kernel
theorem dX7_edgeOf_5 : decode cX7_edgeOf 5 = .ok (.istore_n 2, 1) := by decide +kernel
theorem dX7_edgeOf_6 : decode cX7_edgeOf 6 = .ok (.iconst 0, 1) := by decide +kernel
theorem dX7_edgeOf_7 : decode cX7_edgeOf 7 = .ok (.istore_n 3, 1) := by decide +kernel
theorem dX7_edgeOf_8 : decode cX7_edgeOf 8 = .ok (.iload_n 3, 1) := by decide +kernel
theorem dX7_edgeOf_9 : decode cX7_edgeOf 9 = .ok (.bipush 12, 2) := by decide +kernel
theorem dX7_edgeOf_11 : decode cX7_edgeOf 11 = .ok (.if_icmp .ge 20, 3) := by decide +kernel
theorem dX7_edgeOf_14 : decode cX7_edgeOf 14 = .ok (.iload_n 2, 1) := by decide +kernel
theorem dX7_edgeOf_15 : decode cX7_edgeOf 15 = .ok (.iload_n 3, 1) := by decide +kernel
theorem dX7_edgeOf_16 : decode cX7_edgeOf 16 = .ok (.ishr, 1) := by decide +kernel
theorem dX7_edgeOf_17 : decode cX7_edgeOf 17 = .ok (.iconst 1, 1) := by decide +kernel
theorem dX7_edgeOf_18 : decode cX7_edgeOf 18 = .ok (.iand, 1) := by decide +kernel
theorem dX7_edgeOf_19 : decode cX7_edgeOf 19 = .ok (.iconst 1, 1) := by decide +kernel
theorem dX7_edgeOf_20 : decode cX7_edgeOf 20 = .ok (.if_icmp .ne 5, 3) := by decide +kernel
theorem dX7_edgeOf_23 : decode cX7_edgeOf 23 = .ok (.iload_n 3, 1) := by decide +kernel
theorem dX7_edgeOf_24 : decode cX7_edgeOf 24 = .ok (.ireturn, 1) := by decide +kernel
theorem dX7_edgeOf_25 : decode cX7_edgeOf 25 = .ok (.iinc 3 1, 3) := by decide +kernel
theorem dX7_edgeOf_28 : decode cX7_edgeOf 28 = .ok (.goto (-20), 3) := by decide +kernel
theorem dX7_edgeOf_31 : decode cX7_edgeOf 31 = .ok (.bipush (-9), 2) := by decide +kernel
theorem dX7_edgeOf_33 : decode cX7_edgeOf 33 = .ok (.ireturn, 1) := by decide +kernel
set_option maxRecDepth 20000 in
theorem ggX7_edge_X7_isTaken : GoodIn wsX7_edge wsX7_isTaken := goodIn_r _ [5, 6, 7, 8, 4, 9, 27, 28, 29, 30, 31, 32, 33, 34, 35, 36, 37, 38, 39, 40, 41, 42, 43, 44, 45, 46, 47, 48, 49, 50, 51, 52, 53, 54, 55, 56] (by decide +kernel) (by decide +kernel)
set_option maxRecDepth 20000 in
theorem gX7_edge_X7_isTaken : GoodIn wsX7_edge (wsV RX7 185 RX7 yX7_isTaken wsX7_isTaken) := goodIn_app (goodIn_of _ (by decide +kernel)) ggX7_edge_X7_isTaken
set_option maxRecDepth 20000 in
theorem ggX7_edge_X7_edgeOf : GoodIn wsX7_edge wsX7_edgeOf := goodIn_r _ [13, 14, 15, 16, 4, 17, 18, 19, 20, 21, 22, 23, 24, 25, 26, 27, 28, 29, 30, 31, 32, 33, 34, 35, 36, 37, 38, 39, 40, 41, 42, 43, 44, 45, 46, 47, 48, 49, 50, 51, 52, 53, 54, 55, 56] (by decide +kernel) (by decide +kernel)
set_option maxRecDepth 20000 in
theorem gX7_edge_X7_edgeOf : GoodIn wsX7_edge (wsV RX7 200 RX7 yX7_edgeOf wsX7_edgeOf) := goodIn_app (goodIn_of _ (by decide +kernel)) ggX7_edge_X7_edgeOf
theorem dX7_edge_0 : decode cX7_edge 0 = .ok (.aload_n 0, 1) := by decide +kernel
theorem dX7_edge_1 : decode cX7_edge 1 = .ok (.iload_n 1, 1) := by decide +kernel
theorem dX7_edge_2 : decode cX7_edge 2 = .ok (.invokevirtual 185, 3) := by decide +kernel
theorem dX7_edge_5 : decode cX7_edge 5 = .ok (.ifCond .eq 11, 3) := by decide +kernel
theorem dX7_edge_8 : decode cX7_edge 8 = .ok (.aload_n 0, 1) := by decide +kernel
theorem dX7_edge_9 : decode cX7_edge 9 = .ok (.iload_n 1, 1) := by decide +kernel
theorem dX7_edge_10 : decode cX7_edge 10 = .ok (.invokevirtual 200, 3) := by decide +kernel
theorem dX7_edge_13 : decode cX7_edge 13 = .ok (.goto 4, 3) := by decide +kernel
theorem dX7_edge_16 : decode cX7_edge 16 = .ok (.iconst (-1), 1) := by decide +kernel
theorem dX7_edge_17 : decode cX7_edge 17 = .ok (.ireturn, 1) := by decide +kernel
set_option maxRecDepth 20000 in
theorem ggX7_skew_X7_within : GoodIn wsX7_skew wsX7_within := goodIn_r _ [7] (by decide +kernel) (by decide +kernel)
set_option maxRecDepth 20000 in
theorem gX7_skew_X7_within : GoodIn wsX7_skew (va_wsS RX7 68 yX7_within wsX7_within) := goodIn_app (goodIn_of _ (by decide +kernel)) ggX7_skew_X7_within
set_option maxRecDepth 20000 in
theorem ggX7_skew_X7_edgeOf : GoodIn wsX7_skew wsX7_edgeOf := goodIn_r _ [11, 12, 13, 14, 6, 15, 16, 17, 18, 19, 20, 21, 22, 23, 24, 28, 29, 30, 31, 32, 33, 34, 35, 36, 37, 38, 39, 40, 41, 42, 43, 44, 45, 46, 47, 48, 49, 50, 51, 52, 53, 54, 55, 56, 57] (by decide +kernel) (by decide +kernel)
set_option maxRecDepth 20000 in
theorem gX7_skew_X7_edgeOf : GoodIn wsX7_skew (wsV RX7 200 RX7 yX7_edgeOf wsX7_edgeOf) := goodIn_app (goodIn_of _ (by decide +kernel)) ggX7_skew_X7_edgeOf
set_option maxRecDepth 20000 in
theorem ggX7_skew_X7_inLeastTerms : GoodIn wsX7_skew wsX7_inLeastTerms := goodIn_r _ [27] (by decide +kernel) (by decide +kernel)
set_option maxRecDepth 20000 in
theorem gX7_skew_X7_inLeastTerms : GoodIn wsX7_skew (va_wsS RX7 207 yX7_inLeastTerms wsX7_inLeastTerms) := goodIn_app (goodIn_of _ (by decide +kernel)) ggX7_skew_X7_inLeastTerms
theorem dX7_skew_0 : decode cX7_skew 0 = .ok (.iload_n 1, 1) := by decide +kernel
theorem dX7_skew_1 : decode cX7_skew 1 = .ok (.iconst 0, 1) := by decide +kernel
theorem dX7_skew_2 : decode cX7_skew 2 = .ok (.iconst 1, 1) := by decide +kernel
theorem dX7_skew_3 : decode cX7_skew 3 = .ok (.invokestatic 68, 3) := by decide +kernel
theorem dX7_skew_6 : decode cX7_skew 6 = .ok (.ifCond .ne 7, 3) := by decide +kernel
theorem dX7_skew_9 : decode cX7_skew 9 = .ok (.ldc2_w 203, 3) := by decide +kernel
theorem dX7_skew_12 : decode cX7_skew 12 = .ok (.lreturn, 1) := by decide +kernel
theorem dX7_skew_13 : decode cX7_skew 13 = .ok (.lconst 0, 1) := by decide +kernel
theorem dX7_skew_14 : decode cX7_skew 14 = .ok (.lstore_n 2, 1) := by decide +kernel
theorem dX7_skew_15 : decode cX7_skew 15 = .ok (.lconst 0, 1) := by decide +kernel
theorem dX7_skew_16 : decode cX7_skew 16 = .ok (.lstore 4, 2) := by decide +kernel
theorem dX7_skew_18 : decode cX7_skew 18 = .ok (.lconst 0, 1) := by decide +kernel
theorem dX7_skew_19 : decode cX7_skew 19 = .ok (.lstore 6, 2) := by decide +kernel
theorem dX7_skew_21 : decode cX7_skew 21 = .ok (.lconst 0, 1) := by decide +kernel
theorem dX7_skew_22 : decode cX7_skew 22 = .ok (.lstore 8, 2) := by decide +kernel
theorem dX7_skew_24 : decode cX7_skew 24 = .ok (.lconst 0, 1) := by decide +kernel
theorem dX7_skew_25 : decode cX7_skew 25 = .ok (.lstore 10, 2) := by decide +kernel
theorem dX7_skew_27 : decode cX7_skew 27 = .ok (.iconst 0, 1) := by decide +kernel
theorem dX7_skew_28 : decode cX7_skew 28 = .ok (.istore 12, 2) := by decide +kernel
theorem dX7_skew_30 : decode cX7_skew 30 = .ok (.iload 12, 2) := by decide +kernel
theorem dX7_skew_32 : decode cX7_skew 32 = .ok (.aload_n 0, 1) := by decide +kernel
theorem dX7_skew_33 : decode cX7_skew 33 = .ok (.getfield 154, 3) := by decide +kernel
theorem dX7_skew_36 : decode cX7_skew 36 = .ok (.if_icmp .ge 66, 3) := by decide +kernel
theorem dX7_skew_39 : decode cX7_skew 39 = .ok (.aload_n 0, 1) := by decide +kernel
theorem dX7_skew_40 : decode cX7_skew 40 = .ok (.iload 12, 2) := by decide +kernel
theorem dX7_skew_42 : decode cX7_skew 42 = .ok (.invokevirtual 200, 3) := by decide +kernel
theorem dX7_skew_45 : decode cX7_skew 45 = .ok (.istore 13, 2) := by decide +kernel
theorem dX7_skew_47 : decode cX7_skew 47 = .ok (.iload 13, 2) := by decide +kernel
theorem dX7_skew_49 : decode cX7_skew 49 = .ok (.bipush (-9), 2) := by decide +kernel
theorem dX7_skew_51 : decode cX7_skew 51 = .ok (.if_icmp .eq 45, 3) := by decide +kernel
theorem dX7_skew_54 : decode cX7_skew 54 = .ok (.lload_n 2, 1) := by decide +kernel
theorem dX7_skew_55 : decode cX7_skew 55 = .ok (.lconst 1, 1) := by decide +kernel
theorem dX7_skew_56 : decode cX7_skew 56 = .ok (.ladd, 1) := by decide +kernel
theorem dX7_skew_57 : decode cX7_skew 57 = .ok (.lstore_n 2, 1) := by decide +kernel
theorem dX7_skew_58 : decode cX7_skew 58 = .ok (.lload 4, 2) := by decide +kernel
theorem dX7_skew_60 : decode cX7_skew 60 = .ok (.iload 12, 2) := by decide +kernel
theorem dX7_skew_62 : decode cX7_skew 62 = .ok (.i2l, 1) := by decide +kernel
theorem dX7_skew_63 : decode cX7_skew 63 = .ok (.ladd, 1) := by decide +kernel
theorem dX7_skew_64 : decode cX7_skew 64 = .ok (.lstore 4, 2) := by decide +kernel
theorem dX7_skew_66 : decode cX7_skew 66 = .ok (.lload 6, 2) := by decide +kernel
theorem dX7_skew_68 : decode cX7_skew 68 = .ok (.iload 13, 2) := by decide +kernel
theorem dX7_skew_70 : decode cX7_skew 70 = .ok (.i2l, 1) := by decide +kernel
theorem dX7_skew_71 : decode cX7_skew 71 = .ok (.ladd, 1) := by decide +kernel
theorem dX7_skew_72 : decode cX7_skew 72 = .ok (.lstore 6, 2) := by decide +kernel
theorem dX7_skew_74 : decode cX7_skew 74 = .ok (.lload 8, 2) := by decide +kernel
theorem dX7_skew_76 : decode cX7_skew 76 = .ok (.iload 12, 2) := by decide +kernel
theorem dX7_skew_78 : decode cX7_skew 78 = .ok (.iload 13, 2) := by decide +kernel
theorem dX7_skew_80 : decode cX7_skew 80 = .ok (.imul, 1) := by decide +kernel
theorem dX7_skew_81 : decode cX7_skew 81 = .ok (.i2l, 1) := by decide +kernel
theorem dX7_skew_82 : decode cX7_skew 82 = .ok (.ladd, 1) := by decide +kernel
theorem dX7_skew_83 : decode cX7_skew 83 = .ok (.lstore 8, 2) := by decide +kernel
theorem dX7_skew_85 : decode cX7_skew 85 = .ok (.lload 10, 2) := by decide +kernel
theorem dX7_skew_87 : decode cX7_skew 87 = .ok (.iload 12, 2) := by decide +kernel
theorem dX7_skew_89 : decode cX7_skew 89 = .ok (.iload 12, 2) := by decide +kernel
theorem dX7_skew_91 : decode cX7_skew 91 = .ok (.imul, 1) := by decide +kernel
theorem dX7_skew_92 : decode cX7_skew 92 = .ok (.i2l, 1) := by decide +kernel
theorem dX7_skew_93 : decode cX7_skew 93 = .ok (.ladd, 1) := by decide +kernel
theorem dX7_skew_94 : decode cX7_skew 94 = .ok (.lstore 10, 2) := by decide +kernel
theorem dX7_skew_96 : decode cX7_skew 96 = .ok (.iinc 12 1, 3) := by decide +kernel
theorem dX7_skew_99 : decode cX7_skew 99 = .ok (.goto (-69), 3) := by decide +kernel
theorem dX7_skew_102 : decode cX7_skew 102 = .ok (.lload_n 2, 1) := by decide +kernel
theorem dX7_skew_103 : decode cX7_skew 103 = .ok (.ldc2_w 205, 3) := by decide +kernel
theorem dX7_skew_106 : decode cX7_skew 106 = .ok (.lcmp, 1) := by decide +kernel
theorem dX7_skew_107 : decode cX7_skew 107 = .ok (.ifCond .ge 7, 3) := by decide +kernel
theorem dX7_skew_110 : decode cX7_skew 110 = .ok (.ldc2_w 203, 3) := by decide +kernel
theorem dX7_skew_113 : decode cX7_skew 113 = .ok (.lreturn, 1) := by decide +kernel
theorem dX7_skew_114 : decode cX7_skew 114 = .ok (.lload_n 2, 1) := by decide +kernel
theorem dX7_skew_115 : decode cX7_skew 115 = .ok (.lload 8, 2) := by decide +kernel
theorem dX7_skew_117 : decode cX7_skew 117 = .ok (.lmul, 1) := by decide +kernel
theorem dX7_skew_118 : decode cX7_skew 118 = .ok (.lload 4, 2) := by decide +kernel
theorem dX7_skew_120 : decode cX7_skew 120 = .ok (.lload 6, 2) := by decide +kernel
theorem dX7_skew_122 : decode cX7_skew 122 = .ok (.lmul, 1) := by decide +kernel
theorem dX7_skew_123 : decode cX7_skew 123 = .ok (.lsub, 1) := by decide +kernel
theorem dX7_skew_124 : decode cX7_skew 124 = .ok (.lload_n 2, 1) := by decide +kernel
theorem dX7_skew_125 : decode cX7_skew 125 = .ok (.lload 10, 2) := by decide +kernel
theorem dX7_skew_127 : decode cX7_skew 127 = .ok (.lmul, 1) := by decide +kernel
theorem dX7_skew_128 : decode cX7_skew 128 = .ok (.lload 4, 2) := by decide +kernel
theorem dX7_skew_130 : decode cX7_skew 130 = .ok (.lload 4, 2) := by decide +kernel
theorem dX7_skew_132 : decode cX7_skew 132 = .ok (.lmul, 1) := by decide +kernel
theorem dX7_skew_133 : decode cX7_skew 133 = .ok (.lsub, 1) := by decide +kernel
theorem dX7_skew_134 : decode cX7_skew 134 = .ok (.iload_n 1, 1) := by decide +kernel
theorem dX7_skew_135 : decode cX7_skew 135 = .ok (.invokestatic 207, 3) := by decide +kernel
theorem dX7_skew_138 : decode cX7_skew 138 = .ok (.lreturn, 1) := by decide +kernel
theorem dX7_inLeastTerms_0 : decode cX7_inLeastTerms 0 = .ok (.lload_n 0, 1) := by decide +kernel
theorem dX7_inLeastTerms_1 : decode cX7_inLeastTerms 1 = .ok (.lconst 0, 1) := by decide +kernel
theorem dX7_inLeastTerms_2 : decode cX7_inLeastTerms 2 = .ok (.lcmp, 1) := by decide +kernel
theorem dX7_inLeastTerms_3 : decode cX7_inLeastTerms 3 = .ok (.ifCond .ge 8, 3) := by decide +kernel
theorem dX7_inLeastTerms_6 : decode cX7_inLeastTerms 6 = .ok (.lload_n 0, 1) := by decide +kernel
theorem dX7_inLeastTerms_7 : decode cX7_inLeastTerms 7 = .ok (.lneg, 1) := by decide +kernel
theorem dX7_inLeastTerms_8 : decode cX7_inLeastTerms 8 = .ok (.goto 4, 3) := by decide +kernel
theorem dX7_inLeastTerms_11 : decode cX7_inLeastTerms 11 = .ok (.lload_n 0, 1) := by decide +kernel
theorem dX7_inLeastTerms_12 : decode cX7_inLeastTerms 12 = .ok (.lstore 5, 2) := by decide +kernel
theorem dX7_inLeastTerms_14 : decode cX7_inLeastTerms 14 = .ok (.lload_n 2, 1) := by decide +kernel
theorem dX7_inLeastTerms_15 : decode cX7_inLeastTerms 15 = .ok (.lstore 7, 2) := by decide +kernel
theorem dX7_inLeastTerms_17 : decode cX7_inLeastTerms 17 = .ok (.lload 7, 2) := by decide +kernel
theorem dX7_inLeastTerms_19 : decode cX7_inLeastTerms 19 = .ok (.lconst 0, 1) := by decide +kernel
theorem dX7_inLeastTerms_20 : decode cX7_inLeastTerms 20 = .ok (.lcmp, 1) := by decide +kernel
theorem dX7_inLeastTerms_21 : decode cX7_inLeastTerms 21 = .ok (.ifCond .eq 21, 3) := by decide +kernel
theorem dX7_inLeastTerms_24 : decode cX7_inLeastTerms 24 = .ok (.lload 5, 2) := by decide +kernel
theorem dX7_inLeastTerms_26 : decode cX7_inLeastTerms 26 = .ok (.lload 7, 2) := by decide +kernel
theorem dX7_inLeastTerms_28 : decode cX7_inLeastTerms 28 = .ok (.lrem, 1) := by decide +kernel
theorem dX7_inLeastTerms_29 : decode cX7_inLeastTerms 29 = .ok (.lstore 9, 2) := by decide +kernel
theorem dX7_inLeastTerms_31 : decode cX7_inLeastTerms 31 = .ok (.lload 7, 2) := by decide +kernel
theorem dX7_inLeastTerms_33 : decode cX7_inLeastTerms 33 = .ok (.lstore 5, 2) := by decide +kernel
theorem dX7_inLeastTerms_35 : decode cX7_inLeastTerms 35 = .ok (.lload 9, 2) := by decide +kernel
theorem dX7_inLeastTerms_37 : decode cX7_inLeastTerms 37 = .ok (.lstore 7, 2) := by decide +kernel
theorem dX7_inLeastTerms_39 : decode cX7_inLeastTerms 39 = .ok (.goto (-22), 3) := by decide +kernel
theorem dX7_inLeastTerms_42 : decode cX7_inLeastTerms 42 = .ok (.iload 4, 2) := by decide +kernel
theorem dX7_inLeastTerms_44 : decode cX7_inLeastTerms 44 = .ok (.ifCond .ne 10, 3) := by decide +kernel
theorem dX7_inLeastTerms_47 : decode cX7_inLeastTerms 47 = .ok (.lload_n 0, 1) := by decide +kernel
theorem dX7_inLeastTerms_48 : decode cX7_inLeastTerms 48 = .ok (.lload 5, 2) := by decide +kernel
theorem dX7_inLeastTerms_50 : decode cX7_inLeastTerms 50 = .ok (.ldiv, 1) := by decide +kernel
theorem dX7_inLeastTerms_51 : decode cX7_inLeastTerms 51 = .ok (.goto 7, 3) := by decide +kernel
theorem dX7_inLeastTerms_54 : decode cX7_inLeastTerms 54 = .ok (.lload_n 2, 1) := by decide +kernel
theorem dX7_inLeastTerms_55 : decode cX7_inLeastTerms 55 = .ok (.lload 5, 2) := by decide +kernel
theorem dX7_inLeastTerms_57 : decode cX7_inLeastTerms 57 = .ok (.ldiv, 1) := by decide +kernel
theorem dX7_inLeastTerms_58 : decode cX7_inLeastTerms 58 = .ok (.lreturn, 1) := by decide +kernel
set_option maxRecDepth 20000 in
theorem ggX7_sticks_X7_greyOf : GoodIn wsX7_sticks wsX7_greyOf := goodIn_r _ [5, 6, 7, 8, 4, 9, 10, 11, 12, 13, 14, 15, 16, 17, 18, 19, 20, 21, 22, 23, 24, 25, 26, 27, 28, 29, 30, 31, 32, 33, 34, 35, 36, 37, 38, 39] (by decide +kernel) (by decide +kernel)
set_option maxRecDepth 20000 in
theorem gX7_sticks_X7_greyOf : GoodIn wsX7_sticks (wsV RX7 188 RX7 yX7_greyOf wsX7_greyOf) := goodIn_app (goodIn_of _ (by decide +kernel)) ggX7_sticks_X7_greyOf
theorem dX7_sticks_0 : decode cX7_sticks 0 = .ok (.aload_n 0, 1) := by decide +kernel
theorem dX7_sticks_1 : decode cX7_sticks 1 = .ok (.iload_n 1, 1) := by decide +kernel
theorem dX7_sticks_2 : decode cX7_sticks 2 = .ok (.iload_n 2, 1) := by decide +kernel
theorem dX7_sticks_3 : decode cX7_sticks 3 = .ok (.invokevirtual 188, 3) := by decide +kernel
theorem dX7_sticks_6 : decode cX7_sticks 6 = .ok (.aload_n 0, 1) := by decide +kernel
theorem dX7_sticks_7 : decode cX7_sticks 7 = .ok (.iload_n 1, 1) := by decide +kernel
theorem dX7_sticks_8 : decode cX7_sticks 8 = .ok (.iload_n 2, 1) := by decide +kernel
theorem dX7_sticks_9 : decode cX7_sticks 9 = .ok (.iconst 1, 1) := by decide +kernel
theorem dX7_sticks_10 : decode cX7_sticks 10 = .ok (.isub, 1) := by decide +kernel
theorem dX7_sticks_11 : decode cX7_sticks 11 = .ok (.invokevirtual 188, 3) := by decide +kernel
theorem dX7_sticks_14 : decode cX7_sticks 14 = .ok (.isub, 1) := by decide +kernel
theorem dX7_sticks_15 : decode cX7_sticks 15 = .ok (.istore_n 3, 1) := by decide +kernel
theorem dX7_sticks_16 : decode cX7_sticks 16 = .ok (.aload_n 0, 1) := by decide +kernel
theorem dX7_sticks_17 : decode cX7_sticks 17 = .ok (.iload_n 1, 1) := by decide +kernel
theorem dX7_sticks_18 : decode cX7_sticks 18 = .ok (.iload_n 2, 1) := by decide +kernel
theorem dX7_sticks_19 : decode cX7_sticks 19 = .ok (.invokevirtual 188, 3) := by decide +kernel
theorem dX7_sticks_22 : decode cX7_sticks 22 = .ok (.aload_n 0, 1) := by decide +kernel
theorem dX7_sticks_23 : decode cX7_sticks 23 = .ok (.iload_n 1, 1) := by decide +kernel
theorem dX7_sticks_24 : decode cX7_sticks 24 = .ok (.iload_n 2, 1) := by decide +kernel
theorem dX7_sticks_25 : decode cX7_sticks 25 = .ok (.iconst 1, 1) := by decide +kernel
theorem dX7_sticks_26 : decode cX7_sticks 26 = .ok (.iadd, 1) := by decide +kernel
theorem dX7_sticks_27 : decode cX7_sticks 27 = .ok (.invokevirtual 188, 3) := by decide +kernel
theorem dX7_sticks_30 : decode cX7_sticks 30 = .ok (.isub, 1) := by decide +kernel
theorem dX7_sticks_31 : decode cX7_sticks 31 = .ok (.istore 4, 2) := by decide +kernel
theorem dX7_sticks_33 : decode cX7_sticks 33 = .ok (.iload_n 3, 1) := by decide +kernel
theorem dX7_sticks_34 : decode cX7_sticks 34 = .ok (.bipush 24, 2) := by decide +kernel
theorem dX7_sticks_36 : decode cX7_sticks 36 = .ok (.if_icmp .lt 14, 3) := by decide +kernel
theorem dX7_sticks_39 : decode cX7_sticks 39 = .ok (.iload 4, 2) := by decide +kernel
theorem dX7_sticks_41 : decode cX7_sticks 41 = .ok (.bipush 24, 2) := by decide +kernel
theorem dX7_sticks_43 : decode cX7_sticks 43 = .ok (.if_icmp .lt 7, 3) := by decide +kernel
theorem dX7_sticks_46 : decode cX7_sticks 46 = .ok (.iconst 1, 1) := by decide +kernel
theorem dX7_sticks_47 : decode cX7_sticks 47 = .ok (.goto 21, 3) := by decide +kernel
theorem dX7_sticks_50 : decode cX7_sticks 50 = .ok (.iload_n 3, 1) := by decide +kernel
theorem dX7_sticks_51 : decode cX7_sticks 51 = .ok (.bipush (-24), 2) := by decide +kernel
theorem dX7_sticks_53 : decode cX7_sticks 53 = .ok (.if_icmp .gt 14, 3) := by decide +kernel
theorem dX7_sticks_56 : decode cX7_sticks 56 = .ok (.iload 4, 2) := by decide +kernel
theorem dX7_sticks_58 : decode cX7_sticks 58 = .ok (.bipush (-24), 2) := by decide +kernel
theorem dX7_sticks_60 : decode cX7_sticks 60 = .ok (.if_icmp .gt 7, 3) := by decide +kernel
theorem dX7_sticks_63 : decode cX7_sticks 63 = .ok (.iconst (-1), 1) := by decide +kernel
theorem dX7_sticks_64 : decode cX7_sticks 64 = .ok (.goto 4, 3) := by decide +kernel
theorem dX7_sticks_67 : decode cX7_sticks 67 = .ok (.iconst 0, 1) := by decide +kernel
theorem dX7_sticks_68 : decode cX7_sticks 68 = .ok (.ireturn, 1) := by decide +kernel
set_option maxRecDepth 20000 in
theorem ggX7_longestOf_X7_sticks : GoodIn wsX7_longestOf wsX7_sticks := goodIn_r _ [6, 7, 8, 9, 5, 10, 11, 12, 13, 14, 15, 16, 17, 18, 19, 20, 21, 22, 23, 24, 25, 26, 27, 28, 29, 30, 31, 32, 33, 34, 35, 36, 37, 38, 39, 40, 41, 42, 43, 44] (by decide +kernel) (by decide +kernel)
set_option maxRecDepth 20000 in
theorem gX7_longestOf_X7_sticks : GoodIn wsX7_longestOf (wsV RX7 211 RX7 yX7_sticks wsX7_sticks) := goodIn_app (goodIn_of _ (by decide +kernel)) ggX7_longestOf_X7_sticks
theorem dX7_longestOf_0 : decode cX7_longestOf 0 = .ok (.iconst 0, 1) := by decide +kernel
theorem dX7_longestOf_1 : decode cX7_longestOf 1 = .ok (.istore_n 2, 1) := by decide +kernel
theorem dX7_longestOf_2 : decode cX7_longestOf 2 = .ok (.iconst 0, 1) := by decide +kernel
theorem dX7_longestOf_3 : decode cX7_longestOf 3 = .ok (.istore_n 3, 1) := by decide +kernel
theorem dX7_longestOf_4 : decode cX7_longestOf 4 = .ok (.iconst 0, 1) := by decide +kernel
theorem dX7_longestOf_5 : decode cX7_longestOf 5 = .ok (.istore 4, 2) := by decide +kernel
theorem dX7_longestOf_7 : decode cX7_longestOf 7 = .ok (.iload 4, 2) := by decide +kernel
theorem dX7_longestOf_9 : decode cX7_longestOf 9 = .ok (.aload_n 0, 1) := by decide +kernel
theorem dX7_longestOf_10 : decode cX7_longestOf 10 = .ok (.getfield 154, 3) := by decide +kernel
theorem dX7_longestOf_13 : decode cX7_longestOf 13 = .ok (.if_icmp .ge 77, 3) := by decide +kernel
theorem dX7_longestOf_16 : decode cX7_longestOf 16 = .ok (.aload_n 0, 1) := by decide +kernel
theorem dX7_longestOf_17 : decode cX7_longestOf 17 = .ok (.iload 4, 2) := by decide +kernel
theorem dX7_longestOf_19 : decode cX7_longestOf 19 = .ok (.iload_n 1, 1) := by decide +kernel
theorem dX7_longestOf_20 : decode cX7_longestOf 20 = .ok (.invokevirtual 211, 3) := by decide +kernel
theorem dX7_longestOf_23 : decode cX7_longestOf 23 = .ok (.istore 5, 2) := by decide +kernel
theorem dX7_longestOf_25 : decode cX7_longestOf 25 = .ok (.iload 4, 2) := by decide +kernel
theorem dX7_longestOf_27 : decode cX7_longestOf 27 = .ok (.ifCond .le 21, 3) := by decide +kernel
theorem dX7_longestOf_30 : decode cX7_longestOf 30 = .ok (.iload 5, 2) := by decide +kernel
theorem dX7_longestOf_32 : decode cX7_longestOf 32 = .ok (.aload_n 0, 1) := by decide +kernel
theorem dX7_longestOf_33 : decode cX7_longestOf 33 = .ok (.iload 4, 2) := by decide +kernel
theorem dX7_longestOf_35 : decode cX7_longestOf 35 = .ok (.iconst 1, 1) := by decide +kernel
theorem dX7_longestOf_36 : decode cX7_longestOf 36 = .ok (.isub, 1) := by decide +kernel
theorem dX7_longestOf_37 : decode cX7_longestOf 37 = .ok (.iload_n 1, 1) := by decide +kernel
theorem dX7_longestOf_38 : decode cX7_longestOf 38 = .ok (.invokevirtual 211, 3) := by decide +kernel
theorem dX7_longestOf_41 : decode cX7_longestOf 41 = .ok (.if_icmp .ne 7, 3) := by decide +kernel
theorem dX7_longestOf_44 : decode cX7_longestOf 44 = .ok (.iconst 1, 1) := by decide +kernel
theorem dX7_longestOf_45 : decode cX7_longestOf 45 = .ok (.goto 4, 3) := by decide +kernel
theorem dX7_longestOf_48 : decode cX7_longestOf 48 = .ok (.iconst 0, 1) := by decide +kernel
theorem dX7_longestOf_49 : decode cX7_longestOf 49 = .ok (.istore 6, 2) := by decide +kernel
theorem dX7_longestOf_51 : decode cX7_longestOf 51 = .ok (.iload 5, 2) := by decide +kernel
theorem dX7_longestOf_53 : decode cX7_longestOf 53 = .ok (.ifCond .ne 7, 3) := by decide +kernel
theorem dX7_longestOf_56 : decode cX7_longestOf 56 = .ok (.iconst 0, 1) := by decide +kernel
theorem dX7_longestOf_57 : decode cX7_longestOf 57 = .ok (.goto 15, 3) := by decide +kernel
theorem dX7_longestOf_60 : decode cX7_longestOf 60 = .ok (.iload 6, 2) := by decide +kernel
theorem dX7_longestOf_62 : decode cX7_longestOf 62 = .ok (.ifCond .eq 9, 3) := by decide +kernel
theorem dX7_longestOf_65 : decode cX7_longestOf 65 = .ok (.iload_n 3, 1) := by decide +kernel
theorem dX7_longestOf_66 : decode cX7_longestOf 66 = .ok (.iconst 1, 1) := by decide +kernel
theorem dX7_longestOf_67 : decode cX7_longestOf 67 = .ok (.iadd, 1) := by decide +kernel
theorem dX7_longestOf_68 : decode cX7_longestOf 68 = .ok (.goto 4, 3) := by decide +kernel
theorem dX7_longestOf_71 : decode cX7_longestOf 71 = .ok (.iconst 1, 1) := by decide +kernel
theorem dX7_longestOf_72 : decode cX7_longestOf 72 = .ok (.istore_n 3, 1) := by decide +kernel
theorem dX7_longestOf_73 : decode cX7_longestOf 73 = .ok (.iload_n 3, 1) := by decide +kernel
theorem dX7_longestOf_74 : decode cX7_longestOf 74 = .ok (.iload_n 2, 1) := by decide +kernel
theorem dX7_longestOf_75 : decode cX7_longestOf 75 = .ok (.if_icmp .le 7, 3) := by decide +kernel
theorem dX7_longestOf_78 : decode cX7_longestOf 78 = .ok (.iload_n 3, 1) := by decide +kernel
theorem dX7_longestOf_79 : decode cX7_longestOf 79 = .ok (.goto 4, 3) := by decide +kernel
theorem dX7_longestOf_82 : decode cX7_longestOf 82 = .ok (.iload_n 2, 1) := by decide +kernel
theorem dX7_longestOf_83 : decode cX7_longestOf 83 = .ok (.istore_n 2, 1) := by decide +kernel
theorem dX7_longestOf_84 : decode cX7_longestOf 84 = .ok (.iinc 4 1, 3) := by decide +kernel
theorem dX7_longestOf_87 : decode cX7_longestOf 87 = .ok (.goto (-80), 3) := by decide +kernel
theorem dX7_longestOf_90 : decode cX7_longestOf 90 = .ok (.iload_n 2, 1) := by decide +kernel
theorem dX7_longestOf_91 : decode cX7_longestOf 91 = .ok (.ireturn, 1) := by decide +kernel
set_option maxRecDepth 20000 in
theorem ggX7_longest_X7_isColumn : GoodIn wsX7_longest wsX7_isColumn := goodIn_r _ [4, 5, 6, 3, 7] (by decide +kernel) (by decide +kernel)
set_option maxRecDepth 20000 in
theorem gX7_longest_X7_isColumn : GoodIn wsX7_longest (va_wsS RX7 76 yX7_isColumn wsX7_isColumn) := goodIn_app (goodIn_of _ (by decide +kernel)) ggX7_longest_X7_isColumn
set_option maxRecDepth 20000 in
theorem ggX7_longest_X7_within : GoodIn wsX7_longest wsX7_within := goodIn_r _ [7] (by decide +kernel) (by decide +kernel)
set_option maxRecDepth 20000 in
theorem gX7_longest_X7_within : GoodIn wsX7_longest (va_wsS RX7 68 yX7_within wsX7_within) := goodIn_app (goodIn_of _ (by decide +kernel)) ggX7_longest_X7_within
set_option maxRecDepth 20000 in
theorem ggX7_longest_X7_longestOf : GoodIn wsX7_longest wsX7_longestOf := goodIn_r _ [11, 12, 13, 14, 15, 3, 16, 17, 18, 19, 20, 21, 22, 23, 24, 25, 26, 27, 28, 29, 30, 31, 32, 33, 34, 35, 36, 37, 38, 39, 40, 41, 42, 43, 44, 45, 46, 47, 48, 49, 50, 51, 52, 53, 54] (by decide +kernel) (by decide +kernel)
set_option maxRecDepth 20000 in
theorem gX7_longest_X7_longestOf : GoodIn wsX7_longest (wsV RX7 214 RX7 yX7_longestOf wsX7_longestOf) := goodIn_app (goodIn_of _ (by decide +kernel)) ggX7_longest_X7_longestOf
theorem dX7_longest_0 : decode cX7_longest 0 = .ok (.iload_n 1, 1) := by decide +kernel
theorem dX7_longest_1 : decode cX7_longest 1 = .ok (.invokestatic 76, 3) := by decide +kernel
theorem dX7_longest_4 : decode cX7_longest 4 = .ok (.ifCond .ne 5, 3) := by decide +kernel
theorem dX7_longest_7 : decode cX7_longest 7 = .ok (.iconst (-1), 1) := by decide +kernel
theorem dX7_longest_8 : decode cX7_longest 8 = .ok (.ireturn, 1) := by decide +kernel
theorem dX7_longest_9 : decode cX7_longest 9 = .ok (.iload_n 1, 1) := by decide +kernel
theorem dX7_longest_10 : decode cX7_longest 10 = .ok (.iconst 1, 1) := by decide +kernel
theorem dX7_longest_11 : decode cX7_longest 11 = .ok (.bipush 10, 2) := by decide +kernel
theorem dX7_longest_13 : decode cX7_longest 13 = .ok (.invokestatic 68, 3) := by decide +kernel
theorem dX7_longest_16 : decode cX7_longest 16 = .ok (.ifCond .eq 11, 3) := by decide +kernel
theorem dX7_longest_19 : decode cX7_longest 19 = .ok (.aload_n 0, 1) := by decide +kernel
theorem dX7_longest_20 : decode cX7_longest 20 = .ok (.iload_n 1, 1) := by decide +kernel
theorem dX7_longest_21 : decode cX7_longest 21 = .ok (.invokevirtual 214, 3) := by decide +kernel
theorem dX7_longest_24 : decode cX7_longest 24 = .ok (.goto 4, 3) := by decide +kernel
theorem dX7_longest_27 : decode cX7_longest 27 = .ok (.iconst 0, 1) := by decide +kernel
theorem dX7_longest_28 : decode cX7_longest 28 = .ok (.ireturn, 1) := by decide +kernel
set_option maxRecDepth 20000 in
theorem ggX7_streaks_X7_longestOf : GoodIn wsX7_streaks wsX7_longestOf := goodIn_r _ [5, 6, 7, 8, 9, 4, 10, 11, 12, 13, 14, 15, 16, 17, 18, 19, 20, 21, 22, 23, 24, 25, 26, 27, 28, 29, 30, 31, 32, 33, 34, 35, 36, 37, 38, 39, 40, 41, 42, 43, 44, 45, 46, 47, 48] (by decide +kernel) (by decide +kernel)
set_option maxRecDepth 20000 in
theorem gX7_streaks_X7_longestOf : GoodIn wsX7_streaks (wsV RX7 214 RX7 yX7_longestOf wsX7_longestOf) := goodIn_app (goodIn_of _ (by decide +kernel)) ggX7_streaks_X7_longestOf
theorem dX7_streaks_0 : decode cX7_streaks 0 = .ok (.iconst 0, 1) := by decide +kernel
theorem dX7_streaks_1 : decode cX7_streaks 1 = .ok (.istore_n 1, 1) := by decide +kernel
theorem dX7_streaks_2 : decode cX7_streaks 2 = .ok (.iconst 1, 1) := by decide +kernel
theorem dX7_streaks_3 : decode cX7_streaks 3 = .ok (.istore_n 2, 1) := by decide +kernel
theorem dX7_streaks_4 : decode cX7_streaks 4 = .ok (.iload_n 2, 1) := by decide +kernel
theorem dX7_streaks_5 : decode cX7_streaks 5 = .ok (.bipush 11, 2) := by decide +kernel
theorem dX7_streaks_7 : decode cX7_streaks 7 = .ok (.if_icmp .ge 28, 3) := by decide +kernel
theorem dX7_streaks_10 : decode cX7_streaks 10 = .ok (.iload_n 1, 1) := by decide +kernel
theorem dX7_streaks_11 : decode cX7_streaks 11 = .ok (.aload_n 0, 1) := by decide +kernel
theorem dX7_streaks_12 : decode cX7_streaks 12 = .ok (.iload_n 2, 1) := by decide +kernel
theorem dX7_streaks_13 : decode cX7_streaks 13 = .ok (.invokevirtual 214, 3) := by decide +kernel
theorem dX7_streaks_16 : decode cX7_streaks 16 = .ok (.iconst 4, 1) := by decide +kernel
theorem dX7_streaks_17 : decode cX7_streaks 17 = .ok (.if_icmp .lt 9, 3) := by decide +kernel
theorem dX7_streaks_20 : decode cX7_streaks 20 = .ok (.iconst 1, 1) := by decide +kernel
theorem dX7_streaks_21 : decode cX7_streaks 21 = .ok (.iload_n 2, 1) := by decide +kernel
theorem dX7_streaks_22 : decode cX7_streaks 22 = .ok (.ishl, 1) := by decide +kernel
theorem dX7_streaks_23 : decode cX7_streaks 23 = .ok (.goto 4, 3) := by decide +kernel
theorem dX7_streaks_26 : decode cX7_streaks 26 = .ok (.iconst 0, 1) := by decide +kernel
theorem dX7_streaks_27 : decode cX7_streaks 27 = .ok (.ior, 1) := by decide +kernel
theorem dX7_streaks_28 : decode cX7_streaks 28 = .ok (.istore_n 1, 1) := by decide +kernel
theorem dX7_streaks_29 : decode cX7_streaks 29 = .ok (.iinc 2 1, 3) := by decide +kernel
theorem dX7_streaks_32 : decode cX7_streaks 32 = .ok (.goto (-28), 3) := by decide +kernel
theorem dX7_streaks_35 : decode cX7_streaks 35 = .ok (.iload_n 1, 1) := by decide +kernel
theorem dX7_streaks_36 : decode cX7_streaks 36 = .ok (.ireturn, 1) := by decide +kernel
set_option maxRecDepth 20000 in
theorem ggX7_manyRuns_X7_darkOf : GoodIn wsX7_manyRuns wsX7_darkOf := goodIn_r _ [6, 7, 8, 9, 10, 5, 11, 12, 13, 14, 15, 22, 23, 24, 25, 26, 27, 28, 29, 30, 31, 32, 33, 34, 35, 36, 37, 38, 39, 40, 41, 42, 43, 44, 45, 46, 47, 48, 49, 50, 51] (by decide +kernel) (by decide +kernel)
set_option maxRecDepth 20000 in
theorem gX7_manyRuns_X7_darkOf : GoodIn wsX7_manyRuns (wsV RX7 191 RX7 yX7_darkOf wsX7_darkOf) := goodIn_app (goodIn_of _ (by decide +kernel)) ggX7_manyRuns_X7_darkOf
set_option maxRecDepth 20000 in
theorem ggX7_manyRuns_X7_begins : GoodIn wsX7_manyRuns wsX7_begins := goodIn_r _ [18] (by decide +kernel) (by decide +kernel)
set_option maxRecDepth 20000 in
theorem gX7_manyRuns_X7_begins : GoodIn wsX7_manyRuns (va_wsS RX7 194 yX7_begins wsX7_begins) := goodIn_app (goodIn_of _ (by decide +kernel)) ggX7_manyRuns_X7_begins
set_option maxRecDepth 20000 in
theorem ggX7_manyRuns_X7_sizeOf : GoodIn wsX7_manyRuns wsX7_sizeOf := goodIn_r _ [21] (by decide +kernel) (by decide +kernel)
set_option maxRecDepth 20000 in
theorem gX7_manyRuns_X7_sizeOf : GoodIn wsX7_manyRuns (va_wsS RX7 197 yX7_sizeOf wsX7_sizeOf) := goodIn_app (goodIn_of _ (by decide +kernel)) ggX7_manyRuns_X7_sizeOf
theorem dX7_manyRuns_0 : decode cX7_manyRuns 0 = .ok (.iconst 0, 1) := by decide +kernel
theorem dX7_manyRuns_1 : decode cX7_manyRuns 1 = .ok (.istore_n 1, 1) := by decide +kernel
theorem dX7_manyRuns_2 : decode cX7_manyRuns 2 = .ok (.iconst 0, 1) := by decide +kernel
theorem dX7_manyRuns_3 : decode cX7_manyRuns 3 = .ok (.istore_n 2, 1) := by decide +kernel
theorem dX7_manyRuns_4 : decode cX7_manyRuns 4 = .ok (.iload_n 2, 1) := by decide +kernel
theorem dX7_manyRuns_5 : decode cX7_manyRuns 5 = .ok (.aload_n 0, 1) := by decide +kernel
theorem dX7_manyRuns_6 : decode cX7_manyRuns 6 = .ok (.getfield 154, 3) := by decide +kernel
theorem dX7_manyRuns_9 : decode cX7_manyRuns 9 = .ok (.if_icmp .ge 23, 3) := by decide +kernel
theorem dX7_manyRuns_12 : decode cX7_manyRuns 12 = .ok (.iload_n 1, 1) := by decide +kernel
theorem dX7_manyRuns_13 : decode cX7_manyRuns 13 = .ok (.aload_n 0, 1) := by decide +kernel
theorem dX7_manyRuns_14 : decode cX7_manyRuns 14 = .ok (.iload_n 2, 1) := by decide +kernel
theorem dX7_manyRuns_15 : decode cX7_manyRuns 15 = .ok (.invokevirtual 191, 3) := by decide +kernel
theorem dX7_manyRuns_18 : decode cX7_manyRuns 18 = .ok (.invokestatic 194, 3) := by decide +kernel
theorem dX7_manyRuns_21 : decode cX7_manyRuns 21 = .ok (.invokestatic 197, 3) := by decide +kernel
theorem dX7_manyRuns_24 : decode cX7_manyRuns 24 = .ok (.iadd, 1) := by decide +kernel
theorem dX7_manyRuns_25 : decode cX7_manyRuns 25 = .ok (.istore_n 1, 1) := by decide +kernel
theorem dX7_manyRuns_26 : decode cX7_manyRuns 26 = .ok (.iinc 2 1, 3) := by decide +kernel
theorem dX7_manyRuns_29 : decode cX7_manyRuns 29 = .ok (.goto (-25), 3) := by decide +kernel
theorem dX7_manyRuns_32 : decode cX7_manyRuns 32 = .ok (.iload_n 1, 1) := by decide +kernel
theorem dX7_manyRuns_33 : decode cX7_manyRuns 33 = .ok (.ireturn, 1) := by decide +kernel
set_option maxRecDepth 20000 in
theorem ggX7_many_X7_manyLive : GoodIn wsX7_many wsX7_manyLive := goodIn_r _ [9, 10, 11, 12, 8, 13, 14, 15, 39, 40, 41, 42, 43, 44, 45, 46, 47, 48, 49, 50, 51, 52, 53, 54, 55, 56, 57, 58, 59, 60, 61, 62, 63, 64, 65, 66, 67, 68] (by decide +kernel) (by decide +kernel)
set_option maxRecDepth 20000 in
theorem gX7_many_X7_manyLive : GoodIn wsX7_many (wsV RX7 97 RX7 yX7_manyLive wsX7_manyLive) := goodIn_app (goodIn_of _ (by decide +kernel)) ggX7_many_X7_manyLive
set_option maxRecDepth 20000 in
theorem ggX7_many_X7_manyRuns : GoodIn wsX7_many wsX7_manyRuns := goodIn_r _ [19, 3, 20, 21, 22, 8, 23, 24, 25, 26, 27, 28, 29, 30, 31, 32, 33, 34, 35, 36, 37, 38, 39, 40, 41, 42, 43, 44, 45, 46, 47, 48, 49, 50, 51, 52, 53, 54, 55, 56, 57, 58, 59, 60, 61, 62, 63, 64, 65, 66, 67, 68] (by decide +kernel) (by decide +kernel)
set_option maxRecDepth 20000 in
theorem gX7_many_X7_manyRuns : GoodIn wsX7_many (wsV RX7 217 RX7 yX7_manyRuns wsX7_manyRuns) := goodIn_app (goodIn_of _ (by decide +kernel)) ggX7_many_X7_manyRuns
theorem dX7_many_0 : decode cX7_many 0 = .ok (.iload_n 1, 1) := by decide +kernel
theorem dX7_many_1 : decode cX7_many 1 = .ok (.tableswitch 69 0 5 #[39, 44, 49, 54, 59, 64], 39) := by decide +kernel
theorem dX7_many_40 : decode cX7_many 40 = .ok (.aload_n 0, 1) := by decide +kernel
theorem dX7_many_41 : decode cX7_many 41 = .ok (.getfield 107, 3) := by decide +kernel
theorem dX7_many_44 : decode cX7_many 44 = .ok (.ireturn, 1) := by decide +kernel
theorem dX7_many_45 : decode cX7_many 45 = .ok (.aload_n 0, 1) := by decide +kernel
theorem dX7_many_46 : decode cX7_many 46 = .ok (.getfield 129, 3) := by decide +kernel
theorem dX7_many_49 : decode cX7_many 49 = .ok (.ireturn, 1) := by decide +kernel
theorem dX7_many_50 : decode cX7_many 50 = .ok (.aload_n 0, 1) := by decide +kernel
theorem dX7_many_51 : decode cX7_many 51 = .ok (.getfield 154, 3) := by decide +kernel
theorem dX7_many_54 : decode cX7_many 54 = .ok (.ireturn, 1) := by decide +kernel
theorem dX7_many_55 : decode cX7_many 55 = .ok (.aload_n 0, 1) := by decide +kernel
theorem dX7_many_56 : decode cX7_many 56 = .ok (.invokevirtual 97, 3) := by decide +kernel
theorem dX7_many_59 : decode cX7_many 59 = .ok (.ireturn, 1) := by decide +kernel
theorem dX7_many_60 : decode cX7_many 60 = .ok (.aload_n 0, 1) := by decide +kernel
theorem dX7_many_61 : decode cX7_many 61 = .ok (.getfield 148, 3) := by decide +kernel
theorem dX7_many_64 : decode cX7_many 64 = .ok (.ireturn, 1) := by decide +kernel
theorem dX7_many_65 : decode cX7_many 65 = .ok (.aload_n 0, 1) := by decide +kernel
theorem dX7_many_66 : decode cX7_many 66 = .ok (.invokevirtual 217, 3) := by decide +kernel
theorem dX7_many_69 : decode cX7_many 69 = .ok (.ireturn, 1) := by decide +kernel
theorem dX7_many_70 : decode cX7_many 70 = .ok (.bipush (-2), 2) := by decide +kernel
theorem dX7_many_72 : decode cX7_many 72 = .ok (.ireturn, 1) := by decide +kernel
