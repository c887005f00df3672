theorem dX3_init_0 : decode cX3_init 0 = .ok (.aload_n 0, 1) := by decide +kernel
theorem dX3_init_1 : decode cX3_init 1 = .ok (.invokespecial 3, 3) := by decide +kernel
theorem dX3_init_4 : decode cX3_init 4 = .ok (.aload_n 0, 1) := by decide +kernel
theorem dX3_init_5 : decode cX3_init 5 = .ok (.sipush 255, 3) := by decide +kernel
theorem dX3_init_8 : decode cX3_init 8 = .ok (.putfield 9, 3) := by decide +kernel
theorem dX3_init_11 : decode cX3_init 11 = .ok (.aload_n 0, 1) := by decide +kernel
theorem dX3_init_12 : decode cX3_init 12 = .ok (.bipush 12, 2) := by decide +kernel
theorem dX3_init_14 : decode cX3_init 14 = .ok (.newarray .int, 2) := by decide +kernel
theorem dX3_init_16 : decode cX3_init 16 = .ok (.putfield 15, 3) := by decide +kernel
theorem dX3_init_19 : decode cX3_init 19 = .ok (.aload_n 0, 1) := by decide +kernel
theorem dX3_init_20 : decode cX3_init 20 = .ok (.bipush 12, 2) := by decide +kernel
theorem dX3_init_22 : decode cX3_init 22 = .ok (.newarray .int, 2) := by decide +kernel
theorem dX3_init_24 : decode cX3_init 24 = .ok (.putfield 19, 3) := by decide +kernel
theorem dX3_init_27 : decode cX3_init 27 = .ok (.aload_n 0, 1) := by decide +kernel
theorem dX3_init_28 : decode cX3_init 28 = .ok (.bipush 12, 2) := by decide +kernel
theorem dX3_init_30 : decode cX3_init 30 = .ok (.newarray .int, 2) := by decide +kernel
theorem dX3_init_32 : decode cX3_init 32 = .ok (.putfield 22, 3) := by decide +kernel
theorem dX3_init_35 : decode cX3_init 35 = .ok (.aload_n 0, 1) := by decide +kernel
theorem dX3_init_36 : decode cX3_init 36 = .ok (.bipush 12, 2) := by decide +kernel
theorem dX3_init_38 : decode cX3_init 38 = .ok (.newarray .int, 2) := by decide +kernel
theorem dX3_init_40 : decode cX3_init 40 = .ok (.putfield 25, 3) := by decide +kernel
theorem dX3_init_43 : decode cX3_init 43 = .ok (.aload_n 0, 1) := by decide +kernel
theorem dX3_init_44 : decode cX3_init 44 = .ok (.bipush 12, 2) := by decide +kernel
theorem dX3_init_46 : decode cX3_init 46 = .ok (.newarray .int, 2) := by decide +kernel
theorem dX3_init_48 : decode cX3_init 48 = .ok (.putfield 28, 3) := by decide +kernel
theorem dX3_init_51 : decode cX3_init 51 = .ok (.aload_n 0, 1) := by decide +kernel
theorem dX3_init_52 : decode cX3_init 52 = .ok (.bipush 36, 2) := by decide +kernel
theorem dX3_init_54 : decode cX3_init 54 = .ok (.newarray .int, 2) := by decide +kernel
theorem dX3_init_56 : decode cX3_init 56 = .ok (.putfield 31, 3) := by decide +kernel
theorem dX3_init_59 : decode cX3_init 59 = .ok (.aload_n 0, 1) := by decide +kernel
theorem dX3_init_60 : decode cX3_init 60 = .ok (.bipush 12, 2) := by decide +kernel
theorem dX3_init_62 : decode cX3_init 62 = .ok (.newarray .int, 2) := by decide +kernel
theorem dX3_init_64 : decode cX3_init 64 = .ok (.putfield 34, 3) := by decide +kernel
theorem dX3_init_67 : decode cX3_init 67 = .ok (.return_, 1) := by decide +kernel
theorem dX3_lay_0 : decode cX3_lay 0 = .ok (.aload_n 0, 1) := by decide +kernel
theorem dX3_lay_1 : decode cX3_lay 1 = .ok (.getfield 37, 3) := by decide +kernel
theorem dX3_lay_4 : decode cX3_lay 4 = .ok (.istore 6, 2) := by decide +kernel
theorem dX3_lay_6 : decode cX3_lay 6 = .ok (.iload 6, 2) := by decide +kernel
theorem dX3_lay_8 : decode cX3_lay 8 = .ok (.bipush 12, 2) := by decide +kernel
theorem dX3_lay_10 : decode cX3_lay 10 = .ok (.if_icmp .lt 6, 3) := by decide +kernel
theorem dX3_lay_13 : decode cX3_lay 13 = .ok (.bipush (-4), 2) := by decide +kernel
theorem dX3_lay_15 : decode cX3_lay 15 = .ok (.ireturn, 1) := by decide +kernel
theorem dX3_lay_16 : decode cX3_lay 16 = .ok (.aload_n 0, 1) := by decide +kernel
theorem dX3_lay_17 : decode cX3_lay 17 = .ok (.getfield 15, 3) := by decide +kernel
theorem dX3_lay_20 : decode cX3_lay 20 = .ok (.iload 6, 2) := by decide +kernel
theorem dX3_lay_22 : decode cX3_lay 22 = .ok (.iload_n 1, 1) := by decide +kernel
theorem dX3_lay_23 : decode cX3_lay 23 = .ok (.iastore, 1) := by decide +kernel
theorem dX3_lay_24 : decode cX3_lay 24 = .ok (.aload_n 0, 1) := by decide +kernel
theorem dX3_lay_25 : decode cX3_lay 25 = .ok (.getfield 19, 3) := by decide +kernel
theorem dX3_lay_28 : decode cX3_lay 28 = .ok (.iload 6, 2) := by decide +kernel
theorem dX3_lay_30 : decode cX3_lay 30 = .ok (.iload_n 2, 1) := by decide +kernel
theorem dX3_lay_31 : decode cX3_lay 31 = .ok (.iastore, 1) := by decide +kernel
theorem dX3_lay_32 : decode cX3_lay 32 = .ok (.aload_n 0, 1) := by decide +kernel
theorem dX3_lay_33 : decode cX3_lay 33 = .ok (.getfield 22, 3) := by decide +kernel
theorem dX3_lay_36 : decode cX3_lay 36 = .ok (.iload 6, 2) := by decide +kernel
theorem dX3_lay_38 : decode cX3_lay 38 = .ok (.iload_n 3, 1) := by decide +kernel
theorem dX3_lay_39 : decode cX3_lay 39 = .ok (.iastore, 1) := by decide +kernel
theorem dX3_lay_40 : decode cX3_lay 40 = .ok (.aload_n 0, 1) := by decide +kernel
theorem dX3_lay_41 : decode cX3_lay 41 = .ok (.getfield 25, 3) := by decide +kernel
theorem dX3_lay_44 : decode cX3_lay 44 = .ok (.iload 6, 2) := by decide +kernel
theorem dX3_lay_46 : decode cX3_lay 46 = .ok (.iload 4, 2) := by decide +kernel
theorem dX3_lay_48 : decode cX3_lay 48 = .ok (.iastore, 1) := by decide +kernel
theorem dX3_lay_49 : decode cX3_lay 49 = .ok (.aload_n 0, 1) := by decide +kernel
theorem dX3_lay_50 : decode cX3_lay 50 = .ok (.getfield 28, 3) := by decide +kernel
theorem dX3_lay_53 : decode cX3_lay 53 = .ok (.iload 6, 2) := by decide +kernel
theorem dX3_lay_55 : decode cX3_lay 55 = .ok (.iload 5, 2) := by decide +kernel
theorem dX3_lay_57 : decode cX3_lay 57 = .ok (.iastore, 1) := by decide +kernel
theorem dX3_lay_58 : decode cX3_lay 58 = .ok (.iconst 0, 1) := by decide +kernel
theorem dX3_lay_59 : decode cX3_lay 59 = .ok (.istore 7, 2) := by decide +kernel
theorem dX3_lay_61 : decode cX3_lay 61 = .ok (.iload 7, 2) := by decide +kernel
theorem dX3_lay_63 : decode cX3_lay 63 = .ok (.iconst 3, 1) := by decide +kernel
theorem dX3_lay_64 : decode cX3_lay 64 = .ok (.if_icmp .ge 22, 3) := by decide +kernel
theorem dX3_lay_67 : decode cX3_lay 67 = .ok (.aload_n 0, 1) := by decide +kernel
theorem dX3_lay_68 : decode cX3_lay 68 = .ok (.getfield 31, 3) := by decide +kernel
theorem dX3_lay_71 : decode cX3_lay 71 = .ok (.iload 6, 2) := by decide +kernel
theorem dX3_lay_73 : decode cX3_lay 73 = .ok (.iconst 3, 1) := by decide +kernel
theorem dX3_lay_74 : decode cX3_lay 74 = .ok (.imul, 1) := by decide +kernel
theorem dX3_lay_75 : decode cX3_lay 75 = .ok (.iload 7, 2) := by decide +kernel
theorem dX3_lay_77 : decode cX3_lay 77 = .ok (.iadd, 1) := by decide +kernel
theorem dX3_lay_78 : decode cX3_lay 78 = .ok (.iconst 0, 1) := by decide +kernel
theorem dX3_lay_79 : decode cX3_lay 79 = .ok (.iastore, 1) := by decide +kernel
theorem dX3_lay_80 : decode cX3_lay 80 = .ok (.iinc 7 1, 3) := by decide +kernel
theorem dX3_lay_83 : decode cX3_lay 83 = .ok (.goto (-22), 3) := by decide +kernel
theorem dX3_lay_86 : decode cX3_lay 86 = .ok (.aload_n 0, 1) := by decide +kernel
theorem dX3_lay_87 : decode cX3_lay 87 = .ok (.dup, 1) := by decide +kernel
theorem dX3_lay_88 : decode cX3_lay 88 = .ok (.getfield 37, 3) := by decide +kernel
theorem dX3_lay_91 : decode cX3_lay 91 = .ok (.iconst 1, 1) := by decide +kernel
theorem dX3_lay_92 : decode cX3_lay 92 = .ok (.iadd, 1) := by decide +kernel
theorem dX3_lay_93 : decode cX3_lay 93 = .ok (.putfield 37, 3) := by decide +kernel
theorem dX3_lay_96 : decode cX3_lay 96 = .ok (.iload 6, 2) := by decide +kernel
theorem dX3_lay_98 : decode cX3_lay 98 = .ok (.ireturn, 1) := by decide +kernel
theorem dX3_covers_0 : decode cX3_covers 0 = .ok (.iload_n 2, 1) := by decide +kernel
theorem dX3_covers_1 : decode cX3_covers 1 = .ok (.aload_n 0, 1) := by decide +kernel
theorem dX3_covers_2 : decode cX3_covers 2 = .ok (.getfield 15, 3) := by decide +kernel
theorem dX3_covers_5 : decode cX3_covers 5 = .ok (.iload_n 1, 1) := by decide +kernel
theorem dX3_covers_6 : decode cX3_covers 6 = .ok (.iaload, 1) := by decide +kernel
theorem dX3_covers_7 : decode cX3_covers 7 = .ok (.if_icmp .lt 13, 3) := by decide +kernel
theorem dX3_covers_10 : decode cX3_covers 10 = .ok (.iload_n 2, 1) := by decide +kernel
theorem dX3_covers_11 : decode cX3_covers 11 = .ok (.aload_n 0, 1) := by decide +kernel
theorem dX3_covers_12 : decode cX3_covers 12 = .ok (.getfield 19, 3) := by decide +kernel
theorem dX3_covers_15 : decode cX3_covers 15 = .ok (.iload_n 1, 1) := by decide +kernel
theorem dX3_covers_16 : decode cX3_covers 16 = .ok (.iaload, 1) := by decide +kernel
theorem dX3_covers_17 : decode cX3_covers 17 = .ok (.if_icmp .le 5, 3) := by decide +kernel
theorem dX3_covers_20 : decode cX3_covers 20 = .ok (.iconst 0, 1) := by decide +kernel
theorem dX3_covers_21 : decode cX3_covers 21 = .ok (.ireturn, 1) := by decide +kernel
theorem dX3_covers_22 : decode cX3_covers 22 = .ok (.iload_n 3, 1) := by decide +kernel
theorem dX3_covers_23 : decode cX3_covers 23 = .ok (.aload_n 0, 1) := by decide +kernel
theorem dX3_covers_24 : decode cX3_covers 24 = .ok (.getfield 28, 3) := by decide +kernel
theorem dX3_covers_27 : decode cX3_covers 27 = .ok (.iload_n 1, 1) := by decide +kernel
theorem dX3_covers_28 : decode cX3_covers 28 = .ok (.iaload, 1) := by decide +kernel
theorem dX3_covers_29 : decode cX3_covers 29 = .ok (.iload_n 2, 1) := by decide +kernel
theorem dX3_covers_30 : decode cX3_covers 30 = .ok (.aload_n 0, 1) := by decide +kernel
theorem dX3_covers_31 : decode cX3_covers 31 = .ok (.getfield 15, 3) := by decide +kernel
theorem dX3_covers_34 : decode cX3_covers 34 = .ok (.iload_n 1, 1) := by decide +kernel
theorem dX3_covers_35 : decode cX3_covers 35 = .ok (.iaload, 1) := by decide +kernel
theorem dX3_covers_36 : decode cX3_covers 36 = .ok (.isub, 1) := by decide +kernel
theorem dX3_covers_37 : decode cX3_covers 37 = .ok (.imul, 1) := by decide +kernel
theorem dX3_covers_38 : decode cX3_covers 38 = .ok (.iconst 3, 1) := by decide +kernel
theorem dX3_covers_39 : decode cX3_covers 39 = .ok (.ishr, 1) := by decide +kernel
theorem dX3_covers_40 : decode cX3_covers 40 = .ok (.isub, 1) := by decide +kernel
theorem dX3_covers_41 : decode cX3_covers 41 = .ok (.istore 4, 2) := by decide +kernel
theorem dX3_covers_43 : decode cX3_covers 43 = .ok (.iload 4, 2) := by decide +kernel
theorem dX3_covers_45 : decode cX3_covers 45 = .ok (.aload_n 0, 1) := by decide +kernel
theorem dX3_covers_46 : decode cX3_covers 46 = .ok (.getfield 22, 3) := by decide +kernel
theorem dX3_covers_49 : decode cX3_covers 49 = .ok (.iload_n 1, 1) := by decide +kernel
theorem dX3_covers_50 : decode cX3_covers 50 = .ok (.iaload, 1) := by decide +kernel
theorem dX3_covers_51 : decode cX3_covers 51 = .ok (.if_icmp .lt 18, 3) := by decide +kernel
theorem dX3_covers_54 : decode cX3_covers 54 = .ok (.iload 4, 2) := by decide +kernel
theorem dX3_covers_56 : decode cX3_covers 56 = .ok (.aload_n 0, 1) := by decide +kernel
theorem dX3_covers_57 : decode cX3_covers 57 = .ok (.getfield 25, 3) := by decide +kernel
theorem dX3_covers_60 : decode cX3_covers 60 = .ok (.iload_n 1, 1) := by decide +kernel
theorem dX3_covers_61 : decode cX3_covers 61 = .ok (.iaload, 1) := by decide +kernel
theorem dX3_covers_62 : decode cX3_covers 62 = .ok (.if_icmp .gt 7, 3) := by decide +kernel
theorem dX3_covers_65 : decode cX3_covers 65 = .ok (.iconst 1, 1) := by decide +kernel
theorem dX3_covers_66 : decode cX3_covers 66 = .ok (.goto 4, 3) := by decide +kernel
theorem dX3_covers_69 : decode cX3_covers 69 = .ok (.iconst 0, 1) := by decide +kernel
theorem dX3_covers_70 : decode cX3_covers 70 = .ok (.ireturn, 1) := by decide +kernel
set_option maxRecDepth 20000 in
theorem ggX3_tintAt_X3_covers : GoodIn wsX3_tintAt wsX3_covers := goodIn_r _ [8, 9, 10, 11, 12, 13, 14, 15, 16, 17, 18, 19, 20, 21, 22] (by decide +kernel) (by decide +kernel)
set_option maxRecDepth 20000 in
theorem gX3_tintAt_X3_covers : GoodIn wsX3_tintAt (wsV RX3 40 RX3 yX3_covers wsX3_covers) := goodIn_app (goodIn_of _ (by decide +kernel)) ggX3_tintAt_X3_covers
theorem dX3_tintAt_0 : decode cX3_tintAt 0 = .ok (.aload_n 0, 1) := by decide +kernel
theorem dX3_tintAt_1 : decode cX3_tintAt 1 = .ok (.getfield 37, 3) := by decide +kernel
theorem dX3_tintAt_4 : decode cX3_tintAt 4 = .ok (.iconst 1, 1) := by decide +kernel
theorem dX3_tintAt_5 : decode cX3_tintAt 5 = .ok (.isub, 1) := by decide +kernel
theorem dX3_tintAt_6 : decode cX3_tintAt 6 = .ok (.istore 4, 2) := by decide +kernel
theorem dX3_tintAt_8 : decode cX3_tintAt 8 = .ok (.iload 4, 2) := by decide +kernel
theorem dX3_tintAt_10 : decode cX3_tintAt 10 = .ok (.ifCond .lt 32, 3) := by decide +kernel
theorem dX3_tintAt_13 : decode cX3_tintAt 13 = .ok (.aload_n 0, 1) := by decide +kernel
theorem dX3_tintAt_14 : decode cX3_tintAt 14 = .ok (.iload 4, 2) := by decide +kernel
theorem dX3_tintAt_16 : decode cX3_tintAt 16 = .ok (.iload_n 2, 1) := by decide +kernel
theorem dX3_tintAt_17 : decode cX3_tintAt 17 = .ok (.iload_n 3, 1) := by decide +kernel
theorem dX3_tintAt_18 : decode cX3_tintAt 18 = .ok (.invokevirtual 40, 3) := by decide +kernel
theorem dX3_tintAt_21 : decode cX3_tintAt 21 = .ok (.ifCond .eq 15, 3) := by decide +kernel
theorem dX3_tintAt_24 : decode cX3_tintAt 24 = .ok (.aload_n 0, 1) := by decide +kernel
theorem dX3_tintAt_25 : decode cX3_tintAt 25 = .ok (.getfield 31, 3) := by decide +kernel
theorem dX3_tintAt_28 : decode cX3_tintAt 28 = .ok (.iload 4, 2) := by decide +kernel
theorem dX3_tintAt_30 : decode cX3_tintAt 30 = .ok (.iconst 3, 1) := by decide +kernel
theorem dX3_tintAt_31 : decode cX3_tintAt 31 = .ok (.imul, 1) := by decide +kernel
theorem dX3_tintAt_32 : decode cX3_tintAt 32 = .ok (.iload_n 1, 1) := by decide +kernel
theorem dX3_tintAt_33 : decode cX3_tintAt 33 = .ok (.iadd, 1) := by decide +kernel
theorem dX3_tintAt_34 : decode cX3_tintAt 34 = .ok (.iaload, 1) := by decide +kernel
theorem dX3_tintAt_35 : decode cX3_tintAt 35 = .ok (.ireturn, 1) := by decide +kernel
theorem dX3_tintAt_36 : decode cX3_tintAt 36 = .ok (.iinc 4 (-1), 3) := by decide +kernel
theorem dX3_tintAt_39 : decode cX3_tintAt 39 = .ok (.goto (-31), 3) := by decide +kernel
theorem dX3_tintAt_42 : decode cX3_tintAt 42 = .ok (.aload_n 0, 1) := by decide +kernel
theorem dX3_tintAt_43 : decode cX3_tintAt 43 = .ok (.getfield 9, 3) := by decide +kernel
theorem dX3_tintAt_46 : decode cX3_tintAt 46 = .ok (.ireturn, 1) := by decide +kernel
set_option maxRecDepth 20000 in
theorem ggX3_lightOn_X3_tintAt : GoodIn wsX3_lightOn wsX3_tintAt := goodIn_r _ [10, 11, 12, 13, 14, 15, 16, 9, 17, 18, 19, 20, 21, 22, 27, 28, 29, 30, 31, 32, 33, 34, 35] (by decide +kernel) (by decide +kernel)
set_option maxRecDepth 20000 in
theorem gX3_lightOn_X3_tintAt : GoodIn wsX3_lightOn (wsV RX3 44 RX3 yX3_tintAt wsX3_tintAt) := goodIn_app (goodIn_of _ (by decide +kernel)) ggX3_lightOn_X3_tintAt
set_option maxRecDepth 20000 in
theorem ggX3_lightOn_X2_rounded : GoodIn wsX3_lightOn wsX2_rounded := goodIn_r _ [26] (by decide +kernel) (by decide +kernel)
set_option maxRecDepth 20000 in
theorem gX3_lightOn_X2_rounded : GoodIn wsX3_lightOn (va_wsS RX3 48 yX2_rounded wsX2_rounded) := goodIn_app (goodIn_of _ (by decide +kernel)) ggX3_lightOn_X2_rounded
theorem dX3_lightOn_0 : decode cX3_lightOn 0 = .ok (.aload_n 0, 1) := by decide +kernel
theorem dX3_lightOn_1 : decode cX3_lightOn 1 = .ok (.iload_n 1, 1) := by decide +kernel
theorem dX3_lightOn_2 : decode cX3_lightOn 2 = .ok (.iload_n 3, 1) := by decide +kernel
theorem dX3_lightOn_3 : decode cX3_lightOn 3 = .ok (.iload_n 2, 1) := by decide +kernel
theorem dX3_lightOn_4 : decode cX3_lightOn 4 = .ok (.invokevirtual 44, 3) := by decide +kernel
theorem dX3_lightOn_7 : decode cX3_lightOn 7 = .ok (.istore 5, 2) := by decide +kernel
theorem dX3_lightOn_9 : decode cX3_lightOn 9 = .ok (.aload_n 0, 1) := by decide +kernel
theorem dX3_lightOn_10 : decode cX3_lightOn 10 = .ok (.iload_n 1, 1) := by decide +kernel
theorem dX3_lightOn_11 : decode cX3_lightOn 11 = .ok (.iload_n 3, 1) := by decide +kernel
theorem dX3_lightOn_12 : decode cX3_lightOn 12 = .ok (.iconst 1, 1) := by decide +kernel
theorem dX3_lightOn_13 : decode cX3_lightOn 13 = .ok (.iadd, 1) := by decide +kernel
theorem dX3_lightOn_14 : decode cX3_lightOn 14 = .ok (.iload_n 2, 1) := by decide +kernel
theorem dX3_lightOn_15 : decode cX3_lightOn 15 = .ok (.invokevirtual 44, 3) := by decide +kernel
theorem dX3_lightOn_18 : decode cX3_lightOn 18 = .ok (.istore 6, 2) := by decide +kernel
theorem dX3_lightOn_20 : decode cX3_lightOn 20 = .ok (.iconst 4, 1) := by decide +kernel
theorem dX3_lightOn_21 : decode cX3_lightOn 21 = .ok (.iload 4, 2) := by decide +kernel
theorem dX3_lightOn_23 : decode cX3_lightOn 23 = .ok (.isub, 1) := by decide +kernel
theorem dX3_lightOn_24 : decode cX3_lightOn 24 = .ok (.iload 5, 2) := by decide +kernel
theorem dX3_lightOn_26 : decode cX3_lightOn 26 = .ok (.imul, 1) := by decide +kernel
theorem dX3_lightOn_27 : decode cX3_lightOn 27 = .ok (.iload 4, 2) := by decide +kernel
theorem dX3_lightOn_29 : decode cX3_lightOn 29 = .ok (.iload 6, 2) := by decide +kernel
theorem dX3_lightOn_31 : decode cX3_lightOn 31 = .ok (.imul, 1) := by decide +kernel
theorem dX3_lightOn_32 : decode cX3_lightOn 32 = .ok (.iadd, 1) := by decide +kernel
theorem dX3_lightOn_33 : decode cX3_lightOn 33 = .ok (.iconst 4, 1) := by decide +kernel
theorem dX3_lightOn_34 : decode cX3_lightOn 34 = .ok (.invokestatic 48, 3) := by decide +kernel
theorem dX3_lightOn_37 : decode cX3_lightOn 37 = .ok (.istore 7, 2) := by decide +kernel
theorem dX3_lightOn_39 : decode cX3_lightOn 39 = .ok (.iconst 0, 1) := by decide +kernel
theorem dX3_lightOn_40 : decode cX3_lightOn 40 = .ok (.iload 7, 2) := by decide +kernel
theorem dX3_lightOn_42 : decode cX3_lightOn 42 = .ok (.aload_n 0, 1) := by decide +kernel
theorem dX3_lightOn_43 : decode cX3_lightOn 43 = .ok (.getfield 34, 3) := by decide +kernel
theorem dX3_lightOn_46 : decode cX3_lightOn 46 = .ok (.iload_n 2, 1) := by decide +kernel
theorem dX3_lightOn_47 : decode cX3_lightOn 47 = .ok (.iaload, 1) := by decide +kernel
theorem dX3_lightOn_48 : decode cX3_lightOn 48 = .ok (.isub, 1) := by decide +kernel
theorem dX3_lightOn_49 : decode cX3_lightOn 49 = .ok (.invokestatic 54, 3) := by decide +kernel
theorem dX3_lightOn_52 : decode cX3_lightOn 52 = .ok (.ireturn, 1) := by decide +kernel
theorem dX4_init_0 : decode cX4_init 0 = .ok (.aload_n 0, 1) := by decide +kernel
theorem dX4_init_1 : decode cX4_init 1 = .ok (.invokespecial 3, 3) := by decide +kernel
theorem dX4_init_4 : decode cX4_init 4 = .ok (.aload_n 0, 1) := by decide +kernel
theorem dX4_init_5 : decode cX4_init 5 = .ok (.iconst 4, 1) := by decide +kernel
theorem dX4_init_6 : decode cX4_init 6 = .ok (.newarray .int, 2) := by decide +kernel
theorem dX4_init_8 : decode cX4_init 8 = .ok (.putfield 9, 3) := by decide +kernel
theorem dX4_init_11 : decode cX4_init 11 = .ok (.aload_n 0, 1) := by decide +kernel
theorem dX4_init_12 : decode cX4_init 12 = .ok (.iconst 4, 1) := by decide +kernel
theorem dX4_init_13 : decode cX4_init 13 = .ok (.newarray .int, 2) := by decide +kernel
theorem dX4_init_15 : decode cX4_init 15 = .ok (.putfield 15, 3) := by decide +kernel
theorem dX4_init_18 : decode cX4_init 18 = .ok (.return_, 1) := by decide +kernel
set_option maxRecDepth 20000 in
theorem ggX4_isStep_X2_within : GoodIn wsX4_isStep wsX2_within := goodIn_r _ [4] (by decide +kernel) (by decide +kernel)
set_option maxRecDepth 20000 in
theorem gX4_isStep_X2_within : GoodIn wsX4_isStep (va_wsS RX4 18 yX2_within wsX2_within) := goodIn_app (goodIn_of _ (by decide +kernel)) ggX4_isStep_X2_within
theorem dX4_isStep_0 : decode cX4_isStep 0 = .ok (.iload_n 0, 1) := by decide +kernel
theorem dX4_isStep_1 : decode cX4_isStep 1 = .ok (.tableswitch 62 0 3 #[31, 33, 42, 53], 31) := by decide +kernel
theorem dX4_isStep_32 : decode cX4_isStep 32 = .ok (.iconst 1, 1) := by decide +kernel
theorem dX4_isStep_33 : decode cX4_isStep 33 = .ok (.ireturn, 1) := by decide +kernel
theorem dX4_isStep_34 : decode cX4_isStep 34 = .ok (.iload_n 1, 1) := by decide +kernel
theorem dX4_isStep_35 : decode cX4_isStep 35 = .ok (.iconst 0, 1) := by decide +kernel
theorem dX4_isStep_36 : decode cX4_isStep 36 = .ok (.sipush 255, 3) := by decide +kernel
theorem dX4_isStep_39 : decode cX4_isStep 39 = .ok (.invokestatic 18, 3) := by decide +kernel
theorem dX4_isStep_42 : decode cX4_isStep 42 = .ok (.ireturn, 1) := by decide +kernel
theorem dX4_isStep_43 : decode cX4_isStep 43 = .ok (.iload_n 1, 1) := by decide +kernel
theorem dX4_isStep_44 : decode cX4_isStep 44 = .ok (.sipush (-255), 3) := by decide +kernel
theorem dX4_isStep_47 : decode cX4_isStep 47 = .ok (.sipush 255, 3) := by decide +kernel
theorem dX4_isStep_50 : decode cX4_isStep 50 = .ok (.invokestatic 18, 3) := by decide +kernel
theorem dX4_isStep_53 : decode cX4_isStep 53 = .ok (.ireturn, 1) := by decide +kernel
theorem dX4_isStep_54 : decode cX4_isStep 54 = .ok (.iload_n 1, 1) := by decide +kernel
theorem dX4_isStep_55 : decode cX4_isStep 55 = .ok (.iconst 0, 1) := by decide +kernel
theorem dX4_isStep_56 : decode cX4_isStep 56 = .ok (.sipush 255, 3) := by decide +kernel
theorem dX4_isStep_59 : decode cX4_isStep 59 = .ok (.invokestatic 18, 3) := by decide +kernel
theorem dX4_isStep_62 : decode cX4_isStep 62 = .ok (.ireturn, 1) := by decide +kernel
theorem dX4_isStep_63 : decode cX4_isStep 63 = .ok (.iconst 0, 1) := by decide +kernel
theorem dX4_isStep_64 : decode cX4_isStep 64 = .ok (.ireturn, 1) := by decide +kernel
theorem dX4_addStep_0 : decode cX4_addStep 0 = .ok (.aload_n 0, 1) := by decide +kernel
theorem dX4_addStep_1 : decode cX4_addStep 1 = .ok (.getfield 24, 3) := by decide +kernel
theorem dX4_addStep_4 : decode cX4_addStep 4 = .ok (.iconst 4, 1) := by decide +kernel
theorem dX4_addStep_5 : decode cX4_addStep 5 = .ok (.if_icmp .lt 6, 3) := by decide +kernel
theorem dX4_addStep_8 : decode cX4_addStep 8 = .ok (.bipush (-4), 2) := by decide +kernel
theorem dX4_addStep_10 : decode cX4_addStep 10 = .ok (.ireturn, 1) := by decide +kernel
theorem dX4_addStep_11 : decode cX4_addStep 11 = .ok (.aload_n 0, 1) := by decide +kernel
theorem dX4_addStep_12 : decode cX4_addStep 12 = .ok (.getfield 9, 3) := by decide +kernel
theorem dX4_addStep_15 : decode cX4_addStep 15 = .ok (.aload_n 0, 1) := by decide +kernel
theorem dX4_addStep_16 : decode cX4_addStep 16 = .ok (.getfield 24, 3) := by decide +kernel
theorem dX4_addStep_19 : decode cX4_addStep 19 = .ok (.iload_n 1, 1) := by decide +kernel
theorem dX4_addStep_20 : decode cX4_addStep 20 = .ok (.iastore, 1) := by decide +kernel
theorem dX4_addStep_21 : decode cX4_addStep 21 = .ok (.aload_n 0, 1) := by decide +kernel
theorem dX4_addStep_22 : decode cX4_addStep 22 = .ok (.getfield 15, 3) := by decide +kernel
theorem dX4_addStep_25 : decode cX4_addStep 25 = .ok (.aload_n 0, 1) := by decide +kernel
theorem dX4_addStep_26 : decode cX4_addStep 26 = .ok (.getfield 24, 3) := by decide +kernel
theorem dX4_addStep_29 : decode cX4_addStep 29 = .ok (.iload_n 2, 1) := by decide +kernel
theorem dX4_addStep_30 : decode cX4_addStep 30 = .ok (.iastore, 1) := by decide +kernel
theorem dX4_addStep_31 : decode cX4_addStep 31 = .ok (.aload_n 0, 1) := by decide +kernel
theorem dX4_addStep_32 : decode cX4_addStep 32 = .ok (.dup, 1) := by decide +kernel
theorem dX4_addStep_33 : decode cX4_addStep 33 = .ok (.getfield 24, 3) := by decide +kernel
theorem dX4_addStep_36 : decode cX4_addStep 36 = .ok (.iconst 1, 1) := by decide +kernel
theorem dX4_addStep_37 : decode cX4_addStep 37 = .ok (.iadd, 1) := by decide +kernel
theorem dX4_addStep_38 : decode cX4_addStep 38 = .ok (.putfield 24, 3) := by decide +kernel
theorem dX4_addStep_41 : decode cX4_addStep 41 = .ok (.aload_n 0, 1) := by decide +kernel
theorem dX4_addStep_42 : decode cX4_addStep 42 = .ok (.getfield 24, 3) := by decide +kernel
theorem dX4_addStep_45 : decode cX4_addStep 45 = .ok (.ireturn, 1) := by decide +kernel
theorem dX4_dropStep_0 : decode cX4_dropStep 0 = .ok (.iload_n 1, 1) := by decide +kernel
theorem dX4_dropStep_1 : decode cX4_dropStep 1 = .ok (.istore_n 2, 1) := by decide +kernel
theorem dX4_dropStep_2 : decode cX4_dropStep 2 = .ok (.iload_n 2, 1) := by decide +kernel
theorem dX4_dropStep_3 : decode cX4_dropStep 3 = .ok (.iconst 1, 1) := by decide +kernel
theorem dX4_dropStep_4 : decode cX4_dropStep 4 = .ok (.iadd, 1) := by decide +kernel
theorem dX4_dropStep_5 : decode cX4_dropStep 5 = .ok (.aload_n 0, 1) := by decide +kernel
theorem dX4_dropStep_6 : decode cX4_dropStep 6 = .ok (.getfield 24, 3) := by decide +kernel
theorem dX4_dropStep_9 : decode cX4_dropStep 9 = .ok (.if_icmp .ge 37, 3) := by decide +kernel
theorem dX4_dropStep_12 : decode cX4_dropStep 12 = .ok (.aload_n 0, 1) := by decide +kernel
theorem dX4_dropStep_13 : decode cX4_dropStep 13 = .ok (.getfield 9, 3) := by decide +kernel
theorem dX4_dropStep_16 : decode cX4_dropStep 16 = .ok (.iload_n 2, 1) := by decide +kernel
theorem dX4_dropStep_17 : decode cX4_dropStep 17 = .ok (.aload_n 0, 1) := by decide +kernel
theorem dX4_dropStep_18 : decode cX4_dropStep 18 = .ok (.getfield 9, 3) := by decide +kernel
theorem dX4_dropStep_21 : decode cX4_dropStep 21 = .ok (.iload_n 2, 1) := by decide +kernel
theorem dX4_dropStep_22 : decode cX4_dropStep 22 = .ok (.iconst 1, 1) := by decide +kernel
theorem dX4_dropStep_23 : decode cX4_dropStep 23 = .ok (.iadd, 1) := by decide +kernel
theorem dX4_dropStep_24 : decode cX4_dropStep 24 = .ok (.iaload, 1) := by decide +kernel
theorem dX4_dropStep_25 : decode cX4_dropStep 25 = .ok (.iastore, 1) := by decide +kernel
theorem dX4_dropStep_26 : decode cX4_dropStep 26 = .ok (.aload_n 0, 1) := by decide +kernel
theorem dX4_dropStep_27 : decode cX4_dropStep 27 = .ok (.getfield 15, 3) := by decide +kernel
theorem dX4_dropStep_30 : decode cX4_dropStep 30 = .ok (.iload_n 2, 1) := by decide +kernel
theorem dX4_dropStep_31 : decode cX4_dropStep 31 = .ok (.aload_n 0, 1) := by decide +kernel
theorem dX4_dropStep_32 : decode cX4_dropStep 32 = .ok (.getfield 15, 3) := by decide +kernel
theorem dX4_dropStep_35 : decode cX4_dropStep 35 = .ok (.iload_n 2, 1) := by decide +kernel
theorem dX4_dropStep_36 : decode cX4_dropStep 36 = .ok (.iconst 1, 1) := by decide +kernel
theorem dX4_dropStep_37 : decode cX4_dropStep 37 = .ok (.iadd, 1) := by decide +kernel
theorem dX4_dropStep_38 : decode cX4_dropStep 38 = .ok (.iaload, 1) := by decide +kernel
theorem dX4_dropStep_39 : decode cX4_dropStep 39 = .ok (.iastore, 1) := by decide +kernel
theorem dX4_dropStep_40 : decode cX4_dropStep 40 = .ok (.iinc 2 1, 3) := by decide +kernel
theorem dX4_dropStep_43 : decode cX4_dropStep 43 = .ok (.goto (-41), 3) := by decide +kernel
theorem dX4_dropStep_46 : decode cX4_dropStep 46 = .ok (.aload_n 0, 1) := by decide +kernel
theorem dX4_dropStep_47 : decode cX4_dropStep 47 = .ok (.dup, 1) := by decide +kernel
theorem dX4_dropStep_48 : decode cX4_dropStep 48 = .ok (.getfield 24, 3) := by decide +kernel
theorem dX4_dropStep_51 : decode cX4_dropStep 51 = .ok (.iconst 1, 1) := by decide +kernel
theorem dX4_dropStep_52 : decode cX4_dropStep 52 = .ok (.isub, 1) := by decide +kernel
theorem dX4_dropStep_53 : decode cX4_dropStep 53 = .ok (.putfield 24, 3) := by decide +kernel
theorem dX4_dropStep_56 : decode cX4_dropStep 56 = .ok (.return_, 1) := by decide +kernel
set_option maxRecDepth 20000 in
theorem ggX4_through_X4_stepped : GoodIn wsX4_through wsX4_stepped := goodIn_r _ [7, 8, 9, 10, 11, 12, 13, 14, 15, 16, 17, 18] (by decide +kernel) (by decide +kernel)
set_option maxRecDepth 20000 in
theorem gX4_through_X4_stepped : GoodIn wsX4_through (va_wsS RX4 28 yX4_stepped wsX4_stepped) := goodIn_app (goodIn_of _ (by decide +kernel)) ggX4_through_X4_stepped
theorem dX4_through_0 : decode cX4_through 0 = .ok (.iload_n 1, 1) := by decide +kernel
theorem dX4_through_1 : decode cX4_through 1 = .ok (.istore_n 2, 1) := by decide +kernel
theorem dX4_through_2 : decode cX4_through 2 = .ok (.iconst 0, 1) := by decide +kernel
theorem dX4_through_3 : decode cX4_through 3 = .ok (.istore_n 3, 1) := by decide +kernel
theorem dX4_through_4 : decode cX4_through 4 = .ok (.iload_n 3, 1) := by decide +kernel
theorem dX4_through_5 : decode cX4_through 5 = .ok (.aload_n 0, 1) := by decide +kernel
theorem dX4_through_6 : decode cX4_through 6 = .ok (.getfield 24, 3) := by decide +kernel
theorem dX4_through_9 : decode cX4_through 9 = .ok (.if_icmp .ge 26, 3) := by decide +kernel
theorem dX4_through_12 : decode cX4_through 12 = .ok (.aload_n 0, 1) := by decide +kernel
theorem dX4_through_13 : decode cX4_through 13 = .ok (.getfield 9, 3) := by decide +kernel
theorem dX4_through_16 : decode cX4_through 16 = .ok (.iload_n 3, 1) := by decide +kernel
theorem dX4_through_17 : decode cX4_through 17 = .ok (.iaload, 1) := by decide +kernel
theorem dX4_through_18 : decode cX4_through 18 = .ok (.aload_n 0, 1) := by decide +kernel
theorem dX4_through_19 : decode cX4_through 19 = .ok (.getfield 15, 3) := by decide +kernel
theorem dX4_through_22 : decode cX4_through 22 = .ok (.iload_n 3, 1) := by decide +kernel
theorem dX4_through_23 : decode cX4_through 23 = .ok (.iaload, 1) := by decide +kernel
theorem dX4_through_24 : decode cX4_through 24 = .ok (.iload_n 2, 1) := by decide +kernel
theorem dX4_through_25 : decode cX4_through 25 = .ok (.invokestatic 28, 3) := by decide +kernel
theorem dX4_through_28 : decode cX4_through 28 = .ok (.istore_n 2, 1) := by decide +kernel
theorem dX4_through_29 : decode cX4_through 29 = .ok (.iinc 3 1, 3) := by decide +kernel
theorem dX4_through_32 : decode cX4_through 32 = .ok (.goto (-28), 3) := by decide +kernel
theorem dX4_through_35 : decode cX4_through 35 = .ok (.iload_n 2, 1) := by decide +kernel
theorem dX4_through_36 : decode cX4_through 36 = .ok (.ireturn, 1) := by decide +kernel
set_option maxRecDepth 20000 in
theorem ggX4_stepped_X2_atMostTop : GoodIn wsX4_stepped wsX2_atMostTop := goodIn_r _ [8, 9, 10, 3, 11] (by decide +kernel) (by decide +kernel)
set_option maxRecDepth 20000 in
theorem gX4_stepped_X2_atMostTop : GoodIn wsX4_stepped (va_wsS RX4 32 yX2_atMostTop wsX2_atMostTop) := goodIn_app (goodIn_of _ (by decide +kernel)) ggX4_stepped_X2_atMostTop
theorem dX4_stepped_0 : decode cX4_stepped 0 = .ok (.iload_n 0, 1) := by decide +kernel
theorem dX4_stepped_1 : decode cX4_stepped 1 = .ok (.tableswitch 71 0 3 #[31, 37, 47, 58], 31) := by decide +kernel
theorem dX4_stepped_32 : decode cX4_stepped 32 = .ok (.sipush 255, 3) := by decide +kernel
theorem dX4_stepped_35 : decode cX4_stepped 35 = .ok (.iload_n 2, 1) := by decide +kernel
theorem dX4_stepped_36 : decode cX4_stepped 36 = .ok (.isub, 1) := by decide +kernel
theorem dX4_stepped_37 : decode cX4_stepped 37 = .ok (.ireturn, 1) := by decide +kernel
theorem dX4_stepped_38 : decode cX4_stepped 38 = .ok (.iload_n 1, 1) := by decide +kernel
theorem dX4_stepped_39 : decode cX4_stepped 39 = .ok (.iload_n 2, 1) := by decide +kernel
theorem dX4_stepped_40 : decode cX4_stepped 40 = .ok (.imul, 1) := by decide +kernel
theorem dX4_stepped_41 : decode cX4_stepped 41 = .ok (.bipush 16, 2) := by decide +kernel
theorem dX4_stepped_43 : decode cX4_stepped 43 = .ok (.idiv, 1) := by decide +kernel
theorem dX4_stepped_44 : decode cX4_stepped 44 = .ok (.invokestatic 32, 3) := by decide +kernel
theorem dX4_stepped_47 : decode cX4_stepped 47 = .ok (.ireturn, 1) := by decide +kernel
theorem dX4_stepped_48 : decode cX4_stepped 48 = .ok (.iconst 0, 1) := by decide +kernel
theorem dX4_stepped_49 : decode cX4_stepped 49 = .ok (.iload_n 2, 1) := by decide +kernel
theorem dX4_stepped_50 : decode cX4_stepped 50 = .ok (.iload_n 1, 1) := by decide +kernel
theorem dX4_stepped_51 : decode cX4_stepped 51 = .ok (.iadd, 1) := by decide +kernel
theorem dX4_stepped_52 : decode cX4_stepped 52 = .ok (.invokestatic 36, 3) := by decide +kernel
theorem dX4_stepped_55 : decode cX4_stepped 55 = .ok (.invokestatic 32, 3) := by decide +kernel
theorem dX4_stepped_58 : decode cX4_stepped 58 = .ok (.ireturn, 1) := by decide +kernel
theorem dX4_stepped_59 : decode cX4_stepped 59 = .ok (.iload_n 2, 1) := by decide +kernel
theorem dX4_stepped_60 : decode cX4_stepped 60 = .ok (.iload_n 1, 1) := by decide +kernel
theorem dX4_stepped_61 : decode cX4_stepped 61 = .ok (.if_icmp .lt 9, 3) := by decide +kernel
theorem dX4_stepped_64 : decode cX4_stepped 64 = .ok (.sipush 255, 3) := by decide +kernel
theorem dX4_stepped_67 : decode cX4_stepped 67 = .ok (.goto 4, 3) := by decide +kernel
theorem dX4_stepped_70 : decode cX4_stepped 70 = .ok (.iconst 0, 1) := by decide +kernel
theorem dX4_stepped_71 : decode cX4_stepped 71 = .ok (.ireturn, 1) := by decide +kernel
theorem dX4_stepped_72 : decode cX4_stepped 72 = .ok (.iload_n 2, 1) := by decide +kernel
theorem dX4_stepped_73 : decode cX4_stepped 73 = .ok (.ireturn, 1) := by decide +kernel
theorem dX5_init_0 : decode cX5_init 0 = .ok (.aload_n 0, 1) := by decide +kernel
theorem dX5_init_1 : decode cX5_init 1 = .ok (.invokespecial 3, 3) := by decide +kernel
theorem dX5_init_4 : decode cX5_init 4 = .ok (.aload_n 0, 1) := by decide +kernel
theorem dX5_init_5 : decode cX5_init 5 = .ok (.bipush (-4), 2) := by decide +kernel
theorem dX5_init_7 : decode cX5_init 7 = .ok (.putfield 9, 3) := by decide +kernel
theorem dX5_init_10 : decode cX5_init 10 = .ok (.aload_n 0, 1) := by decide +kernel
theorem dX5_init_11 : decode cX5_init 11 = .ok (.iconst 0, 1) := by decide +kernel
theorem dX5_init_12 : decode cX5_init 12 = .ok (.putfield 15, 3) := by decide +kernel
theorem dX5_init_15 : decode cX5_init 15 = .ok (.return_, 1) := by decide +kernel
theorem dX5_start_0 : decode cX5_start 0 = .ok (.aload_n 0, 1) := by decide +kernel
theorem dX5_start_1 : decode cX5_start 1 = .ok (.iconst 1, 1) := by decide +kernel
theorem dX5_start_2 : decode cX5_start 2 = .ok (.putfield 18, 3) := by decide +kernel
theorem dX5_start_5 : decode cX5_start 5 = .ok (.aload_n 0, 1) := by decide +kernel
theorem dX5_start_6 : decode cX5_start 6 = .ok (.iload_n 1, 1) := by decide +kernel
theorem dX5_start_7 : decode cX5_start 7 = .ok (.putfield 22, 3) := by decide +kernel
theorem dX5_start_10 : decode cX5_start 10 = .ok (.aload_n 0, 1) := by decide +kernel
theorem dX5_start_11 : decode cX5_start 11 = .ok (.iload_n 2, 1) := by decide +kernel
theorem dX5_start_12 : decode cX5_start 12 = .ok (.putfield 25, 3) := by decide +kernel
theorem dX5_start_15 : decode cX5_start 15 = .ok (.aload_n 0, 1) := by decide +kernel
theorem dX5_start_16 : decode cX5_start 16 = .ok (.iload_n 1, 1) := by decide +kernel
theorem dX5_start_17 : decode cX5_start 17 = .ok (.iload_n 2, 1) := by decide +kernel
theorem dX5_start_18 : decode cX5_start 18 = .ok (.iadd, 1) := by decide +kernel
theorem dX5_start_19 : decode cX5_start 19 = .ok (.putfield 28, 3) := by decide +kernel
theorem dX5_start_22 : decode cX5_start 22 = .ok (.aload_n 0, 1) := by decide +kernel
theorem dX5_start_23 : decode cX5_start 23 = .ok (.iconst 0, 1) := by decide +kernel
theorem dX5_start_24 : decode cX5_start 24 = .ok (.putfield 31, 3) := by decide +kernel
theorem dX5_start_27 : decode cX5_start 27 = .ok (.aload_n 0, 1) := by decide +kernel
theorem dX5_start_28 : decode cX5_start 28 = .ok (.bipush (-4), 2) := by decide +kernel
theorem dX5_start_30 : decode cX5_start 30 = .ok (.putfield 9, 3) := by decide +kernel
theorem dX5_start_33 : decode cX5_start 33 = .ok (.aload_n 0, 1) := by decide +kernel
theorem dX5_start_34 : decode cX5_start 34 = .ok (.iconst 0, 1) := by decide +kernel
theorem dX5_start_35 : decode cX5_start 35 = .ok (.putfield 34, 3) := by decide +kernel
theorem dX5_start_38 : decode cX5_start 38 = .ok (.aload_n 0, 1) := by decide +kernel
theorem dX5_start_39 : decode cX5_start 39 = .ok (.iconst 0, 1) := by decide +kernel
theorem dX5_start_40 : decode cX5_start 40 = .ok (.putfield 15, 3) := by decide +kernel
theorem dX5_start_43 : decode cX5_start 43 = .ok (.aload_n 0, 1) := by decide +kernel
theorem dX5_start_44 : decode cX5_start 44 = .ok (.iconst 0, 1) := by decide +kernel
theorem dX5_start_45 : decode cX5_start 45 = .ok (.putfield 37, 3) := by decide +kernel
theorem dX5_start_48 : decode cX5_start 48 = .ok (.aload_n 0, 1) := by decide +kernel
theorem dX5_start_49 : decode cX5_start 49 = .ok (.iconst 0, 1) := by decide +kernel
theorem dX5_start_50 : decode cX5_start 50 = .ok (.putfield 40, 3) := by decide +kernel
theorem dX5_start_53 : decode cX5_start 53 = .ok (.return_, 1) := by decide +kernel
theorem dX5_wantsMore_0 : decode cX5_wantsMore 0 = .ok (.aload_n 0, 1) := by decide +kernel
theorem dX5_wantsMore_1 : decode cX5_wantsMore 1 = .ok (.getfield 18, 3) := by decide +kernel
theorem dX5_wantsMore_4 : decode cX5_wantsMore 4 = .ok (.ifCond .eq 18, 3) := by decide +kernel
theorem dX5_wantsMore_7 : decode cX5_wantsMore 7 = .ok (.aload_n 0, 1) := by decide +kernel
theorem dX5_wantsMore_8 : decode cX5_wantsMore 8 = .ok (.getfield 34, 3) := by decide +kernel
theorem dX5_wantsMore_11 : decode cX5_wantsMore 11 = .ok (.aload_n 0, 1) := by decide +kernel
theorem dX5_wantsMore_12 : decode cX5_wantsMore 12 = .ok (.getfield 28, 3) := by decide +kernel
theorem dX5_wantsMore_15 : decode cX5_wantsMore 15 = .ok (.if_icmp .ge 7, 3) := by decide +kernel
theorem dX5_wantsMore_18 : decode cX5_wantsMore 18 = .ok (.iconst 1, 1) := by decide +kernel
theorem dX5_wantsMore_19 : decode cX5_wantsMore 19 = .ok (.goto 4, 3) := by decide +kernel
theorem dX5_wantsMore_22 : decode cX5_wantsMore 22 = .ok (.iconst 0, 1) := by decide +kernel
theorem dX5_wantsMore_23 : decode cX5_wantsMore 23 = .ok (.ireturn, 1) := by decide +kernel
set_option maxRecDepth 20000 in
theorem ggX5_tick_X5_wantsMore : GoodIn wsX5_tick wsX5_wantsMore := goodIn_r _ [8, 9, 10, 11, 36, 37, 38, 39, 40, 41, 42, 43, 44, 45, 46] (by decide +kernel) (by decide +kernel)
set_option maxRecDepth 20000 in
theorem gX5_tick_X5_wantsMore : GoodIn wsX5_tick (wsV RX5 43 RX5 yX5_wantsMore wsX5_wantsMore) := goodIn_app (goodIn_of _ (by decide +kernel)) ggX5_tick_X5_wantsMore
set_option maxRecDepth 20000 in
theorem ggX5_tick_X5_runUp : GoodIn wsX5_tick wsX5_runUp := goodIn_r _ [15, 16, 10, 2, 4, 5, 6, 7, 8, 9, 11, 17, 18, 19, 20, 21, 22, 36, 37, 38, 39, 40, 41, 42, 43, 44, 45, 46] (by decide +kernel) (by decide +kernel)
set_option maxRecDepth 20000 in
theorem gX5_tick_X5_runUp : GoodIn wsX5_tick (wsV RX5 47 RX5 yX5_runUp wsX5_runUp) := goodIn_app (goodIn_of _ (by decide +kernel)) ggX5_tick_X5_runUp
set_option maxRecDepth 20000 in
theorem ggX5_tick_X5_readOne : GoodIn wsX5_tick wsX5_readOne := goodIn_r _ [26, 16, 27, 3, 10, 4, 5, 6, 7, 8, 9, 11, 17, 18, 19, 20, 21, 2, 22, 36, 37, 38, 39, 40, 41, 42, 43, 44, 45, 46] (by decide +kernel) (by decide +kernel)
set_option maxRecDepth 20000 in
theorem gX5_tick_X5_readOne : GoodIn wsX5_tick (wsV RX5 50 RX5 yX5_readOne wsX5_readOne) := goodIn_app (goodIn_of _ (by decide +kernel)) ggX5_tick_X5_readOne
set_option maxRecDepth 20000 in
theorem ggX5_tick_X5_runOut : GoodIn wsX5_tick wsX5_runOut := goodIn_r _ [31, 16, 22, 2, 36, 37, 38, 39, 40, 41, 42, 43, 44, 45, 46] (by decide +kernel) (by decide +kernel)
set_option maxRecDepth 20000 in
theorem gX5_tick_X5_runOut : GoodIn wsX5_tick (wsV RX5 54 RX5 yX5_runOut wsX5_runOut) := goodIn_app (goodIn_of _ (by decide +kernel)) ggX5_tick_X5_runOut
set_option maxRecDepth 20000 in
theorem ggX5_tick_X5_goBack : GoodIn wsX5_tick wsX5_goBack := goodIn_r _ [35, 16, 10, 2, 36, 37, 38, 39, 40, 41, 42, 43, 44, 45, 46] (by decide +kernel) (by decide +kernel)
set_option maxRecDepth 20000 in
theorem gX5_tick_X5_goBack : GoodIn wsX5_tick (wsV RX5 57 RX5 yX5_goBack wsX5_goBack) := goodIn_app (goodIn_of _ (by decide +kernel)) ggX5_tick_X5_goBack
theorem dX5_tick_0 : decode cX5_tick 0 = .ok (.aload_n 0, 1) := by decide +kernel
theorem dX5_tick_1 : decode cX5_tick 1 = .ok (.dup, 1) := by decide +kernel
theorem dX5_tick_2 : decode cX5_tick 2 = .ok (.getfield 40, 3) := by decide +kernel
theorem dX5_tick_5 : decode cX5_tick 5 = .ok (.iconst 1, 1) := by decide +kernel
theorem dX5_tick_6 : decode cX5_tick 6 = .ok (.iadd, 1) := by decide +kernel
theorem dX5_tick_7 : decode cX5_tick 7 = .ok (.putfield 40, 3) := by decide +kernel
theorem dX5_tick_10 : decode cX5_tick 10 = .ok (.aload_n 0, 1) := by decide +kernel
theorem dX5_tick_11 : decode cX5_tick 11 = .ok (.getfield 15, 3) := by decide +kernel
theorem dX5_tick_14 : decode cX5_tick 14 = .ok (.tableswitch 69 0 3 #[30, 52, 58, 63], 30) := by decide +kernel
theorem dX5_tick_44 : decode cX5_tick 44 = .ok (.aload_n 0, 1) := by decide +kernel
theorem dX5_tick_45 : decode cX5_tick 45 = .ok (.invokevirtual 43, 3) := by decide +kernel
theorem dX5_tick_48 : decode cX5_tick 48 = .ok (.ifCond .eq 16, 3) := by decide +kernel
theorem dX5_tick_51 : decode cX5_tick 51 = .ok (.aload_n 0, 1) := by decide +kernel
theorem dX5_tick_52 : decode cX5_tick 52 = .ok (.getfield 31, 3) := by decide +kernel
theorem dX5_tick_55 : decode cX5_tick 55 = .ok (.iconst 2, 1) := by decide +kernel
theorem dX5_tick_56 : decode cX5_tick 56 = .ok (.if_icmp .gt 8, 3) := by decide +kernel
theorem dX5_tick_59 : decode cX5_tick 59 = .ok (.aload_n 0, 1) := by decide +kernel
theorem dX5_tick_60 : decode cX5_tick 60 = .ok (.iconst 1, 1) := by decide +kernel
theorem dX5_tick_61 : decode cX5_tick 61 = .ok (.putfield 15, 3) := by decide +kernel
theorem dX5_tick_64 : decode cX5_tick 64 = .ok (.iconst 0, 1) := by decide +kernel
theorem dX5_tick_65 : decode cX5_tick 65 = .ok (.ireturn, 1) := by decide +kernel
theorem dX5_tick_66 : decode cX5_tick 66 = .ok (.aload_n 0, 1) := by decide +kernel
theorem dX5_tick_67 : decode cX5_tick 67 = .ok (.invokevirtual 47, 3) := by decide +kernel
theorem dX5_tick_70 : decode cX5_tick 70 = .ok (.iconst 0, 1) := by decide +kernel
theorem dX5_tick_71 : decode cX5_tick 71 = .ok (.ireturn, 1) := by decide +kernel
theorem dX5_tick_72 : decode cX5_tick 72 = .ok (.aload_n 0, 1) := by decide +kernel
theorem dX5_tick_73 : decode cX5_tick 73 = .ok (.invokevirtual 50, 3) := by decide +kernel
theorem dX5_tick_76 : decode cX5_tick 76 = .ok (.ireturn, 1) := by decide +kernel
theorem dX5_tick_77 : decode cX5_tick 77 = .ok (.aload_n 0, 1) := by decide +kernel
theorem dX5_tick_78 : decode cX5_tick 78 = .ok (.invokevirtual 54, 3) := by decide +kernel
theorem dX5_tick_81 : decode cX5_tick 81 = .ok (.iconst 0, 1) := by decide +kernel
theorem dX5_tick_82 : decode cX5_tick 82 = .ok (.ireturn, 1) := by decide +kernel
theorem dX5_tick_83 : decode cX5_tick 83 = .ok (.aload_n 0, 1) := by decide +kernel
theorem dX5_tick_84 : decode cX5_tick 84 = .ok (.invokevirtual 57, 3) := by decide +kernel
theorem dX5_tick_87 : decode cX5_tick 87 = .ok (.iconst 0, 1) := by decide +kernel
theorem dX5_tick_88 : decode cX5_tick 88 = .ok (.ireturn, 1) := by decide +kernel
set_option maxRecDepth 20000 in
theorem ggX5_runUp_X5_wantsMore : GoodIn wsX5_runUp wsX5_wantsMore := goodIn_r _ [8, 9, 2, 10, 17, 18, 19, 20, 21, 22, 23, 24, 25, 26, 27] (by decide +kernel) (by decide +kernel)
set_option maxRecDepth 20000 in
theorem gX5_runUp_X5_wantsMore : GoodIn wsX5_runUp (wsV RX5 43 RX5 yX5_wantsMore wsX5_wantsMore) := goodIn_app (goodIn_of _ (by decide +kernel)) ggX5_runUp_X5_wantsMore
set_option maxRecDepth 20000 in
theorem ggX5_runUp_X5_leave : GoodIn wsX5_runUp wsX5_leave := goodIn_r _ [14, 15, 3, 16, 4, 5, 6, 7, 8, 9, 2, 10, 17, 18, 19, 20, 21, 22, 23, 24, 25, 26, 27] (by decide +kernel) (by decide +kernel)
set_option maxRecDepth 20000 in
theorem gX5_runUp_X5_leave : GoodIn wsX5_runUp (wsV RX5 60 RX5 yX5_leave wsX5_leave) := goodIn_app (goodIn_of _ (by decide +kernel)) ggX5_runUp_X5_leave
theorem dX5_runUp_0 : decode cX5_runUp 0 = .ok (.aload_n 0, 1) := by decide +kernel
theorem dX5_runUp_1 : decode cX5_runUp 1 = .ok (.dup, 1) := by decide +kernel
theorem dX5_runUp_2 : decode cX5_runUp 2 = .ok (.getfield 9, 3) := by decide +kernel
theorem dX5_runUp_5 : decode cX5_runUp 5 = .ok (.iconst 1, 1) := by decide +kernel
theorem dX5_runUp_6 : decode cX5_runUp 6 = .ok (.iadd, 1) := by decide +kernel
theorem dX5_runUp_7 : decode cX5_runUp 7 = .ok (.putfield 9, 3) := by decide +kernel
theorem dX5_runUp_10 : decode cX5_runUp 10 = .ok (.aload_n 0, 1) := by decide +kernel
theorem dX5_runUp_11 : decode cX5_runUp 11 = .ok (.invokevirtual 43, 3) := by decide +kernel
theorem dX5_runUp_14 : decode cX5_runUp 14 = .ok (.ifCond .ne 10, 3) := by decide +kernel
theorem dX5_runUp_17 : decode cX5_runUp 17 = .ok (.aload_n 0, 1) := by decide +kernel
theorem dX5_runUp_18 : decode cX5_runUp 18 = .ok (.invokevirtual 60, 3) := by decide +kernel
theorem dX5_runUp_21 : decode cX5_runUp 21 = .ok (.goto 19, 3) := by decide +kernel
theorem dX5_runUp_24 : decode cX5_runUp 24 = .ok (.aload_n 0, 1) := by decide +kernel
theorem dX5_runUp_25 : decode cX5_runUp 25 = .ok (.getfield 9, 3) := by decide +kernel
theorem dX5_runUp_28 : decode cX5_runUp 28 = .ok (.aload_n 0, 1) := by decide +kernel
theorem dX5_runUp_29 : decode cX5_runUp 29 = .ok (.getfield 34, 3) := by decide +kernel
theorem dX5_runUp_32 : decode cX5_runUp 32 = .ok (.if_icmp .ne 8, 3) := by decide +kernel
theorem dX5_runUp_35 : decode cX5_runUp 35 = .ok (.aload_n 0, 1) := by decide +kernel
theorem dX5_runUp_36 : decode cX5_runUp 36 = .ok (.iconst 2, 1) := by decide +kernel
theorem dX5_runUp_37 : decode cX5_runUp 37 = .ok (.putfield 15, 3) := by decide +kernel
theorem dX5_runUp_40 : decode cX5_runUp 40 = .ok (.return_, 1) := by decide +kernel
set_option maxRecDepth 20000 in
theorem ggX5_readOne_X5_wantsMore : GoodIn wsX5_readOne wsX5_wantsMore := goodIn_r _ [9, 10, 4, 11, 19, 20, 21, 22, 23, 24, 25, 26, 27, 28, 29] (by decide +kernel) (by decide +kernel)
set_option maxRecDepth 20000 in
theorem gX5_readOne_X5_wantsMore : GoodIn wsX5_readOne (wsV RX5 43 RX5 yX5_wantsMore wsX5_wantsMore) := goodIn_app (goodIn_of _ (by decide +kernel)) ggX5_readOne_X5_wantsMore
set_option maxRecDepth 20000 in
theorem ggX5_readOne_X5_leave : GoodIn wsX5_readOne wsX5_leave := goodIn_r _ [15, 16, 17, 18, 5, 6, 7, 8, 9, 10, 4, 11, 19, 20, 21, 22, 23, 24, 25, 26, 27, 28, 29] (by decide +kernel) (by decide +kernel)
set_option maxRecDepth 20000 in
theorem gX5_readOne_X5_leave : GoodIn wsX5_readOne (wsV RX5 60 RX5 yX5_leave wsX5_leave) := goodIn_app (goodIn_of _ (by decide +kernel)) ggX5_readOne_X5_leave
theorem dX5_readOne_0 : decode cX5_readOne 0 = .ok (.aload_n 0, 1) := by decide +kernel
theorem dX5_readOne_1 : decode cX5_readOne 1 = .ok (.invokevirtual 43, 3) := by decide +kernel
theorem dX5_readOne_4 : decode cX5_readOne 4 = .ok (.ifCond .ne 19, 3) := by decide +kernel
theorem dX5_readOne_7 : decode cX5_readOne 7 = .ok (.aload_n 0, 1) := by decide +kernel
theorem dX5_readOne_8 : decode cX5_readOne 8 = .ok (.dup, 1) := by decide +kernel
theorem dX5_readOne_9 : decode cX5_readOne 9 = .ok (.getfield 9, 3) := by decide +kernel
theorem dX5_readOne_12 : decode cX5_readOne 12 = .ok (.iconst 1, 1) := by decide +kernel
theorem dX5_readOne_13 : decode cX5_readOne 13 = .ok (.iadd, 1) := by decide +kernel
theorem dX5_readOne_14 : decode cX5_readOne 14 = .ok (.putfield 9, 3) := by decide +kernel
theorem dX5_readOne_17 : decode cX5_readOne 17 = .ok (.aload_n 0, 1) := by decide +kernel
theorem dX5_readOne_18 : decode cX5_readOne 18 = .ok (.invokevirtual 60, 3) := by decide +kernel
theorem dX5_readOne_21 : decode cX5_readOne 21 = .ok (.iconst 0, 1) := by decide +kernel
theorem dX5_readOne_22 : decode cX5_readOne 22 = .ok (.ireturn, 1) := by decide +kernel
theorem dX5_readOne_23 : decode cX5_readOne 23 = .ok (.aload_n 0, 1) := by decide +kernel
theorem dX5_readOne_24 : decode cX5_readOne 24 = .ok (.getfield 9, 3) := by decide +kernel
theorem dX5_readOne_27 : decode cX5_readOne 27 = .ok (.aload_n 0, 1) := by decide +kernel
theorem dX5_readOne_28 : decode cX5_readOne 28 = .ok (.getfield 25, 3) := by decide +kernel
theorem dX5_readOne_31 : decode cX5_readOne 31 = .ok (.if_icmp .lt 7, 3) := by decide +kernel
theorem dX5_readOne_34 : decode cX5_readOne 34 = .ok (.iconst 1, 1) := by decide +kernel
theorem dX5_readOne_35 : decode cX5_readOne 35 = .ok (.goto 4, 3) := by decide +kernel
theorem dX5_readOne_38 : decode cX5_readOne 38 = .ok (.iconst 0, 1) := by decide +kernel
theorem dX5_readOne_39 : decode cX5_readOne 39 = .ok (.istore_n 1, 1) := by decide +kernel
theorem dX5_readOne_40 : decode cX5_readOne 40 = .ok (.aload_n 0, 1) := by decide +kernel
theorem dX5_readOne_41 : decode cX5_readOne 41 = .ok (.dup, 1) := by decide +kernel
theorem dX5_readOne_42 : decode cX5_readOne 42 = .ok (.getfield 31, 3) := by decide +kernel
theorem dX5_readOne_45 : decode cX5_readOne 45 = .ok (.iload_n 1, 1) := by decide +kernel
theorem dX5_readOne_46 : decode cX5_readOne 46 = .ok (.iadd, 1) := by decide +kernel
theorem dX5_readOne_47 : decode cX5_readOne 47 = .ok (.putfield 31, 3) := by decide +kernel
theorem dX5_readOne_50 : decode cX5_readOne 50 = .ok (.aload_n 0, 1) := by decide +kernel
theorem dX5_readOne_51 : decode cX5_readOne 51 = .ok (.dup, 1) := by decide +kernel
theorem dX5_readOne_52 : decode cX5_readOne 52 = .ok (.getfield 9, 3) := by decide +kernel
theorem dX5_readOne_55 : decode cX5_readOne 55 = .ok (.iconst 1, 1) := by decide +kernel
theorem dX5_readOne_56 : decode cX5_readOne 56 = .ok (.iadd, 1) := by decide +kernel
theorem dX5_readOne_57 : decode cX5_readOne 57 = .ok (.putfield 9, 3) := by decide +kernel
theorem dX5_readOne_60 : decode cX5_readOne 60 = .ok (.aload_n 0, 1) := by decide +kernel
theorem dX5_readOne_61 : decode cX5_readOne 61 = .ok (.dup, 1) := by decide +kernel
theorem dX5_readOne_62 : decode cX5_readOne 62 = .ok (.getfield 34, 3) := by decide +kernel
theorem dX5_readOne_65 : decode cX5_readOne 65 = .ok (.iconst 1, 1) := by decide +kernel
theorem dX5_readOne_66 : decode cX5_readOne 66 = .ok (.iadd, 1) := by decide +kernel
theorem dX5_readOne_67 : decode cX5_readOne 67 = .ok (.putfield 34, 3) := by decide +kernel
theorem dX5_readOne_70 : decode cX5_readOne 70 = .ok (.aload_n 0, 1) := by decide +kernel
theorem dX5_readOne_71 : decode cX5_readOne 71 = .ok (.invokevirtual 43, 3) := by decide +kernel
theorem dX5_readOne_74 : decode cX5_readOne 74 = .ok (.ifCond .eq 12, 3) := by decide +kernel
theorem dX5_readOne_77 : decode cX5_readOne 77 = .ok (.aload_n 0, 1) := by decide +kernel
theorem dX5_readOne_78 : decode cX5_readOne 78 = .ok (.getfield 31, 3) := by decide +kernel
theorem dX5_readOne_81 : decode cX5_readOne 81 = .ok (.bipush 6, 2) := by decide +kernel
theorem dX5_readOne_83 : decode cX5_readOne 83 = .ok (.if_icmp .lt 7, 3) := by decide +kernel
theorem dX5_readOne_86 : decode cX5_readOne 86 = .ok (.aload_n 0, 1) := by decide +kernel
theorem dX5_readOne_87 : decode cX5_readOne 87 = .ok (.invokevirtual 60, 3) := by decide +kernel
theorem dX5_readOne_90 : decode cX5_readOne 90 = .ok (.iload_n 1, 1) := by decide +kernel
theorem dX5_readOne_91 : decode cX5_readOne 91 = .ok (.ireturn, 1) := by decide +kernel
set_option maxRecDepth 20000 in
theorem ggX5_leave_X5_wantsMore : GoodIn wsX5_leave wsX5_wantsMore := goodIn_r _ [8, 9, 10, 11, 12, 13, 14, 15, 16, 17, 18, 19, 20, 21, 22] (by decide +kernel) (by decide +kernel)
set_option maxRecDepth 20000 in
theorem gX5_leave_X5_wantsMore : GoodIn wsX5_leave (wsV RX5 43 RX5 yX5_wantsMore wsX5_wantsMore) := goodIn_app (goodIn_of _ (by decide +kernel)) ggX5_leave_X5_wantsMore
theorem dX5_leave_0 : decode cX5_leave 0 = .ok (.aload_n 0, 1) := by decide +kernel
theorem dX5_leave_1 : decode cX5_leave 1 = .ok (.invokevirtual 43, 3) := by decide +kernel
theorem dX5_leave_4 : decode cX5_leave 4 = .ok (.ifCond .eq 13, 3) := by decide +kernel
theorem dX5_leave_7 : decode cX5_leave 7 = .ok (.aload_n 0, 1) := by decide +kernel
theorem dX5_leave_8 : decode cX5_leave 8 = .ok (.dup, 1) := by decide +kernel
theorem dX5_leave_9 : decode cX5_leave 9 = .ok (.getfield 37, 3) := by decide +kernel
theorem dX5_leave_12 : decode cX5_leave 12 = .ok (.iconst 1, 1) := by decide +kernel
theorem dX5_leave_13 : decode cX5_leave 13 = .ok (.iadd, 1) := by decide +kernel
theorem dX5_leave_14 : decode cX5_leave 14 = .ok (.putfield 37, 3) := by decide +kernel
theorem dX5_leave_17 : decode cX5_leave 17 = .ok (.aload_n 0, 1) := by decide +kernel
theorem dX5_leave_18 : decode cX5_leave 18 = .ok (.iconst 3, 1) := by decide +kernel
theorem dX5_leave_19 : decode cX5_leave 19 = .ok (.putfield 15, 3) := by decide +kernel
theorem dX5_leave_22 : decode cX5_leave 22 = .ok (.aload_n 0, 1) := by decide +kernel
theorem dX5_leave_23 : decode cX5_leave 23 = .ok (.iconst 0, 1) := by decide +kernel
theorem dX5_leave_24 : decode cX5_leave 24 = .ok (.putfield 63, 3) := by decide +kernel
theorem dX5_leave_27 : decode cX5_leave 27 = .ok (.return_, 1) := by decide +kernel
theorem dX5_runOut_0 : decode cX5_runOut 0 = .ok (.aload_n 0, 1) := by decide +kernel
theorem dX5_runOut_1 : decode cX5_runOut 1 = .ok (.dup, 1) := by decide +kernel
theorem dX5_runOut_2 : decode cX5_runOut 2 = .ok (.getfield 9, 3) := by decide +kernel
theorem dX5_runOut_5 : decode cX5_runOut 5 = .ok (.iconst 1, 1) := by decide +kernel
theorem dX5_runOut_6 : decode cX5_runOut 6 = .ok (.iadd, 1) := by decide +kernel
theorem dX5_runOut_7 : decode cX5_runOut 7 = .ok (.putfield 9, 3) := by decide +kernel
theorem dX5_runOut_10 : decode cX5_runOut 10 = .ok (.aload_n 0, 1) := by decide +kernel
theorem dX5_runOut_11 : decode cX5_runOut 11 = .ok (.dup, 1) := by decide +kernel
theorem dX5_runOut_12 : decode cX5_runOut 12 = .ok (.getfield 63, 3) := by decide +kernel
theorem dX5_runOut_15 : decode cX5_runOut 15 = .ok (.iconst 1, 1) := by decide +kernel
theorem dX5_runOut_16 : decode cX5_runOut 16 = .ok (.iadd, 1) := by decide +kernel
theorem dX5_runOut_17 : decode cX5_runOut 17 = .ok (.putfield 63, 3) := by decide +kernel
theorem dX5_runOut_20 : decode cX5_runOut 20 = .ok (.aload_n 0, 1) := by decide +kernel
theorem dX5_runOut_21 : decode cX5_runOut 21 = .ok (.getfield 63, 3) := by decide +kernel
theorem dX5_runOut_24 : decode cX5_runOut 24 = .ok (.iconst 3, 1) := by decide +kernel
theorem dX5_runOut_25 : decode cX5_runOut 25 = .ok (.if_icmp .lt 8, 3) := by decide +kernel
theorem dX5_runOut_28 : decode cX5_runOut 28 = .ok (.aload_n 0, 1) := by decide +kernel
theorem dX5_runOut_29 : decode cX5_runOut 29 = .ok (.iconst 4, 1) := by decide +kernel
theorem dX5_runOut_30 : decode cX5_runOut 30 = .ok (.putfield 15, 3) := by decide +kernel
theorem dX5_runOut_33 : decode cX5_runOut 33 = .ok (.return_, 1) := by decide +kernel
theorem dX5_goBack_0 : decode cX5_goBack 0 = .ok (.aload_n 0, 1) := by decide +kernel
theorem dX5_goBack_1 : decode cX5_goBack 1 = .ok (.dup, 1) := by decide +kernel
theorem dX5_goBack_2 : decode cX5_goBack 2 = .ok (.getfield 9, 3) := by decide +kernel
theorem dX5_goBack_5 : decode cX5_goBack 5 = .ok (.iconst 1, 1) := by decide +kernel
theorem dX5_goBack_6 : decode cX5_goBack 6 = .ok (.isub, 1) := by decide +kernel
theorem dX5_goBack_7 : decode cX5_goBack 7 = .ok (.putfield 9, 3) := by decide +kernel
theorem dX5_goBack_10 : decode cX5_goBack 10 = .ok (.aload_n 0, 1) := by decide +kernel
theorem dX5_goBack_11 : decode cX5_goBack 11 = .ok (.getfield 9, 3) := by decide +kernel
theorem dX5_goBack_14 : decode cX5_goBack 14 = .ok (.aload_n 0, 1) := by decide +kernel
theorem dX5_goBack_15 : decode cX5_goBack 15 = .ok (.getfield 34, 3) := by decide +kernel
theorem dX5_goBack_18 : decode cX5_goBack 18 = .ok (.iconst 4, 1) := by decide +kernel
theorem dX5_goBack_19 : decode cX5_goBack 19 = .ok (.isub, 1) := by decide +kernel
theorem dX5_goBack_20 : decode cX5_goBack 20 = .ok (.if_icmp .ne 8, 3) := by decide +kernel
theorem dX5_goBack_23 : decode cX5_goBack 23 = .ok (.aload_n 0, 1) := by decide +kernel
theorem dX5_goBack_24 : decode cX5_goBack 24 = .ok (.iconst 0, 1) := by decide +kernel
theorem dX5_goBack_25 : decode cX5_goBack 25 = .ok (.putfield 15, 3) := by decide +kernel
theorem dX5_goBack_28 : decode cX5_goBack 28 = .ok (.return_, 1) := by decide +kernel
