theorem dX7_lightAt_7 : decode cX7_lightAt 7 = .ok (.iload_n 3, 1) := by decide +kernel
theorem dX7_lightAt_8 : decode cX7_lightAt 8 = .ok (.iconst 4, 1) := by decide +kernel
theorem dX7_lightAt_9 : decode cX7_lightAt 9 = .ok (.iload 4, 2) := by decide +kernel
theorem dX7_lightAt_11 : decode cX7_lightAt 11 = .ok (.imul, 1) := by decide +kernel
theorem dX7_lightAt_12 : decode cX7_lightAt 12 = .ok (.isub, 1) := by decide +kernel
theorem dX7_lightAt_13 : decode cX7_lightAt 13 = .ok (.istore 5, 2) := by decide +kernel
theorem dX7_lightAt_15 : decode cX7_lightAt 15 = .ok (.iconst 4, 1) := by decide +kernel
theorem dX7_lightAt_16 : decode cX7_lightAt 16 = .ok (.iload 5, 2) := by decide +kernel
theorem dX7_lightAt_18 : decode cX7_lightAt 18 = .ok (.isub, 1) := by decide +kernel
theorem dX7_lightAt_19 : decode cX7_lightAt 19 = .ok (.aload_n 0, 1) := by decide +kernel
theorem dX7_lightAt_20 : decode cX7_lightAt 20 = .ok (.iload_n 1, 1) := by decide +kernel
theorem dX7_lightAt_21 : decode cX7_lightAt 21 = .ok (.iload 4, 2) := by decide +kernel
theorem dX7_lightAt_23 : decode cX7_lightAt 23 = .ok (.iload_n 2, 1) := by decide +kernel
theorem dX7_lightAt_24 : decode cX7_lightAt 24 = .ok (.invokevirtual 116, 3) := by decide +kernel
theorem dX7_lightAt_27 : decode cX7_lightAt 27 = .ok (.imul, 1) := by decide +kernel
theorem dX7_lightAt_28 : decode cX7_lightAt 28 = .ok (.iload 5, 2) := by decide +kernel
theorem dX7_lightAt_30 : decode cX7_lightAt 30 = .ok (.aload_n 0, 1) := by decide +kernel
theorem dX7_lightAt_31 : decode cX7_lightAt 31 = .ok (.iload_n 1, 1) := by decide +kernel
theorem dX7_lightAt_32 : decode cX7_lightAt 32 = .ok (.iload 4, 2) := by decide +kernel
theorem dX7_lightAt_34 : decode cX7_lightAt 34 = .ok (.iconst 1, 1) := by decide +kernel
theorem dX7_lightAt_35 : decode cX7_lightAt 35 = .ok (.iadd, 1) := by decide +kernel
theorem dX7_lightAt_36 : decode cX7_lightAt 36 = .ok (.iload_n 2, 1) := by decide +kernel
theorem dX7_lightAt_37 : decode cX7_lightAt 37 = .ok (.invokevirtual 116, 3) := by decide +kernel
theorem dX7_lightAt_40 : decode cX7_lightAt 40 = .ok (.imul, 1) := by decide +kernel
theorem dX7_lightAt_41 : decode cX7_lightAt 41 = .ok (.iadd, 1) := by decide +kernel
theorem dX7_lightAt_42 : decode cX7_lightAt 42 = .ok (.istore 6, 2) := by decide +kernel
theorem dX7_lightAt_44 : decode cX7_lightAt 44 = .ok (.iload 6, 2) := by decide +kernel
theorem dX7_lightAt_46 : decode cX7_lightAt 46 = .ok (.iconst 4, 1) := by decide +kernel
theorem dX7_lightAt_47 : decode cX7_lightAt 47 = .ok (.invokestatic 101, 3) := by decide +kernel
theorem dX7_lightAt_50 : decode cX7_lightAt 50 = .ok (.aload_n 0, 1) := by decide +kernel
theorem dX7_lightAt_51 : decode cX7_lightAt 51 = .ok (.getfield 44, 3) := by decide +kernel
theorem dX7_lightAt_54 : decode cX7_lightAt 54 = .ok (.iload_n 2, 1) := by decide +kernel
theorem dX7_lightAt_55 : decode cX7_lightAt 55 = .ok (.iaload, 1) := by decide +kernel
theorem dX7_lightAt_56 : decode cX7_lightAt 56 = .ok (.isub, 1) := by decide +kernel
theorem dX7_lightAt_57 : decode cX7_lightAt 57 = .ok (.iconst 0, 1) := by decide +kernel
theorem dX7_lightAt_58 : decode cX7_lightAt 58 = .ok (.invokestatic 120, 3) := by decide +kernel
theorem dX7_lightAt_61 : decode cX7_lightAt 61 = .ok (.ireturn, 1) := by decide +kernel
set_option maxRecDepth 20000 in
theorem ggX7_light_X7_isCell : GoodIn wsX7_light wsX7_isCell := goodIn_r _ [4, 5, 6, 3, 7, 8, 9, 10, 11, 12, 13] (by decide +kernel) (by decide +kernel)
set_option maxRecDepth 20000 in
theorem gX7_light_X7_isCell : GoodIn wsX7_light (va_wsS RX7 79 yX7_isCell wsX7_isCell) := goodIn_app (goodIn_of _ (by decide +kernel)) ggX7_light_X7_isCell
set_option maxRecDepth 20000 in
theorem ggX7_light_X7_within : GoodIn wsX7_light wsX7_within := goodIn_r _ [10] (by decide +kernel) (by decide +kernel)
set_option maxRecDepth 20000 in
theorem gX7_light_X7_within : GoodIn wsX7_light (va_wsS RX7 68 yX7_within wsX7_within) := goodIn_app (goodIn_of _ (by decide +kernel)) ggX7_light_X7_within
set_option maxRecDepth 20000 in
theorem ggX7_light_X7_lightAt : GoodIn wsX7_light wsX7_lightAt := goodIn_r _ [17, 18, 19, 20, 3, 21, 22, 23, 24, 25, 26, 27, 28, 29, 30, 31, 32, 33, 34, 35, 36, 37, 8, 9, 10, 38, 39, 40, 41, 42, 43, 44, 45, 46, 47, 48, 49, 50, 51, 52, 53, 54, 55, 56, 57, 58, 59, 60, 61, 62, 63, 64, 65, 66, 67, 68, 69, 70, 71, 72, 73] (by decide +kernel) (by decide +kernel)
set_option maxRecDepth 20000 in
theorem gX7_light_X7_lightAt : GoodIn wsX7_light (wsV RX7 123 RX7 yX7_lightAt wsX7_lightAt) := goodIn_app (goodIn_of _ (by decide +kernel)) ggX7_light_X7_lightAt
theorem dX7_light_0 : decode cX7_light 0 = .ok (.iload_n 1, 1) := by decide +kernel
theorem dX7_light_1 : decode cX7_light 1 = .ok (.iload_n 2, 1) := by decide +kernel
theorem dX7_light_2 : decode cX7_light 2 = .ok (.invokestatic 79, 3) := by decide +kernel
theorem dX7_light_5 : decode cX7_light 5 = .ok (.ifCond .ne 5, 3) := by decide +kernel
theorem dX7_light_8 : decode cX7_light 8 = .ok (.iconst (-1), 1) := by decide +kernel
theorem dX7_light_9 : decode cX7_light 9 = .ok (.ireturn, 1) := by decide +kernel
theorem dX7_light_10 : decode cX7_light 10 = .ok (.iload_n 3, 1) := by decide +kernel
theorem dX7_light_11 : decode cX7_light 11 = .ok (.sipush (-1000), 3) := by decide +kernel
theorem dX7_light_14 : decode cX7_light 14 = .ok (.sipush 1000, 3) := by decide +kernel
theorem dX7_light_17 : decode cX7_light 17 = .ok (.invokestatic 68, 3) := by decide +kernel
theorem dX7_light_20 : decode cX7_light 20 = .ok (.ifCond .eq 13, 3) := by decide +kernel
theorem dX7_light_23 : decode cX7_light 23 = .ok (.iload 4, 2) := by decide +kernel
theorem dX7_light_25 : decode cX7_light 25 = .ok (.iconst 0, 1) := by decide +kernel
theorem dX7_light_26 : decode cX7_light 26 = .ok (.iconst 3, 1) := by decide +kernel
theorem dX7_light_27 : decode cX7_light 27 = .ok (.invokestatic 68, 3) := by decide +kernel
theorem dX7_light_30 : decode cX7_light 30 = .ok (.ifCond .ne 6, 3) := by decide +kernel
theorem dX7_light_33 : decode cX7_light 33 = .ok (.bipush (-2), 2) := by decide +kernel
theorem dX7_light_35 : decode cX7_light 35 = .ok (.ireturn, 1) := by decide +kernel
theorem dX7_light_36 : decode cX7_light 36 = .ok (.aload_n 0, 1) := by decide +kernel
theorem dX7_light_37 : decode cX7_light 37 = .ok (.iload_n 1, 1) := by decide +kernel
theorem dX7_light_38 : decode cX7_light 38 = .ok (.iload_n 2, 1) := by decide +kernel
theorem dX7_light_39 : decode cX7_light 39 = .ok (.iconst 4, 1) := by decide +kernel
theorem dX7_light_40 : decode cX7_light 40 = .ok (.iload_n 3, 1) := by decide +kernel
theorem dX7_light_41 : decode cX7_light 41 = .ok (.imul, 1) := by decide +kernel
theorem dX7_light_42 : decode cX7_light 42 = .ok (.iload 4, 2) := by decide +kernel
theorem dX7_light_44 : decode cX7_light 44 = .ok (.iadd, 1) := by decide +kernel
theorem dX7_light_45 : decode cX7_light 45 = .ok (.invokevirtual 123, 3) := by decide +kernel
theorem dX7_light_48 : decode cX7_light 48 = .ok (.ireturn, 1) := by decide +kernel
set_option maxRecDepth 20000 in
theorem ggX7_lead_X7_within : GoodIn wsX7_lead wsX7_within := goodIn_r _ [6] (by decide +kernel) (by decide +kernel)
set_option maxRecDepth 20000 in
theorem gX7_lead_X7_within : GoodIn wsX7_lead (va_wsS RX7 68 yX7_within wsX7_within) := goodIn_app (goodIn_of _ (by decide +kernel)) ggX7_lead_X7_within
theorem dX7_lead_0 : decode cX7_lead 0 = .ok (.iload_n 1, 1) := by decide +kernel
theorem dX7_lead_1 : decode cX7_lead 1 = .ok (.iconst 1, 1) := by decide +kernel
theorem dX7_lead_2 : decode cX7_lead 2 = .ok (.iconst 2, 1) := by decide +kernel
theorem dX7_lead_3 : decode cX7_lead 3 = .ok (.invokestatic 68, 3) := by decide +kernel
theorem dX7_lead_6 : decode cX7_lead 6 = .ok (.ifCond .ne 5, 3) := by decide +kernel
theorem dX7_lead_9 : decode cX7_lead 9 = .ok (.iconst (-1), 1) := by decide +kernel
theorem dX7_lead_10 : decode cX7_lead 10 = .ok (.ireturn, 1) := by decide +kernel
theorem dX7_lead_11 : decode cX7_lead 11 = .ok (.iload_n 2, 1) := by decide +kernel
theorem dX7_lead_12 : decode cX7_lead 12 = .ok (.iconst 0, 1) := by decide +kernel
theorem dX7_lead_13 : decode cX7_lead 13 = .ok (.bipush 15, 2) := by decide +kernel
theorem dX7_lead_15 : decode cX7_lead 15 = .ok (.invokestatic 68, 3) := by decide +kernel
theorem dX7_lead_18 : decode cX7_lead 18 = .ok (.ifCond .ne 6, 3) := by decide +kernel
theorem dX7_lead_21 : decode cX7_lead 21 = .ok (.bipush (-2), 2) := by decide +kernel
theorem dX7_lead_23 : decode cX7_lead 23 = .ok (.ireturn, 1) := by decide +kernel
theorem dX7_lead_24 : decode cX7_lead 24 = .ok (.aload_n 0, 1) := by decide +kernel
theorem dX7_lead_25 : decode cX7_lead 25 = .ok (.getfield 83, 3) := by decide +kernel
theorem dX7_lead_28 : decode cX7_lead 28 = .ok (.ifCond .eq 6, 3) := by decide +kernel
theorem dX7_lead_31 : decode cX7_lead 31 = .ok (.bipush (-3), 2) := by decide +kernel
theorem dX7_lead_33 : decode cX7_lead 33 = .ok (.ireturn, 1) := by decide +kernel
theorem dX7_lead_34 : decode cX7_lead 34 = .ok (.aload_n 0, 1) := by decide +kernel
theorem dX7_lead_35 : decode cX7_lead 35 = .ok (.getfield 47, 3) := by decide +kernel
theorem dX7_lead_38 : decode cX7_lead 38 = .ok (.iload_n 1, 1) := by decide +kernel
theorem dX7_lead_39 : decode cX7_lead 39 = .ok (.iaload, 1) := by decide +kernel
theorem dX7_lead_40 : decode cX7_lead 40 = .ok (.istore_n 3, 1) := by decide +kernel
theorem dX7_lead_41 : decode cX7_lead 41 = .ok (.aload_n 0, 1) := by decide +kernel
theorem dX7_lead_42 : decode cX7_lead 42 = .ok (.getfield 47, 3) := by decide +kernel
theorem dX7_lead_45 : decode cX7_lead 45 = .ok (.iload_n 1, 1) := by decide +kernel
theorem dX7_lead_46 : decode cX7_lead 46 = .ok (.iload_n 2, 1) := by decide +kernel
theorem dX7_lead_47 : decode cX7_lead 47 = .ok (.iastore, 1) := by decide +kernel
theorem dX7_lead_48 : decode cX7_lead 48 = .ok (.iload_n 3, 1) := by decide +kernel
theorem dX7_lead_49 : decode cX7_lead 49 = .ok (.ireturn, 1) := by decide +kernel
set_option maxRecDepth 20000 in
theorem ggX7_isStep_X7_within : GoodIn wsX7_isStep wsX7_within := goodIn_r _ [4] (by decide +kernel) (by decide +kernel)
set_option maxRecDepth 20000 in
theorem gX7_isStep_X7_within : GoodIn wsX7_isStep (va_wsS RX7 68 yX7_within wsX7_within) := goodIn_app (goodIn_of _ (by decide +kernel)) ggX7_isStep_X7_within
theorem dX7_isStep_0 : decode cX7_isStep 0 = .ok (.iload_n 0, 1) := by decide +kernel
theorem dX7_isStep_1 : decode cX7_isStep 1 = .ok (.tableswitch 53 0 3 #[31, 44, 33, 44], 31) := by decide +kernel
theorem dX7_isStep_32 : decode cX7_isStep 32 = .ok (.iconst 1, 1) := by decide +kernel
theorem dX7_isStep_33 : decode cX7_isStep 33 = .ok (.ireturn, 1) := by decide +kernel
theorem dX7_isStep_34 : decode cX7_isStep 34 = .ok (.iload_n 1, 1) := by decide +kernel
theorem dX7_isStep_35 : decode cX7_isStep 35 = .ok (.sipush (-255), 3) := by decide +kernel
theorem dX7_isStep_38 : decode cX7_isStep 38 = .ok (.sipush 255, 3) := by decide +kernel
theorem dX7_isStep_41 : decode cX7_isStep 41 = .ok (.invokestatic 68, 3) := by decide +kernel
theorem dX7_isStep_44 : decode cX7_isStep 44 = .ok (.ireturn, 1) := by decide +kernel
theorem dX7_isStep_45 : decode cX7_isStep 45 = .ok (.iload_n 1, 1) := by decide +kernel
theorem dX7_isStep_46 : decode cX7_isStep 46 = .ok (.iconst 0, 1) := by decide +kernel
theorem dX7_isStep_47 : decode cX7_isStep 47 = .ok (.sipush 255, 3) := by decide +kernel
theorem dX7_isStep_50 : decode cX7_isStep 50 = .ok (.invokestatic 68, 3) := by decide +kernel
theorem dX7_isStep_53 : decode cX7_isStep 53 = .ok (.ireturn, 1) := by decide +kernel
theorem dX7_isStep_54 : decode cX7_isStep 54 = .ok (.iconst 0, 1) := by decide +kernel
theorem dX7_isStep_55 : decode cX7_isStep 55 = .ok (.ireturn, 1) := by decide +kernel
set_option maxRecDepth 20000 in
theorem ggX7_pipe_X7_isStep : GoodIn wsX7_pipe wsX7_isStep := goodIn_r _ [8, 9, 10, 7, 11] (by decide +kernel) (by decide +kernel)
set_option maxRecDepth 20000 in
theorem gX7_pipe_X7_isStep : GoodIn wsX7_pipe (va_wsS RX7 126 yX7_isStep wsX7_isStep) := goodIn_app (goodIn_of _ (by decide +kernel)) ggX7_pipe_X7_isStep
theorem dX7_pipe_0 : decode cX7_pipe 0 = .ok (.iload_n 1, 1) := by decide +kernel
theorem dX7_pipe_1 : decode cX7_pipe 1 = .ok (.iload_n 2, 1) := by decide +kernel
theorem dX7_pipe_2 : decode cX7_pipe 2 = .ok (.invokestatic 126, 3) := by decide +kernel
theorem dX7_pipe_5 : decode cX7_pipe 5 = .ok (.ifCond .ne 6, 3) := by decide +kernel
theorem dX7_pipe_8 : decode cX7_pipe 8 = .ok (.bipush (-2), 2) := by decide +kernel
theorem dX7_pipe_10 : decode cX7_pipe 10 = .ok (.ireturn, 1) := by decide +kernel
theorem dX7_pipe_11 : decode cX7_pipe 11 = .ok (.aload_n 0, 1) := by decide +kernel
theorem dX7_pipe_12 : decode cX7_pipe 12 = .ok (.getfield 83, 3) := by decide +kernel
theorem dX7_pipe_15 : decode cX7_pipe 15 = .ok (.ifCond .eq 6, 3) := by decide +kernel
theorem dX7_pipe_18 : decode cX7_pipe 18 = .ok (.bipush (-3), 2) := by decide +kernel
theorem dX7_pipe_20 : decode cX7_pipe 20 = .ok (.ireturn, 1) := by decide +kernel
theorem dX7_pipe_21 : decode cX7_pipe 21 = .ok (.aload_n 0, 1) := by decide +kernel
theorem dX7_pipe_22 : decode cX7_pipe 22 = .ok (.getfield 129, 3) := by decide +kernel
theorem dX7_pipe_25 : decode cX7_pipe 25 = .ok (.iconst 4, 1) := by decide +kernel
theorem dX7_pipe_26 : decode cX7_pipe 26 = .ok (.if_icmp .ne 6, 3) := by decide +kernel
theorem dX7_pipe_29 : decode cX7_pipe 29 = .ok (.bipush (-4), 2) := by decide +kernel
theorem dX7_pipe_31 : decode cX7_pipe 31 = .ok (.ireturn, 1) := by decide +kernel
theorem dX7_pipe_32 : decode cX7_pipe 32 = .ok (.aload_n 0, 1) := by decide +kernel
theorem dX7_pipe_33 : decode cX7_pipe 33 = .ok (.getfield 50, 3) := by decide +kernel
theorem dX7_pipe_36 : decode cX7_pipe 36 = .ok (.aload_n 0, 1) := by decide +kernel
theorem dX7_pipe_37 : decode cX7_pipe 37 = .ok (.getfield 129, 3) := by decide +kernel
theorem dX7_pipe_40 : decode cX7_pipe 40 = .ok (.iload_n 1, 1) := by decide +kernel
theorem dX7_pipe_41 : decode cX7_pipe 41 = .ok (.iastore, 1) := by decide +kernel
theorem dX7_pipe_42 : decode cX7_pipe 42 = .ok (.aload_n 0, 1) := by decide +kernel
theorem dX7_pipe_43 : decode cX7_pipe 43 = .ok (.getfield 53, 3) := by decide +kernel
theorem dX7_pipe_46 : decode cX7_pipe 46 = .ok (.aload_n 0, 1) := by decide +kernel
theorem dX7_pipe_47 : decode cX7_pipe 47 = .ok (.getfield 129, 3) := by decide +kernel
theorem dX7_pipe_50 : decode cX7_pipe 50 = .ok (.iload_n 2, 1) := by decide +kernel
theorem dX7_pipe_51 : decode cX7_pipe 51 = .ok (.iastore, 1) := by decide +kernel
theorem dX7_pipe_52 : decode cX7_pipe 52 = .ok (.aload_n 0, 1) := by decide +kernel
theorem dX7_pipe_53 : decode cX7_pipe 53 = .ok (.dup, 1) := by decide +kernel
theorem dX7_pipe_54 : decode cX7_pipe 54 = .ok (.getfield 129, 3) := by decide +kernel
theorem dX7_pipe_57 : decode cX7_pipe 57 = .ok (.iconst 1, 1) := by decide +kernel
theorem dX7_pipe_58 : decode cX7_pipe 58 = .ok (.iadd, 1) := by decide +kernel
theorem dX7_pipe_59 : decode cX7_pipe 59 = .ok (.putfield 129, 3) := by decide +kernel
theorem dX7_pipe_62 : decode cX7_pipe 62 = .ok (.aload_n 0, 1) := by decide +kernel
theorem dX7_pipe_63 : decode cX7_pipe 63 = .ok (.getfield 129, 3) := by decide +kernel
theorem dX7_pipe_66 : decode cX7_pipe 66 = .ok (.ireturn, 1) := by decide +kernel
set_option maxRecDepth 20000 in
theorem ggX7_unpipe_X7_within : GoodIn wsX7_unpipe wsX7_within := goodIn_r _ [8] (by decide +kernel) (by decide +kernel)
set_option maxRecDepth 20000 in
theorem gX7_unpipe_X7_within : GoodIn wsX7_unpipe (va_wsS RX7 68 yX7_within wsX7_within) := goodIn_app (goodIn_of _ (by decide +kernel)) ggX7_unpipe_X7_within
theorem dX7_unpipe_0 : decode cX7_unpipe 0 = .ok (.iload_n 1, 1) := by decide +kernel
theorem dX7_unpipe_1 : decode cX7_unpipe 1 = .ok (.iconst 0, 1) := by decide +kernel
theorem dX7_unpipe_2 : decode cX7_unpipe 2 = .ok (.aload_n 0, 1) := by decide +kernel
theorem dX7_unpipe_3 : decode cX7_unpipe 3 = .ok (.getfield 129, 3) := by decide +kernel
theorem dX7_unpipe_6 : decode cX7_unpipe 6 = .ok (.iconst 1, 1) := by decide +kernel
theorem dX7_unpipe_7 : decode cX7_unpipe 7 = .ok (.isub, 1) := by decide +kernel
theorem dX7_unpipe_8 : decode cX7_unpipe 8 = .ok (.invokestatic 68, 3) := by decide +kernel
theorem dX7_unpipe_11 : decode cX7_unpipe 11 = .ok (.ifCond .ne 5, 3) := by decide +kernel
theorem dX7_unpipe_14 : decode cX7_unpipe 14 = .ok (.iconst (-1), 1) := by decide +kernel
theorem dX7_unpipe_15 : decode cX7_unpipe 15 = .ok (.ireturn, 1) := by decide +kernel
theorem dX7_unpipe_16 : decode cX7_unpipe 16 = .ok (.aload_n 0, 1) := by decide +kernel
theorem dX7_unpipe_17 : decode cX7_unpipe 17 = .ok (.getfield 83, 3) := by decide +kernel
theorem dX7_unpipe_20 : decode cX7_unpipe 20 = .ok (.ifCond .eq 6, 3) := by decide +kernel
theorem dX7_unpipe_23 : decode cX7_unpipe 23 = .ok (.bipush (-3), 2) := by decide +kernel
theorem dX7_unpipe_25 : decode cX7_unpipe 25 = .ok (.ireturn, 1) := by decide +kernel
theorem dX7_unpipe_26 : decode cX7_unpipe 26 = .ok (.aload_n 0, 1) := by decide +kernel
theorem dX7_unpipe_27 : decode cX7_unpipe 27 = .ok (.dup, 1) := by decide +kernel
theorem dX7_unpipe_28 : decode cX7_unpipe 28 = .ok (.getfield 129, 3) := by decide +kernel
theorem dX7_unpipe_31 : decode cX7_unpipe 31 = .ok (.iconst 1, 1) := by decide +kernel
theorem dX7_unpipe_32 : decode cX7_unpipe 32 = .ok (.isub, 1) := by decide +kernel
theorem dX7_unpipe_33 : decode cX7_unpipe 33 = .ok (.putfield 129, 3) := by decide +kernel
theorem dX7_unpipe_36 : decode cX7_unpipe 36 = .ok (.iload_n 1, 1) := by decide +kernel
theorem dX7_unpipe_37 : decode cX7_unpipe 37 = .ok (.istore_n 2, 1) := by decide +kernel
theorem dX7_unpipe_38 : decode cX7_unpipe 38 = .ok (.iload_n 2, 1) := by decide +kernel
theorem dX7_unpipe_39 : decode cX7_unpipe 39 = .ok (.aload_n 0, 1) := by decide +kernel
theorem dX7_unpipe_40 : decode cX7_unpipe 40 = .ok (.getfield 129, 3) := by decide +kernel
theorem dX7_unpipe_43 : decode cX7_unpipe 43 = .ok (.if_icmp .ge 37, 3) := by decide +kernel
theorem dX7_unpipe_46 : decode cX7_unpipe 46 = .ok (.aload_n 0, 1) := by decide +kernel
theorem dX7_unpipe_47 : decode cX7_unpipe 47 = .ok (.getfield 50, 3) := by decide +kernel
theorem dX7_unpipe_50 : decode cX7_unpipe 50 = .ok (.iload_n 2, 1) := by decide +kernel
theorem dX7_unpipe_51 : decode cX7_unpipe 51 = .ok (.aload_n 0, 1) := by decide +kernel
theorem dX7_unpipe_52 : decode cX7_unpipe 52 = .ok (.getfield 50, 3) := by decide +kernel
theorem dX7_unpipe_55 : decode cX7_unpipe 55 = .ok (.iload_n 2, 1) := by decide +kernel
theorem dX7_unpipe_56 : decode cX7_unpipe 56 = .ok (.iconst 1, 1) := by decide +kernel
theorem dX7_unpipe_57 : decode cX7_unpipe 57 = .ok (.iadd, 1) := by decide +kernel
theorem dX7_unpipe_58 : decode cX7_unpipe 58 = .ok (.iaload, 1) := by decide +kernel
theorem dX7_unpipe_59 : decode cX7_unpipe 59 = .ok (.iastore, 1) := by decide +kernel
theorem dX7_unpipe_60 : decode cX7_unpipe 60 = .ok (.aload_n 0, 1) := by decide +kernel
theorem dX7_unpipe_61 : decode cX7_unpipe 61 = .ok (.getfield 53, 3) := by decide +kernel
theorem dX7_unpipe_64 : decode cX7_unpipe 64 = .ok (.iload_n 2, 1) := by decide +kernel
theorem dX7_unpipe_65 : decode cX7_unpipe 65 = .ok (.aload_n 0, 1) := by decide +kernel
theorem dX7_unpipe_66 : decode cX7_unpipe 66 = .ok (.getfield 53, 3) := by decide +kernel
theorem dX7_unpipe_69 : decode cX7_unpipe 69 = .ok (.iload_n 2, 1) := by decide +kernel
theorem dX7_unpipe_70 : decode cX7_unpipe 70 = .ok (.iconst 1, 1) := by decide +kernel
theorem dX7_unpipe_71 : decode cX7_unpipe 71 = .ok (.iadd, 1) := by decide +kernel
theorem dX7_unpipe_72 : decode cX7_unpipe 72 = .ok (.iaload, 1) := by decide +kernel
theorem dX7_unpipe_73 : decode cX7_unpipe 73 = .ok (.iastore, 1) := by decide +kernel
theorem dX7_unpipe_74 : decode cX7_unpipe 74 = .ok (.iinc 2 1, 3) := by decide +kernel
theorem dX7_unpipe_77 : decode cX7_unpipe 77 = .ok (.goto (-39), 3) := by decide +kernel
theorem dX7_unpipe_80 : decode cX7_unpipe 80 = .ok (.aload_n 0, 1) := by decide +kernel
theorem dX7_unpipe_81 : decode cX7_unpipe 81 = .ok (.getfield 129, 3) := by decide +kernel
theorem dX7_unpipe_84 : decode cX7_unpipe 84 = .ok (.ireturn, 1) := by decide +kernel
set_option maxRecDepth 20000 in
theorem ggX7_pipedOf_X7_atMost : GoodIn wsX7_pipedOf wsX7_atMost := goodIn_r _ [7] (by decide +kernel) (by decide +kernel)
set_option maxRecDepth 20000 in
theorem gX7_pipedOf_X7_atMost : GoodIn wsX7_pipedOf (va_wsS RX7 87 yX7_atMost wsX7_atMost) := goodIn_app (goodIn_of _ (by decide +kernel)) ggX7_pipedOf_X7_atMost
set_option maxRecDepth 20000 in
theorem ggX7_pipedOf_X7_atLeast : GoodIn wsX7_pipedOf wsX7_atLeast := goodIn_r _ [10] (by decide +kernel) (by decide +kernel)
set_option maxRecDepth 20000 in
theorem gX7_pipedOf_X7_atLeast : GoodIn wsX7_pipedOf (va_wsS RX7 120 yX7_atLeast wsX7_atLeast) := goodIn_app (goodIn_of _ (by decide +kernel)) ggX7_pipedOf_X7_atLeast
theorem dX7_pipedOf_0 : decode cX7_pipedOf 0 = .ok (.iload_n 1, 1) := by decide +kernel
theorem dX7_pipedOf_1 : decode cX7_pipedOf 1 = .ok (.istore_n 2, 1) := by decide +kernel
theorem dX7_pipedOf_2 : decode cX7_pipedOf 2 = .ok (.iconst 0, 1) := by decide +kernel
theorem dX7_pipedOf_3 : decode cX7_pipedOf 3 = .ok (.istore_n 3, 1) := by decide +kernel
theorem dX7_pipedOf_4 : decode cX7_pipedOf 4 = .ok (.iload_n 3, 1) := by decide +kernel
theorem dX7_pipedOf_5 : decode cX7_pipedOf 5 = .ok (.aload_n 0, 1) := by decide +kernel
theorem dX7_pipedOf_6 : decode cX7_pipedOf 6 = .ok (.getfield 129, 3) := by decide +kernel
theorem dX7_pipedOf_9 : decode cX7_pipedOf 9 = .ok (.if_icmp .ge 107, 3) := by decide +kernel
theorem dX7_pipedOf_12 : decode cX7_pipedOf 12 = .ok (.aload_n 0, 1) := by decide +kernel
theorem dX7_pipedOf_13 : decode cX7_pipedOf 13 = .ok (.getfield 53, 3) := by decide +kernel
theorem dX7_pipedOf_16 : decode cX7_pipedOf 16 = .ok (.iload_n 3, 1) := by decide +kernel
theorem dX7_pipedOf_17 : decode cX7_pipedOf 17 = .ok (.iaload, 1) := by decide +kernel
theorem dX7_pipedOf_18 : decode cX7_pipedOf 18 = .ok (.istore 4, 2) := by decide +kernel
theorem dX7_pipedOf_20 : decode cX7_pipedOf 20 = .ok (.aload_n 0, 1) := by decide +kernel
theorem dX7_pipedOf_21 : decode cX7_pipedOf 21 = .ok (.getfield 50, 3) := by decide +kernel
theorem dX7_pipedOf_24 : decode cX7_pipedOf 24 = .ok (.iload_n 3, 1) := by decide +kernel
theorem dX7_pipedOf_25 : decode cX7_pipedOf 25 = .ok (.iaload, 1) := by decide +kernel
theorem dX7_pipedOf_26 : decode cX7_pipedOf 26 = .ok (.tableswitch 70 0 2 #[26, 35, 52], 26) := by decide +kernel
theorem dX7_pipedOf_52 : decode cX7_pipedOf 52 = .ok (.sipush 255, 3) := by decide +kernel
theorem dX7_pipedOf_55 : decode cX7_pipedOf 55 = .ok (.iload_n 2, 1) := by decide +kernel
theorem dX7_pipedOf_56 : decode cX7_pipedOf 56 = .ok (.isub, 1) := by decide +kernel
theorem dX7_pipedOf_57 : decode cX7_pipedOf 57 = .ok (.istore_n 2, 1) := by decide +kernel
theorem dX7_pipedOf_58 : decode cX7_pipedOf 58 = .ok (.goto 52, 3) := by decide +kernel
theorem dX7_pipedOf_61 : decode cX7_pipedOf 61 = .ok (.iload 4, 2) := by decide +kernel
theorem dX7_pipedOf_63 : decode cX7_pipedOf 63 = .ok (.iload_n 2, 1) := by decide +kernel
theorem dX7_pipedOf_64 : decode cX7_pipedOf 64 = .ok (.imul, 1) := by decide +kernel
theorem dX7_pipedOf_65 : decode cX7_pipedOf 65 = .ok (.bipush 16, 2) := by decide +kernel
theorem dX7_pipedOf_67 : decode cX7_pipedOf 67 = .ok (.idiv, 1) := by decide +kernel
theorem dX7_pipedOf_68 : decode cX7_pipedOf 68 = .ok (.sipush 255, 3) := by decide +kernel
theorem dX7_pipedOf_71 : decode cX7_pipedOf 71 = .ok (.invokestatic 87, 3) := by decide +kernel
theorem dX7_pipedOf_74 : decode cX7_pipedOf 74 = .ok (.istore_n 2, 1) := by decide +kernel
theorem dX7_pipedOf_75 : decode cX7_pipedOf 75 = .ok (.goto 35, 3) := by decide +kernel
theorem dX7_pipedOf_78 : decode cX7_pipedOf 78 = .ok (.iload_n 2, 1) := by decide +kernel
theorem dX7_pipedOf_79 : decode cX7_pipedOf 79 = .ok (.iload 4, 2) := by decide +kernel
theorem dX7_pipedOf_81 : decode cX7_pipedOf 81 = .ok (.iadd, 1) := by decide +kernel
theorem dX7_pipedOf_82 : decode cX7_pipedOf 82 = .ok (.sipush 255, 3) := by decide +kernel
theorem dX7_pipedOf_85 : decode cX7_pipedOf 85 = .ok (.invokestatic 87, 3) := by decide +kernel
theorem dX7_pipedOf_88 : decode cX7_pipedOf 88 = .ok (.iconst 0, 1) := by decide +kernel
theorem dX7_pipedOf_89 : decode cX7_pipedOf 89 = .ok (.invokestatic 120, 3) := by decide +kernel
theorem dX7_pipedOf_92 : decode cX7_pipedOf 92 = .ok (.istore_n 2, 1) := by decide +kernel
theorem dX7_pipedOf_93 : decode cX7_pipedOf 93 = .ok (.goto 17, 3) := by decide +kernel
theorem dX7_pipedOf_96 : decode cX7_pipedOf 96 = .ok (.iload_n 2, 1) := by decide +kernel
theorem dX7_pipedOf_97 : decode cX7_pipedOf 97 = .ok (.iload 4, 2) := by decide +kernel
theorem dX7_pipedOf_99 : decode cX7_pipedOf 99 = .ok (.if_icmp .lt 9, 3) := by decide +kernel
theorem dX7_pipedOf_102 : decode cX7_pipedOf 102 = .ok (.sipush 255, 3) := by decide +kernel
theorem dX7_pipedOf_105 : decode cX7_pipedOf 105 = .ok (.goto 4, 3) := by decide +kernel
theorem dX7_pipedOf_108 : decode cX7_pipedOf 108 = .ok (.iconst 0, 1) := by decide +kernel
theorem dX7_pipedOf_109 : decode cX7_pipedOf 109 = .ok (.istore_n 2, 1) := by decide +kernel
theorem dX7_pipedOf_110 : decode cX7_pipedOf 110 = .ok (.iinc 3 1, 3) := by decide +kernel
theorem dX7_pipedOf_113 : decode cX7_pipedOf 113 = .ok (.goto (-109), 3) := by decide +kernel
theorem dX7_pipedOf_116 : decode cX7_pipedOf 116 = .ok (.iload_n 2, 1) := by decide +kernel
theorem dX7_pipedOf_117 : decode cX7_pipedOf 117 = .ok (.ireturn, 1) := by decide +kernel
set_option maxRecDepth 20000 in
theorem ggX7_piped_X7_within : GoodIn wsX7_piped wsX7_within := goodIn_r _ [4] (by decide +kernel) (by decide +kernel)
set_option maxRecDepth 20000 in
theorem gX7_piped_X7_within : GoodIn wsX7_piped (va_wsS RX7 68 yX7_within wsX7_within) := goodIn_app (goodIn_of _ (by decide +kernel)) ggX7_piped_X7_within
set_option maxRecDepth 20000 in
theorem ggX7_piped_X7_pipedOf : GoodIn wsX7_piped wsX7_pipedOf := goodIn_r _ [8, 9, 10, 11, 12, 13, 3, 14, 15, 16, 17, 18, 19, 20, 21, 22, 23, 24, 25, 26, 27, 28, 29, 30, 31, 32, 33, 34, 35, 36, 37, 38, 39, 40, 41, 42, 43, 44, 45, 46, 47] (by decide +kernel) (by decide +kernel)
set_option maxRecDepth 20000 in
theorem gX7_piped_X7_pipedOf : GoodIn wsX7_piped (wsV RX7 132 RX7 yX7_pipedOf wsX7_pipedOf) := goodIn_app (goodIn_of _ (by decide +kernel)) ggX7_piped_X7_pipedOf
theorem dX7_piped_0 : decode cX7_piped 0 = .ok (.iload_n 1, 1) := by decide +kernel
theorem dX7_piped_1 : decode cX7_piped 1 = .ok (.iconst 0, 1) := by decide +kernel
theorem dX7_piped_2 : decode cX7_piped 2 = .ok (.sipush 255, 3) := by decide +kernel
theorem dX7_piped_5 : decode cX7_piped 5 = .ok (.invokestatic 68, 3) := by decide +kernel
theorem dX7_piped_8 : decode cX7_piped 8 = .ok (.ifCond .eq 11, 3) := by decide +kernel
theorem dX7_piped_11 : decode cX7_piped 11 = .ok (.aload_n 0, 1) := by decide +kernel
theorem dX7_piped_12 : decode cX7_piped 12 = .ok (.iload_n 1, 1) := by decide +kernel
theorem dX7_piped_13 : decode cX7_piped 13 = .ok (.invokevirtual 132, 3) := by decide +kernel
theorem dX7_piped_16 : decode cX7_piped 16 = .ok (.goto 5, 3) := by decide +kernel
theorem dX7_piped_19 : decode cX7_piped 19 = .ok (.bipush (-2), 2) := by decide +kernel
theorem dX7_piped_21 : decode cX7_piped 21 = .ok (.ireturn, 1) := by decide +kernel
set_option maxRecDepth 20000 in
theorem ggX7_threshold_X7_within : GoodIn wsX7_threshold wsX7_within := goodIn_r _ [6] (by decide +kernel) (by decide +kernel)
set_option maxRecDepth 20000 in
theorem gX7_threshold_X7_within : GoodIn wsX7_threshold (va_wsS RX7 68 yX7_within wsX7_within) := goodIn_app (goodIn_of _ (by decide +kernel)) ggX7_threshold_X7_within
theorem dX7_threshold_0 : decode cX7_threshold 0 = .ok (.iload_n 1, 1) := by decide +kernel
theorem dX7_threshold_1 : decode cX7_threshold 1 = .ok (.iconst 0, 1) := by decide +kernel
theorem dX7_threshold_2 : decode cX7_threshold 2 = .ok (.sipush 256, 3) := by decide +kernel
theorem dX7_threshold_5 : decode cX7_threshold 5 = .ok (.invokestatic 68, 3) := by decide +kernel
theorem dX7_threshold_8 : decode cX7_threshold 8 = .ok (.ifCond .ne 6, 3) := by decide +kernel
theorem dX7_threshold_11 : decode cX7_threshold 11 = .ok (.bipush (-2), 2) := by decide +kernel
theorem dX7_threshold_13 : decode cX7_threshold 13 = .ok (.ireturn, 1) := by decide +kernel
theorem dX7_threshold_14 : decode cX7_threshold 14 = .ok (.aload_n 0, 1) := by decide +kernel
theorem dX7_threshold_15 : decode cX7_threshold 15 = .ok (.getfield 83, 3) := by decide +kernel
theorem dX7_threshold_18 : decode cX7_threshold 18 = .ok (.ifCond .eq 6, 3) := by decide +kernel
theorem dX7_threshold_21 : decode cX7_threshold 21 = .ok (.bipush (-3), 2) := by decide +kernel
theorem dX7_threshold_23 : decode cX7_threshold 23 = .ok (.ireturn, 1) := by decide +kernel
theorem dX7_threshold_24 : decode cX7_threshold 24 = .ok (.aload_n 0, 1) := by decide +kernel
theorem dX7_threshold_25 : decode cX7_threshold 25 = .ok (.getfield 56, 3) := by decide +kernel
theorem dX7_threshold_28 : decode cX7_threshold 28 = .ok (.istore_n 2, 1) := by decide +kernel
theorem dX7_threshold_29 : decode cX7_threshold 29 = .ok (.aload_n 0, 1) := by decide +kernel
theorem dX7_threshold_30 : decode cX7_threshold 30 = .ok (.iload_n 1, 1) := by decide +kernel
theorem dX7_threshold_31 : decode cX7_threshold 31 = .ok (.putfield 56, 3) := by decide +kernel
theorem dX7_threshold_34 : decode cX7_threshold 34 = .ok (.iload_n 2, 1) := by decide +kernel
theorem dX7_threshold_35 : decode cX7_threshold 35 = .ok (.ireturn, 1) := by decide +kernel
set_option maxRecDepth 20000 in
theorem ggX7_nearest_X7_isColumn : GoodIn wsX7_nearest wsX7_isColumn := goodIn_r _ [4, 5, 6, 3, 7] (by decide +kernel) (by decide +kernel)
set_option maxRecDepth 20000 in
theorem gX7_nearest_X7_isColumn : GoodIn wsX7_nearest (va_wsS RX7 76 yX7_isColumn wsX7_isColumn) := goodIn_app (goodIn_of _ (by decide +kernel)) ggX7_nearest_X7_isColumn
set_option maxRecDepth 20000 in
theorem ggX7_nearest_X7_isLive : GoodIn wsX7_nearest wsX7_isLive := goodIn_r _ [11, 12, 13, 14, 15, 16, 17, 18, 19, 20, 21, 22, 23, 24, 25, 26, 27, 28, 29, 30, 31, 32, 33, 34, 35, 36, 37, 38, 39, 40, 41, 42, 43] (by decide +kernel) (by decide +kernel)
set_option maxRecDepth 20000 in
theorem gX7_nearest_X7_isLive : GoodIn wsX7_nearest (wsV RX7 91 RX7 yX7_isLive wsX7_isLive) := goodIn_app (goodIn_of _ (by decide +kernel)) ggX7_nearest_X7_isLive
theorem dX7_nearest_0 : decode cX7_nearest 0 = .ok (.iload_n 2, 1) := by decide +kernel
theorem dX7_nearest_1 : decode cX7_nearest 1 = .ok (.istore 4, 2) := by decide +kernel
theorem dX7_nearest_3 : decode cX7_nearest 3 = .ok (.iload 4, 2) := by decide +kernel
theorem dX7_nearest_5 : decode cX7_nearest 5 = .ok (.invokestatic 76, 3) := by decide +kernel
theorem dX7_nearest_8 : decode cX7_nearest 8 = .ok (.ifCond .eq 29, 3) := by decide +kernel
theorem dX7_nearest_11 : decode cX7_nearest 11 = .ok (.aload_n 0, 1) := by decide +kernel
theorem dX7_nearest_12 : decode cX7_nearest 12 = .ok (.bipush 12, 2) := by decide +kernel
theorem dX7_nearest_14 : decode cX7_nearest 14 = .ok (.iload_n 1, 1) := by decide +kernel
theorem dX7_nearest_15 : decode cX7_nearest 15 = .ok (.imul, 1) := by decide +kernel
theorem dX7_nearest_16 : decode cX7_nearest 16 = .ok (.iload 4, 2) := by decide +kernel
theorem dX7_nearest_18 : decode cX7_nearest 18 = .ok (.iadd, 1) := by decide +kernel
theorem dX7_nearest_19 : decode cX7_nearest 19 = .ok (.invokevirtual 91, 3) := by decide +kernel
theorem dX7_nearest_22 : decode cX7_nearest 22 = .ok (.ifCond .eq 6, 3) := by decide +kernel
theorem dX7_nearest_25 : decode cX7_nearest 25 = .ok (.iload 4, 2) := by decide +kernel
theorem dX7_nearest_27 : decode cX7_nearest 27 = .ok (.ireturn, 1) := by decide +kernel
theorem dX7_nearest_28 : decode cX7_nearest 28 = .ok (.iload 4, 2) := by decide +kernel
theorem dX7_nearest_30 : decode cX7_nearest 30 = .ok (.iload_n 3, 1) := by decide +kernel
theorem dX7_nearest_31 : decode cX7_nearest 31 = .ok (.iadd, 1) := by decide +kernel
theorem dX7_nearest_32 : decode cX7_nearest 32 = .ok (.istore 4, 2) := by decide +kernel
theorem dX7_nearest_34 : decode cX7_nearest 34 = .ok (.goto (-31), 3) := by decide +kernel
theorem dX7_nearest_37 : decode cX7_nearest 37 = .ok (.bipush (-9), 2) := by decide +kernel
theorem dX7_nearest_39 : decode cX7_nearest 39 = .ok (.ireturn, 1) := by decide +kernel
set_option maxRecDepth 20000 in
theorem ggX7_liveValue_X7_lightAt : GoodIn wsX7_liveValue wsX7_lightAt := goodIn_r _ [6, 7, 8, 9, 5, 10, 11, 12, 13, 14, 15, 16, 17, 18, 19, 20, 21, 22, 23, 24, 25, 26, 27, 28, 29, 30, 31, 32, 33, 34, 35, 51, 52, 53, 54, 55, 56, 57, 58, 59, 60, 61, 62, 63, 64, 65, 66, 67, 68, 69, 70, 71, 72, 73, 74, 75, 76, 77, 78, 79, 80] (by decide +kernel) (by decide +kernel)
set_option maxRecDepth 20000 in
theorem gX7_liveValue_X7_lightAt : GoodIn wsX7_liveValue (wsV RX7 123 RX7 yX7_lightAt wsX7_lightAt) := goodIn_app (goodIn_of _ (by decide +kernel)) ggX7_liveValue_X7_lightAt
set_option maxRecDepth 20000 in
theorem ggX7_liveValue_X7_readingOf : GoodIn wsX7_liveValue wsX7_readingOf := goodIn_r _ [39, 40, 41, 42, 43, 5, 44, 51, 52, 53, 54, 55, 56, 57, 58, 59, 60, 61, 62, 63, 64, 65, 66, 67, 68, 69, 70, 71, 72, 73, 74, 75, 76, 77, 78, 79, 80] (by decide +kernel) (by decide +kernel)
set_option maxRecDepth 20000 in
theorem gX7_liveValue_X7_readingOf : GoodIn wsX7_liveValue (wsV RX7 94 RX7 yX7_readingOf wsX7_readingOf) := goodIn_app (goodIn_of _ (by decide +kernel)) ggX7_liveValue_X7_readingOf
set_option maxRecDepth 20000 in
theorem ggX7_liveValue_X7_evenOf : GoodIn wsX7_liveValue wsX7_evenOf := goodIn_r _ [48, 49, 50, 30, 31, 5, 32, 42, 43, 44, 51, 52, 53, 54, 55, 56, 57, 58, 59, 60, 61, 62, 63, 64, 65, 66, 67, 68, 69, 70, 71, 72, 73, 74, 75, 76, 77, 78, 79, 80] (by decide +kernel) (by decide +kernel)
set_option maxRecDepth 20000 in
theorem gX7_liveValue_X7_evenOf : GoodIn wsX7_liveValue (wsV RX7 104 RX7 yX7_evenOf wsX7_evenOf) := goodIn_app (goodIn_of _ (by decide +kernel)) ggX7_liveValue_X7_evenOf
theorem dX7_liveValue_0 : decode cX7_liveValue 0 = .ok (.bipush 12, 2) := by decide +kernel
theorem dX7_liveValue_2 : decode cX7_liveValue 2 = .ok (.iload_n 1, 1) := by decide +kernel
theorem dX7_liveValue_3 : decode cX7_liveValue 3 = .ok (.imul, 1) := by decide +kernel
theorem dX7_liveValue_4 : decode cX7_liveValue 4 = .ok (.iload_n 2, 1) := by decide +kernel
theorem dX7_liveValue_5 : decode cX7_liveValue 5 = .ok (.iadd, 1) := by decide +kernel
theorem dX7_liveValue_6 : decode cX7_liveValue 6 = .ok (.istore 4, 2) := by decide +kernel
theorem dX7_liveValue_8 : decode cX7_liveValue 8 = .ok (.aload_n 0, 1) := by decide +kernel
theorem dX7_liveValue_9 : decode cX7_liveValue 9 = .ok (.iload 4, 2) := by decide +kernel
theorem dX7_liveValue_11 : decode cX7_liveValue 11 = .ok (.aload_n 0, 1) := by decide +kernel
theorem dX7_liveValue_12 : decode cX7_liveValue 12 = .ok (.iload 4, 2) := by decide +kernel
theorem dX7_liveValue_14 : decode cX7_liveValue 14 = .ok (.aload_n 0, 1) := by decide +kernel
theorem dX7_liveValue_15 : decode cX7_liveValue 15 = .ok (.iload_n 1, 1) := by decide +kernel
theorem dX7_liveValue_16 : decode cX7_liveValue 16 = .ok (.iload_n 2, 1) := by decide +kernel
theorem dX7_liveValue_17 : decode cX7_liveValue 17 = .ok (.iconst 4, 1) := by decide +kernel
theorem dX7_liveValue_18 : decode cX7_liveValue 18 = .ok (.iload_n 3, 1) := by decide +kernel
theorem dX7_liveValue_19 : decode cX7_liveValue 19 = .ok (.imul, 1) := by decide +kernel
theorem dX7_liveValue_20 : decode cX7_liveValue 20 = .ok (.aload_n 0, 1) := by decide +kernel
theorem dX7_liveValue_21 : decode cX7_liveValue 21 = .ok (.getfield 47, 3) := by decide +kernel
theorem dX7_liveValue_24 : decode cX7_liveValue 24 = .ok (.iload_n 1, 1) := by decide +kernel
theorem dX7_liveValue_25 : decode cX7_liveValue 25 = .ok (.iaload, 1) := by decide +kernel
theorem dX7_liveValue_26 : decode cX7_liveValue 26 = .ok (.isub, 1) := by decide +kernel
theorem dX7_liveValue_27 : decode cX7_liveValue 27 = .ok (.invokevirtual 123, 3) := by decide +kernel
theorem dX7_liveValue_30 : decode cX7_liveValue 30 = .ok (.invokevirtual 94, 3) := by decide +kernel
theorem dX7_liveValue_33 : decode cX7_liveValue 33 = .ok (.invokevirtual 104, 3) := by decide +kernel
theorem dX7_liveValue_36 : decode cX7_liveValue 36 = .ok (.ireturn, 1) := by decide +kernel
set_option maxRecDepth 20000 in
theorem ggX7_valueAt_X7_nearest : GoodIn wsX7_valueAt wsX7_nearest := goodIn_r _ [5, 6, 7, 4, 8, 9, 10, 11, 12, 13, 14, 15, 16, 17, 66, 67, 68, 69, 70, 71, 72, 73, 74, 75, 76, 77, 78, 79, 80, 81, 82, 83, 84, 85, 86, 87, 88, 89, 90, 91, 92, 93, 94, 95] (by decide +kernel) (by decide +kernel)
set_option maxRecDepth 20000 in
theorem gX7_valueAt_X7_nearest : GoodIn wsX7_valueAt (wsV RX7 136 RX7 yX7_nearest wsX7_nearest) := goodIn_app (goodIn_of _ (by decide +kernel)) ggX7_valueAt_X7_nearest
set_option maxRecDepth 20000 in
theorem ggX7_valueAt_X7_liveValue : GoodIn wsX7_valueAt wsX7_liveValue := goodIn_r _ [21, 22, 23, 24, 25, 4, 26, 27, 28, 29, 30, 31, 32, 33, 34, 35, 36, 37, 38, 39, 40, 41, 42, 43, 44, 45, 46, 9, 10, 11, 47, 48, 49, 50, 51, 52, 53, 54, 55, 56, 57, 58, 59, 60, 61, 62, 63, 64, 65, 17, 16, 66, 67, 68, 69, 70, 71, 72, 73, 74, 75, 76, 77, 78, 79, 80, 81, 82, 83, 84, 85, 86, 87, 88, 89, 90, 91, 92, 93, 94, 95] (by decide +kernel) (by decide +kernel)
set_option maxRecDepth 20000 in
theorem gX7_valueAt_X7_liveValue : GoodIn wsX7_valueAt (wsV RX7 139 RX7 yX7_liveValue wsX7_liveValue) := goodIn_app (goodIn_of _ (by decide +kernel)) ggX7_valueAt_X7_liveValue
set_option maxRecDepth 20000 in
theorem ggX7_valueAt_X7_rounded : GoodIn wsX7_valueAt wsX7_rounded := goodIn_r _ [49] (by decide +kernel) (by decide +kernel)
set_option maxRecDepth 20000 in
theorem gX7_valueAt_X7_rounded : GoodIn wsX7_valueAt (va_wsS RX7 101 yX7_rounded wsX7_rounded) := goodIn_app (goodIn_of _ (by decide +kernel)) ggX7_valueAt_X7_rounded
theorem dX7_valueAt_0 : decode cX7_valueAt 0 = .ok (.aload_n 0, 1) := by decide +kernel
theorem dX7_valueAt_1 : decode cX7_valueAt 1 = .ok (.iload_n 1, 1) := by decide +kernel
theorem dX7_valueAt_2 : decode cX7_valueAt 2 = .ok (.iload_n 2, 1) := by decide +kernel
theorem dX7_valueAt_3 : decode cX7_valueAt 3 = .ok (.iconst (-1), 1) := by decide +kernel
theorem dX7_valueAt_4 : decode cX7_valueAt 4 = .ok (.invokevirtual 136, 3) := by decide +kernel
theorem dX7_valueAt_7 : decode cX7_valueAt 7 = .ok (.istore 4, 2) := by decide +kernel
theorem dX7_valueAt_9 : decode cX7_valueAt 9 = .ok (.aload_n 0, 1) := by decide +kernel
theorem dX7_valueAt_10 : decode cX7_valueAt 10 = .ok (.iload_n 1, 1) := by decide +kernel
theorem dX7_valueAt_11 : decode cX7_valueAt 11 = .ok (.iload_n 2, 1) := by decide +kernel
theorem dX7_valueAt_12 : decode cX7_valueAt 12 = .ok (.iconst 1, 1) := by decide +kernel
theorem dX7_valueAt_13 : decode cX7_valueAt 13 = .ok (.invokevirtual 136, 3) := by decide +kernel
theorem dX7_valueAt_16 : decode cX7_valueAt 16 = .ok (.istore 5, 2) := by decide +kernel
theorem dX7_valueAt_18 : decode cX7_valueAt 18 = .ok (.iload 4, 2) := by decide +kernel
theorem dX7_valueAt_20 : decode cX7_valueAt 20 = .ok (.bipush (-9), 2) := by decide +kernel
theorem dX7_valueAt_22 : decode cX7_valueAt 22 = .ok (.if_icmp .ne 12, 3) := by decide +kernel
theorem dX7_valueAt_25 : decode cX7_valueAt 25 = .ok (.iload 5, 2) := by decide +kernel
theorem dX7_valueAt_27 : decode cX7_valueAt 27 = .ok (.bipush (-9), 2) := by decide +kernel
theorem dX7_valueAt_29 : decode cX7_valueAt 29 = .ok (.if_icmp .ne 5, 3) := by decide +kernel
theorem dX7_valueAt_32 : decode cX7_valueAt 32 = .ok (.iconst 0, 1) := by decide +kernel
theorem dX7_valueAt_33 : decode cX7_valueAt 33 = .ok (.ireturn, 1) := by decide +kernel
theorem dX7_valueAt_34 : decode cX7_valueAt 34 = .ok (.iload 4, 2) := by decide +kernel
theorem dX7_valueAt_36 : decode cX7_valueAt 36 = .ok (.bipush (-9), 2) := by decide +kernel
theorem dX7_valueAt_38 : decode cX7_valueAt 38 = .ok (.if_icmp .eq 17, 3) := by decide +kernel
theorem dX7_valueAt_41 : decode cX7_valueAt 41 = .ok (.iload 5, 2) := by decide +kernel
theorem dX7_valueAt_43 : decode cX7_valueAt 43 = .ok (.bipush (-9), 2) := by decide +kernel
theorem dX7_valueAt_45 : decode cX7_valueAt 45 = .ok (.if_icmp .eq 10, 3) := by decide +kernel
theorem dX7_valueAt_48 : decode cX7_valueAt 48 = .ok (.iload 4, 2) := by decide +kernel
theorem dX7_valueAt_50 : decode cX7_valueAt 50 = .ok (.iload 5, 2) := by decide +kernel
theorem dX7_valueAt_52 : decode cX7_valueAt 52 = .ok (.if_icmp .ne 24, 3) := by decide +kernel
theorem dX7_valueAt_55 : decode cX7_valueAt 55 = .ok (.aload_n 0, 1) := by decide +kernel
theorem dX7_valueAt_56 : decode cX7_valueAt 56 = .ok (.iload_n 1, 1) := by decide +kernel
theorem dX7_valueAt_57 : decode cX7_valueAt 57 = .ok (.iload 4, 2) := by decide +kernel
theorem dX7_valueAt_59 : decode cX7_valueAt 59 = .ok (.bipush (-9), 2) := by decide +kernel
theorem dX7_valueAt_61 : decode cX7_valueAt 61 = .ok (.if_icmp .ne 8, 3) := by decide +kernel
theorem dX7_valueAt_64 : decode cX7_valueAt 64 = .ok (.iload 5, 2) := by decide +kernel
theorem dX7_valueAt_66 : decode cX7_valueAt 66 = .ok (.goto 5, 3) := by decide +kernel
theorem dX7_valueAt_69 : decode cX7_valueAt 69 = .ok (.iload 4, 2) := by decide +kernel
theorem dX7_valueAt_71 : decode cX7_valueAt 71 = .ok (.iload_n 3, 1) := by decide +kernel
theorem dX7_valueAt_72 : decode cX7_valueAt 72 = .ok (.invokevirtual 139, 3) := by decide +kernel
theorem dX7_valueAt_75 : decode cX7_valueAt 75 = .ok (.ireturn, 1) := by decide +kernel
theorem dX7_valueAt_76 : decode cX7_valueAt 76 = .ok (.aload_n 0, 1) := by decide +kernel
theorem dX7_valueAt_77 : decode cX7_valueAt 77 = .ok (.iload_n 1, 1) := by decide +kernel
theorem dX7_valueAt_78 : decode cX7_valueAt 78 = .ok (.iload 4, 2) := by decide +kernel
theorem dX7_valueAt_80 : decode cX7_valueAt 80 = .ok (.iload_n 3, 1) := by decide +kernel
theorem dX7_valueAt_81 : decode cX7_valueAt 81 = .ok (.invokevirtual 139, 3) := by decide +kernel
theorem dX7_valueAt_84 : decode cX7_valueAt 84 = .ok (.iload 5, 2) := by decide +kernel
theorem dX7_valueAt_86 : decode cX7_valueAt 86 = .ok (.iload_n 2, 1) := by decide +kernel
theorem dX7_valueAt_87 : decode cX7_valueAt 87 = .ok (.isub, 1) := by decide +kernel
theorem dX7_valueAt_88 : decode cX7_valueAt 88 = .ok (.imul, 1) := by decide +kernel
theorem dX7_valueAt_89 : decode cX7_valueAt 89 = .ok (.aload_n 0, 1) := by decide +kernel
theorem dX7_valueAt_90 : decode cX7_valueAt 90 = .ok (.iload_n 1, 1) := by decide +kernel
theorem dX7_valueAt_91 : decode cX7_valueAt 91 = .ok (.iload 5, 2) := by decide +kernel
theorem dX7_valueAt_93 : decode cX7_valueAt 93 = .ok (.iload_n 3, 1) := by decide +kernel
theorem dX7_valueAt_94 : decode cX7_valueAt 94 = .ok (.invokevirtual 139, 3) := by decide +kernel
theorem dX7_valueAt_97 : decode cX7_valueAt 97 = .ok (.iload_n 2, 1) := by decide +kernel
theorem dX7_valueAt_98 : decode cX7_valueAt 98 = .ok (.iload 4, 2) := by decide +kernel
theorem dX7_valueAt_100 : decode cX7_valueAt 100 = .ok (.isub, 1) := by decide +kernel
theorem dX7_valueAt_101 : decode cX7_valueAt 101 = .ok (.imul, 1) := by decide +kernel
theorem dX7_valueAt_102 : decode cX7_valueAt 102 = .ok (.iadd, 1) := by decide +kernel
theorem dX7_valueAt_103 : decode cX7_valueAt 103 = .ok (.istore 6, 2) := by decide +kernel
theorem dX7_valueAt_105 : decode cX7_valueAt 105 = .ok (.iload 6, 2) := by decide +kernel
theorem dX7_valueAt_107 : decode cX7_valueAt 107 = .ok (.iload 5, 2) := by decide +kernel
theorem dX7_valueAt_109 : decode cX7_valueAt 109 = .ok (.iload 4, 2) := by decide +kernel
theorem dX7_valueAt_111 : decode cX7_valueAt 111 = .ok (.isub, 1) := by decide +kernel
theorem dX7_valueAt_112 : decode cX7_valueAt 112 = .ok (.invokestatic 101, 3) := by decide +kernel
theorem dX7_valueAt_115 : decode cX7_valueAt 115 = .ok (.ireturn, 1) := by decide +kernel
set_option maxRecDepth 20000 in
theorem ggX7_wholeOf_X7_valueAt : GoodIn wsX7_wholeOf wsX7_valueAt := goodIn_r _ [6, 7, 8, 9, 5, 10, 11, 12, 13, 14, 15, 16, 17, 18, 19, 20, 21, 22, 23, 24, 25, 26, 1, 27, 28, 29, 30, 31, 32, 33, 34, 35, 36, 37, 38, 39, 40, 41, 42, 43, 44, 45, 46, 47, 48, 49, 50, 51, 52, 53, 54, 55, 56, 57, 58, 59, 60, 61, 62, 63, 64, 65, 66, 67, 68, 69, 77, 78, 79, 80, 81, 82, 83, 84, 85, 86, 87, 88, 89, 90, 91, 92, 93, 94, 95, 96, 97, 98, 99, 100, 101, 102, 103, 104, 105, 106] (by decide +kernel) (by decide +kernel)
set_option maxRecDepth 20000 in
theorem gX7_wholeOf_X7_valueAt : GoodIn wsX7_wholeOf (wsV RX7 142 RX7 yX7_valueAt wsX7_valueAt) := goodIn_app (goodIn_of _ (by decide +kernel)) ggX7_wholeOf_X7_valueAt
set_option maxRecDepth 20000 in
theorem ggX7_wholeOf_X7_pipedOf : GoodIn wsX7_wholeOf wsX7_pipedOf := goodIn_r _ [73, 74, 75, 76, 63, 64, 5, 65, 54, 55, 56, 77, 78, 79, 80, 81, 82, 83, 84, 85, 86, 87, 88, 89, 90, 91, 92, 93, 94, 95, 96, 97, 98, 99, 100, 101, 102, 103, 104, 105, 106] (by decide +kernel) (by decide +kernel)
set_option maxRecDepth 20000 in
theorem gX7_wholeOf_X7_pipedOf : GoodIn wsX7_wholeOf (wsV RX7 132 RX7 yX7_pipedOf wsX7_pipedOf) := goodIn_app (goodIn_of _ (by decide +kernel)) ggX7_wholeOf_X7_pipedOf
set_option maxRecDepth 20000 in
theorem ggX7_wholeOf_X7_rounded : GoodIn wsX7_wholeOf wsX7_rounded := goodIn_r _ [53] (by decide +kernel) (by decide +kernel)
set_option maxRecDepth 20000 in
theorem gX7_wholeOf_X7_rounded : GoodIn wsX7_wholeOf (va_wsS RX7 101 yX7_rounded wsX7_rounded) := goodIn_app (goodIn_of _ (by decide +kernel)) ggX7_wholeOf_X7_rounded
theorem dX7_wholeOf_0 : decode cX7_wholeOf 0 = .ok (.iload_n 1, 1) := by decide +kernel
theorem dX7_wholeOf_1 : decode cX7_wholeOf 1 = .ok (.aload_n 0, 1) := by decide +kernel
theorem dX7_wholeOf_2 : decode cX7_wholeOf 2 = .ok (.getfield 47, 3) := by decide +kernel
theorem dX7_wholeOf_5 : decode cX7_wholeOf 5 = .ok (.iload_n 2, 1) := by decide +kernel
theorem dX7_wholeOf_6 : decode cX7_wholeOf 6 = .ok (.iaload, 1) := by decide +kernel
theorem dX7_wholeOf_7 : decode cX7_wholeOf 7 = .ok (.iconst 4, 1) := by decide +kernel
theorem dX7_wholeOf_8 : decode cX7_wholeOf 8 = .ok (.idiv, 1) := by decide +kernel
theorem dX7_wholeOf_9 : decode cX7_wholeOf 9 = .ok (.iadd, 1) := by decide +kernel
theorem dX7_wholeOf_10 : decode cX7_wholeOf 10 = .ok (.istore 4, 2) := by decide +kernel
theorem dX7_wholeOf_12 : decode cX7_wholeOf 12 = .ok (.aload_n 0, 1) := by decide +kernel
theorem dX7_wholeOf_13 : decode cX7_wholeOf 13 = .ok (.getfield 47, 3) := by decide +kernel
theorem dX7_wholeOf_16 : decode cX7_wholeOf 16 = .ok (.iload_n 2, 1) := by decide +kernel
theorem dX7_wholeOf_17 : decode cX7_wholeOf 17 = .ok (.iaload, 1) := by decide +kernel
theorem dX7_wholeOf_18 : decode cX7_wholeOf 18 = .ok (.iconst 4, 1) := by decide +kernel
theorem dX7_wholeOf_19 : decode cX7_wholeOf 19 = .ok (.irem, 1) := by decide +kernel
theorem dX7_wholeOf_20 : decode cX7_wholeOf 20 = .ok (.istore 5, 2) := by decide +kernel
theorem dX7_wholeOf_22 : decode cX7_wholeOf 22 = .ok (.aload_n 0, 1) := by decide +kernel
theorem dX7_wholeOf_23 : decode cX7_wholeOf 23 = .ok (.iload_n 2, 1) := by decide +kernel
theorem dX7_wholeOf_24 : decode cX7_wholeOf 24 = .ok (.iload_n 3, 1) := by decide +kernel
theorem dX7_wholeOf_25 : decode cX7_wholeOf 25 = .ok (.iload 4, 2) := by decide +kernel
theorem dX7_wholeOf_27 : decode cX7_wholeOf 27 = .ok (.invokevirtual 142, 3) := by decide +kernel
theorem dX7_wholeOf_30 : decode cX7_wholeOf 30 = .ok (.istore 6, 2) := by decide +kernel
theorem dX7_wholeOf_32 : decode cX7_wholeOf 32 = .ok (.iload 5, 2) := by decide +kernel
theorem dX7_wholeOf_34 : decode cX7_wholeOf 34 = .ok (.ifCond .ne 10, 3) := by decide +kernel
theorem dX7_wholeOf_37 : decode cX7_wholeOf 37 = .ok (.aload_n 0, 1) := by decide +kernel
theorem dX7_wholeOf_38 : decode cX7_wholeOf 38 = .ok (.iload 6, 2) := by decide +kernel
theorem dX7_wholeOf_40 : decode cX7_wholeOf 40 = .ok (.invokevirtual 132, 3) := by decide +kernel
theorem dX7_wholeOf_43 : decode cX7_wholeOf 43 = .ok (.ireturn, 1) := by decide +kernel
theorem dX7_wholeOf_44 : decode cX7_wholeOf 44 = .ok (.aload_n 0, 1) := by decide +kernel
theorem dX7_wholeOf_45 : decode cX7_wholeOf 45 = .ok (.iload 6, 2) := by decide +kernel
theorem dX7_wholeOf_47 : decode cX7_wholeOf 47 = .ok (.iconst 4, 1) := by decide +kernel
theorem dX7_wholeOf_48 : decode cX7_wholeOf 48 = .ok (.iload 5, 2) := by decide +kernel
theorem dX7_wholeOf_50 : decode cX7_wholeOf 50 = .ok (.isub, 1) := by decide +kernel
theorem dX7_wholeOf_51 : decode cX7_wholeOf 51 = .ok (.imul, 1) := by decide +kernel
theorem dX7_wholeOf_52 : decode cX7_wholeOf 52 = .ok (.aload_n 0, 1) := by decide +kernel
theorem dX7_wholeOf_53 : decode cX7_wholeOf 53 = .ok (.iload_n 2, 1) := by decide +kernel
theorem dX7_wholeOf_54 : decode cX7_wholeOf 54 = .ok (.iload_n 3, 1) := by decide +kernel
theorem dX7_wholeOf_55 : decode cX7_wholeOf 55 = .ok (.iload 4, 2) := by decide +kernel
theorem dX7_wholeOf_57 : decode cX7_wholeOf 57 = .ok (.iconst 1, 1) := by decide +kernel
theorem dX7_wholeOf_58 : decode cX7_wholeOf 58 = .ok (.iadd, 1) := by decide +kernel
theorem dX7_wholeOf_59 : decode cX7_wholeOf 59 = .ok (.invokevirtual 142, 3) := by decide +kernel
theorem dX7_wholeOf_62 : decode cX7_wholeOf 62 = .ok (.iload 5, 2) := by decide +kernel
theorem dX7_wholeOf_64 : decode cX7_wholeOf 64 = .ok (.imul, 1) := by decide +kernel
theorem dX7_wholeOf_65 : decode cX7_wholeOf 65 = .ok (.iadd, 1) := by decide +kernel
theorem dX7_wholeOf_66 : decode cX7_wholeOf 66 = .ok (.iconst 4, 1) := by decide +kernel
theorem dX7_wholeOf_67 : decode cX7_wholeOf 67 = .ok (.invokestatic 101, 3) := by decide +kernel
theorem dX7_wholeOf_70 : decode cX7_wholeOf 70 = .ok (.invokevirtual 132, 3) := by decide +kernel
theorem dX7_wholeOf_73 : decode cX7_wholeOf 73 = .ok (.ireturn, 1) := by decide +kernel
set_option maxRecDepth 20000 in
theorem ggX7_whole_X7_isCell : GoodIn wsX7_whole wsX7_isCell := goodIn_r _ [4, 5, 6, 3, 7, 8, 9, 10, 11, 12, 13] (by decide +kernel) (by decide +kernel)
set_option maxRecDepth 20000 in
theorem gX7_whole_X7_isCell : GoodIn wsX7_whole (va_wsS RX7 79 yX7_isCell wsX7_isCell) := goodIn_app (goodIn_of _ (by decide +kernel)) ggX7_whole_X7_isCell
set_option maxRecDepth 20000 in
theorem ggX7_whole_X7_within : GoodIn wsX7_whole wsX7_within := goodIn_r _ [10] (by decide +kernel) (by decide +kernel)
set_option maxRecDepth 20000 in
theorem gX7_whole_X7_within : GoodIn wsX7_whole (va_wsS RX7 68 yX7_within wsX7_within) := goodIn_app (goodIn_of _ (by decide +kernel)) ggX7_whole_X7_within
set_option maxRecDepth 20000 in
theorem ggX7_whole_X7_wholeOf : GoodIn wsX7_whole wsX7_wholeOf := goodIn_r _ [17, 18, 19, 20, 21, 3, 22, 23, 24, 25, 26, 11, 12, 13, 8, 9, 10, 27, 28, 29, 30, 31, 32, 33, 34, 35, 36, 37, 38, 39, 40, 41, 42, 43, 44, 45, 46, 47, 48, 49, 50, 51, 52, 53, 54, 55, 56, 57, 58, 59, 60, 61, 62, 63, 64, 65, 66, 67, 68, 69, 70, 71, 72, 73, 74, 75, 76, 77, 78, 79, 80, 81, 82, 83, 84, 85, 86, 87, 88, 89, 90, 91, 92, 93, 94, 95, 96, 97, 98, 99, 100, 101, 102, 103, 104, 105, 106, 107, 108, 109, 110, 111, 112, 113, 114, 115, 116] (by decide +kernel) (by decide +kernel)
set_option maxRecDepth 20000 in
theorem gX7_whole_X7_wholeOf : GoodIn wsX7_whole (wsV RX7 145 RX7 yX7_wholeOf wsX7_wholeOf) := goodIn_app (goodIn_of _ (by decide +kernel)) ggX7_whole_X7_wholeOf
theorem dX7_whole_0 : decode cX7_whole 0 = .ok (.iload_n 2, 1) := by decide +kernel
theorem dX7_whole_1 : decode cX7_whole 1 = .ok (.iload_n 3, 1) := by decide +kernel
theorem dX7_whole_2 : decode cX7_whole 2 = .ok (.invokestatic 79, 3) := by decide +kernel
theorem dX7_whole_5 : decode cX7_whole 5 = .ok (.ifCond .ne 5, 3) := by decide +kernel
theorem dX7_whole_8 : decode cX7_whole 8 = .ok (.iconst (-1), 1) := by decide +kernel
theorem dX7_whole_9 : decode cX7_whole 9 = .ok (.ireturn, 1) := by decide +kernel
theorem dX7_whole_10 : decode cX7_whole 10 = .ok (.iload_n 1, 1) := by decide +kernel
theorem dX7_whole_11 : decode cX7_whole 11 = .ok (.iconst 0, 1) := by decide +kernel
theorem dX7_whole_12 : decode cX7_whole 12 = .ok (.bipush 39, 2) := by decide +kernel
theorem dX7_whole_14 : decode cX7_whole 14 = .ok (.invokestatic 68, 3) := by decide +kernel
theorem dX7_whole_17 : decode cX7_whole 17 = .ok (.ifCond .eq 13, 3) := by decide +kernel
theorem dX7_whole_20 : decode cX7_whole 20 = .ok (.aload_n 0, 1) := by decide +kernel
theorem dX7_whole_21 : decode cX7_whole 21 = .ok (.iload_n 1, 1) := by decide +kernel
theorem dX7_whole_22 : decode cX7_whole 22 = .ok (.iload_n 2, 1) := by decide +kernel
theorem dX7_whole_23 : decode cX7_whole 23 = .ok (.iload_n 3, 1) := by decide +kernel
theorem dX7_whole_24 : decode cX7_whole 24 = .ok (.invokevirtual 145, 3) := by decide +kernel
theorem dX7_whole_27 : decode cX7_whole 27 = .ok (.goto 5, 3) := by decide +kernel
theorem dX7_whole_30 : decode cX7_whole 30 = .ok (.bipush (-2), 2) := by decide +kernel
theorem dX7_whole_32 : decode cX7_whole 32 = .ok (.ireturn, 1) := by decide +kernel
set_option maxRecDepth 20000 in
theorem ggX7_reach_X7_atLeast : GoodIn wsX7_reach wsX7_atLeast := goodIn_r _ [5] (by decide +kernel) (by decide +kernel)
set_option maxRecDepth 20000 in
theorem gX7_reach_X7_atLeast : GoodIn wsX7_reach (va_wsS RX7 120 yX7_atLeast wsX7_atLeast) := goodIn_app (goodIn_of _ (by decide +kernel)) ggX7_reach_X7_atLeast
theorem dX7_reach_0 : decode cX7_reach 0 = .ok (.iconst 0, 1) := by decide +kernel
theorem dX7_reach_1 : decode cX7_reach 1 = .ok (.istore_n 1, 1) := by decide +kernel
theorem dX7_reach_2 : decode cX7_reach 2 = .ok (.iconst 0, 1) := by decide +kernel
theorem dX7_reach_3 : decode cX7_reach 3 = .ok (.istore_n 2, 1) := by decide +kernel
theorem dX7_reach_4 : decode cX7_reach 4 = .ok (.iload_n 2, 1) := by decide +kernel
theorem dX7_reach_5 : decode cX7_reach 5 = .ok (.iconst 3, 1) := by decide +kernel
theorem dX7_reach_6 : decode cX7_reach 6 = .ok (.if_icmp .ge 24, 3) := by decide +kernel
theorem dX7_reach_9 : decode cX7_reach 9 = .ok (.iload_n 1, 1) := by decide +kernel
theorem dX7_reach_10 : decode cX7_reach 10 = .ok (.aload_n 0, 1) := by decide +kernel
theorem dX7_reach_11 : decode cX7_reach 11 = .ok (.getfield 47, 3) := by decide +kernel
theorem dX7_reach_14 : decode cX7_reach 14 = .ok (.iload_n 2, 1) := by decide +kernel
theorem dX7_reach_15 : decode cX7_reach 15 = .ok (.iaload, 1) := by decide +kernel
theorem dX7_reach_16 : decode cX7_reach 16 = .ok (.iconst 3, 1) := by decide +kernel
theorem dX7_reach_17 : decode cX7_reach 17 = .ok (.iadd, 1) := by decide +kernel
theorem dX7_reach_18 : decode cX7_reach 18 = .ok (.iconst 4, 1) := by decide +kernel
theorem dX7_reach_19 : decode cX7_reach 19 = .ok (.idiv, 1) := by decide +kernel
theorem dX7_reach_20 : decode cX7_reach 20 = .ok (.invokestatic 120, 3) := by decide +kernel
theorem dX7_reach_23 : decode cX7_reach 23 = .ok (.istore_n 1, 1) := by decide +kernel
theorem dX7_reach_24 : decode cX7_reach 24 = .ok (.iinc 2 1, 3) := by decide +kernel
theorem dX7_reach_27 : decode cX7_reach 27 = .ok (.goto (-23), 3) := by decide +kernel
theorem dX7_reach_30 : decode cX7_reach 30 = .ok (.iload_n 1, 1) := by decide +kernel
theorem dX7_reach_31 : decode cX7_reach 31 = .ok (.ireturn, 1) := by decide +kernel
set_option maxRecDepth 20000 in
theorem ggX7_begin_X7_within : GoodIn wsX7_begin wsX7_within := goodIn_r _ [14] (by decide +kernel) (by decide +kernel)
set_option maxRecDepth 20000 in
theorem gX7_begin_X7_within : GoodIn wsX7_begin (va_wsS RX7 68 yX7_within wsX7_within) := goodIn_app (goodIn_of _ (by decide +kernel)) ggX7_begin_X7_within
set_option maxRecDepth 20000 in
theorem ggX7_begin_X7_reach : GoodIn wsX7_begin wsX7_reach := goodIn_r _ [18, 19, 20, 21, 13, 22, 23, 24, 25, 26, 27, 28, 29, 30, 31, 32, 33, 34, 35, 36, 37, 38, 39, 40, 41, 42, 43, 44, 45, 46, 47, 48, 49, 50, 51, 52] (by decide +kernel) (by decide +kernel)
set_option maxRecDepth 20000 in
theorem gX7_begin_X7_reach : GoodIn wsX7_begin (wsV RX7 157 RX7 yX7_reach wsX7_reach) := goodIn_app (goodIn_of _ (by decide +kernel)) ggX7_begin_X7_reach
theorem dX7_begin_0 : decode cX7_begin 0 = .ok (.iload_n 1, 1) := by decide +kernel
theorem dX7_begin_1 : decode cX7_begin 1 = .ok (.iconst 1, 1) := by decide +kernel
theorem dX7_begin_2 : decode cX7_begin 2 = .ok (.bipush 40, 2) := by decide +kernel
theorem dX7_begin_4 : decode cX7_begin 4 = .ok (.invokestatic 68, 3) := by decide +kernel
theorem dX7_begin_7 : decode cX7_begin 7 = .ok (.ifCond .ne 6, 3) := by decide +kernel
theorem dX7_begin_10 : decode cX7_begin 10 = .ok (.bipush (-2), 2) := by decide +kernel
theorem dX7_begin_12 : decode cX7_begin 12 = .ok (.ireturn, 1) := by decide +kernel
theorem dX7_begin_13 : decode cX7_begin 13 = .ok (.aload_n 0, 1) := by decide +kernel
theorem dX7_begin_14 : decode cX7_begin 14 = .ok (.getfield 83, 3) := by decide +kernel
theorem dX7_begin_17 : decode cX7_begin 17 = .ok (.ifCond .eq 6, 3) := by decide +kernel
theorem dX7_begin_20 : decode cX7_begin 20 = .ok (.bipush (-3), 2) := by decide +kernel
theorem dX7_begin_22 : decode cX7_begin 22 = .ok (.ireturn, 1) := by decide +kernel
theorem dX7_begin_23 : decode cX7_begin 23 = .ok (.aload_n 0, 1) := by decide +kernel
theorem dX7_begin_24 : decode cX7_begin 24 = .ok (.iconst 1, 1) := by decide +kernel
theorem dX7_begin_25 : decode cX7_begin 25 = .ok (.putfield 83, 3) := by decide +kernel
theorem dX7_begin_28 : decode cX7_begin 28 = .ok (.aload_n 0, 1) := by decide +kernel
theorem dX7_begin_29 : decode cX7_begin 29 = .ok (.iload_n 1, 1) := by decide +kernel
theorem dX7_begin_30 : decode cX7_begin 30 = .ok (.putfield 148, 3) := by decide +kernel
theorem dX7_begin_33 : decode cX7_begin 33 = .ok (.aload_n 0, 1) := by decide +kernel
theorem dX7_begin_34 : decode cX7_begin 34 = .ok (.iconst 0, 1) := by decide +kernel
theorem dX7_begin_35 : decode cX7_begin 35 = .ok (.putfield 151, 3) := by decide +kernel
theorem dX7_begin_38 : decode cX7_begin 38 = .ok (.aload_n 0, 1) := by decide +kernel
theorem dX7_begin_39 : decode cX7_begin 39 = .ok (.iconst 0, 1) := by decide +kernel
theorem dX7_begin_40 : decode cX7_begin 40 = .ok (.putfield 154, 3) := by decide +kernel
theorem dX7_begin_43 : decode cX7_begin 43 = .ok (.aload_n 0, 1) := by decide +kernel
theorem dX7_begin_44 : decode cX7_begin 44 = .ok (.iload_n 1, 1) := by decide +kernel
theorem dX7_begin_45 : decode cX7_begin 45 = .ok (.iconst 1, 1) := by decide +kernel
theorem dX7_begin_46 : decode cX7_begin 46 = .ok (.isub, 1) := by decide +kernel
theorem dX7_begin_47 : decode cX7_begin 47 = .ok (.aload_n 0, 1) := by decide +kernel
theorem dX7_begin_48 : decode cX7_begin 48 = .ok (.invokevirtual 157, 3) := by decide +kernel
theorem dX7_begin_51 : decode cX7_begin 51 = .ok (.iadd, 1) := by decide +kernel
theorem dX7_begin_52 : decode cX7_begin 52 = .ok (.putfield 59, 3) := by decide +kernel
theorem dX7_begin_55 : decode cX7_begin 55 = .ok (.aload_n 0, 1) := by decide +kernel
theorem dX7_begin_56 : decode cX7_begin 56 = .ok (.bipush (-4), 2) := by decide +kernel
theorem dX7_begin_58 : decode cX7_begin 58 = .ok (.putfield 62, 3) := by decide +kernel
theorem dX7_begin_61 : decode cX7_begin 61 = .ok (.aload_n 0, 1) := by decide +kernel
theorem dX7_begin_62 : decode cX7_begin 62 = .ok (.iconst 0, 1) := by decide +kernel
theorem dX7_begin_63 : decode cX7_begin 63 = .ok (.putfield 160, 3) := by decide +kernel
theorem dX7_begin_66 : decode cX7_begin 66 = .ok (.aload_n 0, 1) := by decide +kernel
theorem dX7_begin_67 : decode cX7_begin 67 = .ok (.iconst 0, 1) := by decide +kernel
theorem dX7_begin_68 : decode cX7_begin 68 = .ok (.putfield 163, 3) := by decide +kernel
theorem dX7_begin_71 : decode cX7_begin 71 = .ok (.aload_n 0, 1) := by decide +kernel
theorem dX7_begin_72 : decode cX7_begin 72 = .ok (.iconst 0, 1) := by decide +kernel
theorem dX7_begin_73 : decode cX7_begin 73 = .ok (.putfield 166, 3) := by decide +kernel
theorem dX7_begin_76 : decode cX7_begin 76 = .ok (.aload_n 0, 1) := by decide +kernel
theorem dX7_begin_77 : decode cX7_begin 77 = .ok (.iconst 0, 1) := by decide +kernel
theorem dX7_begin_78 : decode cX7_begin 78 = .ok (.putfield 169, 3) := by decide +kernel
theorem dX7_begin_81 : decode cX7_begin 81 = .ok (.iload_n 1, 1) := by decide +kernel
theorem dX7_begin_82 : decode cX7_begin 82 = .ok (.aload_n 0, 1) := by decide +kernel
theorem dX7_begin_83 : decode cX7_begin 83 = .ok (.invokevirtual 157, 3) := by decide +kernel
theorem dX7_begin_86 : decode cX7_begin 86 = .ok (.iadd, 1) := by decide +kernel
theorem dX7_begin_87 : decode cX7_begin 87 = .ok (.ireturn, 1) := by decide +kernel
theorem dX7_areToBeRead_0 : decode cX7_areToBeRead 0 = .ok (.aload_n 0, 1) := by decide +kernel
theorem dX7_areToBeRead_1 : decode cX7_areToBeRead 1 = .ok (.getfield 83, 3) := by decide +kernel
theorem dX7_areToBeRead_4 : decode cX7_areToBeRead 4 = .ok (.ifCond .eq 18, 3) := by decide +kernel
theorem dX7_areToBeRead_7 : decode cX7_areToBeRead 7 = .ok (.aload_n 0, 1) := by decide +kernel
theorem dX7_areToBeRead_8 : decode cX7_areToBeRead 8 = .ok (.getfield 163, 3) := by decide +kernel
theorem dX7_areToBeRead_11 : decode cX7_areToBeRead 11 = .ok (.aload_n 0, 1) := by decide +kernel
theorem dX7_areToBeRead_12 : decode cX7_areToBeRead 12 = .ok (.getfield 59, 3) := by decide +kernel
theorem dX7_areToBeRead_15 : decode cX7_areToBeRead 15 = .ok (.if_icmp .gt 7, 3) := by decide +kernel
theorem dX7_areToBeRead_18 : decode cX7_areToBeRead 18 = .ok (.iconst 1, 1) := by decide +kernel
theorem dX7_areToBeRead_19 : decode cX7_areToBeRead 19 = .ok (.goto 4, 3) := by decide +kernel
theorem dX7_areToBeRead_22 : decode cX7_areToBeRead 22 = .ok (.iconst 0, 1) := by decide +kernel
theorem dX7_areToBeRead_23 : decode cX7_areToBeRead 23 = .ok (.ireturn, 1) := by decide +kernel
set_option maxRecDepth 20000 in
theorem ggX7_read_X7_reach : GoodIn wsX7_read wsX7_reach := goodIn_r _ [12, 13, 14, 15, 11, 16, 23, 24, 25, 26, 27, 28, 29, 30, 31, 32, 33, 34, 35, 36, 37, 38, 39, 40, 41, 42, 43, 44, 45, 46, 47, 48, 49, 50, 51, 52] (by decide +kernel) (by decide +kernel)
set_option maxRecDepth 20000 in
theorem gX7_read_X7_reach : GoodIn wsX7_read (wsV RX7 157 RX7 yX7_reach wsX7_reach) := goodIn_app (goodIn_of _ (by decide +kernel)) ggX7_read_X7_reach
set_option maxRecDepth 20000 in
theorem ggX7_read_X7_areToBeRead : GoodIn wsX7_read wsX7_areToBeRead := goodIn_r _ [20, 21, 1, 22, 23, 24, 25, 26, 27, 28, 29, 30, 31, 32, 33, 34, 35, 36, 37, 38, 39, 40, 41, 42, 43, 44, 45, 46, 47, 48, 49, 50, 51, 52] (by decide +kernel) (by decide +kernel)
set_option maxRecDepth 20000 in
theorem gX7_read_X7_areToBeRead : GoodIn wsX7_read (wsV RX7 172 RX7 yX7_areToBeRead wsX7_areToBeRead) := goodIn_app (goodIn_of _ (by decide +kernel)) ggX7_read_X7_areToBeRead
theorem dX7_read_0 : decode cX7_read 0 = .ok (.aload_n 0, 1) := by decide +kernel
theorem dX7_read_1 : decode cX7_read 1 = .ok (.getfield 163, 3) := by decide +kernel
theorem dX7_read_4 : decode cX7_read 4 = .ok (.aload_n 0, 1) := by decide +kernel
theorem dX7_read_5 : decode cX7_read 5 = .ok (.invokevirtual 157, 3) := by decide +kernel
theorem dX7_read_8 : decode cX7_read 8 = .ok (.isub, 1) := by decide +kernel
theorem dX7_read_9 : decode cX7_read 9 = .ok (.istore_n 1, 1) := by decide +kernel
theorem dX7_read_10 : decode cX7_read 10 = .ok (.aload_n 0, 1) := by decide +kernel
theorem dX7_read_11 : decode cX7_read 11 = .ok (.dup, 1) := by decide +kernel
theorem dX7_read_12 : decode cX7_read 12 = .ok (.getfield 62, 3) := by decide +kernel
theorem dX7_read_15 : decode cX7_read 15 = .ok (.iconst 1, 1) := by decide +kernel
theorem dX7_read_16 : decode cX7_read 16 = .ok (.iadd, 1) := by decide +kernel
theorem dX7_read_17 : decode cX7_read 17 = .ok (.putfield 62, 3) := by decide +kernel
theorem dX7_read_20 : decode cX7_read 20 = .ok (.aload_n 0, 1) := by decide +kernel
theorem dX7_read_21 : decode cX7_read 21 = .ok (.dup, 1) := by decide +kernel
theorem dX7_read_22 : decode cX7_read 22 = .ok (.getfield 163, 3) := by decide +kernel
theorem dX7_read_25 : decode cX7_read 25 = .ok (.iconst 1, 1) := by decide +kernel
theorem dX7_read_26 : decode cX7_read 26 = .ok (.iadd, 1) := by decide +kernel
theorem dX7_read_27 : decode cX7_read 27 = .ok (.putfield 163, 3) := by decide +kernel
theorem dX7_read_30 : decode cX7_read 30 = .ok (.aload_n 0, 1) := by decide +kernel
theorem dX7_read_31 : decode cX7_read 31 = .ok (.iload_n 1, 1) := by decide +kernel
theorem dX7_read_32 : decode cX7_read 32 = .ok (.ifCond .lt 9, 3) := by decide +kernel
theorem dX7_read_35 : decode cX7_read 35 = .ok (.iload_n 1, 1) := by decide +kernel
theorem dX7_read_36 : decode cX7_read 36 = .ok (.iconst 1, 1) := by decide +kernel
theorem dX7_read_37 : decode cX7_read 37 = .ok (.iadd, 1) := by decide +kernel
theorem dX7_read_38 : decode cX7_read 38 = .ok (.goto 7, 3) := by decide +kernel
theorem dX7_read_41 : decode cX7_read 41 = .ok (.aload_n 0, 1) := by decide +kernel
theorem dX7_read_42 : decode cX7_read 42 = .ok (.getfield 151, 3) := by decide +kernel
theorem dX7_read_45 : decode cX7_read 45 = .ok (.putfield 151, 3) := by decide +kernel
theorem dX7_read_48 : decode cX7_read 48 = .ok (.aload_n 0, 1) := by decide +kernel
theorem dX7_read_49 : decode cX7_read 49 = .ok (.invokevirtual 172, 3) := by decide +kernel
theorem dX7_read_52 : decode cX7_read 52 = .ok (.ifCond .eq 17, 3) := by decide +kernel
theorem dX7_read_55 : decode cX7_read 55 = .ok (.aload_n 0, 1) := by decide +kernel
theorem dX7_read_56 : decode cX7_read 56 = .ok (.getfield 151, 3) := by decide +kernel
theorem dX7_read_59 : decode cX7_read 59 = .ok (.aload_n 0, 1) := by decide +kernel
theorem dX7_read_60 : decode cX7_read 60 = .ok (.getfield 154, 3) := by decide +kernel
theorem dX7_read_63 : decode cX7_read 63 = .ok (.isub, 1) := by decide +kernel
theorem dX7_read_64 : decode cX7_read 64 = .ok (.bipush 6, 2) := by decide +kernel
theorem dX7_read_66 : decode cX7_read 66 = .ok (.if_icmp .ne 34, 3) := by decide +kernel
theorem dX7_read_69 : decode cX7_read 69 = .ok (.aload_n 0, 1) := by decide +kernel
theorem dX7_read_70 : decode cX7_read 70 = .ok (.iconst 3, 1) := by decide +kernel
theorem dX7_read_71 : decode cX7_read 71 = .ok (.putfield 160, 3) := by decide +kernel
theorem dX7_read_74 : decode cX7_read 74 = .ok (.aload_n 0, 1) := by decide +kernel
theorem dX7_read_75 : decode cX7_read 75 = .ok (.iconst 0, 1) := by decide +kernel
theorem dX7_read_76 : decode cX7_read 76 = .ok (.putfield 176, 3) := by decide +kernel
theorem dX7_read_79 : decode cX7_read 79 = .ok (.aload_n 0, 1) := by decide +kernel
theorem dX7_read_80 : decode cX7_read 80 = .ok (.dup, 1) := by decide +kernel
theorem dX7_read_81 : decode cX7_read 81 = .ok (.getfield 166, 3) := by decide +kernel
theorem dX7_read_84 : decode cX7_read 84 = .ok (.aload_n 0, 1) := by decide +kernel
theorem dX7_read_85 : decode cX7_read 85 = .ok (.invokevirtual 172, 3) := by decide +kernel
theorem dX7_read_88 : decode cX7_read 88 = .ok (.ifCond .eq 7, 3) := by decide +kernel
theorem dX7_read_91 : decode cX7_read 91 = .ok (.iconst 1, 1) := by decide +kernel
theorem dX7_read_92 : decode cX7_read 92 = .ok (.goto 4, 3) := by decide +kernel
theorem dX7_read_95 : decode cX7_read 95 = .ok (.iconst 0, 1) := by decide +kernel
theorem dX7_read_96 : decode cX7_read 96 = .ok (.iadd, 1) := by decide +kernel
theorem dX7_read_97 : decode cX7_read 97 = .ok (.putfield 166, 3) := by decide +kernel
theorem dX7_read_100 : decode cX7_read 100 = .ok (.return_, 1) := by decide +kernel
set_option maxRecDepth 20000 in
theorem ggX7_tick_X7_areToBeRead : GoodIn wsX7_tick wsX7_areToBeRead := goodIn_r _ [12, 13, 7, 14, 28, 29, 30, 31, 32, 33, 34, 35, 36, 37, 38, 39, 40, 41, 42, 43, 44, 45, 46, 47, 48, 49, 50, 51, 52, 53, 54, 55, 56, 57] (by decide +kernel) (by decide +kernel)
set_option maxRecDepth 20000 in
theorem gX7_tick_X7_areToBeRead : GoodIn wsX7_tick (wsV RX7 172 RX7 yX7_areToBeRead wsX7_areToBeRead) := goodIn_app (goodIn_of _ (by decide +kernel)) ggX7_tick_X7_areToBeRead
set_option maxRecDepth 20000 in
theorem ggX7_tick_X7_read : GoodIn wsX7_tick wsX7_read := goodIn_r _ [18, 7, 5, 3, 4, 2, 6, 19, 20, 21, 22, 11, 23, 24, 25, 26, 27, 8, 9, 10, 12, 13, 14, 28, 29, 30, 31, 32, 33, 34, 35, 36, 37, 38, 39, 40, 41, 42, 43, 44, 45, 46, 47, 48, 49, 50, 51, 52, 53, 54, 55, 56, 57] (by decide +kernel) (by decide +kernel)
set_option maxRecDepth 20000 in
theorem gX7_tick_X7_read : GoodIn wsX7_tick (wsV RX7 179 RX7 yX7_read wsX7_read) := goodIn_app (goodIn_of _ (by decide +kernel)) ggX7_tick_X7_read
theorem dX7_tick_0 : decode cX7_tick 0 = .ok (.aload_n 0, 1) := by decide +kernel
theorem dX7_tick_1 : decode cX7_tick 1 = .ok (.dup, 1) := by decide +kernel
theorem dX7_tick_2 : decode cX7_tick 2 = .ok (.getfield 169, 3) := by decide +kernel
theorem dX7_tick_5 : decode cX7_tick 5 = .ok (.iconst 1, 1) := by decide +kernel
theorem dX7_tick_6 : decode cX7_tick 6 = .ok (.iadd, 1) := by decide +kernel
theorem dX7_tick_7 : decode cX7_tick 7 = .ok (.putfield 169, 3) := by decide +kernel
theorem dX7_tick_10 : decode cX7_tick 10 = .ok (.aload_n 0, 1) := by decide +kernel
theorem dX7_tick_11 : decode cX7_tick 11 = .ok (.getfield 160, 3) := by decide +kernel
theorem dX7_tick_14 : decode cX7_tick 14 = .ok (.ifCond .ne 35, 3) := by decide +kernel
theorem dX7_tick_17 : decode cX7_tick 17 = .ok (.aload_n 0, 1) := by decide +kernel
theorem dX7_tick_18 : decode cX7_tick 18 = .ok (.aload_n 0, 1) := by decide +kernel
theorem dX7_tick_19 : decode cX7_tick 19 = .ok (.invokevirtual 172, 3) := by decide +kernel
theorem dX7_tick_22 : decode cX7_tick 22 = .ok (.ifCond .eq 20, 3) := by decide +kernel
theorem dX7_tick_25 : decode cX7_tick 25 = .ok (.aload_n 0, 1) := by decide +kernel
theorem dX7_tick_26 : decode cX7_tick 26 = .ok (.getfield 151, 3) := by decide +kernel
theorem dX7_tick_29 : decode cX7_tick 29 = .ok (.aload_n 0, 1) := by decide +kernel
theorem dX7_tick_30 : decode cX7_tick 30 = .ok (.getfield 154, 3) := by decide +kernel
theorem dX7_tick_33 : decode cX7_tick 33 = .ok (.isub, 1) := by decide +kernel
theorem dX7_tick_34 : decode cX7_tick 34 = .ok (.iconst 2, 1) := by decide +kernel
theorem dX7_tick_35 : decode cX7_tick 35 = .ok (.if_icmp .gt 7, 3) := by decide +kernel
theorem dX7_tick_38 : decode cX7_tick 38 = .ok (.iconst 1, 1) := by decide +kernel
theorem dX7_tick_39 : decode cX7_tick 39 = .ok (.goto 4, 3) := by decide +kernel
theorem dX7_tick_42 : decode cX7_tick 42 = .ok (.iconst 0, 1) := by decide +kernel
theorem dX7_tick_43 : decode cX7_tick 43 = .ok (.putfield 160, 3) := by decide +kernel
theorem dX7_tick_46 : decode cX7_tick 46 = .ok (.goto 185, 3) := by decide +kernel
theorem dX7_tick_49 : decode cX7_tick 49 = .ok (.aload_n 0, 1) := by decide +kernel
theorem dX7_tick_50 : decode cX7_tick 50 = .ok (.getfield 160, 3) := by decide +kernel
theorem dX7_tick_53 : decode cX7_tick 53 = .ok (.iconst 1, 1) := by decide +kernel
theorem dX7_tick_54 : decode cX7_tick 54 = .ok (.if_icmp .eq 11, 3) := by decide +kernel
theorem dX7_tick_57 : decode cX7_tick 57 = .ok (.aload_n 0, 1) := by decide +kernel
theorem dX7_tick_58 : decode cX7_tick 58 = .ok (.getfield 160, 3) := by decide +kernel
theorem dX7_tick_61 : decode cX7_tick 61 = .ok (.iconst 2, 1) := by decide +kernel
theorem dX7_tick_62 : decode cX7_tick 62 = .ok (.if_icmp .ne 33, 3) := by decide +kernel
theorem dX7_tick_65 : decode cX7_tick 65 = .ok (.aload_n 0, 1) := by decide +kernel
theorem dX7_tick_66 : decode cX7_tick 66 = .ok (.invokevirtual 172, 3) := by decide +kernel
theorem dX7_tick_69 : decode cX7_tick 69 = .ok (.ifCond .ne 26, 3) := by decide +kernel
theorem dX7_tick_72 : decode cX7_tick 72 = .ok (.aload_n 0, 1) := by decide +kernel
theorem dX7_tick_73 : decode cX7_tick 73 = .ok (.dup, 1) := by decide +kernel
theorem dX7_tick_74 : decode cX7_tick 74 = .ok (.getfield 62, 3) := by decide +kernel
theorem dX7_tick_77 : decode cX7_tick 77 = .ok (.iconst 1, 1) := by decide +kernel
theorem dX7_tick_78 : decode cX7_tick 78 = .ok (.iadd, 1) := by decide +kernel
theorem dX7_tick_79 : decode cX7_tick 79 = .ok (.putfield 62, 3) := by decide +kernel
theorem dX7_tick_82 : decode cX7_tick 82 = .ok (.aload_n 0, 1) := by decide +kernel
theorem dX7_tick_83 : decode cX7_tick 83 = .ok (.iconst 3, 1) := by decide +kernel
theorem dX7_tick_84 : decode cX7_tick 84 = .ok (.putfield 160, 3) := by decide +kernel
theorem dX7_tick_87 : decode cX7_tick 87 = .ok (.aload_n 0, 1) := by decide +kernel
theorem dX7_tick_88 : decode cX7_tick 88 = .ok (.iconst 0, 1) := by decide +kernel
theorem dX7_tick_89 : decode cX7_tick 89 = .ok (.putfield 176, 3) := by decide +kernel
theorem dX7_tick_92 : decode cX7_tick 92 = .ok (.goto 139, 3) := by decide +kernel
theorem dX7_tick_95 : decode cX7_tick 95 = .ok (.aload_n 0, 1) := by decide +kernel
theorem dX7_tick_96 : decode cX7_tick 96 = .ok (.getfield 160, 3) := by decide +kernel
theorem dX7_tick_99 : decode cX7_tick 99 = .ok (.iconst 1, 1) := by decide +kernel
theorem dX7_tick_100 : decode cX7_tick 100 = .ok (.if_icmp .ne 36, 3) := by decide +kernel
theorem dX7_tick_103 : decode cX7_tick 103 = .ok (.aload_n 0, 1) := by decide +kernel
theorem dX7_tick_104 : decode cX7_tick 104 = .ok (.dup, 1) := by decide +kernel
theorem dX7_tick_105 : decode cX7_tick 105 = .ok (.getfield 62, 3) := by decide +kernel
theorem dX7_tick_108 : decode cX7_tick 108 = .ok (.iconst 1, 1) := by decide +kernel
theorem dX7_tick_109 : decode cX7_tick 109 = .ok (.iadd, 1) := by decide +kernel
theorem dX7_tick_110 : decode cX7_tick 110 = .ok (.putfield 62, 3) := by decide +kernel
theorem dX7_tick_113 : decode cX7_tick 113 = .ok (.aload_n 0, 1) := by decide +kernel
theorem dX7_tick_114 : decode cX7_tick 114 = .ok (.aload_n 0, 1) := by decide +kernel
theorem dX7_tick_115 : decode cX7_tick 115 = .ok (.getfield 62, 3) := by decide +kernel
theorem dX7_tick_118 : decode cX7_tick 118 = .ok (.aload_n 0, 1) := by decide +kernel
theorem dX7_tick_119 : decode cX7_tick 119 = .ok (.getfield 163, 3) := by decide +kernel
theorem dX7_tick_122 : decode cX7_tick 122 = .ok (.if_icmp .ne 7, 3) := by decide +kernel
theorem dX7_tick_125 : decode cX7_tick 125 = .ok (.iconst 2, 1) := by decide +kernel
theorem dX7_tick_126 : decode cX7_tick 126 = .ok (.goto 4, 3) := by decide +kernel
theorem dX7_tick_129 : decode cX7_tick 129 = .ok (.iconst 1, 1) := by decide +kernel
theorem dX7_tick_130 : decode cX7_tick 130 = .ok (.putfield 160, 3) := by decide +kernel
theorem dX7_tick_133 : decode cX7_tick 133 = .ok (.goto 98, 3) := by decide +kernel
theorem dX7_tick_136 : decode cX7_tick 136 = .ok (.aload_n 0, 1) := by decide +kernel
theorem dX7_tick_137 : decode cX7_tick 137 = .ok (.getfield 160, 3) := by decide +kernel
theorem dX7_tick_140 : decode cX7_tick 140 = .ok (.iconst 2, 1) := by decide +kernel
theorem dX7_tick_141 : decode cX7_tick 141 = .ok (.if_icmp .ne 10, 3) := by decide +kernel
theorem dX7_tick_144 : decode cX7_tick 144 = .ok (.aload_n 0, 1) := by decide +kernel
theorem dX7_tick_145 : decode cX7_tick 145 = .ok (.invokevirtual 179, 3) := by decide +kernel
theorem dX7_tick_148 : decode cX7_tick 148 = .ok (.goto 83, 3) := by decide +kernel
theorem dX7_tick_151 : decode cX7_tick 151 = .ok (.aload_n 0, 1) := by decide +kernel
theorem dX7_tick_152 : decode cX7_tick 152 = .ok (.getfield 160, 3) := by decide +kernel
theorem dX7_tick_155 : decode cX7_tick 155 = .ok (.iconst 3, 1) := by decide +kernel
theorem dX7_tick_156 : decode cX7_tick 156 = .ok (.if_icmp .ne 43, 3) := by decide +kernel
theorem dX7_tick_159 : decode cX7_tick 159 = .ok (.aload_n 0, 1) := by decide +kernel
theorem dX7_tick_160 : decode cX7_tick 160 = .ok (.dup, 1) := by decide +kernel
theorem dX7_tick_161 : decode cX7_tick 161 = .ok (.getfield 62, 3) := by decide +kernel
theorem dX7_tick_164 : decode cX7_tick 164 = .ok (.iconst 1, 1) := by decide +kernel
theorem dX7_tick_165 : decode cX7_tick 165 = .ok (.iadd, 1) := by decide +kernel
theorem dX7_tick_166 : decode cX7_tick 166 = .ok (.putfield 62, 3) := by decide +kernel
theorem dX7_tick_169 : decode cX7_tick 169 = .ok (.aload_n 0, 1) := by decide +kernel
theorem dX7_tick_170 : decode cX7_tick 170 = .ok (.dup, 1) := by decide +kernel
theorem dX7_tick_171 : decode cX7_tick 171 = .ok (.getfield 176, 3) := by decide +kernel
theorem dX7_tick_174 : decode cX7_tick 174 = .ok (.iconst 1, 1) := by decide +kernel
theorem dX7_tick_175 : decode cX7_tick 175 = .ok (.iadd, 1) := by decide +kernel
theorem dX7_tick_176 : decode cX7_tick 176 = .ok (.putfield 176, 3) := by decide +kernel
theorem dX7_tick_179 : decode cX7_tick 179 = .ok (.aload_n 0, 1) := by decide +kernel
theorem dX7_tick_180 : decode cX7_tick 180 = .ok (.aload_n 0, 1) := by decide +kernel
theorem dX7_tick_181 : decode cX7_tick 181 = .ok (.getfield 176, 3) := by decide +kernel
theorem dX7_tick_184 : decode cX7_tick 184 = .ok (.iconst 3, 1) := by decide +kernel
theorem dX7_tick_185 : decode cX7_tick 185 = .ok (.if_icmp .ne 7, 3) := by decide +kernel
theorem dX7_tick_188 : decode cX7_tick 188 = .ok (.iconst 4, 1) := by decide +kernel
theorem dX7_tick_189 : decode cX7_tick 189 = .ok (.goto 4, 3) := by decide +kernel
theorem dX7_tick_192 : decode cX7_tick 192 = .ok (.iconst 3, 1) := by decide +kernel
theorem dX7_tick_193 : decode cX7_tick 193 = .ok (.putfield 160, 3) := by decide +kernel
theorem dX7_tick_196 : decode cX7_tick 196 = .ok (.goto 35, 3) := by decide +kernel
theorem dX7_tick_199 : decode cX7_tick 199 = .ok (.aload_n 0, 1) := by decide +kernel
theorem dX7_tick_200 : decode cX7_tick 200 = .ok (.dup, 1) := by decide +kernel
theorem dX7_tick_201 : decode cX7_tick 201 = .ok (.getfield 62, 3) := by decide +kernel
theorem dX7_tick_204 : decode cX7_tick 204 = .ok (.iconst 1, 1) := by decide +kernel
theorem dX7_tick_205 : decode cX7_tick 205 = .ok (.isub, 1) := by decide +kernel
theorem dX7_tick_206 : decode cX7_tick 206 = .ok (.putfield 62, 3) := by decide +kernel
theorem dX7_tick_209 : decode cX7_tick 209 = .ok (.aload_n 0, 1) := by decide +kernel
theorem dX7_tick_210 : decode cX7_tick 210 = .ok (.aload_n 0, 1) := by decide +kernel
