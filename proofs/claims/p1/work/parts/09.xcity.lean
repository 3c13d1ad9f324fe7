theorem dX9_clear_0 : decode cX9_clear 0 = .ok (.aload_n 0, 1) := by decide +kernel
theorem dX9_clear_1 : decode cX9_clear 1 = .ok (.getfield 12, 3) := by decide +kernel
theorem dX9_clear_4 : decode cX9_clear 4 = .ok (.iconst 0, 1) := by decide +kernel
theorem dX9_clear_5 : decode cX9_clear 5 = .ok (.putfield 31, 3) := by decide +kernel
theorem dX9_clear_8 : decode cX9_clear 8 = .ok (.aload_n 0, 1) := by decide +kernel
theorem dX9_clear_9 : decode cX9_clear 9 = .ok (.iconst 0, 1) := by decide +kernel
theorem dX9_clear_10 : decode cX9_clear 10 = .ok (.putfield 35, 3) := by decide +kernel
theorem dX9_clear_13 : decode cX9_clear 13 = .ok (.aload_n 0, 1) := by decide +kernel
theorem dX9_clear_14 : decode cX9_clear 14 = .ok (.iconst 0, 1) := by decide +kernel
theorem dX9_clear_15 : decode cX9_clear 15 = .ok (.putfield 38, 3) := by decide +kernel
theorem dX9_clear_18 : decode cX9_clear 18 = .ok (.return_, 1) := by decide +kernel
theorem dX8_at_0 : decode cX8_at 0 = .ok (.iload_n 1, 1) := by decide +kernel
theorem dX8_at_1 : decode cX8_at 1 = .ok (.ifCond .lt 24, 3) := by decide +kernel
theorem dX8_at_25 : decode cX8_at 25 = .ok (.iconst (-1), 1) := by decide +kernel
theorem dX8_at_26 : decode cX8_at 26 = .ok (.ireturn, 1) := by decide +kernel
theorem dX8_at_4 : decode cX8_at 4 = .ok (.iload_n 1, 1) := by decide +kernel
theorem dX8_at_5 : decode cX8_at 5 = .ok (.aload_n 0, 1) := by decide +kernel
theorem dX8_at_6 : decode cX8_at 6 = .ok (.getfield 15, 3) := by decide +kernel
theorem dX8_at_9 : decode cX8_at 9 = .ok (.if_icmp .ge 16, 3) := by decide +kernel
theorem dX5_step_0 : decode cX5_step 0 = .ok (.aload_n 0, 1) := by decide +kernel
theorem dX5_step_1 : decode cX5_step 1 = .ok (.aload_n 0, 1) := by decide +kernel
theorem dX5_step_2 : decode cX5_step 2 = .ok (.getfield 32, 3) := by decide +kernel
theorem dX5_step_5 : decode cX5_step 5 = .ok (.putfield 127, 3) := by decide +kernel
theorem dX5_step_8 : decode cX5_step 8 = .ok (.aload_n 0, 1) := by decide +kernel
theorem dX5_step_9 : decode cX5_step 9 = .ok (.getfield 127, 3) := by decide +kernel
theorem dX5_step_12 : decode cX5_step 12 = .ok (.aload_n 0, 1) := by decide +kernel
theorem dX5_step_13 : decode cX5_step 13 = .ok (.getfield 22, 3) := by decide +kernel
theorem dX5_step_16 : decode cX5_step 16 = .ok (.getfield 145, 3) := by decide +kernel
theorem dX5_step_19 : decode cX5_step 19 = .ok (.if_icmp .ge 33, 3) := by decide +kernel
theorem dX5_step_52 : decode cX5_step 52 = .ok (.aload_n 0, 1) := by decide +kernel
theorem dX5_step_53 : decode cX5_step 53 = .ok (.aload_n 0, 1) := by decide +kernel
theorem dX5_step_54 : decode cX5_step 54 = .ok (.getfield 127, 3) := by decide +kernel
theorem dX5_step_57 : decode cX5_step 57 = .ok (.putfield 32, 3) := by decide +kernel
theorem dX5_step_60 : decode cX5_step 60 = .ok (.aload_n 0, 1) := by decide +kernel
theorem dX5_step_61 : decode cX5_step 61 = .ok (.iconst 0, 1) := by decide +kernel
theorem dX5_step_62 : decode cX5_step 62 = .ok (.putfield 105, 3) := by decide +kernel
theorem dX5_step_65 : decode cX5_step 65 = .ok (.aload_n 0, 1) := by decide +kernel
theorem dX5_step_66 : decode cX5_step 66 = .ok (.getfield 22, 3) := by decide +kernel
theorem dX5_step_69 : decode cX5_step 69 = .ok (.aload_n 0, 1) := by decide +kernel
theorem dX5_step_70 : decode cX5_step 70 = .ok (.getfield 127, 3) := by decide +kernel
set_option maxRecDepth 20000 in
theorem ggX5_step_X8_at : GoodIn wsX5_step wsX8_at := goodIn_r _ [16, 17, 18, 37, 38] (by decide +kernel) (by decide +kernel)
set_option maxRecDepth 20000 in
theorem gX5_step_X8_at : GoodIn wsX5_step (wsV RX5 136 RX8 yX8_at wsX8_at) := goodIn_app (goodIn_of _ (by decide +kernel)) ggX5_step_X8_at
theorem dX5_step_73 : decode cX5_step 73 = .ok (.invokevirtual 136, 3) := by decide +kernel
theorem dX5_step_76 : decode cX5_step 76 = .ok (.istore_n 1, 1) := by decide +kernel
theorem dX5_step_77 : decode cX5_step 77 = .ok (.iload_n 1, 1) := by decide +kernel
theorem dX5_step_78 : decode cX5_step 78 = .ok (.iconst (-1), 1) := by decide +kernel
theorem dX5_step_79 : decode cX5_step 79 = .ok (.if_icmp .ne 11, 3) := by decide +kernel
theorem dX5_step_82 : decode cX5_step 82 = .ok (.aload_n 0, 1) := by decide +kernel
theorem dX5_step_83 : decode cX5_step 83 = .ok (.iconst 0, 1) := by decide +kernel
theorem dX5_step_84 : decode cX5_step 84 = .ok (.putfield 38, 3) := by decide +kernel
theorem dX5_step_87 : decode cX5_step 87 = .ok (.goto 171, 3) := by decide +kernel
theorem dX5_step_258 : decode cX5_step 258 = .ok (.return_, 1) := by decide +kernel
theorem dX5_readTape_0 : decode cX5_readTape 0 = .ok (.aload_n 0, 1) := by decide +kernel
theorem dX5_readTape_1 : decode cX5_readTape 1 = .ok (.getfield 12, 3) := by decide +kernel
set_option maxRecDepth 20000 in
theorem ggX5_readTape_X9_clear : GoodIn wsX5_readTape wsX9_clear := goodIn_r _ [11, 12, 13, 14, 15, 168, 169, 170, 171, 172, 173, 174, 175, 176] (by decide +kernel) (by decide +kernel)
set_option maxRecDepth 20000 in
theorem gX5_readTape_X9_clear : GoodIn wsX5_readTape (wsV RX5 26 RX9 yX9_clear wsX9_clear) := goodIn_app (goodIn_of _ (by decide +kernel)) ggX5_readTape_X9_clear
theorem dX5_readTape_4 : decode cX5_readTape 4 = .ok (.invokevirtual 26, 3) := by decide +kernel
theorem dX5_readTape_7 : decode cX5_readTape 7 = .ok (.aload_n 0, 1) := by decide +kernel
theorem dX5_readTape_8 : decode cX5_readTape 8 = .ok (.iconst 0, 1) := by decide +kernel
theorem dX5_readTape_9 : decode cX5_readTape 9 = .ok (.putfield 29, 3) := by decide +kernel
theorem dX5_readTape_12 : decode cX5_readTape 12 = .ok (.aload_n 0, 1) := by decide +kernel
theorem dX5_readTape_13 : decode cX5_readTape 13 = .ok (.iconst (-1), 1) := by decide +kernel
theorem dX5_readTape_14 : decode cX5_readTape 14 = .ok (.putfield 18, 3) := by decide +kernel
theorem dX5_readTape_17 : decode cX5_readTape 17 = .ok (.aload_n 0, 1) := by decide +kernel
theorem dX5_readTape_18 : decode cX5_readTape 18 = .ok (.iconst 0, 1) := by decide +kernel
theorem dX5_readTape_19 : decode cX5_readTape 19 = .ok (.putfield 32, 3) := by decide +kernel
theorem dX5_readTape_22 : decode cX5_readTape 22 = .ok (.aload_n 0, 1) := by decide +kernel
set_option maxRecDepth 20000 in
theorem ggX5_readTape_X5_step : GoodIn wsX5_readTape wsX5_step := goodIn_r _ [20, 4, 21, 22, 23, 24, 5, 25, 26, 27, 28, 29, 30, 31, 32, 33, 34, 35, 36, 37, 38, 19, 39, 40, 41, 42, 43, 44, 45, 160, 161, 162, 163, 164, 165, 166, 167, 177, 178] (by decide +kernel) (by decide +kernel)
set_option maxRecDepth 20000 in
theorem gX5_readTape_X5_step : GoodIn wsX5_readTape (wsV RX5 35 RX5 yX5_step wsX5_step) := goodIn_app (goodIn_of _ (by decide +kernel)) ggX5_readTape_X5_step
theorem dX5_readTape_23 : decode cX5_readTape 23 = .ok (.invokevirtual 35, 3) := by decide +kernel
theorem dX5_readTape_26 : decode cX5_readTape 26 = .ok (.iconst 0, 1) := by decide +kernel
theorem dX5_readTape_27 : decode cX5_readTape 27 = .ok (.istore_n 1, 1) := by decide +kernel
theorem dX5_readTape_28 : decode cX5_readTape 28 = .ok (.iload_n 1, 1) := by decide +kernel
theorem dX5_readTape_29 : decode cX5_readTape 29 = .ok (.sipush 900, 3) := by decide +kernel
theorem dX5_readTape_32 : decode cX5_readTape 32 = .ok (.if_icmp .ge 81, 3) := by decide +kernel
theorem dX5_readTape_35 : decode cX5_readTape 35 = .ok (.aload_n 0, 1) := by decide +kernel
theorem dX5_readTape_36 : decode cX5_readTape 36 = .ok (.getfield 38, 3) := by decide +kernel
theorem dX5_readTape_39 : decode cX5_readTape 39 = .ok (.ifCond .eq 74, 3) := by decide +kernel
theorem dX5_readTape_113 : decode cX5_readTape 113 = .ok (.aload_n 0, 1) := by decide +kernel
theorem dX5_readTape_114 : decode cX5_readTape 114 = .ok (.getfield 29, 3) := by decide +kernel
theorem dX5_readTape_117 : decode cX5_readTape 117 = .ok (.ifCond .ne 7, 3) := by decide +kernel
theorem dX5_readTape_120 : decode cX5_readTape 120 = .ok (.iconst 1, 1) := by decide +kernel
theorem dX5_readTape_121 : decode cX5_readTape 121 = .ok (.goto 4, 3) := by decide +kernel
theorem dX5_readTape_125 : decode cX5_readTape 125 = .ok (.ireturn, 1) := by decide +kernel
theorem dX0_copyOf_0 : decode cX0_copyOf 0 = .ok (.aload_n 0, 1) := by decide +kernel
theorem dX0_copyOf_1 : decode cX0_copyOf 1 = .ok (.aload_n 1, 1) := by decide +kernel
theorem dX0_copyOf_2 : decode cX0_copyOf 2 = .ok (.getfield 15, 3) := by decide +kernel
theorem dX0_copyOf_5 : decode cX0_copyOf 5 = .ok (.putfield 15, 3) := by decide +kernel
theorem dX0_copyOf_8 : decode cX0_copyOf 8 = .ok (.aload_n 1, 1) := by decide +kernel
theorem dX0_copyOf_9 : decode cX0_copyOf 9 = .ok (.getfield 9, 3) := by decide +kernel
theorem dX0_copyOf_12 : decode cX0_copyOf 12 = .ok (.iconst 0, 1) := by decide +kernel
theorem dX0_copyOf_13 : decode cX0_copyOf 13 = .ok (.aload_n 0, 1) := by decide +kernel
theorem dX0_copyOf_14 : decode cX0_copyOf 14 = .ok (.getfield 9, 3) := by decide +kernel
theorem dX0_copyOf_17 : decode cX0_copyOf 17 = .ok (.iconst 0, 1) := by decide +kernel
theorem dX0_copyOf_18 : decode cX0_copyOf 18 = .ok (.bipush 8, 2) := by decide +kernel
theorem dX0_copyOf_20 : decode cX0_copyOf 20 = .ok (.invokestatic 23, 3) := by decide +kernel
theorem dX0_copyOf_23 : decode cX0_copyOf 23 = .ok (.return_, 1) := by decide +kernel
theorem dX9_copyOf_0 : decode cX9_copyOf 0 = .ok (.aload_n 0, 1) := by decide +kernel
theorem dX9_copyOf_1 : decode cX9_copyOf 1 = .ok (.getfield 12, 3) := by decide +kernel
theorem dX9_copyOf_4 : decode cX9_copyOf 4 = .ok (.aload_n 1, 1) := by decide +kernel
theorem dX9_copyOf_5 : decode cX9_copyOf 5 = .ok (.getfield 12, 3) := by decide +kernel
set_option maxRecDepth 20000 in
theorem ggX9_copyOf_X0_copyOf : GoodIn wsX9_copyOf wsX0_copyOf := goodIn_r _ [16, 17, 18, 19, 4, 5, 6, 27, 28] (by decide +kernel) (by decide +kernel)
set_option maxRecDepth 20000 in
theorem gX9_copyOf_X0_copyOf : GoodIn wsX9_copyOf (wsV RX9 41 RX0 yX0_copyOf wsX0_copyOf) := goodIn_app (goodIn_of _ (by decide +kernel)) ggX9_copyOf_X0_copyOf
theorem dX9_copyOf_8 : decode cX9_copyOf 8 = .ok (.invokevirtual 41, 3) := by decide +kernel
theorem dX9_copyOf_11 : decode cX9_copyOf 11 = .ok (.aload_n 1, 1) := by decide +kernel
theorem dX9_copyOf_12 : decode cX9_copyOf 12 = .ok (.getfield 18, 3) := by decide +kernel
theorem dX9_copyOf_15 : decode cX9_copyOf 15 = .ok (.iconst 0, 1) := by decide +kernel
theorem dX9_copyOf_16 : decode cX9_copyOf 16 = .ok (.aload_n 0, 1) := by decide +kernel
theorem dX9_copyOf_17 : decode cX9_copyOf 17 = .ok (.getfield 18, 3) := by decide +kernel
theorem dX9_copyOf_20 : decode cX9_copyOf 20 = .ok (.iconst 0, 1) := by decide +kernel
theorem dX9_copyOf_21 : decode cX9_copyOf 21 = .ok (.bipush 8, 2) := by decide +kernel
theorem dX9_copyOf_23 : decode cX9_copyOf 23 = .ok (.invokestatic 45, 3) := by decide +kernel
theorem dX9_copyOf_26 : decode cX9_copyOf 26 = .ok (.aload_n 1, 1) := by decide +kernel
theorem dX9_copyOf_27 : decode cX9_copyOf 27 = .ok (.getfield 22, 3) := by decide +kernel
theorem dX9_copyOf_30 : decode cX9_copyOf 30 = .ok (.iconst 0, 1) := by decide +kernel
theorem dX9_copyOf_31 : decode cX9_copyOf 31 = .ok (.aload_n 0, 1) := by decide +kernel
theorem dX9_copyOf_32 : decode cX9_copyOf 32 = .ok (.getfield 22, 3) := by decide +kernel
theorem dX9_copyOf_35 : decode cX9_copyOf 35 = .ok (.iconst 0, 1) := by decide +kernel
theorem dX9_copyOf_36 : decode cX9_copyOf 36 = .ok (.bipush 8, 2) := by decide +kernel
theorem dX9_copyOf_38 : decode cX9_copyOf 38 = .ok (.invokestatic 45, 3) := by decide +kernel
theorem dX9_copyOf_41 : decode cX9_copyOf 41 = .ok (.aload_n 1, 1) := by decide +kernel
theorem dX9_copyOf_42 : decode cX9_copyOf 42 = .ok (.getfield 25, 3) := by decide +kernel
theorem dX9_copyOf_45 : decode cX9_copyOf 45 = .ok (.iconst 0, 1) := by decide +kernel
theorem dX9_copyOf_46 : decode cX9_copyOf 46 = .ok (.aload_n 0, 1) := by decide +kernel
theorem dX9_copyOf_47 : decode cX9_copyOf 47 = .ok (.getfield 25, 3) := by decide +kernel
theorem dX9_copyOf_50 : decode cX9_copyOf 50 = .ok (.iconst 0, 1) := by decide +kernel
theorem dX9_copyOf_51 : decode cX9_copyOf 51 = .ok (.bipush 8, 2) := by decide +kernel
theorem dX9_copyOf_53 : decode cX9_copyOf 53 = .ok (.invokestatic 45, 3) := by decide +kernel
theorem dX9_copyOf_56 : decode cX9_copyOf 56 = .ok (.aload_n 1, 1) := by decide +kernel
theorem dX9_copyOf_57 : decode cX9_copyOf 57 = .ok (.getfield 28, 3) := by decide +kernel
theorem dX9_copyOf_60 : decode cX9_copyOf 60 = .ok (.iconst 0, 1) := by decide +kernel
theorem dX9_copyOf_61 : decode cX9_copyOf 61 = .ok (.aload_n 0, 1) := by decide +kernel
theorem dX9_copyOf_62 : decode cX9_copyOf 62 = .ok (.getfield 28, 3) := by decide +kernel
theorem dX9_copyOf_65 : decode cX9_copyOf 65 = .ok (.iconst 0, 1) := by decide +kernel
theorem dX9_copyOf_66 : decode cX9_copyOf 66 = .ok (.bipush 8, 2) := by decide +kernel
theorem dX9_copyOf_68 : decode cX9_copyOf 68 = .ok (.invokestatic 45, 3) := by decide +kernel
theorem dX9_copyOf_71 : decode cX9_copyOf 71 = .ok (.aload_n 0, 1) := by decide +kernel
theorem dX9_copyOf_72 : decode cX9_copyOf 72 = .ok (.aload_n 1, 1) := by decide +kernel
theorem dX9_copyOf_73 : decode cX9_copyOf 73 = .ok (.getfield 35, 3) := by decide +kernel
theorem dX9_copyOf_76 : decode cX9_copyOf 76 = .ok (.putfield 35, 3) := by decide +kernel
theorem dX9_copyOf_79 : decode cX9_copyOf 79 = .ok (.aload_n 0, 1) := by decide +kernel
theorem dX9_copyOf_80 : decode cX9_copyOf 80 = .ok (.aload_n 1, 1) := by decide +kernel
theorem dX9_copyOf_81 : decode cX9_copyOf 81 = .ok (.getfield 38, 3) := by decide +kernel
theorem dX9_copyOf_84 : decode cX9_copyOf 84 = .ok (.putfield 38, 3) := by decide +kernel
theorem dX9_copyOf_87 : decode cX9_copyOf 87 = .ok (.return_, 1) := by decide +kernel
theorem dX2_begin_0 : decode cX2_begin 0 = .ok (.aload_n 0, 1) := by decide +kernel
theorem dX2_begin_1 : decode cX2_begin 1 = .ok (.getfield 12, 3) := by decide +kernel
theorem dX2_begin_4 : decode cX2_begin 4 = .ok (.aload_n 0, 1) := by decide +kernel
theorem dX2_begin_5 : decode cX2_begin 5 = .ok (.getfield 25, 3) := by decide +kernel
theorem dX2_begin_8 : decode cX2_begin 8 = .ok (.getfield 29, 3) := by decide +kernel
set_option maxRecDepth 20000 in
theorem ggX2_begin_X0_copyOf : GoodIn wsX2_begin wsX0_copyOf := goodIn_r _ [13, 14, 15, 16, 17, 18, 19, 35, 36] (by decide +kernel) (by decide +kernel)
set_option maxRecDepth 20000 in
theorem gX2_begin_X0_copyOf : GoodIn wsX2_begin (wsV RX2 32 RX0 yX0_copyOf wsX0_copyOf) := goodIn_app (goodIn_of _ (by decide +kernel)) ggX2_begin_X0_copyOf
theorem dX2_begin_11 : decode cX2_begin 11 = .ok (.invokevirtual 32, 3) := by decide +kernel
theorem dX2_begin_14 : decode cX2_begin 14 = .ok (.iconst 0, 1) := by decide +kernel
theorem dX2_begin_15 : decode cX2_begin 15 = .ok (.istore_n 1, 1) := by decide +kernel
theorem dX2_begin_16 : decode cX2_begin 16 = .ok (.iload_n 1, 1) := by decide +kernel
theorem dX2_begin_17 : decode cX2_begin 17 = .ok (.bipush 8, 2) := by decide +kernel
theorem dX2_begin_19 : decode cX2_begin 19 = .ok (.if_icmp .ge 16, 3) := by decide +kernel
theorem dX2_begin_22 : decode cX2_begin 22 = .ok (.aload_n 0, 1) := by decide +kernel
theorem dX2_begin_23 : decode cX2_begin 23 = .ok (.getfield 18, 3) := by decide +kernel
theorem dX2_begin_26 : decode cX2_begin 26 = .ok (.iload_n 1, 1) := by decide +kernel
theorem dX2_begin_27 : decode cX2_begin 27 = .ok (.iconst 0, 1) := by decide +kernel
theorem dX2_begin_28 : decode cX2_begin 28 = .ok (.iastore, 1) := by decide +kernel
theorem dX2_begin_29 : decode cX2_begin 29 = .ok (.iinc 1 1, 3) := by decide +kernel
theorem dX2_begin_32 : decode cX2_begin 32 = .ok (.goto (-16), 3) := by decide +kernel
theorem dX2_begin_35 : decode cX2_begin 35 = .ok (.aload_n 0, 1) := by decide +kernel
theorem dX2_begin_36 : decode cX2_begin 36 = .ok (.iconst 0, 1) := by decide +kernel
theorem dX2_begin_37 : decode cX2_begin 37 = .ok (.putfield 36, 3) := by decide +kernel
theorem dX2_begin_40 : decode cX2_begin 40 = .ok (.aload_n 0, 1) := by decide +kernel
theorem dX2_begin_41 : decode cX2_begin 41 = .ok (.iconst 0, 1) := by decide +kernel
theorem dX2_begin_42 : decode cX2_begin 42 = .ok (.putfield 40, 3) := by decide +kernel
theorem dX2_begin_45 : decode cX2_begin 45 = .ok (.aload_n 0, 1) := by decide +kernel
theorem dX2_begin_46 : decode cX2_begin 46 = .ok (.iconst 0, 1) := by decide +kernel
theorem dX2_begin_47 : decode cX2_begin 47 = .ok (.putfield 43, 3) := by decide +kernel
theorem dX2_begin_50 : decode cX2_begin 50 = .ok (.aload_n 0, 1) := by decide +kernel
theorem dX2_begin_51 : decode cX2_begin 51 = .ok (.iconst 0, 1) := by decide +kernel
theorem dX2_begin_52 : decode cX2_begin 52 = .ok (.putfield 46, 3) := by decide +kernel
theorem dX2_begin_55 : decode cX2_begin 55 = .ok (.return_, 1) := by decide +kernel
theorem dX4_replay_0 : decode cX4_replay 0 = .ok (.aload_n 0, 1) := by decide +kernel
theorem dX4_replay_1 : decode cX4_replay 1 = .ok (.getfield 23, 3) := by decide +kernel
set_option maxRecDepth 20000 in
theorem ggX4_replay_X2_begin : GoodIn wsX4_replay wsX2_begin := goodIn_r _ [8, 9, 10, 11, 12, 13, 14, 15, 16, 17, 18, 19, 20, 21, 22, 23, 24, 25, 26, 27, 83, 84, 85, 86, 87, 88, 89, 90, 91, 92, 93, 94, 95, 96, 97, 98, 99] (by decide +kernel) (by decide +kernel)
set_option maxRecDepth 20000 in
theorem gX4_replay_X2_begin : GoodIn wsX4_replay (wsV RX4 51 RX2 yX2_begin wsX2_begin) := goodIn_app (goodIn_of _ (by decide +kernel)) ggX4_replay_X2_begin
theorem dX4_replay_4 : decode cX4_replay 4 = .ok (.invokevirtual 51, 3) := by decide +kernel
theorem dX4_replay_7 : decode cX4_replay 7 = .ok (.iconst 0, 1) := by decide +kernel
theorem dX4_replay_8 : decode cX4_replay 8 = .ok (.istore_n 2, 1) := by decide +kernel
theorem dX4_replay_9 : decode cX4_replay 9 = .ok (.iload_n 2, 1) := by decide +kernel
theorem dX4_replay_10 : decode cX4_replay 10 = .ok (.iload_n 1, 1) := by decide +kernel
theorem dX4_replay_11 : decode cX4_replay 11 = .ok (.if_icmp .ge 25, 3) := by decide +kernel
theorem dX4_replay_36 : decode cX4_replay 36 = .ok (.aload_n 0, 1) := by decide +kernel
theorem dX4_replay_37 : decode cX4_replay 37 = .ok (.iload_n 1, 1) := by decide +kernel
theorem dX4_replay_38 : decode cX4_replay 38 = .ok (.putfield 44, 3) := by decide +kernel
theorem dX4_replay_41 : decode cX4_replay 41 = .ok (.return_, 1) := by decide +kernel
set_option maxHeartbeats 4000000 in
set_option maxRecDepth 100000 in
theorem c_X9_clear (l : Launch) (G : va_G) (ct : Nat → ClassId) (t0 : Nat) (t1 : Nat) (t2 : Nat) (t3 : Nat) (t4 : Nat) (t5 : Nat) (t6 : Nat) (tl : Int32) (tw : Int32) (tn : Int32)  : Met l yX9_clear wsX9_clear ({ frames := 0, cells := 0, slots := 0, locals := 0 }) (va_Pc [.ref t0] (wrP G ct [(t0, .inr (9, [.ref t1, .ref t3, .ref t4, .ref t5, .ref t6, .int tl, .int tw])), (t1, .inr (0, [.ref t2, .int tn]))])) (va_Qv (fun u : Unit => True) (fun u t => va_P G vwCl ((fun _ : Unit => [(t0, .inr (9, [.ref t1, .ref t3, .ref t4, .ref t5, .ref t6, .int 0, .int 0])), (t1, .inr (0, [.ref t2, .int 0]))]) u) t.heap) (aset [(t0, .inr (9, [.ref t1, .ref t3, .ref t4, .ref t5, .ref t6, .int tl, .int tw])), (t1, .inr (0, [.ref t2, .int tn]))])) 0 0 (aset [(t0, .inr (9, [.ref t1, .ref t3, .ref t4, .ref t5, .ref t6, .int tl, .int tw])), (t1, .inr (0, [.ref t2, .int tn]))]) := by
  refine Met.ofW (cc := cX9_clear) (maxL := 1) (ret := none) (by decide) rfl ?_
  intro p e s m args below meth c s₁ B hml hv
  obtain ⟨rfl, hP, hK, hD0⟩ := hv
  have hx := B.exec
  have hb := B.bytes
  have hr := B.returns
  have hts := atoms_spec (ws := wsX9_clear) B.pre
  have hown : s.vm.findClass RX9 = some m.cls := findClass_of_methodNamed B.named
  have hlocks := B.notSynchronized
  have hD := hD0.aself
  generalize hAe : aset [(t0, .inr (9, [.ref t1, .ref t3, .ref t4, .ref t5, .ref t6, .int tl, .int tw])), (t1, .inr (0, [.ref t2, .int tn]))] = A at hD ⊢
  have hS : va_S A s.heap s.heap [] := va_S.rf
  have hl := lv_entry ([.ref t0]) (n := 1) (Nat.le_of_ble_eq_true rfl)
  rw [lg_entry_eq]
  generalize (lg_sl ([.ref t0]) ++ List.replicate (1 - (lg_sl ([.ref t0])).length) Slot.unset).toArray = ls at hl ⊢
  have hl : lv_has ls 1 [(0, .ref t0)] := hl
  refine lv_aload_n hx hb dX9_clear_0 rfl (lv_at hl 0 rfl) ?_
  refine va_get (D := G) (ci := 9) (v := .ref t1) (C := RX9) (T := TX9) (N := 7) hx hb hts (by decide +kernel) hown hK.1 hP 0 rfl rfl 0 (by decide) (hts (.fieldLink RX9 12 "CardHolder$Town" "bonds" "LCardHolder$Bonds;") (by decide +kernel)) (fun _ h9 => h9) rfl dX9_clear_1 ?_
  refine lv_iconst (v := 0) hx hb dX9_clear_4 (by decide) ?_
  refine va_put (D := G) (ci := 0) (v := .int 0) (ty := .int) (C := RX0) (T := TX0) (N := 2) hx hb hts (by decide +kernel) tyX0 tyX0_ok nmX0 hown hK.1 hP hD hS 1 rfl rfl 1 (by decide) (hts (.fieldLink RX9 31 "CardHolder$Bonds" "persons" "I") (by decide +kernel)) (fun _ h9 => h9) rfl (by decide +kernel) rfl rfl (Nat.le_of_ble_eq_true rfl) dX9_clear_5 (fun H locs hP hD hS => ?_)
  refine lv_aload_n hx hb dX9_clear_8 rfl (lv_at hl 0 rfl) ?_
  refine lv_iconst (v := 0) hx hb dX9_clear_9 (by decide) ?_
  refine va_put (D := G) (ci := 9) (v := .int 0) (ty := .int) (C := RX9) (T := TX9) (N := 7) hx hb hts (by decide +kernel) tyX9 tyX9_ok nmX9 hown hK.1 hP hD hS 0 rfl rfl 5 (by decide) (hts (.fieldLink RX9 35 "CardHolder$Town" "lines" "I") (by decide +kernel)) (fun _ h9 => h9) rfl (by decide +kernel) rfl rfl (Nat.le_of_ble_eq_true rfl) dX9_clear_10 (fun H locs hP hD hS => ?_)
  refine lv_aload_n hx hb dX9_clear_13 rfl (lv_at hl 0 rfl) ?_
  refine lv_iconst (v := 0) hx hb dX9_clear_14 (by decide) ?_
  refine va_put (D := G) (ci := 9) (v := .int 0) (ty := .int) (C := RX9) (T := TX9) (N := 7) hx hb hts (by decide +kernel) tyX9 tyX9_ok nmX9 hown hK.1 hP hD hS 0 rfl rfl 6 (by decide) (hts (.fieldLink RX9 38 "CardHolder$Town" "wear" "I") (by decide +kernel)) (fun _ h9 => h9) rfl (by decide +kernel) rfl rfl (Nat.le_of_ble_eq_true rfl) dX9_clear_15 (fun H locs hP hD hS => ?_)
  exact W.vret hx hb hr (fun t ht hW => ⟨⟨(), rfl, trivial, hp_at ht hP⟩, hS.F ht⟩) hS.2.2 dX9_clear_18

set_option maxHeartbeats 4000000 in
set_option maxRecDepth 100000 in
theorem c0_X8_at (l : Launch) (G : va_G) (ct : Nat → ClassId) (h0 : Nat) (b0 : Nat) (p0 : Int32)  : Met l yX8_at wsX8_at ({ frames := 0, cells := 0, slots := 0, locals := 0 }) (va_Pc [.ref h0, .int p0] (roP G ct [(h0, .inr (8, [.ref b0, .int 0]))])) (roQ (fun r => r = -1)) 0 0 no := by
  refine Met.ofW (cc := cX8_at) (maxL := 2) (ret := (some .int)) (by decide) rfl ?_
  intro p e s m args below meth c s₁ B hml hv
  obtain ⟨rfl, hP, hK⟩ := hv
  have hx := B.exec
  have hb := B.bytes
  have hr := B.returns
  have hts := atoms_spec (ws := wsX8_at) B.pre
  have hown : s.vm.findClass RX8 = some m.cls := findClass_of_methodNamed B.named
  have hlocks := B.notSynchronized
  have hS : va_S no s.heap s.heap [] := va_S.rf
  have hl := lv_entry ([.ref h0, .int p0]) (n := 2) (Nat.le_of_ble_eq_true rfl)
  rw [lg_entry_eq]
  generalize (lg_sl ([.ref h0, .int p0]) ++ List.replicate (2 - (lg_sl ([.ref h0, .int p0])).length) Slot.unset).toArray = ls at hl ⊢
  have hl : lv_has ls 2 [(0, .ref h0), (1, .int p0)] := hl
  refine lv_iload_n hx hb dX8_at_0 rfl (lv_at hl 1 rfl) ?_
  refine lv_if_lt (tgt := 25) hx hb dX8_at_1 (by decide) (fun c_1 => ?_) (fun c_1 => ?_)
  · refine lv_iconst (v := (-1)) hx hb dX8_at_25 (by decide) ?_
    exact W.iret (v := (-1)) hx hb hr (fun t ht hW => ⟨⟨(-1), (), rfl, rfl, trivial⟩, hS.F ht⟩) hS.2.2 dX8_at_26
  · refine lv_iload_n hx hb dX8_at_4 rfl (lv_at hl 1 rfl) ?_
    refine lv_aload_n hx hb dX8_at_5 rfl (lv_at hl 0 rfl) ?_
    refine va_get (D := G) (ci := 8) (v := .int 0) (C := RX8) (T := TX8) (N := 2) hx hb hts (by decide +kernel) hown hK.1 hP 0 rfl rfl 1 (by decide) (hts (.fieldLink RX8 15 "CardHolder$Tape" "size" "I") (by decide +kernel)) (fun _ h9 => h9) rfl dX8_at_6 ?_
    refine lv_icmp_ge (tgt := 25) hx hb dX8_at_9 (by decide) (fun c_2 => ?_) (fun c_2 => ?_)
    · refine lv_iconst (v := (-1)) hx hb dX8_at_25 (by decide) ?_
      exact W.iret (v := (-1)) hx hb hr (fun t ht hW => ⟨⟨(-1), (), rfl, rfl, trivial⟩, hS.F ht⟩) hS.2.2 dX8_at_26
    · exfalso; have f0 := i_nlt c_1; have f1 := i_nle c_2; have : (0 : Int32).toInt = 0 := (by decide); omega

set_option maxHeartbeats 4000000 in
set_option maxRecDepth 100000 in
theorem c0_X5_step (l : Launch) (G : va_G) (ct : Nat → ClassId) (h0 : Nat) (b0 : Nat) (y0 : Nat) (y1 : Nat)  : Met l yX5_step wsX5_step ({ frames := 1, cells := 0, slots := 0, locals := 60 }) (va_Pc [.ref h0] (wrP G ct [(h0, .inr (5, [.ref y0, .ref y1, .int 0, .int (-1), .int 0, .int 0, .int 0, .int 0])), (y0, .inr (8, [.ref b0, .int 0]))])) (va_Qv (fun u : Unit => True) (fun u t => va_P G vwCl ((fun _ : Unit => [(h0, .inr (5, [.ref y0, .ref y1, .int 0, .int (-1), .int 0, .int 0, .int 0, .int 0])), (y0, .inr (8, [.ref b0, .int 0]))]) u) t.heap) (aset [(h0, .inr (5, [.ref y0, .ref y1, .int 0, .int (-1), .int 0, .int 0, .int 0, .int 0])), (y0, .inr (8, [.ref b0, .int 0]))])) 0 0 (aset [(h0, .inr (5, [.ref y0, .ref y1, .int 0, .int (-1), .int 0, .int 0, .int 0, .int 0])), (y0, .inr (8, [.ref b0, .int 0]))]) := by
  refine Met.ofW (cc := cX5_step) (maxL := 2) (ret := none) (by decide) rfl ?_
  intro p e s m args below meth c s₁ B hml hv
  obtain ⟨rfl, hP, hK, hD0⟩ := hv
  have hx := B.exec
  have hb := B.bytes
  have hr := B.returns
  have hts := atoms_spec (ws := wsX5_step) B.pre
  have hown : s.vm.findClass RX5 = some m.cls := findClass_of_methodNamed B.named
  have hlocks := B.notSynchronized
  have hD := hD0.aself
  generalize hAe : aset [(h0, .inr (5, [.ref y0, .ref y1, .int 0, .int (-1), .int 0, .int 0, .int 0, .int 0])), (y0, .inr (8, [.ref b0, .int 0]))] = A at hD ⊢
  have hS : va_S A s.heap s.heap [] := va_S.rf
  have hl := lv_entry ([.ref h0]) (n := 2) (Nat.le_of_ble_eq_true rfl)
  rw [lg_entry_eq]
  generalize (lg_sl ([.ref h0]) ++ List.replicate (2 - (lg_sl ([.ref h0])).length) Slot.unset).toArray = ls at hl ⊢
  have hl : lv_has ls 2 [(0, .ref h0)] := hl
  refine lv_aload_n hx hb dX5_step_0 rfl (lv_at hl 0 rfl) ?_
  refine lv_aload_n hx hb dX5_step_1 rfl (lv_at hl 0 rfl) ?_
  refine va_get (D := G) (ci := 5) (v := .int 0) (C := RX5) (T := TX5) (N := 8) hx hb hts (by decide +kernel) hown hK.1 hP 0 rfl rfl 6 (by decide) (hts (.fieldLink RX5 32 "CardHolder$Reader" "next" "I") (by decide +kernel)) (fun _ h9 => h9) rfl dX5_step_2 ?_
  refine va_put (D := G) (ci := 5) (v := .int 0) (ty := .int) (C := RX5) (T := TX5) (N := 8) hx hb hts (by decide +kernel) tyX5 tyX5_ok nmX5 hown hK.1 hP hD hS 0 rfl rfl 5 (by decide) (hts (.fieldLink RX5 127 "CardHolder$Reader" "place" "I") (by decide +kernel)) (fun _ h9 => h9) rfl (by decide +kernel) rfl rfl (Nat.le_of_ble_eq_true rfl) dX5_step_5 (fun H locs hP hD hS => ?_)
  refine lv_aload_n hx hb dX5_step_8 rfl (lv_at hl 0 rfl) ?_
  refine va_get (D := G) (ci := 5) (v := .int 0) (C := RX5) (T := TX5) (N := 8) hx hb hts (by decide +kernel) hown hK.1 hP 0 rfl rfl 5 (by decide) (hts (.fieldLink RX5 127 "CardHolder$Reader" "place" "I") (by decide +kernel)) (fun _ h9 => h9) rfl dX5_step_9 ?_
  refine lv_aload_n hx hb dX5_step_12 rfl (lv_at hl 0 rfl) ?_
  refine va_get (D := G) (ci := 5) (v := .ref y0) (C := RX5) (T := TX5) (N := 8) hx hb hts (by decide +kernel) hown hK.1 hP 0 rfl rfl 0 (by decide) (hts (.fieldLink RX5 22 "CardHolder$Reader" "tape" "LCardHolder$Tape;") (by decide +kernel)) (fun _ h9 => h9) rfl dX5_step_13 ?_
  refine va_get (D := G) (ci := 8) (v := .int 0) (C := RX8) (T := TX8) (N := 2) hx hb hts (by decide +kernel) hown hK.1 hP 1 rfl rfl 1 (by decide) (hts (.fieldLink RX5 145 "CardHolder$Tape" "size" "I") (by decide +kernel)) (fun _ h9 => h9) rfl dX5_step_16 ?_
  refine lv_icmp_ge (tgt := 52) hx hb dX5_step_19 (by decide) (fun c_1 => ?_) (fun c_1 => ?_)
  · refine lv_aload_n hx hb dX5_step_52 rfl (lv_at hl 0 rfl) ?_
    refine lv_aload_n hx hb dX5_step_53 rfl (lv_at hl 0 rfl) ?_
    refine va_get (D := G) (ci := 5) (v := .int 0) (C := RX5) (T := TX5) (N := 8) hx hb hts (by decide +kernel) hown hK.1 hP 0 rfl rfl 5 (by decide) (hts (.fieldLink RX5 127 "CardHolder$Reader" "place" "I") (by decide +kernel)) (fun _ h9 => h9) rfl dX5_step_54 ?_
    refine va_put (D := G) (ci := 5) (v := .int 0) (ty := .int) (C := RX5) (T := TX5) (N := 8) hx hb hts (by decide +kernel) tyX5 tyX5_ok nmX5 hown hK.1 hP hD hS 0 rfl rfl 6 (by decide) (hts (.fieldLink RX5 32 "CardHolder$Reader" "next" "I") (by decide +kernel)) (fun _ h9 => h9) rfl (by decide +kernel) rfl rfl (Nat.le_of_ble_eq_true rfl) dX5_step_57 (fun H locs hP hD hS => ?_)
    refine lv_aload_n hx hb dX5_step_60 rfl (lv_at hl 0 rfl) ?_
    refine lv_iconst (v := 0) hx hb dX5_step_61 (by decide) ?_
    refine va_put (D := G) (ci := 5) (v := .int 0) (ty := .int) (C := RX5) (T := TX5) (N := 8) hx hb hts (by decide +kernel) tyX5 tyX5_ok nmX5 hown hK.1 hP hD hS 0 rfl rfl 7 (by decide) (hts (.fieldLink RX5 105 "CardHolder$Reader" "value" "I") (by decide +kernel)) (fun _ h9 => h9) rfl (by decide +kernel) rfl rfl (Nat.le_of_ble_eq_true rfl) dX5_step_62 (fun H locs hP hD hS => ?_)
    refine lv_aload_n hx hb dX5_step_65 rfl (lv_at hl 0 rfl) ?_
    refine va_get (D := G) (ci := 5) (v := .ref y0) (C := RX5) (T := TX5) (N := 8) hx hb hts (by decide +kernel) hown hK.1 hP 0 rfl rfl 0 (by decide) (hts (.fieldLink RX5 22 "CardHolder$Reader" "tape" "LCardHolder$Tape;") (by decide +kernel)) (fun _ h9 => h9) rfl dX5_step_66 ?_
    refine lv_aload_n hx hb dX5_step_69 rfl (lv_at hl 0 rfl) ?_
    refine va_get (D := G) (ci := 5) (v := .int 0) (C := RX5) (T := TX5) (N := 8) hx hb hts (by decide +kernel) hown hK.1 hP 0 rfl rfl 5 (by decide) (hts (.fieldLink RX5 127 "CardHolder$Reader" "place" "I") (by decide +kernel)) (fun _ h9 => h9) rfl dX5_step_70 ?_
    refine ro_calli (va_runV (As := [.int 0]) (rest := []) ⟨hx, hb, hml, hown, hts⟩ (c0_X8_at l G ct y0 b0 0) (cwV 1 hts gX5_step_X8_at rfl rfl rfl (by decide +kernel) ⟨Nat.le_of_ble_eq_true rfl, Nat.le_of_ble_eq_true rfl⟩) (ro_preV 8 0 hK (hP.sub [1] rfl) rfl rfl) rfl rfl hl.1 rfl (lv_room (Nat.le_of_ble_eq_true rfl)) dX5_step_73 ⟨Nat.zero_le _, Nat.zero_le _⟩) hS hP (fun r_2 H locs wr_2 hP hS => ?_)
    obtain rfl := wr_2
    refine lv_istore_n (lv' := [(1, .int (-1)), (0, .ref h0)]) hx hb dX5_step_76 rfl hl (by decide) rfl (fun ls hl => ?_)
    refine lv_iload_n hx hb dX5_step_77 rfl (lv_at hl 0 rfl) ?_
    refine lv_iconst (v := (-1)) hx hb dX5_step_78 (by decide) ?_
    refine lv_icmp_ne (tgt := 90) hx hb dX5_step_79 (by decide) (fun c_3 => ?_) (fun c_3 => ?_)
    · exact absurd c_3 (by decide)
    · refine lv_aload_n hx hb dX5_step_82 rfl (lv_at hl 1 rfl) ?_
      refine lv_iconst (v := 0) hx hb dX5_step_83 (by decide) ?_
      refine va_put (D := G) (ci := 5) (v := .int 0) (ty := .int) (C := RX5) (T := TX5) (N := 8) hx hb hts (by decide +kernel) tyX5 tyX5_ok nmX5 hown hK.1 hP hD hS 0 rfl rfl 4 (by decide) (hts (.fieldLink RX5 38 "CardHolder$Reader" "kind" "I") (by decide +kernel)) (fun _ h9 => h9) rfl (by decide +kernel) rfl rfl (Nat.le_of_ble_eq_true rfl) dX5_step_84 (fun H locs hP hD hS => ?_)
      refine lv_goto (tgt := 258) hx hb dX5_step_87 (by decide) ?_
      exact W.vret hx hb hr (fun t ht hW => ⟨⟨(), rfl, trivial, hp_at ht hP⟩, hS.F ht⟩) hS.2.2 dX5_step_258
  · exact absurd c_1 (by decide)

set_option maxHeartbeats 4000000 in
set_option maxRecDepth 100000 in
theorem c0_X5_readTape (l : Launch) (G : va_G) (ct : Nat → ClassId) (h0 : Nat) (y0 : Nat) (b0 : Nat) (t0 : Nat) (t1 : Nat) (t2 : Nat) (t3 : Nat) (t4 : Nat) (t5 : Nat) (t6 : Nat)  : Met l yX5_readTape wsX5_readTape ({ frames := 9, cells := 0, slots := 0, locals := 234 }) (va_Pc [.ref h0] (wrP G ct [(h0, .inr (5, [.ref y0, .ref t0, .int 0, .int (-1), .int 0, .int 0, .int 0, .int 0])), (y0, .inr (8, [.ref b0, .int 0])), (t0, .inr (9, [.ref t1, .ref t3, .ref t4, .ref t5, .ref t6, .int 0, .int 0])), (t1, .inr (0, [.ref t2, .int 0]))])) (va_Qi (fun (r : Int32) (u : Unit) => r = 1) (fun u t => va_P G vwCl ((fun _ : Unit => [(h0, .inr (5, [.ref y0, .ref t0, .int 0, .int (-1), .int 0, .int 0, .int 0, .int 0])), (y0, .inr (8, [.ref b0, .int 0])), (t0, .inr (9, [.ref t1, .ref t3, .ref t4, .ref t5, .ref t6, .int 0, .int 0])), (t1, .inr (0, [.ref t2, .int 0]))]) u) t.heap) (aset [(h0, .inr (5, [.ref y0, .ref t0, .int 0, .int (-1), .int 0, .int 0, .int 0, .int 0])), (y0, .inr (8, [.ref b0, .int 0])), (t0, .inr (9, [.ref t1, .ref t3, .ref t4, .ref t5, .ref t6, .int 0, .int 0])), (t1, .inr (0, [.ref t2, .int 0]))])) 0 0 (aset [(h0, .inr (5, [.ref y0, .ref t0, .int 0, .int (-1), .int 0, .int 0, .int 0, .int 0])), (y0, .inr (8, [.ref b0, .int 0])), (t0, .inr (9, [.ref t1, .ref t3, .ref t4, .ref t5, .ref t6, .int 0, .int 0])), (t1, .inr (0, [.ref t2, .int 0]))]) := by
  refine Met.ofW (cc := cX5_readTape) (maxL := 2) (ret := (some .boolean)) (by decide) rfl ?_
  intro p e s m args below meth c s₁ B hml hv
  obtain ⟨rfl, hP, hK, hD0⟩ := hv
  have hx := B.exec
  have hb := B.bytes
  have hr := B.returns
  have hts := atoms_spec (ws := wsX5_readTape) B.pre
  have hown : s.vm.findClass RX5 = some m.cls := findClass_of_methodNamed B.named
  have hlocks := B.notSynchronized
  have hD := hD0.aself
  generalize hAe : aset [(h0, .inr (5, [.ref y0, .ref t0, .int 0, .int (-1), .int 0, .int 0, .int 0, .int 0])), (y0, .inr (8, [.ref b0, .int 0])), (t0, .inr (9, [.ref t1, .ref t3, .ref t4, .ref t5, .ref t6, .int 0, .int 0])), (t1, .inr (0, [.ref t2, .int 0]))] = A at hD ⊢
  have hS : va_S A s.heap s.heap [] := va_S.rf
  have hl := lv_entry ([.ref h0]) (n := 2) (Nat.le_of_ble_eq_true rfl)
  rw [lg_entry_eq]
  generalize (lg_sl ([.ref h0]) ++ List.replicate (2 - (lg_sl ([.ref h0])).length) Slot.unset).toArray = ls at hl ⊢
  have hl : lv_has ls 2 [(0, .ref h0)] := hl
  refine lv_aload_n hx hb dX5_readTape_0 rfl (lv_at hl 0 rfl) ?_
  refine va_get (D := G) (ci := 5) (v := .ref t0) (C := RX5) (T := TX5) (N := 8) hx hb hts (by decide +kernel) hown hK.1 hP 0 rfl rfl 1 (by decide) (hts (.fieldLink RX5 12 "CardHolder$Reader" "draft" "LCardHolder$Town;") (by decide +kernel)) (fun _ h9 => h9) rfl dX5_readTape_1 ?_
  refine wr_callv (w1 := (fun _ : Unit => [(t0, .inr (9, [.ref t1, .ref t3, .ref t4, .ref t5, .ref t6, .int 0, .int 0])), (t1, .inr (0, [.ref t2, .int 0]))])) (va_runV (As := []) (rest := []) ⟨hx, hb, hml, hown, hts⟩ (c_X9_clear l G ct t0 t1 t2 t3 t4 t5 t6 0 0 0) (cwV 0 hts gX5_readTape_X9_clear rfl rfl rfl (by decide +kernel) ⟨Nat.le_of_ble_eq_true rfl, Nat.le_of_ble_eq_true rfl⟩) (wr_preV 9 0 hK (hP.sub [2, 3] rfl) (hD.sub [2, 3] (by decide) rfl) rfl rfl) rfl rfl hl.1 rfl (lv_room (Nat.le_of_ble_eq_true rfl)) dX5_readTape_4 ⟨Nat.zero_le _, Nat.zero_le _⟩) hS hP hD [2, 3] rfl (fun _ => rfl) (fun u_1 H locs wu_1 hP hD hS => ?_)
  have hP : va_P G vwCl [(h0, .inr (5, [.ref y0, .ref t0, .int 0, .int (-1), .int 0, .int 0, .int 0, .int 0])), (y0, .inr (8, [.ref b0, .int 0])), (t0, .inr (9, [.ref t1, .ref t3, .ref t4, .ref t5, .ref t6, .int 0, .int 0])), (t1, .inr (0, [.ref t2, .int 0]))] H := hP
  have hD : va_D A [(h0, .inr (5, [.ref y0, .ref t0, .int 0, .int (-1), .int 0, .int 0, .int 0, .int 0])), (y0, .inr (8, [.ref b0, .int 0])), (t0, .inr (9, [.ref t1, .ref t3, .ref t4, .ref t5, .ref t6, .int 0, .int 0])), (t1, .inr (0, [.ref t2, .int 0]))] := hD
  refine lv_aload_n hx hb dX5_readTape_7 rfl (lv_at hl 0 rfl) ?_
  refine lv_iconst (v := 0) hx hb dX5_readTape_8 (by decide) ?_
  refine va_put (D := G) (ci := 5) (v := .int 0) (ty := .int) (C := RX5) (T := TX5) (N := 8) hx hb hts (by decide +kernel) tyX5 tyX5_ok nmX5 hown hK.1 hP hD hS 0 rfl rfl 2 (by decide) (hts (.fieldLink RX5 29 "CardHolder$Reader" "wrong" "I") (by decide +kernel)) (fun _ h9 => h9) rfl (by decide +kernel) rfl rfl (Nat.le_of_ble_eq_true rfl) dX5_readTape_9 (fun H locs hP hD hS => ?_)
  refine lv_aload_n hx hb dX5_readTape_12 rfl (lv_at hl 0 rfl) ?_
  refine lv_iconst (v := (-1)) hx hb dX5_readTape_13 (by decide) ?_
  refine va_put (D := G) (ci := 5) (v := .int (-1)) (ty := .int) (C := RX5) (T := TX5) (N := 8) hx hb hts (by decide +kernel) tyX5 tyX5_ok nmX5 hown hK.1 hP hD hS 0 rfl rfl 3 (by decide) (hts (.fieldLink RX5 18 "CardHolder$Reader" "wrongPlace" "I") (by decide +kernel)) (fun _ h9 => h9) rfl (by decide +kernel) rfl rfl (Nat.le_of_ble_eq_true rfl) dX5_readTape_14 (fun H locs hP hD hS => ?_)
  refine lv_aload_n hx hb dX5_readTape_17 rfl (lv_at hl 0 rfl) ?_
  refine lv_iconst (v := 0) hx hb dX5_readTape_18 (by decide) ?_
  refine va_put (D := G) (ci := 5) (v := .int 0) (ty := .int) (C := RX5) (T := TX5) (N := 8) hx hb hts (by decide +kernel) tyX5 tyX5_ok nmX5 hown hK.1 hP hD hS 0 rfl rfl 6 (by decide) (hts (.fieldLink RX5 32 "CardHolder$Reader" "next" "I") (by decide +kernel)) (fun _ h9 => h9) rfl (by decide +kernel) rfl rfl (Nat.le_of_ble_eq_true rfl) dX5_readTape_19 (fun H locs hP hD hS => ?_)
  refine lv_aload_n hx hb dX5_readTape_22 rfl (lv_at hl 0 rfl) ?_
  refine wr_callv (w1 := (fun _ : Unit => [(h0, .inr (5, [.ref y0, .ref t0, .int 0, .int (-1), .int 0, .int 0, .int 0, .int 0])), (y0, .inr (8, [.ref b0, .int 0]))])) (va_runV (As := []) (rest := []) ⟨hx, hb, hml, hown, hts⟩ (c0_X5_step l G ct h0 b0 y0 t0) (cwV 0 hts gX5_readTape_X5_step rfl rfl rfl (by decide +kernel) ⟨Nat.le_of_ble_eq_true rfl, Nat.le_of_ble_eq_true rfl⟩) (wr_preV 5 0 hK (hP.sub [0, 1] rfl) (hD.sub [0, 1] (by decide) rfl) rfl rfl) rfl rfl hl.1 rfl (lv_room (Nat.le_of_ble_eq_true rfl)) dX5_readTape_23 ⟨Nat.zero_le _, Nat.zero_le _⟩) hS hP hD [0, 1] rfl (fun _ => rfl) (fun u_2 H locs wu_2 hP hD hS => ?_)
  have hP : va_P G vwCl [(h0, .inr (5, [.ref y0, .ref t0, .int 0, .int (-1), .int 0, .int 0, .int 0, .int 0])), (y0, .inr (8, [.ref b0, .int 0])), (t0, .inr (9, [.ref t1, .ref t3, .ref t4, .ref t5, .ref t6, .int 0, .int 0])), (t1, .inr (0, [.ref t2, .int 0]))] H := hP
  have hD : va_D A [(h0, .inr (5, [.ref y0, .ref t0, .int 0, .int (-1), .int 0, .int 0, .int 0, .int 0])), (y0, .inr (8, [.ref b0, .int 0])), (t0, .inr (9, [.ref t1, .ref t3, .ref t4, .ref t5, .ref t6, .int 0, .int 0])), (t1, .inr (0, [.ref t2, .int 0]))] := hD
  refine lv_iconst (v := 0) hx hb dX5_readTape_26 (by decide) ?_
  refine lv_istore_n (lv' := [(1, .int 0), (0, .ref h0)]) hx hb dX5_readTape_27 rfl hl (by decide) rfl (fun ls hl => ?_)
  refine lv_iload_n hx hb dX5_readTape_28 rfl (lv_at hl 0 rfl) ?_
  refine lv_sipush (v := 900) hx hb dX5_readTape_29 (by decide) ?_
  refine lv_icmp_ge (tgt := 113) hx hb dX5_readTape_32 (by decide) (fun c_3 => ?_) (fun c_3 => ?_)
  · exact absurd c_3 (by decide)
  · refine lv_aload_n hx hb dX5_readTape_35 rfl (lv_at hl 1 rfl) ?_
    refine va_get (D := G) (ci := 5) (v := .int 0) (C := RX5) (T := TX5) (N := 8) hx hb hts (by decide +kernel) hown hK.1 hP 0 rfl rfl 4 (by decide) (hts (.fieldLink RX5 38 "CardHolder$Reader" "kind" "I") (by decide +kernel)) (fun _ h9 => h9) rfl dX5_readTape_36 ?_
    refine lv_if_eq (tgt := 113) hx hb dX5_readTape_39 (by decide) (fun c_4 => ?_) (fun c_4 => ?_)
    · refine lv_aload_n hx hb dX5_readTape_113 rfl (lv_at hl 1 rfl) ?_
      refine va_get (D := G) (ci := 5) (v := .int 0) (C := RX5) (T := TX5) (N := 8) hx hb hts (by decide +kernel) hown hK.1 hP 0 rfl rfl 2 (by decide) (hts (.fieldLink RX5 29 "CardHolder$Reader" "wrong" "I") (by decide +kernel)) (fun _ h9 => h9) rfl dX5_readTape_114 ?_
      refine lv_if_ne (tgt := 124) hx hb dX5_readTape_117 (by decide) (fun c_5 => ?_) (fun c_5 => ?_)
      · exact absurd c_5 (by decide)
      · refine lv_iconst (v := 1) hx hb dX5_readTape_120 (by decide) ?_
        refine lv_goto (tgt := 125) hx hb dX5_readTape_121 (by decide) ?_
        exact W.zret (v := 1) (ty := .boolean) hx hb hr (rfl) (fun t ht hW => ⟨⟨1, (), rfl, rfl, hp_at ht hP⟩, hS.F ht⟩) hS.2.2 dX5_readTape_125
    · exact absurd c_4 (by decide)

set_option maxHeartbeats 4000000 in
set_option maxRecDepth 100000 in
theorem c_X0_copyOf (l : Launch) (G : va_G) (ct : Nat → ClassId) (b0 : Nat) (b1 : Nat) (c0 : Nat) (c1 : Nat) (n : Int32) (m0 : Int32) (f : Nat → Int32) (g : Nat → Int32)  : Met l yX0_copyOf wsX0_copyOf ({ frames := 1, cells := 0, slots := 0, locals := 60 }) (va_Pc [.ref b0, .ref c0] (wrP G ct [(b0, .inr (0, [.ref b1, .int n])), (b1, .inl (ct 0, 8, .inl f)), (c0, .inr (0, [.ref c1, .int m0])), (c1, .inl (ct 0, 8, .inl g))])) (va_Qv (fun u : Unit => True) (fun u t => va_P G vwCl ((fun _ : Unit => [(b0, .inr (0, [.ref b1, .int m0])), (b1, .inl (ct 0, 8, .inl (va_cpy g f (0 : Int32).toNatClampNeg (0 : Int32).toNatClampNeg (8 : Int32).toNatClampNeg))), (c0, .inr (0, [.ref c1, .int m0])), (c1, .inl (ct 0, 8, .inl g))]) u) t.heap) (aset [(b0, .inr (0, [.ref b1, .int n])), (b1, .inl (ct 0, 8, .inl f)), (c0, .inr (0, [.ref c1, .int m0])), (c1, .inl (ct 0, 8, .inl g))])) 0 0 (aset [(b0, .inr (0, [.ref b1, .int n])), (b1, .inl (ct 0, 8, .inl f)), (c0, .inr (0, [.ref c1, .int m0])), (c1, .inl (ct 0, 8, .inl g))]) := by
  refine Met.ofW (cc := cX0_copyOf) (maxL := 2) (ret := none) (by decide) rfl ?_
  intro p e s m args below meth c s₁ B hml hv
  obtain ⟨rfl, hP, hK, hD0⟩ := hv
  have hx := B.exec
  have hb := B.bytes
  have hr := B.returns
  have hts := atoms_spec (ws := wsX0_copyOf) B.pre
  have hown : s.vm.findClass RX0 = some m.cls := findClass_of_methodNamed B.named
  have hlocks := B.notSynchronized
  have hD := hD0.aself
  generalize hAe : aset [(b0, .inr (0, [.ref b1, .int n])), (b1, .inl (ct 0, 8, .inl f)), (c0, .inr (0, [.ref c1, .int m0])), (c1, .inl (ct 0, 8, .inl g))] = A at hD ⊢
  have hS : va_S A s.heap s.heap [] := va_S.rf
  have hl := lv_entry ([.ref b0, .ref c0]) (n := 2) (Nat.le_of_ble_eq_true rfl)
  rw [lg_entry_eq]
  generalize (lg_sl ([.ref b0, .ref c0]) ++ List.replicate (2 - (lg_sl ([.ref b0, .ref c0])).length) Slot.unset).toArray = ls at hl ⊢
  have hl : lv_has ls 2 [(0, .ref b0), (1, .ref c0)] := hl
  refine lv_aload_n hx hb dX0_copyOf_0 rfl (lv_at hl 0 rfl) ?_
  refine lv_aload_n hx hb dX0_copyOf_1 rfl (lv_at hl 1 rfl) ?_
  refine va_get (D := G) (ci := 0) (v := .int m0) (C := RX0) (T := TX0) (N := 2) hx hb hts (by decide +kernel) hown hK.1 hP 2 rfl rfl 1 (by decide) (hts (.fieldLink RX0 15 "CardHolder$Bonds" "persons" "I") (by decide +kernel)) (fun _ h9 => h9) rfl dX0_copyOf_2 ?_
  refine va_put (D := G) (ci := 0) (v := .int m0) (ty := .int) (C := RX0) (T := TX0) (N := 2) hx hb hts (by decide +kernel) tyX0 tyX0_ok nmX0 hown hK.1 hP hD hS 0 rfl rfl 1 (by decide) (hts (.fieldLink RX0 15 "CardHolder$Bonds" "persons" "I") (by decide +kernel)) (fun _ h9 => h9) rfl (by decide +kernel) rfl rfl (Nat.le_of_ble_eq_true rfl) dX0_copyOf_5 (fun H locs hP hD hS => ?_)
  refine lv_aload_n hx hb dX0_copyOf_8 rfl (lv_at hl 1 rfl) ?_
  refine va_get (D := G) (ci := 0) (v := .ref c1) (C := RX0) (T := TX0) (N := 2) hx hb hts (by decide +kernel) hown hK.1 hP 2 rfl rfl 0 (by decide) (hts (.fieldLink RX0 9 "CardHolder$Bonds" "holders" "[I") (by decide +kernel)) (fun _ h9 => h9) rfl dX0_copyOf_9 ?_
  refine lv_iconst (v := 0) hx hb dX0_copyOf_12 (by decide) ?_
  refine lv_aload_n hx hb dX0_copyOf_13 rfl (lv_at hl 0 rfl) ?_
  refine va_get (D := G) (ci := 0) (v := .ref b1) (C := RX0) (T := TX0) (N := 2) hx hb hts (by decide +kernel) hown hK.1 hP 0 rfl rfl 0 (by decide) (hts (.fieldLink RX0 9 "CardHolder$Bonds" "holders" "[I") (by decide +kernel)) (fun _ h9 => h9) rfl dX0_copyOf_14 ?_
  refine lv_iconst (v := 0) hx hb dX0_copyOf_17 (by decide) ?_
  refine lv_bipush (v := 8) hx hb dX0_copyOf_18 (by decide) ?_
  refine va_copyi (ty := .int) hx hb (hml.trans hl.1.symm) hown (hts (.methodLink RX0 23 arraycopyName) (by decide +kernel)) (hts (.native arraycopyName) (by decide +kernel)) (hts (.static arraycopyName) (by decide +kernel)) (hts (.initialized "java/lang/System") (by decide +kernel)) hK.1 hP hD hS 3 1 0 0 rfl rfl rfl rfl rfl (by decide) (by decide) (by decide) (by decide) (by decide) (fun _ _ => rfl) (Nat.le_of_ble_eq_true rfl) (Nat.le_of_ble_eq_true rfl) dX0_copyOf_20 (fun H locs hP hD hS => ?_)
  exact W.vret hx hb hr (fun t ht hW => ⟨⟨(), rfl, trivial, hp_at ht hP⟩, hS.F ht⟩) hS.2.2 dX0_copyOf_23

set_option maxHeartbeats 4000000 in
set_option maxRecDepth 100000 in
theorem c_X9_copyOf (l : Launch) (G : va_G) (ct : Nat → ClassId) (t0 : Nat) (t1 : Nat) (t2 : Nat) (t3 : Nat) (t4 : Nat) (t5 : Nat) (t6 : Nat) (tl : Int32) (tw : Int32) (tn : Int32) (tf2 : Nat → Int32) (tf3 : Nat → Int32) (tf4 : Nat → Int32) (tf5 : Nat → Int32) (tf6 : Nat → Int32) (d0 : Nat) (d1 : Nat) (d2 : Nat) (d3 : Nat) (d4 : Nat) (d5 : Nat) (d6 : Nat) (dl : Int32) (dw : Int32) (dn : Int32) (df2 : Nat → Int32) (df3 : Nat → Int32) (df4 : Nat → Int32) (df5 : Nat → Int32) (df6 : Nat → Int32)  : Met l yX9_copyOf wsX9_copyOf ({ frames := 2, cells := 0, slots := 0, locals := 81 }) (va_Pc [.ref t0, .ref d0] (wrP G ct [(t0, .inr (9, [.ref t1, .ref t3, .ref t4, .ref t5, .ref t6, .int tl, .int tw])), (t1, .inr (0, [.ref t2, .int tn])), (t2, .inl (ct 0, 8, .inl tf2)), (t3, .inl (ct 0, 8, .inl tf3)), (t4, .inl (ct 0, 8, .inl tf4)), (t5, .inl (ct 0, 8, .inl tf5)), (t6, .inl (ct 0, 8, .inl tf6)), (d0, .inr (9, [.ref d1, .ref d3, .ref d4, .ref d5, .ref d6, .int dl, .int dw])), (d1, .inr (0, [.ref d2, .int dn])), (d2, .inl (ct 0, 8, .inl df2)), (d3, .inl (ct 0, 8, .inl df3)), (d4, .inl (ct 0, 8, .inl df4)), (d5, .inl (ct 0, 8, .inl df5)), (d6, .inl (ct 0, 8, .inl df6))])) (va_Qv (fun u : Unit => True) (fun u t => va_P G vwCl ((fun _ : Unit => [(t0, .inr (9, [.ref t1, .ref t3, .ref t4, .ref t5, .ref t6, .int dl, .int dw])), (t1, .inr (0, [.ref t2, .int dn])), (t2, .inl (ct 0, 8, .inl (va_cpy df2 tf2 (0 : Int32).toNatClampNeg (0 : Int32).toNatClampNeg (8 : Int32).toNatClampNeg))), (t3, .inl (ct 0, 8, .inl (va_cpy df3 tf3 (0 : Int32).toNatClampNeg (0 : Int32).toNatClampNeg (8 : Int32).toNatClampNeg))), (t4, .inl (ct 0, 8, .inl (va_cpy df4 tf4 (0 : Int32).toNatClampNeg (0 : Int32).toNatClampNeg (8 : Int32).toNatClampNeg))), (t5, .inl (ct 0, 8, .inl (va_cpy df5 tf5 (0 : Int32).toNatClampNeg (0 : Int32).toNatClampNeg (8 : Int32).toNatClampNeg))), (t6, .inl (ct 0, 8, .inl (va_cpy df6 tf6 (0 : Int32).toNatClampNeg (0 : Int32).toNatClampNeg (8 : Int32).toNatClampNeg))), (d0, .inr (9, [.ref d1, .ref d3, .ref d4, .ref d5, .ref d6, .int dl, .int dw])), (d1, .inr (0, [.ref d2, .int dn])), (d2, .inl (ct 0, 8, .inl df2)), (d3, .inl (ct 0, 8, .inl df3)), (d4, .inl (ct 0, 8, .inl df4)), (d5, .inl (ct 0, 8, .inl df5)), (d6, .inl (ct 0, 8, .inl df6))]) u) t.heap) (aset [(t0, .inr (9, [.ref t1, .ref t3, .ref t4, .ref t5, .ref t6, .int tl, .int tw])), (t1, .inr (0, [.ref t2, .int tn])), (t2, .inl (ct 0, 8, .inl tf2)), (t3, .inl (ct 0, 8, .inl tf3)), (t4, .inl (ct 0, 8, .inl tf4)), (t5, .inl (ct 0, 8, .inl tf5)), (t6, .inl (ct 0, 8, .inl tf6)), (d0, .inr (9, [.ref d1, .ref d3, .ref d4, .ref d5, .ref d6, .int dl, .int dw])), (d1, .inr (0, [.ref d2, .int dn])), (d2, .inl (ct 0, 8, .inl df2)), (d3, .inl (ct 0, 8, .inl df3)), (d4, .inl (ct 0, 8, .inl df4)), (d5, .inl (ct 0, 8, .inl df5)), (d6, .inl (ct 0, 8, .inl df6))])) 0 0 (aset [(t0, .inr (9, [.ref t1, .ref t3, .ref t4, .ref t5, .ref t6, .int tl, .int tw])), (t1, .inr (0, [.ref t2, .int tn])), (t2, .inl (ct 0, 8, .inl tf2)), (t3, .inl (ct 0, 8, .inl tf3)), (t4, .inl (ct 0, 8, .inl tf4)), (t5, .inl (ct 0, 8, .inl tf5)), (t6, .inl (ct 0, 8, .inl tf6)), (d0, .inr (9, [.ref d1, .ref d3, .ref d4, .ref d5, .ref d6, .int dl, .int dw])), (d1, .inr (0, [.ref d2, .int dn])), (d2, .inl (ct 0, 8, .inl df2)), (d3, .inl (ct 0, 8, .inl df3)), (d4, .inl (ct 0, 8, .inl df4)), (d5, .inl (ct 0, 8, .inl df5)), (d6, .inl (ct 0, 8, .inl df6))]) := by
  refine Met.ofW (cc := cX9_copyOf) (maxL := 2) (ret := none) (by decide) rfl ?_
  intro p e s m args below meth c s₁ B hml hv
  obtain ⟨rfl, hP, hK, hD0⟩ := hv
  have hx := B.exec
  have hb := B.bytes
  have hr := B.returns
  have hts := atoms_spec (ws := wsX9_copyOf) B.pre
  have hown : s.vm.findClass RX9 = some m.cls := findClass_of_methodNamed B.named
  have hlocks := B.notSynchronized
  have hD := hD0.aself
  generalize hAe : aset [(t0, .inr (9, [.ref t1, .ref t3, .ref t4, .ref t5, .ref t6, .int tl, .int tw])), (t1, .inr (0, [.ref t2, .int tn])), (t2, .inl (ct 0, 8, .inl tf2)), (t3, .inl (ct 0, 8, .inl tf3)), (t4, .inl (ct 0, 8, .inl tf4)), (t5, .inl (ct 0, 8, .inl tf5)), (t6, .inl (ct 0, 8, .inl tf6)), (d0, .inr (9, [.ref d1, .ref d3, .ref d4, .ref d5, .ref d6, .int dl, .int dw])), (d1, .inr (0, [.ref d2, .int dn])), (d2, .inl (ct 0, 8, .inl df2)), (d3, .inl (ct 0, 8, .inl df3)), (d4, .inl (ct 0, 8, .inl df4)), (d5, .inl (ct 0, 8, .inl df5)), (d6, .inl (ct 0, 8, .inl df6))] = A at hD ⊢
  have hS : va_S A s.heap s.heap [] := va_S.rf
  have hl := lv_entry ([.ref t0, .ref d0]) (n := 2) (Nat.le_of_ble_eq_true rfl)
  rw [lg_entry_eq]
  generalize (lg_sl ([.ref t0, .ref d0]) ++ List.replicate (2 - (lg_sl ([.ref t0, .ref d0])).length) Slot.unset).toArray = ls at hl ⊢
  have hl : lv_has ls 2 [(0, .ref t0), (1, .ref d0)] := hl
  refine lv_aload_n hx hb dX9_copyOf_0 rfl (lv_at hl 0 rfl) ?_
  refine va_get (D := G) (ci := 9) (v := .ref t1) (C := RX9) (T := TX9) (N := 7) hx hb hts (by decide +kernel) hown hK.1 hP 0 rfl rfl 0 (by decide) (hts (.fieldLink RX9 12 "CardHolder$Town" "bonds" "LCardHolder$Bonds;") (by decide +kernel)) (fun _ h9 => h9) rfl dX9_copyOf_1 ?_
  refine lv_aload_n hx hb dX9_copyOf_4 rfl (lv_at hl 1 rfl) ?_
  refine va_get (D := G) (ci := 9) (v := .ref d1) (C := RX9) (T := TX9) (N := 7) hx hb hts (by decide +kernel) hown hK.1 hP 7 rfl rfl 0 (by decide) (hts (.fieldLink RX9 12 "CardHolder$Town" "bonds" "LCardHolder$Bonds;") (by decide +kernel)) (fun _ h9 => h9) rfl dX9_copyOf_5 ?_
  refine wr_callv (w1 := (fun _ : Unit => [(t1, .inr (0, [.ref t2, .int dn])), (t2, .inl (ct 0, 8, .inl (va_cpy df2 tf2 (0 : Int32).toNatClampNeg (0 : Int32).toNatClampNeg (8 : Int32).toNatClampNeg))), (d1, .inr (0, [.ref d2, .int dn])), (d2, .inl (ct 0, 8, .inl df2))])) (va_runV (As := [.ref d1]) (rest := []) ⟨hx, hb, hml, hown, hts⟩ (c_X0_copyOf l G ct t1 t2 d1 d2 tn dn tf2 df2) (cwV 1 hts gX9_copyOf_X0_copyOf rfl rfl rfl (by decide +kernel) ⟨Nat.le_of_ble_eq_true rfl, Nat.le_of_ble_eq_true rfl⟩) (wr_preV 0 0 hK (hP.sub [1, 2, 8, 9] rfl) (hD.sub [1, 2, 8, 9] (by decide) rfl) rfl rfl) rfl rfl hl.1 rfl (lv_room (Nat.le_of_ble_eq_true rfl)) dX9_copyOf_8 ⟨Nat.zero_le _, Nat.zero_le _⟩) hS hP hD [1, 2, 8, 9] rfl (fun _ => rfl) (fun u_1 H locs wu_1 hP hD hS => ?_)
  have hP : va_P G vwCl [(t0, .inr (9, [.ref t1, .ref t3, .ref t4, .ref t5, .ref t6, .int tl, .int tw])), (t1, .inr (0, [.ref t2, .int dn])), (t2, .inl (ct 0, 8, .inl (va_cpy df2 tf2 (0 : Int32).toNatClampNeg (0 : Int32).toNatClampNeg (8 : Int32).toNatClampNeg))), (t3, .inl (ct 0, 8, .inl tf3)), (t4, .inl (ct 0, 8, .inl tf4)), (t5, .inl (ct 0, 8, .inl tf5)), (t6, .inl (ct 0, 8, .inl tf6)), (d0, .inr (9, [.ref d1, .ref d3, .ref d4, .ref d5, .ref d6, .int dl, .int dw])), (d1, .inr (0, [.ref d2, .int dn])), (d2, .inl (ct 0, 8, .inl df2)), (d3, .inl (ct 0, 8, .inl df3)), (d4, .inl (ct 0, 8, .inl df4)), (d5, .inl (ct 0, 8, .inl df5)), (d6, .inl (ct 0, 8, .inl df6))] H := hP
  have hD : va_D A [(t0, .inr (9, [.ref t1, .ref t3, .ref t4, .ref t5, .ref t6, .int tl, .int tw])), (t1, .inr (0, [.ref t2, .int dn])), (t2, .inl (ct 0, 8, .inl (va_cpy df2 tf2 (0 : Int32).toNatClampNeg (0 : Int32).toNatClampNeg (8 : Int32).toNatClampNeg))), (t3, .inl (ct 0, 8, .inl tf3)), (t4, .inl (ct 0, 8, .inl tf4)), (t5, .inl (ct 0, 8, .inl tf5)), (t6, .inl (ct 0, 8, .inl tf6)), (d0, .inr (9, [.ref d1, .ref d3, .ref d4, .ref d5, .ref d6, .int dl, .int dw])), (d1, .inr (0, [.ref d2, .int dn])), (d2, .inl (ct 0, 8, .inl df2)), (d3, .inl (ct 0, 8, .inl df3)), (d4, .inl (ct 0, 8, .inl df4)), (d5, .inl (ct 0, 8, .inl df5)), (d6, .inl (ct 0, 8, .inl df6))] := hD
  refine lv_aload_n hx hb dX9_copyOf_11 rfl (lv_at hl 1 rfl) ?_
  refine va_get (D := G) (ci := 9) (v := .ref d3) (C := RX9) (T := TX9) (N := 7) hx hb hts (by decide +kernel) hown hK.1 hP 7 rfl rfl 1 (by decide) (hts (.fieldLink RX9 18 "CardHolder$Town" "worths" "[I") (by decide +kernel)) (fun _ h9 => h9) rfl dX9_copyOf_12 ?_
  refine lv_iconst (v := 0) hx hb dX9_copyOf_15 (by decide) ?_
  refine lv_aload_n hx hb dX9_copyOf_16 rfl (lv_at hl 0 rfl) ?_
  refine va_get (D := G) (ci := 9) (v := .ref t3) (C := RX9) (T := TX9) (N := 7) hx hb hts (by decide +kernel) hown hK.1 hP 0 rfl rfl 1 (by decide) (hts (.fieldLink RX9 18 "CardHolder$Town" "worths" "[I") (by decide +kernel)) (fun _ h9 => h9) rfl dX9_copyOf_17 ?_
  refine lv_iconst (v := 0) hx hb dX9_copyOf_20 (by decide) ?_
  refine lv_bipush (v := 8) hx hb dX9_copyOf_21 (by decide) ?_
  refine va_copyi (ty := .int) hx hb (hml.trans hl.1.symm) hown (hts (.methodLink RX9 45 arraycopyName) (by decide +kernel)) (hts (.native arraycopyName) (by decide +kernel)) (hts (.static arraycopyName) (by decide +kernel)) (hts (.initialized "java/lang/System") (by decide +kernel)) hK.1 hP hD hS 10 3 0 0 rfl rfl rfl rfl rfl (by decide) (by decide) (by decide) (by decide) (by decide) (fun _ _ => rfl) (Nat.le_of_ble_eq_true rfl) (Nat.le_of_ble_eq_true rfl) dX9_copyOf_23 (fun H locs hP hD hS => ?_)
  refine lv_aload_n hx hb dX9_copyOf_26 rfl (lv_at hl 1 rfl) ?_
  refine va_get (D := G) (ci := 9) (v := .ref d4) (C := RX9) (T := TX9) (N := 7) hx hb hts (by decide +kernel) hown hK.1 hP 7 rfl rfl 2 (by decide) (hts (.fieldLink RX9 22 "CardHolder$Town" "does" "[I") (by decide +kernel)) (fun _ h9 => h9) rfl dX9_copyOf_27 ?_
  refine lv_iconst (v := 0) hx hb dX9_copyOf_30 (by decide) ?_
  refine lv_aload_n hx hb dX9_copyOf_31 rfl (lv_at hl 0 rfl) ?_
  refine va_get (D := G) (ci := 9) (v := .ref t4) (C := RX9) (T := TX9) (N := 7) hx hb hts (by decide +kernel) hown hK.1 hP 0 rfl rfl 2 (by decide) (hts (.fieldLink RX9 22 "CardHolder$Town" "does" "[I") (by decide +kernel)) (fun _ h9 => h9) rfl dX9_copyOf_32 ?_
  refine lv_iconst (v := 0) hx hb dX9_copyOf_35 (by decide) ?_
  refine lv_bipush (v := 8) hx hb dX9_copyOf_36 (by decide) ?_
  refine va_copyi (ty := .int) hx hb (hml.trans hl.1.symm) hown (hts (.methodLink RX9 45 arraycopyName) (by decide +kernel)) (hts (.native arraycopyName) (by decide +kernel)) (hts (.static arraycopyName) (by decide +kernel)) (hts (.initialized "java/lang/System") (by decide +kernel)) hK.1 hP hD hS 11 4 0 0 rfl rfl rfl rfl rfl (by decide) (by decide) (by decide) (by decide) (by decide) (fun _ _ => rfl) (Nat.le_of_ble_eq_true rfl) (Nat.le_of_ble_eq_true rfl) dX9_copyOf_38 (fun H locs hP hD hS => ?_)
  refine lv_aload_n hx hb dX9_copyOf_41 rfl (lv_at hl 1 rfl) ?_
  refine va_get (D := G) (ci := 9) (v := .ref d5) (C := RX9) (T := TX9) (N := 7) hx hb hts (by decide +kernel) hown hK.1 hP 7 rfl rfl 3 (by decide) (hts (.fieldLink RX9 25 "CardHolder$Town" "wishes" "[I") (by decide +kernel)) (fun _ h9 => h9) rfl dX9_copyOf_42 ?_
  refine lv_iconst (v := 0) hx hb dX9_copyOf_45 (by decide) ?_
  refine lv_aload_n hx hb dX9_copyOf_46 rfl (lv_at hl 0 rfl) ?_
  refine va_get (D := G) (ci := 9) (v := .ref t5) (C := RX9) (T := TX9) (N := 7) hx hb hts (by decide +kernel) hown hK.1 hP 0 rfl rfl 3 (by decide) (hts (.fieldLink RX9 25 "CardHolder$Town" "wishes" "[I") (by decide +kernel)) (fun _ h9 => h9) rfl dX9_copyOf_47 ?_
  refine lv_iconst (v := 0) hx hb dX9_copyOf_50 (by decide) ?_
  refine lv_bipush (v := 8) hx hb dX9_copyOf_51 (by decide) ?_
  refine va_copyi (ty := .int) hx hb (hml.trans hl.1.symm) hown (hts (.methodLink RX9 45 arraycopyName) (by decide +kernel)) (hts (.native arraycopyName) (by decide +kernel)) (hts (.static arraycopyName) (by decide +kernel)) (hts (.initialized "java/lang/System") (by decide +kernel)) hK.1 hP hD hS 12 5 0 0 rfl rfl rfl rfl rfl (by decide) (by decide) (by decide) (by decide) (by decide) (fun _ _ => rfl) (Nat.le_of_ble_eq_true rfl) (Nat.le_of_ble_eq_true rfl) dX9_copyOf_53 (fun H locs hP hD hS => ?_)
  refine lv_aload_n hx hb dX9_copyOf_56 rfl (lv_at hl 1 rfl) ?_
  refine va_get (D := G) (ci := 9) (v := .ref d6) (C := RX9) (T := TX9) (N := 7) hx hb hts (by decide +kernel) hown hK.1 hP 7 rfl rfl 4 (by decide) (hts (.fieldLink RX9 28 "CardHolder$Town" "forged" "[I") (by decide +kernel)) (fun _ h9 => h9) rfl dX9_copyOf_57 ?_
  refine lv_iconst (v := 0) hx hb dX9_copyOf_60 (by decide) ?_
  refine lv_aload_n hx hb dX9_copyOf_61 rfl (lv_at hl 0 rfl) ?_
  refine va_get (D := G) (ci := 9) (v := .ref t6) (C := RX9) (T := TX9) (N := 7) hx hb hts (by decide +kernel) hown hK.1 hP 0 rfl rfl 4 (by decide) (hts (.fieldLink RX9 28 "CardHolder$Town" "forged" "[I") (by decide +kernel)) (fun _ h9 => h9) rfl dX9_copyOf_62 ?_
  refine lv_iconst (v := 0) hx hb dX9_copyOf_65 (by decide) ?_
  refine lv_bipush (v := 8) hx hb dX9_copyOf_66 (by decide) ?_
  refine va_copyi (ty := .int) hx hb (hml.trans hl.1.symm) hown (hts (.methodLink RX9 45 arraycopyName) (by decide +kernel)) (hts (.native arraycopyName) (by decide +kernel)) (hts (.static arraycopyName) (by decide +kernel)) (hts (.initialized "java/lang/System") (by decide +kernel)) hK.1 hP hD hS 13 6 0 0 rfl rfl rfl rfl rfl (by decide) (by decide) (by decide) (by decide) (by decide) (fun _ _ => rfl) (Nat.le_of_ble_eq_true rfl) (Nat.le_of_ble_eq_true rfl) dX9_copyOf_68 (fun H locs hP hD hS => ?_)
  refine lv_aload_n hx hb dX9_copyOf_71 rfl (lv_at hl 0 rfl) ?_
  refine lv_aload_n hx hb dX9_copyOf_72 rfl (lv_at hl 1 rfl) ?_
  refine va_get (D := G) (ci := 9) (v := .int dl) (C := RX9) (T := TX9) (N := 7) hx hb hts (by decide +kernel) hown hK.1 hP 7 rfl rfl 5 (by decide) (hts (.fieldLink RX9 35 "CardHolder$Town" "lines" "I") (by decide +kernel)) (fun _ h9 => h9) rfl dX9_copyOf_73 ?_
  refine va_put (D := G) (ci := 9) (v := .int dl) (ty := .int) (C := RX9) (T := TX9) (N := 7) hx hb hts (by decide +kernel) tyX9 tyX9_ok nmX9 hown hK.1 hP hD hS 0 rfl rfl 5 (by decide) (hts (.fieldLink RX9 35 "CardHolder$Town" "lines" "I") (by decide +kernel)) (fun _ h9 => h9) rfl (by decide +kernel) rfl rfl (Nat.le_of_ble_eq_true rfl) dX9_copyOf_76 (fun H locs hP hD hS => ?_)
  refine lv_aload_n hx hb dX9_copyOf_79 rfl (lv_at hl 0 rfl) ?_
  refine lv_aload_n hx hb dX9_copyOf_80 rfl (lv_at hl 1 rfl) ?_
  refine va_get (D := G) (ci := 9) (v := .int dw) (C := RX9) (T := TX9) (N := 7) hx hb hts (by decide +kernel) hown hK.1 hP 7 rfl rfl 6 (by decide) (hts (.fieldLink RX9 38 "CardHolder$Town" "wear" "I") (by decide +kernel)) (fun _ h9 => h9) rfl dX9_copyOf_81 ?_
  refine va_put (D := G) (ci := 9) (v := .int dw) (ty := .int) (C := RX9) (T := TX9) (N := 7) hx hb hts (by decide +kernel) tyX9 tyX9_ok nmX9 hown hK.1 hP hD hS 0 rfl rfl 6 (by decide) (hts (.fieldLink RX9 38 "CardHolder$Town" "wear" "I") (by decide +kernel)) (fun _ h9 => h9) rfl (by decide +kernel) rfl rfl (Nat.le_of_ble_eq_true rfl) dX9_copyOf_84 (fun H locs hP hD hS => ?_)
  exact W.vret hx hb hr (fun t ht hW => ⟨⟨(), rfl, trivial, hp_at ht hP⟩, hS.F ht⟩) hS.2.2 dX9_copyOf_87

set_option maxHeartbeats 4000000 in
set_option maxRecDepth 100000 in
theorem c_X2_begin (l : Launch) (G : va_G) (ct : Nat → ClassId) (j0 : Nat) (j1 : Nat) (j2 : Nat) (j3 : Nat) (j4 : Nat) (ja : Int32) (js : Int32) (jd : Int32) (jn : Int32) (jb : Int32) (jf2 : Nat → Int32) (jf3 : Nat → Int32) (jf4 : Nat → Int32) (t0 : Nat) (t1 : Nat) (t2 : Nat) (t3 : Nat) (t4 : Nat) (t5 : Nat) (t6 : Nat) (tl : Int32) (tw : Int32) (tn : Int32) (tf2 : Nat → Int32) (tf3 : Nat → Int32) (tf4 : Nat → Int32) (tf5 : Nat → Int32) (tf6 : Nat → Int32)  : Met l yX2_begin wsX2_begin ({ frames := 2, cells := 0, slots := 0, locals := 81 }) (va_Pc [.ref j0] (wrP G ct [(j0, .inr (2, [.ref t0, .ref j1, .ref j3, .ref j4, .int ja, .int js, .int jd, .int jn])), (j1, .inr (0, [.ref j2, .int jb])), (j2, .inl (ct 0, 8, .inl jf2)), (j3, .inl (ct 0, 8, .inl jf3)), (j4, .inl (ct 0, 8, .inl jf4)), (t0, .inr (9, [.ref t1, .ref t3, .ref t4, .ref t5, .ref t6, .int tl, .int tw])), (t1, .inr (0, [.ref t2, .int tn])), (t2, .inl (ct 0, 8, .inl tf2)), (t3, .inl (ct 0, 8, .inl tf3)), (t4, .inl (ct 0, 8, .inl tf4)), (t5, .inl (ct 0, 8, .inl tf5)), (t6, .inl (ct 0, 8, .inl tf6))])) (va_Qv (fun u : Unit => True) (fun u t => va_P G vwCl ((fun _ : Unit => [(j0, .inr (2, [.ref t0, .ref j1, .ref j3, .ref j4, .int 0, .int 0, .int 0, .int 0])), (j1, .inr (0, [.ref j2, .int tn])), (j2, .inl (ct 0, 8, .inl (va_cpy tf2 jf2 (0 : Int32).toNatClampNeg (0 : Int32).toNatClampNeg (8 : Int32).toNatClampNeg))), (j3, .inl (ct 0, 8, .inl (upd (upd (upd (upd (upd (upd (upd (upd jf3 (0 : Int32).toNatClampNeg 0) (1 : Int32).toNatClampNeg 0) (2 : Int32).toNatClampNeg 0) (3 : Int32).toNatClampNeg 0) (4 : Int32).toNatClampNeg 0) (5 : Int32).toNatClampNeg 0) (6 : Int32).toNatClampNeg 0) (7 : Int32).toNatClampNeg 0))), (j4, .inl (ct 0, 8, .inl jf4)), (t0, .inr (9, [.ref t1, .ref t3, .ref t4, .ref t5, .ref t6, .int tl, .int tw])), (t1, .inr (0, [.ref t2, .int tn])), (t2, .inl (ct 0, 8, .inl tf2)), (t3, .inl (ct 0, 8, .inl tf3)), (t4, .inl (ct 0, 8, .inl tf4)), (t5, .inl (ct 0, 8, .inl tf5)), (t6, .inl (ct 0, 8, .inl tf6))]) u) t.heap) (aset [(j0, .inr (2, [.ref t0, .ref j1, .ref j3, .ref j4, .int ja, .int js, .int jd, .int jn])), (j1, .inr (0, [.ref j2, .int jb])), (j2, .inl (ct 0, 8, .inl jf2)), (j3, .inl (ct 0, 8, .inl jf3)), (j4, .inl (ct 0, 8, .inl jf4)), (t0, .inr (9, [.ref t1, .ref t3, .ref t4, .ref t5, .ref t6, .int tl, .int tw])), (t1, .inr (0, [.ref t2, .int tn])), (t2, .inl (ct 0, 8, .inl tf2)), (t3, .inl (ct 0, 8, .inl tf3)), (t4, .inl (ct 0, 8, .inl tf4)), (t5, .inl (ct 0, 8, .inl tf5)), (t6, .inl (ct 0, 8, .inl tf6))])) 0 0 (aset [(j0, .inr (2, [.ref t0, .ref j1, .ref j3, .ref j4, .int ja, .int js, .int jd, .int jn])), (j1, .inr (0, [.ref j2, .int jb])), (j2, .inl (ct 0, 8, .inl jf2)), (j3, .inl (ct 0, 8, .inl jf3)), (j4, .inl (ct 0, 8, .inl jf4)), (t0, .inr (9, [.ref t1, .ref t3, .ref t4, .ref t5, .ref t6, .int tl, .int tw])), (t1, .inr (0, [.ref t2, .int tn])), (t2, .inl (ct 0, 8, .inl tf2)), (t3, .inl (ct 0, 8, .inl tf3)), (t4, .inl (ct 0, 8, .inl tf4)), (t5, .inl (ct 0, 8, .inl tf5)), (t6, .inl (ct 0, 8, .inl tf6))]) := by
  refine Met.ofW (cc := cX2_begin) (maxL := 2) (ret := none) (by decide) rfl ?_
  intro p e s m args below meth c s₁ B hml hv
  obtain ⟨rfl, hP, hK, hD0⟩ := hv
  have hx := B.exec
  have hb := B.bytes
  have hr := B.returns
  have hts := atoms_spec (ws := wsX2_begin) B.pre
  have hown : s.vm.findClass RX2 = some m.cls := findClass_of_methodNamed B.named
  have hlocks := B.notSynchronized
  have hD := hD0.aself
  generalize hAe : aset [(j0, .inr (2, [.ref t0, .ref j1, .ref j3, .ref j4, .int ja, .int js, .int jd, .int jn])), (j1, .inr (0, [.ref j2, .int jb])), (j2, .inl (ct 0, 8, .inl jf2)), (j3, .inl (ct 0, 8, .inl jf3)), (j4, .inl (ct 0, 8, .inl jf4)), (t0, .inr (9, [.ref t1, .ref t3, .ref t4, .ref t5, .ref t6, .int tl, .int tw])), (t1, .inr (0, [.ref t2, .int tn])), (t2, .inl (ct 0, 8, .inl tf2)), (t3, .inl (ct 0, 8, .inl tf3)), (t4, .inl (ct 0, 8, .inl tf4)), (t5, .inl (ct 0, 8, .inl tf5)), (t6, .inl (ct 0, 8, .inl tf6))] = A at hD ⊢
  have hS : va_S A s.heap s.heap [] := va_S.rf
  have hl := lv_entry ([.ref j0]) (n := 2) (Nat.le_of_ble_eq_true rfl)
  rw [lg_entry_eq]
  generalize (lg_sl ([.ref j0]) ++ List.replicate (2 - (lg_sl ([.ref j0])).length) Slot.unset).toArray = ls at hl ⊢
  have hl : lv_has ls 2 [(0, .ref j0)] := hl
  refine lv_aload_n hx hb dX2_begin_0 rfl (lv_at hl 0 rfl) ?_
  refine va_get (D := G) (ci := 2) (v := .ref j1) (C := RX2) (T := TX2) (N := 8) hx hb hts (by decide +kernel) hown hK.1 hP 0 rfl rfl 1 (by decide) (hts (.fieldLink RX2 12 "CardHolder$Hands" "bonds" "LCardHolder$Bonds;") (by decide +kernel)) (fun _ h9 => h9) rfl dX2_begin_1 ?_
  refine lv_aload_n hx hb dX2_begin_4 rfl (lv_at hl 0 rfl) ?_
  refine va_get (D := G) (ci := 2) (v := .ref t0) (C := RX2) (T := TX2) (N := 8) hx hb hts (by decide +kernel) hown hK.1 hP 0 rfl rfl 0 (by decide) (hts (.fieldLink RX2 25 "CardHolder$Hands" "town" "LCardHolder$Town;") (by decide +kernel)) (fun _ h9 => h9) rfl dX2_begin_5 ?_
  refine va_get (D := G) (ci := 9) (v := .ref t1) (C := RX9) (T := TX9) (N := 7) hx hb hts (by decide +kernel) hown hK.1 hP 5 rfl rfl 0 (by decide) (hts (.fieldLink RX2 29 "CardHolder$Town" "bonds" "LCardHolder$Bonds;") (by decide +kernel)) (fun _ h9 => h9) rfl dX2_begin_8 ?_
  refine wr_callv (w1 := (fun _ : Unit => [(j1, .inr (0, [.ref j2, .int tn])), (j2, .inl (ct 0, 8, .inl (va_cpy tf2 jf2 (0 : Int32).toNatClampNeg (0 : Int32).toNatClampNeg (8 : Int32).toNatClampNeg))), (t1, .inr (0, [.ref t2, .int tn])), (t2, .inl (ct 0, 8, .inl tf2))])) (va_runV (As := [.ref t1]) (rest := []) ⟨hx, hb, hml, hown, hts⟩ (c_X0_copyOf l G ct j1 j2 t1 t2 jb tn jf2 tf2) (cwV 1 hts gX2_begin_X0_copyOf rfl rfl rfl (by decide +kernel) ⟨Nat.le_of_ble_eq_true rfl, Nat.le_of_ble_eq_true rfl⟩) (wr_preV 0 0 hK (hP.sub [1, 2, 6, 7] rfl) (hD.sub [1, 2, 6, 7] (by decide) rfl) rfl rfl) rfl rfl hl.1 rfl (lv_room (Nat.le_of_ble_eq_true rfl)) dX2_begin_11 ⟨Nat.zero_le _, Nat.zero_le _⟩) hS hP hD [1, 2, 6, 7] rfl (fun _ => rfl) (fun u_1 H locs wu_1 hP hD hS => ?_)
  have hP : va_P G vwCl [(j0, .inr (2, [.ref t0, .ref j1, .ref j3, .ref j4, .int ja, .int js, .int jd, .int jn])), (j1, .inr (0, [.ref j2, .int tn])), (j2, .inl (ct 0, 8, .inl (va_cpy tf2 jf2 (0 : Int32).toNatClampNeg (0 : Int32).toNatClampNeg (8 : Int32).toNatClampNeg))), (j3, .inl (ct 0, 8, .inl jf3)), (j4, .inl (ct 0, 8, .inl jf4)), (t0, .inr (9, [.ref t1, .ref t3, .ref t4, .ref t5, .ref t6, .int tl, .int tw])), (t1, .inr (0, [.ref t2, .int tn])), (t2, .inl (ct 0, 8, .inl tf2)), (t3, .inl (ct 0, 8, .inl tf3)), (t4, .inl (ct 0, 8, .inl tf4)), (t5, .inl (ct 0, 8, .inl tf5)), (t6, .inl (ct 0, 8, .inl tf6))] H := hP
  have hD : va_D A [(j0, .inr (2, [.ref t0, .ref j1, .ref j3, .ref j4, .int ja, .int js, .int jd, .int jn])), (j1, .inr (0, [.ref j2, .int tn])), (j2, .inl (ct 0, 8, .inl (va_cpy tf2 jf2 (0 : Int32).toNatClampNeg (0 : Int32).toNatClampNeg (8 : Int32).toNatClampNeg))), (j3, .inl (ct 0, 8, .inl jf3)), (j4, .inl (ct 0, 8, .inl jf4)), (t0, .inr (9, [.ref t1, .ref t3, .ref t4, .ref t5, .ref t6, .int tl, .int tw])), (t1, .inr (0, [.ref t2, .int tn])), (t2, .inl (ct 0, 8, .inl tf2)), (t3, .inl (ct 0, 8, .inl tf3)), (t4, .inl (ct 0, 8, .inl tf4)), (t5, .inl (ct 0, 8, .inl tf5)), (t6, .inl (ct 0, 8, .inl tf6))] := hD
  refine lv_iconst (v := 0) hx hb dX2_begin_14 (by decide) ?_
  refine lv_istore_n (lv' := [(1, .int 0), (0, .ref j0)]) hx hb dX2_begin_15 rfl hl (by decide) rfl (fun ls hl => ?_)
  refine lv_iload_n hx hb dX2_begin_16 rfl (lv_at hl 0 rfl) ?_
  refine lv_bipush (v := 8) hx hb dX2_begin_17 (by decide) ?_
  refine lv_icmp_ge (tgt := 35) hx hb dX2_begin_19 (by decide) (fun c_2 => ?_) (fun c_2 => ?_)
  · exact absurd c_2 (by decide)
  · refine lv_aload_n hx hb dX2_begin_22 rfl (lv_at hl 1 rfl) ?_
    refine va_get (D := G) (ci := 2) (v := .ref j3) (C := RX2) (T := TX2) (N := 8) hx hb hts (by decide +kernel) hown hK.1 hP 0 rfl rfl 2 (by decide) (hts (.fieldLink RX2 18 "CardHolder$Hands" "worn" "[I") (by decide +kernel)) (fun _ h9 => h9) rfl dX2_begin_23 ?_
    refine lv_iload_n hx hb dX2_begin_26 rfl (lv_at hl 0 rfl) ?_
    refine lv_iconst (v := 0) hx hb dX2_begin_27 (by decide) ?_
    refine va_iast hx hb hK.1 hP hD hS 3 0 rfl rfl (in_lit (by decide)) dX2_begin_28 (fun H locs hP hD hS => ?_)
    refine lv_iinc (v := 1) (lv' := [(1, .int 1), (0, .ref j0)]) hx hb dX2_begin_29 hl (k := 0) rfl (by decide) (by decide) rfl (fun ls hl => ?_)
    refine lv_goto (tgt := 16) hx hb dX2_begin_32 (by decide) ?_
    refine lv_iload_n hx hb dX2_begin_16 rfl (lv_at hl 0 rfl) ?_
    refine lv_bipush (v := 8) hx hb dX2_begin_17 (by decide) ?_
    refine lv_icmp_ge (tgt := 35) hx hb dX2_begin_19 (by decide) (fun c_3 => ?_) (fun c_3 => ?_)
    · exact absurd c_3 (by decide)
    · refine lv_aload_n hx hb dX2_begin_22 rfl (lv_at hl 1 rfl) ?_
      refine va_get (D := G) (ci := 2) (v := .ref j3) (C := RX2) (T := TX2) (N := 8) hx hb hts (by decide +kernel) hown hK.1 hP 0 rfl rfl 2 (by decide) (hts (.fieldLink RX2 18 "CardHolder$Hands" "worn" "[I") (by decide +kernel)) (fun _ h9 => h9) rfl dX2_begin_23 ?_
      refine lv_iload_n hx hb dX2_begin_26 rfl (lv_at hl 0 rfl) ?_
      refine lv_iconst (v := 0) hx hb dX2_begin_27 (by decide) ?_
      refine va_iast hx hb hK.1 hP hD hS 3 0 rfl rfl (in_lit (by decide)) dX2_begin_28 (fun H locs hP hD hS => ?_)
      refine lv_iinc (v := 2) (lv' := [(1, .int 2), (0, .ref j0)]) hx hb dX2_begin_29 hl (k := 0) rfl (by decide) (by decide) rfl (fun ls hl => ?_)
      refine lv_goto (tgt := 16) hx hb dX2_begin_32 (by decide) ?_
      refine lv_iload_n hx hb dX2_begin_16 rfl (lv_at hl 0 rfl) ?_
      refine lv_bipush (v := 8) hx hb dX2_begin_17 (by decide) ?_
      refine lv_icmp_ge (tgt := 35) hx hb dX2_begin_19 (by decide) (fun c_4 => ?_) (fun c_4 => ?_)
      · exact absurd c_4 (by decide)
      · refine lv_aload_n hx hb dX2_begin_22 rfl (lv_at hl 1 rfl) ?_
        refine va_get (D := G) (ci := 2) (v := .ref j3) (C := RX2) (T := TX2) (N := 8) hx hb hts (by decide +kernel) hown hK.1 hP 0 rfl rfl 2 (by decide) (hts (.fieldLink RX2 18 "CardHolder$Hands" "worn" "[I") (by decide +kernel)) (fun _ h9 => h9) rfl dX2_begin_23 ?_
        refine lv_iload_n hx hb dX2_begin_26 rfl (lv_at hl 0 rfl) ?_
        refine lv_iconst (v := 0) hx hb dX2_begin_27 (by decide) ?_
        refine va_iast hx hb hK.1 hP hD hS 3 0 rfl rfl (in_lit (by decide)) dX2_begin_28 (fun H locs hP hD hS => ?_)
        refine lv_iinc (v := 3) (lv' := [(1, .int 3), (0, .ref j0)]) hx hb dX2_begin_29 hl (k := 0) rfl (by decide) (by decide) rfl (fun ls hl => ?_)
        refine lv_goto (tgt := 16) hx hb dX2_begin_32 (by decide) ?_
        refine lv_iload_n hx hb dX2_begin_16 rfl (lv_at hl 0 rfl) ?_
        refine lv_bipush (v := 8) hx hb dX2_begin_17 (by decide) ?_
        refine lv_icmp_ge (tgt := 35) hx hb dX2_begin_19 (by decide) (fun c_5 => ?_) (fun c_5 => ?_)
        · exact absurd c_5 (by decide)
        · refine lv_aload_n hx hb dX2_begin_22 rfl (lv_at hl 1 rfl) ?_
          refine va_get (D := G) (ci := 2) (v := .ref j3) (C := RX2) (T := TX2) (N := 8) hx hb hts (by decide +kernel) hown hK.1 hP 0 rfl rfl 2 (by decide) (hts (.fieldLink RX2 18 "CardHolder$Hands" "worn" "[I") (by decide +kernel)) (fun _ h9 => h9) rfl dX2_begin_23 ?_
          refine lv_iload_n hx hb dX2_begin_26 rfl (lv_at hl 0 rfl) ?_
          refine lv_iconst (v := 0) hx hb dX2_begin_27 (by decide) ?_
          refine va_iast hx hb hK.1 hP hD hS 3 0 rfl rfl (in_lit (by decide)) dX2_begin_28 (fun H locs hP hD hS => ?_)
          refine lv_iinc (v := 4) (lv' := [(1, .int 4), (0, .ref j0)]) hx hb dX2_begin_29 hl (k := 0) rfl (by decide) (by decide) rfl (fun ls hl => ?_)
          refine lv_goto (tgt := 16) hx hb dX2_begin_32 (by decide) ?_
          refine lv_iload_n hx hb dX2_begin_16 rfl (lv_at hl 0 rfl) ?_
          refine lv_bipush (v := 8) hx hb dX2_begin_17 (by decide) ?_
          refine lv_icmp_ge (tgt := 35) hx hb dX2_begin_19 (by decide) (fun c_6 => ?_) (fun c_6 => ?_)
          · exact absurd c_6 (by decide)
          · refine lv_aload_n hx hb dX2_begin_22 rfl (lv_at hl 1 rfl) ?_
            refine va_get (D := G) (ci := 2) (v := .ref j3) (C := RX2) (T := TX2) (N := 8) hx hb hts (by decide +kernel) hown hK.1 hP 0 rfl rfl 2 (by decide) (hts (.fieldLink RX2 18 "CardHolder$Hands" "worn" "[I") (by decide +kernel)) (fun _ h9 => h9) rfl dX2_begin_23 ?_
            refine lv_iload_n hx hb dX2_begin_26 rfl (lv_at hl 0 rfl) ?_
            refine lv_iconst (v := 0) hx hb dX2_begin_27 (by decide) ?_
            refine va_iast hx hb hK.1 hP hD hS 3 0 rfl rfl (in_lit (by decide)) dX2_begin_28 (fun H locs hP hD hS => ?_)
            refine lv_iinc (v := 5) (lv' := [(1, .int 5), (0, .ref j0)]) hx hb dX2_begin_29 hl (k := 0) rfl (by decide) (by decide) rfl (fun ls hl => ?_)
            refine lv_goto (tgt := 16) hx hb dX2_begin_32 (by decide) ?_
            refine lv_iload_n hx hb dX2_begin_16 rfl (lv_at hl 0 rfl) ?_
            refine lv_bipush (v := 8) hx hb dX2_begin_17 (by decide) ?_
            refine lv_icmp_ge (tgt := 35) hx hb dX2_begin_19 (by decide) (fun c_7 => ?_) (fun c_7 => ?_)
            · exact absurd c_7 (by decide)
            · refine lv_aload_n hx hb dX2_begin_22 rfl (lv_at hl 1 rfl) ?_
              refine va_get (D := G) (ci := 2) (v := .ref j3) (C := RX2) (T := TX2) (N := 8) hx hb hts (by decide +kernel) hown hK.1 hP 0 rfl rfl 2 (by decide) (hts (.fieldLink RX2 18 "CardHolder$Hands" "worn" "[I") (by decide +kernel)) (fun _ h9 => h9) rfl dX2_begin_23 ?_
              refine lv_iload_n hx hb dX2_begin_26 rfl (lv_at hl 0 rfl) ?_
              refine lv_iconst (v := 0) hx hb dX2_begin_27 (by decide) ?_
              refine va_iast hx hb hK.1 hP hD hS 3 0 rfl rfl (in_lit (by decide)) dX2_begin_28 (fun H locs hP hD hS => ?_)
              refine lv_iinc (v := 6) (lv' := [(1, .int 6), (0, .ref j0)]) hx hb dX2_begin_29 hl (k := 0) rfl (by decide) (by decide) rfl (fun ls hl => ?_)
              refine lv_goto (tgt := 16) hx hb dX2_begin_32 (by decide) ?_
              refine lv_iload_n hx hb dX2_begin_16 rfl (lv_at hl 0 rfl) ?_
              refine lv_bipush (v := 8) hx hb dX2_begin_17 (by decide) ?_
              refine lv_icmp_ge (tgt := 35) hx hb dX2_begin_19 (by decide) (fun c_8 => ?_) (fun c_8 => ?_)
              · exact absurd c_8 (by decide)
              · refine lv_aload_n hx hb dX2_begin_22 rfl (lv_at hl 1 rfl) ?_
                refine va_get (D := G) (ci := 2) (v := .ref j3) (C := RX2) (T := TX2) (N := 8) hx hb hts (by decide +kernel) hown hK.1 hP 0 rfl rfl 2 (by decide) (hts (.fieldLink RX2 18 "CardHolder$Hands" "worn" "[I") (by decide +kernel)) (fun _ h9 => h9) rfl dX2_begin_23 ?_
                refine lv_iload_n hx hb dX2_begin_26 rfl (lv_at hl 0 rfl) ?_
                refine lv_iconst (v := 0) hx hb dX2_begin_27 (by decide) ?_
                refine va_iast hx hb hK.1 hP hD hS 3 0 rfl rfl (in_lit (by decide)) dX2_begin_28 (fun H locs hP hD hS => ?_)
                refine lv_iinc (v := 7) (lv' := [(1, .int 7), (0, .ref j0)]) hx hb dX2_begin_29 hl (k := 0) rfl (by decide) (by decide) rfl (fun ls hl => ?_)
                refine lv_goto (tgt := 16) hx hb dX2_begin_32 (by decide) ?_
                refine lv_iload_n hx hb dX2_begin_16 rfl (lv_at hl 0 rfl) ?_
                refine lv_bipush (v := 8) hx hb dX2_begin_17 (by decide) ?_
                refine lv_icmp_ge (tgt := 35) hx hb dX2_begin_19 (by decide) (fun c_9 => ?_) (fun c_9 => ?_)
                · exact absurd c_9 (by decide)
                · refine lv_aload_n hx hb dX2_begin_22 rfl (lv_at hl 1 rfl) ?_
                  refine va_get (D := G) (ci := 2) (v := .ref j3) (C := RX2) (T := TX2) (N := 8) hx hb hts (by decide +kernel) hown hK.1 hP 0 rfl rfl 2 (by decide) (hts (.fieldLink RX2 18 "CardHolder$Hands" "worn" "[I") (by decide +kernel)) (fun _ h9 => h9) rfl dX2_begin_23 ?_
                  refine lv_iload_n hx hb dX2_begin_26 rfl (lv_at hl 0 rfl) ?_
                  refine lv_iconst (v := 0) hx hb dX2_begin_27 (by decide) ?_
                  refine va_iast hx hb hK.1 hP hD hS 3 0 rfl rfl (in_lit (by decide)) dX2_begin_28 (fun H locs hP hD hS => ?_)
                  refine lv_iinc (v := 8) (lv' := [(1, .int 8), (0, .ref j0)]) hx hb dX2_begin_29 hl (k := 0) rfl (by decide) (by decide) rfl (fun ls hl => ?_)
                  refine lv_goto (tgt := 16) hx hb dX2_begin_32 (by decide) ?_
                  refine lv_iload_n hx hb dX2_begin_16 rfl (lv_at hl 0 rfl) ?_
                  refine lv_bipush (v := 8) hx hb dX2_begin_17 (by decide) ?_
                  refine lv_icmp_ge (tgt := 35) hx hb dX2_begin_19 (by decide) (fun c_10 => ?_) (fun c_10 => ?_)
                  · refine lv_aload_n hx hb dX2_begin_35 rfl (lv_at hl 1 rfl) ?_
                    refine lv_iconst (v := 0) hx hb dX2_begin_36 (by decide) ?_
                    refine va_put (D := G) (ci := 2) (v := .int 0) (ty := .int) (C := RX2) (T := TX2) (N := 8) hx hb hts (by decide +kernel) tyX2 tyX2_ok nmX2 hown hK.1 hP hD hS 0 rfl rfl 4 (by decide) (hts (.fieldLink RX2 36 "CardHolder$Hands" "askedToday" "I") (by decide +kernel)) (fun _ h9 => h9) rfl (by decide +kernel) rfl rfl (Nat.le_of_ble_eq_true rfl) dX2_begin_37 (fun H locs hP hD hS => ?_)
                    refine lv_aload_n hx hb dX2_begin_40 rfl (lv_at hl 1 rfl) ?_
                    refine lv_iconst (v := 0) hx hb dX2_begin_41 (by decide) ?_
                    refine va_put (D := G) (ci := 2) (v := .int 0) (ty := .int) (C := RX2) (T := TX2) (N := 8) hx hb hts (by decide +kernel) tyX2 tyX2_ok nmX2 hown hK.1 hP hD hS 0 rfl rfl 5 (by decide) (hts (.fieldLink RX2 40 "CardHolder$Hands" "stolen" "I") (by decide +kernel)) (fun _ h9 => h9) rfl (by decide +kernel) rfl rfl (Nat.le_of_ble_eq_true rfl) dX2_begin_42 (fun H locs hP hD hS => ?_)
                    refine lv_aload_n hx hb dX2_begin_45 rfl (lv_at hl 1 rfl) ?_
                    refine lv_iconst (v := 0) hx hb dX2_begin_46 (by decide) ?_
                    refine va_put (D := G) (ci := 2) (v := .int 0) (ty := .int) (C := RX2) (T := TX2) (N := 8) hx hb hts (by decide +kernel) tyX2 tyX2_ok nmX2 hown hK.1 hP hD hS 0 rfl rfl 6 (by decide) (hts (.fieldLink RX2 43 "CardHolder$Hands" "today" "I") (by decide +kernel)) (fun _ h9 => h9) rfl (by decide +kernel) rfl rfl (Nat.le_of_ble_eq_true rfl) dX2_begin_47 (fun H locs hP hD hS => ?_)
                    refine lv_aload_n hx hb dX2_begin_50 rfl (lv_at hl 1 rfl) ?_
                    refine lv_iconst (v := 0) hx hb dX2_begin_51 (by decide) ?_
                    refine va_put (D := G) (ci := 2) (v := .int 0) (ty := .int) (C := RX2) (T := TX2) (N := 8) hx hb hts (by decide +kernel) tyX2 tyX2_ok nmX2 hown hK.1 hP hD hS 0 rfl rfl 7 (by decide) (hts (.fieldLink RX2 46 "CardHolder$Hands" "deedsDone" "I") (by decide +kernel)) (fun _ h9 => h9) rfl (by decide +kernel) rfl rfl (Nat.le_of_ble_eq_true rfl) dX2_begin_52 (fun H locs hP hD hS => ?_)
                    exact W.vret hx hb hr (fun t ht hW => ⟨⟨(), rfl, trivial, hp_at ht hP⟩, hS.F ht⟩) hS.2.2 dX2_begin_55
                  · exact absurd c_10 (by decide)

set_option maxHeartbeats 4000000 in
set_option maxRecDepth 100000 in
theorem c0_X4_replay (l : Launch) (G : va_G) (ct : Nat → ClassId) (xp : Nat) (xg : Nat) (xc : Int32) (xgf : Nat → Int32) (xt0 : Nat) (xt1 : Nat) (xt2 : Nat) (xt3 : Nat) (xt4 : Nat) (xt5 : Nat) (xt6 : Nat) (xtl : Int32) (xtw : Int32) (xtn : Int32) (xtf2 : Nat → Int32) (xtf3 : Nat → Int32) (xtf4 : Nat → Int32) (xtf5 : Nat → Int32) (xtf6 : Nat → Int32) (xh0 : Nat) (xh1 : Nat) (xh2 : Nat) (xh3 : Nat) (xh4 : Nat) (xha : Int32) (xhs : Int32) (xhd : Int32) (xhn : Int32) (xhb : Int32) (xhf2 : Nat → Int32) (xhf3 : Nat → Int32) (xhf4 : Nat → Int32)  : Met l yX4_replay wsX4_replay ({ frames := 4, cells := 0, slots := 0, locals := 102 }) (va_Pc [.ref xp, .int 0] (wrP G ct [(xp, .inr (4, [.ref xt0, .ref xh0, .ref xg, .int xc])), (xt0, .inr (9, [.ref xt1, .ref xt3, .ref xt4, .ref xt5, .ref xt6, .int xtl, .int xtw])), (xt1, .inr (0, [.ref xt2, .int xtn])), (xt2, .inl (ct 0, 8, .inl xtf2)), (xt3, .inl (ct 0, 8, .inl xtf3)), (xt4, .inl (ct 0, 8, .inl xtf4)), (xt5, .inl (ct 0, 8, .inl xtf5)), (xt6, .inl (ct 0, 8, .inl xtf6)), (xh0, .inr (2, [.ref xt0, .ref xh1, .ref xh3, .ref xh4, .int xha, .int xhs, .int xhd, .int xhn])), (xh1, .inr (0, [.ref xh2, .int xhb])), (xh2, .inl (ct 0, 8, .inl xhf2)), (xh3, .inl (ct 0, 8, .inl xhf3)), (xh4, .inl (ct 0, 8, .inl xhf4)), (xg, .inl (ct 0, 40, .inl xgf))])) (va_Qv (fun u : Unit => True) (fun u t => va_P G vwCl ((fun _ : Unit => [(xp, .inr (4, [.ref xt0, .ref xh0, .ref xg, .int 0])), (xt0, .inr (9, [.ref xt1, .ref xt3, .ref xt4, .ref xt5, .ref xt6, .int xtl, .int xtw])), (xt1, .inr (0, [.ref xt2, .int xtn])), (xt2, .inl (ct 0, 8, .inl xtf2)), (xt3, .inl (ct 0, 8, .inl xtf3)), (xt4, .inl (ct 0, 8, .inl xtf4)), (xt5, .inl (ct 0, 8, .inl xtf5)), (xt6, .inl (ct 0, 8, .inl xtf6)), (xh0, .inr (2, [.ref xt0, .ref xh1, .ref xh3, .ref xh4, .int 0, .int 0, .int 0, .int 0])), (xh1, .inr (0, [.ref xh2, .int xtn])), (xh2, .inl (ct 0, 8, .inl (va_cpy xtf2 xhf2 (0 : Int32).toNatClampNeg (0 : Int32).toNatClampNeg (8 : Int32).toNatClampNeg))), (xh3, .inl (ct 0, 8, .inl (upd (upd (upd (upd (upd (upd (upd (upd xhf3 (0 : Int32).toNatClampNeg 0) (1 : Int32).toNatClampNeg 0) (2 : Int32).toNatClampNeg 0) (3 : Int32).toNatClampNeg 0) (4 : Int32).toNatClampNeg 0) (5 : Int32).toNatClampNeg 0) (6 : Int32).toNatClampNeg 0) (7 : Int32).toNatClampNeg 0))), (xh4, .inl (ct 0, 8, .inl xhf4)), (xg, .inl (ct 0, 40, .inl xgf))]) u) t.heap) (aset [(xp, .inr (4, [.ref xt0, .ref xh0, .ref xg, .int xc])), (xt0, .inr (9, [.ref xt1, .ref xt3, .ref xt4, .ref xt5, .ref xt6, .int xtl, .int xtw])), (xt1, .inr (0, [.ref xt2, .int xtn])), (xt2, .inl (ct 0, 8, .inl xtf2)), (xt3, .inl (ct 0, 8, .inl xtf3)), (xt4, .inl (ct 0, 8, .inl xtf4)), (xt5, .inl (ct 0, 8, .inl xtf5)), (xt6, .inl (ct 0, 8, .inl xtf6)), (xh0, .inr (2, [.ref xt0, .ref xh1, .ref xh3, .ref xh4, .int xha, .int xhs, .int xhd, .int xhn])), (xh1, .inr (0, [.ref xh2, .int xhb])), (xh2, .inl (ct 0, 8, .inl xhf2)), (xh3, .inl (ct 0, 8, .inl xhf3)), (xh4, .inl (ct 0, 8, .inl xhf4)), (xg, .inl (ct 0, 40, .inl xgf))])) 0 0 (aset [(xp, .inr (4, [.ref xt0, .ref xh0, .ref xg, .int xc])), (xt0, .inr (9, [.ref xt1, .ref xt3, .ref xt4, .ref xt5, .ref xt6, .int xtl, .int xtw])), (xt1, .inr (0, [.ref xt2, .int xtn])), (xt2, .inl (ct 0, 8, .inl xtf2)), (xt3, .inl (ct 0, 8, .inl xtf3)), (xt4, .inl (ct 0, 8, .inl xtf4)), (xt5, .inl (ct 0, 8, .inl xtf5)), (xt6, .inl (ct 0, 8, .inl xtf6)), (xh0, .inr (2, [.ref xt0, .ref xh1, .ref xh3, .ref xh4, .int xha, .int xhs, .int xhd, .int xhn])), (xh1, .inr (0, [.ref xh2, .int xhb])), (xh2, .inl (ct 0, 8, .inl xhf2)), (xh3, .inl (ct 0, 8, .inl xhf3)), (xh4, .inl (ct 0, 8, .inl xhf4)), (xg, .inl (ct 0, 40, .inl xgf))]) := by
  refine Met.ofW (cc := cX4_replay) (maxL := 3) (ret := none) (by decide) rfl ?_
  intro p e s m args below meth c s₁ B hml hv
  obtain ⟨rfl, hP, hK, hD0⟩ := hv
  have hx := B.exec
  have hb := B.bytes
  have hr := B.returns
  have hts := atoms_spec (ws := wsX4_replay) B.pre
  have hown : s.vm.findClass RX4 = some m.cls := findClass_of_methodNamed B.named
  have hlocks := B.notSynchronized
  have hD := hD0.aself
  generalize hAe : aset [(xp, .inr (4, [.ref xt0, .ref xh0, .ref xg, .int xc])), (xt0, .inr (9, [.ref xt1, .ref xt3, .ref xt4, .ref xt5, .ref xt6, .int xtl, .int xtw])), (xt1, .inr (0, [.ref xt2, .int xtn])), (xt2, .inl (ct 0, 8, .inl xtf2)), (xt3, .inl (ct 0, 8, .inl xtf3)), (xt4, .inl (ct 0, 8, .inl xtf4)), (xt5, .inl (ct 0, 8, .inl xtf5)), (xt6, .inl (ct 0, 8, .inl xtf6)), (xh0, .inr (2, [.ref xt0, .ref xh1, .ref xh3, .ref xh4, .int xha, .int xhs, .int xhd, .int xhn])), (xh1, .inr (0, [.ref xh2, .int xhb])), (xh2, .inl (ct 0, 8, .inl xhf2)), (xh3, .inl (ct 0, 8, .inl xhf3)), (xh4, .inl (ct 0, 8, .inl xhf4)), (xg, .inl (ct 0, 40, .inl xgf))] = A at hD ⊢
  have hS : va_S A s.heap s.heap [] := va_S.rf
  have hl := lv_entry ([.ref xp, .int 0]) (n := 3) (Nat.le_of_ble_eq_true rfl)
  rw [lg_entry_eq]
  generalize (lg_sl ([.ref xp, .int 0]) ++ List.replicate (3 - (lg_sl ([.ref xp, .int 0])).length) Slot.unset).toArray = ls at hl ⊢
  have hl : lv_has ls 3 [(0, .ref xp), (1, .int 0)] := hl
  refine lv_aload_n hx hb dX4_replay_0 rfl (lv_at hl 0 rfl) ?_
  refine va_get (D := G) (ci := 4) (v := .ref xh0) (C := RX4) (T := TX4) (N := 4) hx hb hts (by decide +kernel) hown hK.1 hP 0 rfl rfl 1 (by decide) (hts (.fieldLink RX4 23 "CardHolder$Play" "hands" "LCardHolder$Hands;") (by decide +kernel)) (fun _ h9 => h9) rfl dX4_replay_1 ?_
  refine wr_callv (w1 := (fun _ : Unit => [(xh0, .inr (2, [.ref xt0, .ref xh1, .ref xh3, .ref xh4, .int 0, .int 0, .int 0, .int 0])), (xh1, .inr (0, [.ref xh2, .int xtn])), (xh2, .inl (ct 0, 8, .inl (va_cpy xtf2 xhf2 (0 : Int32).toNatClampNeg (0 : Int32).toNatClampNeg (8 : Int32).toNatClampNeg))), (xh3, .inl (ct 0, 8, .inl (upd (upd (upd (upd (upd (upd (upd (upd xhf3 (0 : Int32).toNatClampNeg 0) (1 : Int32).toNatClampNeg 0) (2 : Int32).toNatClampNeg 0) (3 : Int32).toNatClampNeg 0) (4 : Int32).toNatClampNeg 0) (5 : Int32).toNatClampNeg 0) (6 : Int32).toNatClampNeg 0) (7 : Int32).toNatClampNeg 0))), (xh4, .inl (ct 0, 8, .inl xhf4)), (xt0, .inr (9, [.ref xt1, .ref xt3, .ref xt4, .ref xt5, .ref xt6, .int xtl, .int xtw])), (xt1, .inr (0, [.ref xt2, .int xtn])), (xt2, .inl (ct 0, 8, .inl xtf2)), (xt3, .inl (ct 0, 8, .inl xtf3)), (xt4, .inl (ct 0, 8, .inl xtf4)), (xt5, .inl (ct 0, 8, .inl xtf5)), (xt6, .inl (ct 0, 8, .inl xtf6))])) (va_runV (As := []) (rest := []) ⟨hx, hb, hml, hown, hts⟩ (c_X2_begin l G ct xh0 xh1 xh2 xh3 xh4 xha xhs xhd xhn xhb xhf2 xhf3 xhf4 xt0 xt1 xt2 xt3 xt4 xt5 xt6 xtl xtw xtn xtf2 xtf3 xtf4 xtf5 xtf6) (cwV 0 hts gX4_replay_X2_begin rfl rfl rfl (by decide +kernel) ⟨Nat.le_of_ble_eq_true rfl, Nat.le_of_ble_eq_true rfl⟩) (wr_preV 2 0 hK (hP.sub [8, 9, 10, 11, 12, 1, 2, 3, 4, 5, 6, 7] rfl) (hD.sub [8, 9, 10, 11, 12, 1, 2, 3, 4, 5, 6, 7] (by decide) rfl) rfl rfl) rfl rfl hl.1 rfl (lv_room (Nat.le_of_ble_eq_true rfl)) dX4_replay_4 ⟨Nat.zero_le _, Nat.zero_le _⟩) hS hP hD [8, 9, 10, 11, 12, 1, 2, 3, 4, 5, 6, 7] rfl (fun _ => rfl) (fun u_1 H locs wu_1 hP hD hS => ?_)
  have hP : va_P G vwCl [(xp, .inr (4, [.ref xt0, .ref xh0, .ref xg, .int xc])), (xt0, .inr (9, [.ref xt1, .ref xt3, .ref xt4, .ref xt5, .ref xt6, .int xtl, .int xtw])), (xt1, .inr (0, [.ref xt2, .int xtn])), (xt2, .inl (ct 0, 8, .inl xtf2)), (xt3, .inl (ct 0, 8, .inl xtf3)), (xt4, .inl (ct 0, 8, .inl xtf4)), (xt5, .inl (ct 0, 8, .inl xtf5)), (xt6, .inl (ct 0, 8, .inl xtf6)), (xh0, .inr (2, [.ref xt0, .ref xh1, .ref xh3, .ref xh4, .int 0, .int 0, .int 0, .int 0])), (xh1, .inr (0, [.ref xh2, .int xtn])), (xh2, .inl (ct 0, 8, .inl (va_cpy xtf2 xhf2 (0 : Int32).toNatClampNeg (0 : Int32).toNatClampNeg (8 : Int32).toNatClampNeg))), (xh3, .inl (ct 0, 8, .inl (upd (upd (upd (upd (upd (upd (upd (upd xhf3 (0 : Int32).toNatClampNeg 0) (1 : Int32).toNatClampNeg 0) (2 : Int32).toNatClampNeg 0) (3 : Int32).toNatClampNeg 0) (4 : Int32).toNatClampNeg 0) (5 : Int32).toNatClampNeg 0) (6 : Int32).toNatClampNeg 0) (7 : Int32).toNatClampNeg 0))), (xh4, .inl (ct 0, 8, .inl xhf4)), (xg, .inl (ct 0, 40, .inl xgf))] H := hP
  have hD : va_D A [(xp, .inr (4, [.ref xt0, .ref xh0, .ref xg, .int xc])), (xt0, .inr (9, [.ref xt1, .ref xt3, .ref xt4, .ref xt5, .ref xt6, .int xtl, .int xtw])), (xt1, .inr (0, [.ref xt2, .int xtn])), (xt2, .inl (ct 0, 8, .inl xtf2)), (xt3, .inl (ct 0, 8, .inl xtf3)), (xt4, .inl (ct 0, 8, .inl xtf4)), (xt5, .inl (ct 0, 8, .inl xtf5)), (xt6, .inl (ct 0, 8, .inl xtf6)), (xh0, .inr (2, [.ref xt0, .ref xh1, .ref xh3, .ref xh4, .int 0, .int 0, .int 0, .int 0])), (xh1, .inr (0, [.ref xh2, .int xtn])), (xh2, .inl (ct 0, 8, .inl (va_cpy xtf2 xhf2 (0 : Int32).toNatClampNeg (0 : Int32).toNatClampNeg (8 : Int32).toNatClampNeg))), (xh3, .inl (ct 0, 8, .inl (upd (upd (upd (upd (upd (upd (upd (upd xhf3 (0 : Int32).toNatClampNeg 0) (1 : Int32).toNatClampNeg 0) (2 : Int32).toNatClampNeg 0) (3 : Int32).toNatClampNeg 0) (4 : Int32).toNatClampNeg 0) (5 : Int32).toNatClampNeg 0) (6 : Int32).toNatClampNeg 0) (7 : Int32).toNatClampNeg 0))), (xh4, .inl (ct 0, 8, .inl xhf4)), (xg, .inl (ct 0, 40, .inl xgf))] := hD
  refine lv_iconst (v := 0) hx hb dX4_replay_7 (by decide) ?_
  refine lv_istore_n (lv' := [(2, .int 0), (0, .ref xp), (1, .int 0)]) hx hb dX4_replay_8 rfl hl (by decide) rfl (fun ls hl => ?_)
  refine lv_iload_n hx hb dX4_replay_9 rfl (lv_at hl 0 rfl) ?_
  refine lv_iload_n hx hb dX4_replay_10 rfl (lv_at hl 2 rfl) ?_
  refine lv_icmp_ge (tgt := 36) hx hb dX4_replay_11 (by decide) (fun c_2 => ?_) (fun c_2 => ?_)
  · refine lv_aload_n hx hb dX4_replay_36 rfl (lv_at hl 1 rfl) ?_
    refine lv_iload_n hx hb dX4_replay_37 rfl (lv_at hl 2 rfl) ?_
    refine va_put (D := G) (ci := 4) (v := .int 0) (ty := .int) (C := RX4) (T := TX4) (N := 4) hx hb hts (by decide +kernel) tyX4 tyX4_ok nmX4 hown hK.1 hP hD hS 0 rfl rfl 3 (by decide) (hts (.fieldLink RX4 44 "CardHolder$Play" "acts" "I") (by decide +kernel)) (fun _ h9 => h9) rfl (by decide +kernel) rfl rfl (Nat.le_of_ble_eq_true rfl) dX4_replay_38 (fun H locs hP hD hS => ?_)
    exact W.vret hx hb hr (fun t ht hW => ⟨⟨(), rfl, trivial, hp_at ht hP⟩, hS.F ht⟩) hS.2.2 dX4_replay_41
  · exact absurd c_2 (by decide)
