theorem dX1_join_0 : decode cX1_join 0 = .ok (.aload_n 0, 1) := by decide +kernel
theorem dX1_join_1 : decode cX1_join 1 = .ok (.getfield 18, 3) := by decide +kernel
theorem dX1_join_4 : decode cX1_join 4 = .ok (.aload_n 0, 1) := by decide +kernel
theorem dX1_join_5 : decode cX1_join 5 = .ok (.getfield 18, 3) := by decide +kernel
theorem dX1_join_8 : decode cX1_join 8 = .ok (.iadd, 1) := by decide +kernel
theorem dX1_join_9 : decode cX1_join 9 = .ok (.sipush 256, 3) := by decide +kernel
theorem dX1_join_12 : decode cX1_join 12 = .ok (.if_icmp .le 4, 3) := by decide +kernel
theorem dX1_join_16 : decode cX1_join 16 = .ok (.iconst 0, 1) := by decide +kernel
theorem dX1_join_17 : decode cX1_join 17 = .ok (.istore_n 3, 1) := by decide +kernel
theorem dX1_join_18 : decode cX1_join 18 = .ok (.iload_n 3, 1) := by decide +kernel
theorem dX1_join_19 : decode cX1_join 19 = .ok (.aload_n 0, 1) := by decide +kernel
theorem dX1_join_20 : decode cX1_join 20 = .ok (.getfield 18, 3) := by decide +kernel
theorem dX1_join_23 : decode cX1_join 23 = .ok (.if_icmp .ge 47, 3) := by decide +kernel
theorem dX1_join_70 : decode cX1_join 70 = .ok (.aload_n 0, 1) := by decide +kernel
theorem dX1_join_71 : decode cX1_join 71 = .ok (.dup, 1) := by decide +kernel
theorem dX1_join_72 : decode cX1_join 72 = .ok (.getfield 18, 3) := by decide +kernel
theorem dX1_join_75 : decode cX1_join 75 = .ok (.aload_n 0, 1) := by decide +kernel
theorem dX1_join_76 : decode cX1_join 76 = .ok (.getfield 18, 3) := by decide +kernel
theorem dX1_join_79 : decode cX1_join 79 = .ok (.iadd, 1) := by decide +kernel
theorem dX1_join_80 : decode cX1_join 80 = .ok (.putfield 18, 3) := by decide +kernel
theorem dX1_join_83 : decode cX1_join 83 = .ok (.return_, 1) := by decide +kernel
theorem dX1_join_26 : decode cX1_join 26 = .ok (.aload_n 0, 1) := by decide +kernel
theorem dX1_join_27 : decode cX1_join 27 = .ok (.getfield 9, 3) := by decide +kernel
theorem dX1_join_30 : decode cX1_join 30 = .ok (.iload_n 3, 1) := by decide +kernel
theorem dX1_join_31 : decode cX1_join 31 = .ok (.aload_n 0, 1) := by decide +kernel
theorem dX1_join_32 : decode cX1_join 32 = .ok (.getfield 18, 3) := by decide +kernel
theorem dX1_join_35 : decode cX1_join 35 = .ok (.iadd, 1) := by decide +kernel
theorem dX1_join_36 : decode cX1_join 36 = .ok (.aload_n 0, 1) := by decide +kernel
theorem dX1_join_37 : decode cX1_join 37 = .ok (.getfield 9, 3) := by decide +kernel
theorem dX1_join_40 : decode cX1_join 40 = .ok (.iload_n 3, 1) := by decide +kernel
theorem dX1_join_41 : decode cX1_join 41 = .ok (.iaload, 1) := by decide +kernel
theorem dX1_join_42 : decode cX1_join 42 = .ok (.iload_n 1, 1) := by decide +kernel
theorem dX1_join_43 : decode cX1_join 43 = .ok (.iadd, 1) := by decide +kernel
theorem dX1_join_44 : decode cX1_join 44 = .ok (.iastore, 1) := by decide +kernel
theorem dX1_join_45 : decode cX1_join 45 = .ok (.aload_n 0, 1) := by decide +kernel
theorem dX1_join_46 : decode cX1_join 46 = .ok (.getfield 15, 3) := by decide +kernel
theorem dX1_join_49 : decode cX1_join 49 = .ok (.iload_n 3, 1) := by decide +kernel
theorem dX1_join_50 : decode cX1_join 50 = .ok (.aload_n 0, 1) := by decide +kernel
theorem dX1_join_51 : decode cX1_join 51 = .ok (.getfield 18, 3) := by decide +kernel
theorem dX1_join_54 : decode cX1_join 54 = .ok (.iadd, 1) := by decide +kernel
theorem dX1_join_55 : decode cX1_join 55 = .ok (.aload_n 0, 1) := by decide +kernel
theorem dX1_join_56 : decode cX1_join 56 = .ok (.getfield 15, 3) := by decide +kernel
theorem dX1_join_59 : decode cX1_join 59 = .ok (.iload_n 3, 1) := by decide +kernel
theorem dX1_join_60 : decode cX1_join 60 = .ok (.iaload, 1) := by decide +kernel
theorem dX1_join_61 : decode cX1_join 61 = .ok (.iload_n 2, 1) := by decide +kernel
theorem dX1_join_62 : decode cX1_join 62 = .ok (.ior, 1) := by decide +kernel
theorem dX1_join_63 : decode cX1_join 63 = .ok (.iastore, 1) := by decide +kernel
theorem dX1_join_64 : decode cX1_join 64 = .ok (.iinc 3 1, 3) := by decide +kernel
theorem dX1_join_67 : decode cX1_join 67 = .ok (.goto (-49), 3) := by decide +kernel
theorem dX1_join_15 : decode cX1_join 15 = .ok (.return_, 1) := by decide +kernel
theorem dX1_takeHands_0 : decode cX1_takeHands 0 = .ok (.aload_n 0, 1) := by decide +kernel
theorem dX1_takeHands_1 : decode cX1_takeHands 1 = .ok (.iconst 1, 1) := by decide +kernel
theorem dX1_takeHands_2 : decode cX1_takeHands 2 = .ok (.putfield 18, 3) := by decide +kernel
theorem dX1_takeHands_5 : decode cX1_takeHands 5 = .ok (.iconst 0, 1) := by decide +kernel
theorem dX1_takeHands_6 : decode cX1_takeHands 6 = .ok (.istore_n 2, 1) := by decide +kernel
theorem dX1_takeHands_7 : decode cX1_takeHands 7 = .ok (.iload_n 2, 1) := by decide +kernel
theorem dX1_takeHands_8 : decode cX1_takeHands 8 = .ok (.aload_n 1, 1) := by decide +kernel
theorem dX1_takeHands_9 : decode cX1_takeHands 9 = .ok (.getfield 22, 3) := by decide +kernel
theorem dX1_takeHands_12 : decode cX1_takeHands 12 = .ok (.getfield 28, 3) := by decide +kernel
theorem dX1_takeHands_15 : decode cX1_takeHands 15 = .ok (.getfield 34, 3) := by decide +kernel
theorem dX1_takeHands_18 : decode cX1_takeHands 18 = .ok (.if_icmp .ge 32, 3) := by decide +kernel
theorem dX1_takeHands_50 : decode cX1_takeHands 50 = .ok (.return_, 1) := by decide +kernel
theorem dX1_takeHands_21 : decode cX1_takeHands 21 = .ok (.aload_n 0, 1) := by decide +kernel
theorem dX1_takeHands_22 : decode cX1_takeHands 22 = .ok (.iconst 1, 1) := by decide +kernel
theorem dX1_takeHands_23 : decode cX1_takeHands 23 = .ok (.aload_n 1, 1) := by decide +kernel
theorem dX1_takeHands_24 : decode cX1_takeHands 24 = .ok (.getfield 22, 3) := by decide +kernel
theorem dX1_takeHands_27 : decode cX1_takeHands 27 = .ok (.aload_n 1, 1) := by decide +kernel
theorem dX1_takeHands_28 : decode cX1_takeHands 28 = .ok (.getfield 39, 3) := by decide +kernel
theorem dX1_takeHands_31 : decode cX1_takeHands 31 = .ok (.getfield 43, 3) := by decide +kernel
theorem dX1_takeHands_34 : decode cX1_takeHands 34 = .ok (.iload_n 2, 1) := by decide +kernel
set_option maxRecDepth 20000 in
theorem ggX1_takeHands_X0_handOf : GoodIn wsX1_takeHands wsX0_handOf := goodIn_r _ [11, 12, 13, 14, 15, 10, 16, 17, 18, 19, 20, 21, 59, 60] (by rfl) (by decide +kernel)
set_option maxRecDepth 20000 in
theorem gX1_takeHands_X0_handOf : GoodIn wsX1_takeHands (wsV RX1 46 RX0 yX0_handOf wsX0_handOf) := goodIn_app (goodIn_r _ [7, 8, 9, 10] (by rfl) (by decide +kernel)) ggX1_takeHands_X0_handOf
theorem dX1_takeHands_35 : decode cX1_takeHands 35 = .ok (.invokevirtual 46, 3) := by decide +kernel
set_option maxRecDepth 20000 in
theorem ggX1_takeHands_X9_deedsOfAll : GoodIn wsX1_takeHands wsX9_deedsOfAll := goodIn_r _ [26, 27, 28, 29, 30, 31, 32, 33, 34, 25, 35, 36, 37, 19, 20, 10, 21, 12, 52, 53, 54, 55, 56, 57, 58, 59, 60] (by rfl) (by decide +kernel)
set_option maxRecDepth 20000 in
theorem gX1_takeHands_X9_deedsOfAll : GoodIn wsX1_takeHands (wsV RX1 50 RX9 yX9_deedsOfAll wsX9_deedsOfAll) := goodIn_app (goodIn_r _ [22, 23, 24, 25] (by rfl) (by decide +kernel)) ggX1_takeHands_X9_deedsOfAll
theorem dX1_takeHands_38 : decode cX1_takeHands 38 = .ok (.invokevirtual 50, 3) := by decide +kernel
set_option maxRecDepth 20000 in
theorem ggX1_takeHands_X1_join : GoodIn wsX1_takeHands wsX1_join := goodIn_r _ [42, 1, 43, 44, 45, 46, 47] (by rfl) (by decide +kernel)
set_option maxRecDepth 20000 in
theorem gX1_takeHands_X1_join : GoodIn wsX1_takeHands (wsV RX1 53 RX1 yX1_join wsX1_join) := goodIn_app (goodIn_r _ [38, 39, 40, 41] (by rfl) (by decide +kernel)) ggX1_takeHands_X1_join
theorem dX1_takeHands_41 : decode cX1_takeHands 41 = .ok (.invokevirtual 53, 3) := by decide +kernel
theorem dX1_takeHands_44 : decode cX1_takeHands 44 = .ok (.iinc 2 1, 3) := by decide +kernel
theorem dX1_takeHands_47 : decode cX1_takeHands 47 = .ok (.goto (-40), 3) := by decide +kernel
theorem dX1_takePersons_0 : decode cX1_takePersons 0 = .ok (.aload_n 0, 1) := by decide +kernel
theorem dX1_takePersons_1 : decode cX1_takePersons 1 = .ok (.iconst 1, 1) := by decide +kernel
theorem dX1_takePersons_2 : decode cX1_takePersons 2 = .ok (.putfield 18, 3) := by decide +kernel
theorem dX1_takePersons_5 : decode cX1_takePersons 5 = .ok (.iconst 0, 1) := by decide +kernel
theorem dX1_takePersons_6 : decode cX1_takePersons 6 = .ok (.istore_n 2, 1) := by decide +kernel
theorem dX1_takePersons_7 : decode cX1_takePersons 7 = .ok (.iload_n 2, 1) := by decide +kernel
theorem dX1_takePersons_8 : decode cX1_takePersons 8 = .ok (.aload_n 1, 1) := by decide +kernel
theorem dX1_takePersons_9 : decode cX1_takePersons 9 = .ok (.getfield 22, 3) := by decide +kernel
theorem dX1_takePersons_12 : decode cX1_takePersons 12 = .ok (.getfield 28, 3) := by decide +kernel
theorem dX1_takePersons_15 : decode cX1_takePersons 15 = .ok (.getfield 34, 3) := by decide +kernel
theorem dX1_takePersons_18 : decode cX1_takePersons 18 = .ok (.if_icmp .ge 29, 3) := by decide +kernel
theorem dX1_takePersons_47 : decode cX1_takePersons 47 = .ok (.return_, 1) := by decide +kernel
theorem dX1_takePersons_21 : decode cX1_takePersons 21 = .ok (.aload_n 0, 1) := by decide +kernel
theorem dX1_takePersons_22 : decode cX1_takePersons 22 = .ok (.aload_n 1, 1) := by decide +kernel
theorem dX1_takePersons_23 : decode cX1_takePersons 23 = .ok (.getfield 22, 3) := by decide +kernel
theorem dX1_takePersons_26 : decode cX1_takePersons 26 = .ok (.iload_n 2, 1) := by decide +kernel
set_option maxRecDepth 20000 in
theorem ggX1_takePersons_X9_worthOf : GoodIn wsX1_takePersons wsX9_worthOf := goodIn_r _ [9, 10, 11, 12, 13, 14, 15, 16, 17, 37, 38, 39, 40, 41, 42, 43, 44, 45] (by rfl) (by decide +kernel)
set_option maxRecDepth 20000 in
theorem gX1_takePersons_X9_worthOf : GoodIn wsX1_takePersons (wsV RX1 57 RX9 yX9_worthOf wsX9_worthOf) := goodIn_app (goodIn_r _ [5, 6, 7, 8] (by rfl) (by decide +kernel)) ggX1_takePersons_X9_worthOf
theorem dX1_takePersons_27 : decode cX1_takePersons 27 = .ok (.invokevirtual 57, 3) := by decide +kernel
theorem dX1_takePersons_30 : decode cX1_takePersons 30 = .ok (.aload_n 1, 1) := by decide +kernel
theorem dX1_takePersons_31 : decode cX1_takePersons 31 = .ok (.getfield 22, 3) := by decide +kernel
theorem dX1_takePersons_34 : decode cX1_takePersons 34 = .ok (.iload_n 2, 1) := by decide +kernel
set_option maxRecDepth 20000 in
theorem ggX1_takePersons_X9_deedsOf : GoodIn wsX1_takePersons wsX9_deedsOf := goodIn_r _ [21, 10, 22, 12, 13, 14, 15, 16, 17, 37, 38, 39, 40, 41, 42, 43, 44, 45] (by rfl) (by decide +kernel)
set_option maxRecDepth 20000 in
theorem gX1_takePersons_X9_deedsOf : GoodIn wsX1_takePersons (wsV RX1 60 RX9 yX9_deedsOf wsX9_deedsOf) := goodIn_app (goodIn_r _ [18, 19, 20, 8] (by rfl) (by decide +kernel)) ggX1_takePersons_X9_deedsOf
theorem dX1_takePersons_35 : decode cX1_takePersons 35 = .ok (.invokevirtual 60, 3) := by decide +kernel
set_option maxRecDepth 20000 in
theorem ggX1_takePersons_X1_join : GoodIn wsX1_takePersons wsX1_join := goodIn_r _ [27, 1, 28, 29, 30, 31, 32] (by rfl) (by decide +kernel)
set_option maxRecDepth 20000 in
theorem gX1_takePersons_X1_join : GoodIn wsX1_takePersons (wsV RX1 53 RX1 yX1_join wsX1_join) := goodIn_app (goodIn_r _ [23, 24, 25, 26] (by rfl) (by decide +kernel)) ggX1_takePersons_X1_join
theorem dX1_takePersons_38 : decode cX1_takePersons 38 = .ok (.invokevirtual 53, 3) := by decide +kernel
theorem dX1_takePersons_41 : decode cX1_takePersons 41 = .ok (.iinc 2 1, 3) := by decide +kernel
theorem dX1_takePersons_44 : decode cX1_takePersons 44 = .ok (.goto (-37), 3) := by decide +kernel
theorem dX1_costOf_0 : decode cX1_costOf 0 = .ok (.iload_n 1, 1) := by decide +kernel
theorem dX1_costOf_1 : decode cX1_costOf 1 = .ok (.ifCond .lt 20, 3) := by decide +kernel
theorem dX1_costOf_21 : decode cX1_costOf 21 = .ok (.iconst 0, 1) := by decide +kernel
theorem dX1_costOf_22 : decode cX1_costOf 22 = .ok (.ireturn, 1) := by decide +kernel
theorem dX1_costOf_4 : decode cX1_costOf 4 = .ok (.iload_n 1, 1) := by decide +kernel
theorem dX1_costOf_5 : decode cX1_costOf 5 = .ok (.aload_n 0, 1) := by decide +kernel
theorem dX1_costOf_6 : decode cX1_costOf 6 = .ok (.getfield 18, 3) := by decide +kernel
theorem dX1_costOf_9 : decode cX1_costOf 9 = .ok (.if_icmp .ge 12, 3) := by decide +kernel
theorem dX1_costOf_12 : decode cX1_costOf 12 = .ok (.aload_n 0, 1) := by decide +kernel
theorem dX1_costOf_13 : decode cX1_costOf 13 = .ok (.getfield 9, 3) := by decide +kernel
theorem dX1_costOf_16 : decode cX1_costOf 16 = .ok (.iload_n 1, 1) := by decide +kernel
theorem dX1_costOf_17 : decode cX1_costOf 17 = .ok (.iaload, 1) := by decide +kernel
theorem dX1_costOf_18 : decode cX1_costOf 18 = .ok (.goto 4, 3) := by decide +kernel
theorem dX1_deedsOf_0 : decode cX1_deedsOf 0 = .ok (.iload_n 1, 1) := by decide +kernel
theorem dX1_deedsOf_1 : decode cX1_deedsOf 1 = .ok (.ifCond .lt 20, 3) := by decide +kernel
theorem dX1_deedsOf_21 : decode cX1_deedsOf 21 = .ok (.iconst 0, 1) := by decide +kernel
theorem dX1_deedsOf_22 : decode cX1_deedsOf 22 = .ok (.ireturn, 1) := by decide +kernel
theorem dX1_deedsOf_4 : decode cX1_deedsOf 4 = .ok (.iload_n 1, 1) := by decide +kernel
theorem dX1_deedsOf_5 : decode cX1_deedsOf 5 = .ok (.aload_n 0, 1) := by decide +kernel
theorem dX1_deedsOf_6 : decode cX1_deedsOf 6 = .ok (.getfield 18, 3) := by decide +kernel
theorem dX1_deedsOf_9 : decode cX1_deedsOf 9 = .ok (.if_icmp .ge 12, 3) := by decide +kernel
theorem dX1_deedsOf_12 : decode cX1_deedsOf 12 = .ok (.aload_n 0, 1) := by decide +kernel
theorem dX1_deedsOf_13 : decode cX1_deedsOf 13 = .ok (.getfield 15, 3) := by decide +kernel
theorem dX1_deedsOf_16 : decode cX1_deedsOf 16 = .ok (.iload_n 1, 1) := by decide +kernel
theorem dX1_deedsOf_17 : decode cX1_deedsOf 17 = .ok (.iaload, 1) := by decide +kernel
theorem dX1_deedsOf_18 : decode cX1_deedsOf 18 = .ok (.goto 4, 3) := by decide +kernel
theorem dX1_cheapest_0 : decode cX1_cheapest 0 = .ok (.iconst (-1), 1) := by decide +kernel
theorem dX1_cheapest_1 : decode cX1_cheapest 1 = .ok (.istore_n 2, 1) := by decide +kernel
theorem dX1_cheapest_2 : decode cX1_cheapest 2 = .ok (.iconst 0, 1) := by decide +kernel
theorem dX1_cheapest_3 : decode cX1_cheapest 3 = .ok (.istore_n 3, 1) := by decide +kernel
theorem dX1_cheapest_4 : decode cX1_cheapest 4 = .ok (.iload_n 3, 1) := by decide +kernel
theorem dX1_cheapest_5 : decode cX1_cheapest 5 = .ok (.aload_n 0, 1) := by decide +kernel
theorem dX1_cheapest_6 : decode cX1_cheapest 6 = .ok (.getfield 18, 3) := by decide +kernel
theorem dX1_cheapest_9 : decode cX1_cheapest 9 = .ok (.if_icmp .ge 56, 3) := by decide +kernel
theorem dX1_cheapest_65 : decode cX1_cheapest 65 = .ok (.iload_n 2, 1) := by decide +kernel
theorem dX1_cheapest_66 : decode cX1_cheapest 66 = .ok (.ireturn, 1) := by decide +kernel
theorem dX1_cheapest_12 : decode cX1_cheapest 12 = .ok (.iload_n 1, 1) := by decide +kernel
theorem dX1_cheapest_13 : decode cX1_cheapest 13 = .ok (.aload_n 0, 1) := by decide +kernel
theorem dX1_cheapest_14 : decode cX1_cheapest 14 = .ok (.getfield 15, 3) := by decide +kernel
theorem dX1_cheapest_17 : decode cX1_cheapest 17 = .ok (.iload_n 3, 1) := by decide +kernel
theorem dX1_cheapest_18 : decode cX1_cheapest 18 = .ok (.iaload, 1) := by decide +kernel
theorem dX1_cheapest_19 : decode cX1_cheapest 19 = .ok (.iconst (-1), 1) := by decide +kernel
theorem dX1_cheapest_20 : decode cX1_cheapest 20 = .ok (.ixor, 1) := by decide +kernel
theorem dX1_cheapest_21 : decode cX1_cheapest 21 = .ok (.iand, 1) := by decide +kernel
theorem dX1_cheapest_30 : decode cX1_cheapest 30 = .ok (.istore 4, 2) := by decide +kernel
theorem dX1_cheapest_32 : decode cX1_cheapest 32 = .ok (.iload 4, 2) := by decide +kernel
theorem dX1_cheapest_59 : decode cX1_cheapest 59 = .ok (.iinc 3 1, 3) := by decide +kernel
theorem dX1_cheapest_62 : decode cX1_cheapest 62 = .ok (.goto (-58), 3) := by decide +kernel
theorem dX1_cheapest_34 : decode cX1_cheapest 34 = .ok (.ifCond .eq 25, 3) := by decide +kernel
theorem dX1_cheapest_37 : decode cX1_cheapest 37 = .ok (.iload_n 2, 1) := by decide +kernel
theorem dX1_cheapest_38 : decode cX1_cheapest 38 = .ok (.iconst (-1), 1) := by decide +kernel
theorem dX1_cheapest_57 : decode cX1_cheapest 57 = .ok (.iload_n 3, 1) := by decide +kernel
theorem dX1_cheapest_58 : decode cX1_cheapest 58 = .ok (.istore_n 2, 1) := by decide +kernel
theorem dX1_cheapest_39 : decode cX1_cheapest 39 = .ok (.if_icmp .eq 18, 3) := by decide +kernel
theorem dX1_cheapest_42 : decode cX1_cheapest 42 = .ok (.aload_n 0, 1) := by decide +kernel
theorem dX1_cheapest_43 : decode cX1_cheapest 43 = .ok (.getfield 9, 3) := by decide +kernel
theorem dX1_cheapest_46 : decode cX1_cheapest 46 = .ok (.iload_n 3, 1) := by decide +kernel
theorem dX1_cheapest_47 : decode cX1_cheapest 47 = .ok (.iaload, 1) := by decide +kernel
theorem dX1_cheapest_48 : decode cX1_cheapest 48 = .ok (.aload_n 0, 1) := by decide +kernel
theorem dX1_cheapest_49 : decode cX1_cheapest 49 = .ok (.getfield 9, 3) := by decide +kernel
theorem dX1_cheapest_52 : decode cX1_cheapest 52 = .ok (.iload_n 2, 1) := by decide +kernel
theorem dX1_cheapest_53 : decode cX1_cheapest 53 = .ok (.iaload, 1) := by decide +kernel
theorem dX1_cheapest_54 : decode cX1_cheapest 54 = .ok (.if_icmp .ge 5, 3) := by decide +kernel
theorem dX1_cheapest_22 : decode cX1_cheapest 22 = .ok (.ifCond .ne 7, 3) := by decide +kernel
theorem dX1_cheapest_29 : decode cX1_cheapest 29 = .ok (.iconst 0, 1) := by decide +kernel
theorem dX1_cheapest_25 : decode cX1_cheapest 25 = .ok (.iconst 1, 1) := by decide +kernel
theorem dX1_cheapest_26 : decode cX1_cheapest 26 = .ok (.goto 4, 3) := by decide +kernel
theorem dX1_richest_0 : decode cX1_richest 0 = .ok (.iconst 0, 1) := by decide +kernel
theorem dX1_richest_1 : decode cX1_richest 1 = .ok (.istore_n 2, 1) := by decide +kernel
theorem dX1_richest_2 : decode cX1_richest 2 = .ok (.iconst 0, 1) := by decide +kernel
theorem dX1_richest_3 : decode cX1_richest 3 = .ok (.istore_n 3, 1) := by decide +kernel
theorem dX1_richest_4 : decode cX1_richest 4 = .ok (.iconst 0, 1) := by decide +kernel
theorem dX1_richest_5 : decode cX1_richest 5 = .ok (.istore 4, 2) := by decide +kernel
theorem dX1_richest_7 : decode cX1_richest 7 = .ok (.iload 4, 2) := by decide +kernel
theorem dX1_richest_9 : decode cX1_richest 9 = .ok (.aload_n 0, 1) := by decide +kernel
theorem dX1_richest_10 : decode cX1_richest 10 = .ok (.getfield 18, 3) := by decide +kernel
theorem dX1_richest_13 : decode cX1_richest 13 = .ok (.if_icmp .ge 44, 3) := by decide +kernel
theorem dX1_richest_57 : decode cX1_richest 57 = .ok (.iload_n 2, 1) := by decide +kernel
theorem dX1_richest_58 : decode cX1_richest 58 = .ok (.ireturn, 1) := by decide +kernel
theorem dX1_richest_16 : decode cX1_richest 16 = .ok (.aload_n 0, 1) := by decide +kernel
theorem dX1_richest_17 : decode cX1_richest 17 = .ok (.getfield 15, 3) := by decide +kernel
theorem dX1_richest_20 : decode cX1_richest 20 = .ok (.iload 4, 2) := by decide +kernel
theorem dX1_richest_22 : decode cX1_richest 22 = .ok (.iaload, 1) := by decide +kernel
set_option maxRecDepth 20000 in
theorem ggX1_richest_J6_bitCount_0f7a4 : GoodIn wsX1_richest wsJ6_bitCount_0f7a4 := goodIn_r _ [7, 8, 9, 10] (by rfl) (by decide +kernel)
set_option maxRecDepth 20000 in
theorem gX1_richest_J6_bitCount_0f7a4 : GoodIn wsX1_richest (va_wsS RX1 63 yJ6_bitCount_0f7a4 wsJ6_bitCount_0f7a4) := goodIn_app (goodIn_r _ [4, 5, 6] (by rfl) (by decide +kernel)) ggX1_richest_J6_bitCount_0f7a4
theorem dX1_richest_23 : decode cX1_richest 23 = .ok (.invokestatic 63, 3) := by decide +kernel
theorem dX1_richest_26 : decode cX1_richest 26 = .ok (.istore 5, 2) := by decide +kernel
theorem dX1_richest_28 : decode cX1_richest 28 = .ok (.iload 5, 2) := by decide +kernel
theorem dX1_richest_30 : decode cX1_richest 30 = .ok (.iload_n 3, 1) := by decide +kernel
theorem dX1_richest_51 : decode cX1_richest 51 = .ok (.iinc 4 1, 3) := by decide +kernel
theorem dX1_richest_54 : decode cX1_richest 54 = .ok (.goto (-47), 3) := by decide +kernel
theorem dX1_richest_31 : decode cX1_richest 31 = .ok (.if_icmp .le 20, 3) := by decide +kernel
theorem dX1_richest_34 : decode cX1_richest 34 = .ok (.aload_n 0, 1) := by decide +kernel
theorem dX1_richest_35 : decode cX1_richest 35 = .ok (.getfield 9, 3) := by decide +kernel
theorem dX1_richest_38 : decode cX1_richest 38 = .ok (.iload 4, 2) := by decide +kernel
theorem dX1_richest_40 : decode cX1_richest 40 = .ok (.iaload, 1) := by decide +kernel
theorem dX1_richest_41 : decode cX1_richest 41 = .ok (.iload_n 1, 1) := by decide +kernel
theorem dX1_richest_42 : decode cX1_richest 42 = .ok (.if_icmp .gt 9, 3) := by decide +kernel
theorem dX1_richest_45 : decode cX1_richest 45 = .ok (.iload 4, 2) := by decide +kernel
theorem dX1_richest_47 : decode cX1_richest 47 = .ok (.istore_n 2, 1) := by decide +kernel
theorem dX1_richest_48 : decode cX1_richest 48 = .ok (.iload 5, 2) := by decide +kernel
theorem dX1_richest_50 : decode cX1_richest 50 = .ok (.istore_n 3, 1) := by decide +kernel
set_option maxHeartbeats 4000000 in
set_option maxRecDepth 100000 in
theorem a_X1_join (l : Launch) (G : va_G) (ct : Nat → ClassId) (a0 : Nat) (a1 : Nat) (a2 : Nat) (n0_2 : Int32) (f1 : Nat → Int32) (f2 : Nat → Int32) (p0 : Int32) (p1 : Int32) (hp_n0_2 : rg 0 256 n0_2) : Met l yX1_join wsX1_join ({ frames := 0, cells := 0, slots := 0, locals := 0 }) (va_Pc [.ref a0, .int p0, .int p1] (wrP G ct [(a0, .inr (1, [.ref a1, .ref a2, .int n0_2])), (a1, .inl (ct 0, 256, .inl f1)), (a2, .inl (ct 0, 256, .inl f2))])) (va_Qv (fun u : SU => rg 0 256 (u.1 0) ∧ True) (fun u t => va_P G vwCl ((fun u : SU => [(a0, .inr (1, [.ref a1, .ref a2, .int (u.1 0)])), (a1, .inl (ct 0, 256, .inl (u.2.1 0))), (a2, .inl (ct 0, 256, .inl (u.2.1 1)))]) u) t.heap) (aset [(a0, .inr (1, [.ref a1, .ref a2, .int n0_2])), (a1, .inl (ct 0, 256, .inl f1)), (a2, .inl (ct 0, 256, .inl f2))])) 0 0 (aset [(a0, .inr (1, [.ref a1, .ref a2, .int n0_2])), (a1, .inl (ct 0, 256, .inl f1)), (a2, .inl (ct 0, 256, .inl f2))]) := by
  refine Met.ofW (cc := cX1_join) (maxL := 4) (ret := none) (by decide) rfl ?_
  intro p e s m args below meth c s₁ B hml hv
  obtain ⟨rfl, hP, hK, hD0⟩ := hv
  have hx := B.exec
  have hb := B.bytes
  have hr := B.returns
  have hts := atoms_spec (ws := wsX1_join) B.pre
  have hown : s.vm.findClass RX1 = some m.cls := findClass_of_methodNamed B.named
  have hlocks := B.notSynchronized
  have hD := hD0.aself
  generalize hAe : aset [(a0, .inr (1, [.ref a1, .ref a2, .int n0_2])), (a1, .inl (ct 0, 256, .inl f1)), (a2, .inl (ct 0, 256, .inl f2))] = A at hD ⊢
  have hS : va_S A s.heap s.heap [] := va_S.rf
  have hl := lv_entry ([.ref a0, .int p0, .int p1]) (n := 4) (Nat.le_of_ble_eq_true rfl)
  rw [lg_entry_eq]
  generalize (lg_sl ([.ref a0, .int p0, .int p1]) ++ List.replicate (4 - (lg_sl ([.ref a0, .int p0, .int p1])).length) Slot.unset).toArray = ls at hl ⊢
  have hl : lv_has ls 4 [(0, .ref a0), (1, .int p0), (2, .int p1)] := hl
  refine lv_aload_n hx hb dX1_join_0 rfl (lv_at hl 0 rfl) ?_
  refine va_get (D := G) (ci := 1) (v := .int n0_2) (C := RX1) (T := TX1) (N := 3) hx hb hts (by decide +kernel) hown hK.1 hP 0 rfl rfl 2 (by decide) (hts (.fieldLink RX1 18 "CardHolder$Choice" "sets" "I") (by decide +kernel)) (fun _ h9 => h9) rfl dX1_join_1 ?_
  refine lv_aload_n hx hb dX1_join_4 rfl (lv_at hl 0 rfl) ?_
  refine va_get (D := G) (ci := 1) (v := .int n0_2) (C := RX1) (T := TX1) (N := 3) hx hb hts (by decide +kernel) hown hK.1 hP 0 rfl rfl 2 (by decide) (hts (.fieldLink RX1 18 "CardHolder$Choice" "sets" "I") (by decide +kernel)) (fun _ h9 => h9) rfl dX1_join_5 ?_
  refine lv_iadd hx hb dX1_join_8 ?_
  refine nm_add (e1 := 0) (f := 512) hp_n0_2 hp_n0_2 (by decide) (fun z8 hz8 ez8 => ?_)
  refine lv_sipush (v := 256) hx hb dX1_join_9 (by decide) ?_
  refine lv_icmp_le (tgt := 16) hx hb dX1_join_12 (by decide) (fun c12 => ?_) (fun c12 => ?_)
  · have h_1 : rg 0 256 z8 := r_le_l_i c12 hz8 (rgn 256 (x := 256) (by decide))
    have h_2 : rg 0 128 n0_2 := bk_2 (a := 0) (b := 128) ez8 h_1 hp_n0_2 (by decide)
    refine lv_iconst (v := 0) hx hb dX1_join_16 (by decide) ?_
    refine lv_istore_n (lv' := [(3, .int 0), (0, .ref a0), (1, .int p0), (2, .int p1)]) hx hb dX1_join_17 rfl hl (by decide) rfl (fun ls hl => ?_)
    have j18 : ∀ (n : Nat) (x18_3 : Int32) (f18_1 : Nat → Int32) (f18_2 : Nat → Int32) (H : Heap) (locs : List Loc) (ls : Array Slot), 2147483648 ≤ x18_3.toInt + (n : Int) → rg 0 128 x18_3 → va_P G vwCl [(a0, .inr (1, [.ref a1, .ref a2, .int n0_2])), (a1, .inl (ct 0, 256, .inl f18_1)), (a2, .inl (ct 0, 256, .inl f18_2))] H → va_D A [(a0, .inr (1, [.ref a1, .ref a2, .int n0_2])), (a1, .inl (ct 0, 256, .inl f18_1)), (a2, .inl (ct 0, 256, .inl f18_2))] → va_S A s.heap H locs → lv_has ls 4 [(0, .ref a0), (1, .int p0), (2, .int p1), (3, .int x18_3)] → W p l e (headSpec wsX1_join ({ frames := 0, cells := 0, slots := 0, locals := 0 })).room s m ([.ref a0, .int p0, .int p1] : List Value).toArray below meth c H locs 0 0 (MQ below (va_Qv (fun u : SU => rg 0 256 (u.1 0) ∧ True) (fun u t => va_P G vwCl ((fun u : SU => [(a0, .inr (1, [.ref a1, .ref a2, .int (u.1 0)])), (a1, .inl (ct 0, 256, .inl (u.2.1 0))), (a2, .inl (ct 0, 256, .inl (u.2.1 1)))]) u) t.heap) A) ([.ref a0, .int p0, .int p1] : List Value).toArray s 0 0 A) (F0 m 18 ls []) := by
      intro n
      induction n with
      | zero => intro x18_3 f18_1 f18_2 H locs ls hn18 hx18_3 hP hD hS hl; exact absurd hn18 (by have := Int32.toInt_lt x18_3; have := Int32.le_toInt x18_3; omega)
      | succ n ih18 =>
        intro x18_3 f18_1 f18_2 H locs ls hn18 hx18_3 hP hD hS hl
        refine lv_iload_n hx hb dX1_join_18 rfl (lv_at hl 3 rfl) ?_
        refine lv_aload_n hx hb dX1_join_19 rfl (lv_at hl 0 rfl) ?_
        refine va_get (D := G) (ci := 1) (v := .int n0_2) (C := RX1) (T := TX1) (N := 3) hx hb hts (by decide +kernel) hown hK.1 hP 0 rfl rfl 2 (by decide) (hts (.fieldLink RX1 18 "CardHolder$Choice" "sets" "I") (by decide +kernel)) (fun _ h9 => h9) rfl dX1_join_20 ?_
        refine lv_icmp_ge (tgt := 70) hx hb dX1_join_23 (by decide) (fun c23 => ?_) (fun c23 => ?_)
        · refine lv_aload_n hx hb dX1_join_70 rfl (lv_at hl 0 rfl) ?_
          refine lv_dup hx hb dX1_join_71 rfl ?_
          refine va_get (D := G) (ci := 1) (v := .int n0_2) (C := RX1) (T := TX1) (N := 3) hx hb hts (by decide +kernel) hown hK.1 hP 0 rfl rfl 2 (by decide) (hts (.fieldLink RX1 18 "CardHolder$Choice" "sets" "I") (by decide +kernel)) (fun _ h9 => h9) rfl dX1_join_72 ?_
          refine lv_aload_n hx hb dX1_join_75 rfl (lv_at hl 0 rfl) ?_
          refine va_get (D := G) (ci := 1) (v := .int n0_2) (C := RX1) (T := TX1) (N := 3) hx hb hts (by decide +kernel) hown hK.1 hP 0 rfl rfl 2 (by decide) (hts (.fieldLink RX1 18 "CardHolder$Choice" "sets" "I") (by decide +kernel)) (fun _ h9 => h9) rfl dX1_join_76 ?_
          refine lv_iadd hx hb dX1_join_79 ?_
          refine nm_add (e1 := 0) (f := 256) h_2 h_2 (by decide) (fun z79 hz79 ez79 => ?_)
          refine va_put (D := G) (ci := 1) (v := .int z79) (ty := .int) (C := RX1) (T := TX1) (N := 3) hx hb hts (by decide +kernel) tyX1 tyX1_ok nmX1 hown hK.1 hP hD hS 0 rfl rfl 2 (by decide) (hts (.fieldLink RX1 18 "CardHolder$Choice" "sets" "I") (by decide +kernel)) (fun _ h9 => h9) rfl (by decide +kernel) rfl rfl (Nat.le_of_ble_eq_true rfl) dX1_join_80 (fun H locs hP hD hS => ?_)
          exact W.vret hx hb hr (fun t ht hW => ⟨⟨(fun k => ([z79] : List Int32).getD k 0, fun k => ([f18_1, f18_2] : List (Nat → Int32)).getD k (fun _ => 0), fun k => ([] : List (Nat → Int64)).getD k (fun _ => 0)), rfl, ⟨hz79, trivial⟩, hp_at ht hP⟩, hS.F ht⟩) hS.2.2 dX1_join_83
        · have h_3 : rg 0 127 x18_3 := r_lt_l_i (nle_i c23) hx18_3 h_2 (by decide)
          have h_4 : rg 1 128 n0_2 := r_lt_r_i (nle_i c23) hx18_3 h_2 (by decide)
          refine lv_aload_n hx hb dX1_join_26 rfl (lv_at hl 0 rfl) ?_
          refine va_get (D := G) (ci := 1) (v := .ref a1) (C := RX1) (T := TX1) (N := 3) hx hb hts (by decide +kernel) hown hK.1 hP 0 rfl rfl 0 (by decide) (hts (.fieldLink RX1 9 "CardHolder$Choice" "costs" "[I") (by decide +kernel)) (fun _ h9 => h9) rfl dX1_join_27 ?_
          refine lv_iload_n hx hb dX1_join_30 rfl (lv_at hl 3 rfl) ?_
          refine lv_aload_n hx hb dX1_join_31 rfl (lv_at hl 0 rfl) ?_
          refine va_get (D := G) (ci := 1) (v := .int n0_2) (C := RX1) (T := TX1) (N := 3) hx hb hts (by decide +kernel) hown hK.1 hP 0 rfl rfl 2 (by decide) (hts (.fieldLink RX1 18 "CardHolder$Choice" "sets" "I") (by decide +kernel)) (fun _ h9 => h9) rfl dX1_join_32 ?_
          refine lv_iadd hx hb dX1_join_35 ?_
          refine nm_add (e1 := 1) (f := 255) h_3 h_4 (by decide) (fun z35 hz35 ez35 => ?_)
          refine lv_aload_n hx hb dX1_join_36 rfl (lv_at hl 0 rfl) ?_
          refine va_get (D := G) (ci := 1) (v := .ref a1) (C := RX1) (T := TX1) (N := 3) hx hb hts (by decide +kernel) hown hK.1 hP 0 rfl rfl 0 (by decide) (hts (.fieldLink RX1 9 "CardHolder$Choice" "costs" "[I") (by decide +kernel)) (fun _ h9 => h9) rfl dX1_join_37 ?_
          refine lv_iload_n hx hb dX1_join_40 rfl (lv_at hl 3 rfl) ?_
          refine va_iald hx hb hK.1 hP 1 0 rfl rfl (in_rg h_3 (by decide)) dX1_join_41 ?_
          refine lv_topi (fun z41 gz41 => ?_)
          refine lv_iload_n hx hb dX1_join_42 rfl (lv_at hl 1 rfl) ?_
          refine lv_iadd hx hb dX1_join_43 ?_
          refine nm_0 (fun z43 => ?_)
          refine va_iast hx hb hK.1 hP hD hS 1 0 rfl rfl (in_rg hz35 (by decide)) dX1_join_44 (fun H locs hP hD hS => ?_)
          refine lv_aload_n hx hb dX1_join_45 rfl (lv_at hl 0 rfl) ?_
          refine va_get (D := G) (ci := 1) (v := .ref a2) (C := RX1) (T := TX1) (N := 3) hx hb hts (by decide +kernel) hown hK.1 hP 0 rfl rfl 1 (by decide) (hts (.fieldLink RX1 15 "CardHolder$Choice" "does" "[I") (by decide +kernel)) (fun _ h9 => h9) rfl dX1_join_46 ?_
          refine lv_iload_n hx hb dX1_join_49 rfl (lv_at hl 3 rfl) ?_
          refine lv_aload_n hx hb dX1_join_50 rfl (lv_at hl 0 rfl) ?_
          refine va_get (D := G) (ci := 1) (v := .int n0_2) (C := RX1) (T := TX1) (N := 3) hx hb hts (by decide +kernel) hown hK.1 hP 0 rfl rfl 2 (by decide) (hts (.fieldLink RX1 18 "CardHolder$Choice" "sets" "I") (by decide +kernel)) (fun _ h9 => h9) rfl dX1_join_51 ?_
          refine lv_iadd hx hb dX1_join_54 ?_
          refine nm_add (e1 := 1) (f := 255) h_3 h_4 (by decide) (fun z54 hz54 ez54 => ?_)
          refine lv_aload_n hx hb dX1_join_55 rfl (lv_at hl 0 rfl) ?_
          refine va_get (D := G) (ci := 1) (v := .ref a2) (C := RX1) (T := TX1) (N := 3) hx hb hts (by decide +kernel) hown hK.1 hP 0 rfl rfl 1 (by decide) (hts (.fieldLink RX1 15 "CardHolder$Choice" "does" "[I") (by decide +kernel)) (fun _ h9 => h9) rfl dX1_join_56 ?_
          refine lv_iload_n hx hb dX1_join_59 rfl (lv_at hl 3 rfl) ?_
          refine va_iald hx hb hK.1 hP 2 0 rfl rfl (in_rg h_3 (by decide)) dX1_join_60 ?_
          refine lv_topi (fun z60 gz60 => ?_)
          refine lv_iload_n hx hb dX1_join_61 rfl (lv_at hl 2 rfl) ?_
          refine lv_ior hx hb dX1_join_62 ?_
          refine nm_0 (fun z62 => ?_)
          refine va_iast hx hb hK.1 hP hD hS 2 0 rfl rfl (in_rg hz54 (by decide)) dX1_join_63 (fun H locs hP hD hS => ?_)
          obtain ⟨z64, qz64⟩ : ∃ y : Int32, y = x18_3 + Int32.ofInt 1 := ⟨_, rfl⟩
          obtain ⟨hz64, ez64⟩ := inc_z (e := 1) (f := 128) h_3 qz64 (by decide)
          refine lv_iinc (v := z64) (lv' := [(3, .int z64), (0, .ref a0), (1, .int p0), (2, .int p1)]) hx hb dX1_join_64 hl (k := 3) rfl (qz64.symm) (by decide) rfl (fun ls hl => ?_)
          refine lv_goto (tgt := 18) hx hb dX1_join_67 (by decide) ?_
          exact ih18 z64 (upd f18_1 z35.toNatClampNeg z43) (upd f18_2 z54.toNatClampNeg z62) _ _ ls (by have q := hn18; have := ez64; omega) (rg_w (c := 0) (d := 128) hz64 (by decide)) hP hD hS (lv_sub hl [1, 2, 3, 0] rfl)
    exact j18 4294967296 (0 : Int32) f1 f2 _ _ ls (ms_e (0 : Int32)) (rg_w (c := 0) (d := 128) (rgn 0 (x := 0) (by decide)) (by decide)) hP hD hS (lv_sub hl [1, 2, 3, 0] rfl)
  · have h_5 : rg 257 512 z8 := r_lt_r_i (nle_i c12) (rgn 256 (x := 256) (by decide)) hz8 (by decide)
    have h_6 : rg 129 256 n0_2 := bk_2 (a := 129) (b := 256) ez8 h_5 hp_n0_2 (by decide)
    exact W.vret hx hb hr (fun t ht hW => ⟨⟨(fun k => ([n0_2] : List Int32).getD k 0, fun k => ([f1, f2] : List (Nat → Int32)).getD k (fun _ => 0), fun k => ([] : List (Nat → Int64)).getD k (fun _ => 0)), rfl, ⟨(rg_w (c := 0) (d := 256) h_6 (by decide)), trivial⟩, hp_at ht hP⟩, hS.F ht⟩) hS.2.2 dX1_join_15

set_option maxHeartbeats 4000000 in
set_option maxRecDepth 100000 in
theorem a_X1_takeHands (l : Launch) (G : va_G) (ct : Nat → ClassId) (a0 : Nat) (a1 : Nat) (a2 : Nat) (n0_2 : Int32) (f1 : Nat → Int32) (f2 : Nat → Int32) (a3 : Nat) (a4 : Nat) (a11 : Nat) (a16 : Nat) (n3_3 : Int32) (a5 : Nat) (a7 : Nat) (a8 : Nat) (a9 : Nat) (a10 : Nat) (n4_5 : Int32) (n4_6 : Int32) (a6 : Nat) (n5_1 : Int32) (f8 : Nat → Int32) (a12 : Nat) (a14 : Nat) (a15 : Nat) (n11_4 : Int32) (n11_5 : Int32) (n11_6 : Int32) (n11_7 : Int32) (a13 : Nat) (n12_1 : Int32) (f13 : Nat → Int32) (hp_n0_2 : rg 0 256 n0_2) (hp_n5_1 : rg 0 8 n5_1) (hp_n12_1 : rg 0 8 n12_1) : Met l yX1_takeHands wsX1_takeHands ({ frames := 3, cells := 0, slots := 0, locals := 65 }) (va_Pc [.ref a0, .ref a3] (wrP G ct [(a0, .inr (1, [.ref a1, .ref a2, .int n0_2])), (a1, .inl (ct 0, 256, .inl f1)), (a2, .inl (ct 0, 256, .inl f2)), (a3, .inr (4, [.ref a4, .ref a11, .ref a16, .int n3_3])), (a4, .inr (9, [.ref a5, .ref a7, .ref a8, .ref a9, .ref a10, .int n4_5, .int n4_6])), (a5, .inr (0, [.ref a6, .int n5_1])), (a8, .inl (ct 0, 8, .inl f8)), (a11, .inr (2, [.ref a4, .ref a12, .ref a14, .ref a15, .int n11_4, .int n11_5, .int n11_6, .int n11_7])), (a12, .inr (0, [.ref a13, .int n12_1])), (a13, .inl (ct 0, 8, .inl f13))])) (va_Qv (fun u : SU => rg 0 256 (u.1 0) ∧ True) (fun u t => va_P G vwCl ((fun u : SU => [(a0, .inr (1, [.ref a1, .ref a2, .int (u.1 0)])), (a1, .inl (ct 0, 256, .inl (u.2.1 0))), (a2, .inl (ct 0, 256, .inl (u.2.1 1))), (a3, .inr (4, [.ref a4, .ref a11, .ref a16, .int n3_3])), (a4, .inr (9, [.ref a5, .ref a7, .ref a8, .ref a9, .ref a10, .int n4_5, .int n4_6])), (a5, .inr (0, [.ref a6, .int n5_1])), (a8, .inl (ct 0, 8, .inl f8)), (a11, .inr (2, [.ref a4, .ref a12, .ref a14, .ref a15, .int n11_4, .int n11_5, .int n11_6, .int n11_7])), (a12, .inr (0, [.ref a13, .int n12_1])), (a13, .inl (ct 0, 8, .inl f13))]) u) t.heap) (aset [(a0, .inr (1, [.ref a1, .ref a2, .int n0_2])), (a1, .inl (ct 0, 256, .inl f1)), (a2, .inl (ct 0, 256, .inl f2)), (a3, .inr (4, [.ref a4, .ref a11, .ref a16, .int n3_3])), (a4, .inr (9, [.ref a5, .ref a7, .ref a8, .ref a9, .ref a10, .int n4_5, .int n4_6])), (a5, .inr (0, [.ref a6, .int n5_1])), (a8, .inl (ct 0, 8, .inl f8)), (a11, .inr (2, [.ref a4, .ref a12, .ref a14, .ref a15, .int n11_4, .int n11_5, .int n11_6, .int n11_7])), (a12, .inr (0, [.ref a13, .int n12_1])), (a13, .inl (ct 0, 8, .inl f13))])) 0 0 (aset [(a0, .inr (1, [.ref a1, .ref a2, .int n0_2])), (a1, .inl (ct 0, 256, .inl f1)), (a2, .inl (ct 0, 256, .inl f2)), (a3, .inr (4, [.ref a4, .ref a11, .ref a16, .int n3_3])), (a4, .inr (9, [.ref a5, .ref a7, .ref a8, .ref a9, .ref a10, .int n4_5, .int n4_6])), (a5, .inr (0, [.ref a6, .int n5_1])), (a8, .inl (ct 0, 8, .inl f8)), (a11, .inr (2, [.ref a4, .ref a12, .ref a14, .ref a15, .int n11_4, .int n11_5, .int n11_6, .int n11_7])), (a12, .inr (0, [.ref a13, .int n12_1])), (a13, .inl (ct 0, 8, .inl f13))]) := by
  refine Met.ofW (cc := cX1_takeHands) (maxL := 3) (ret := none) (by decide) rfl ?_
  intro p e s m args below meth c s₁ B hml hv
  obtain ⟨rfl, hP, hK, hD0⟩ := hv
  have hx := B.exec
  have hb := B.bytes
  have hr := B.returns
  have hts := atoms_spec (ws := wsX1_takeHands) B.pre
  have hown : s.vm.findClass RX1 = some m.cls := findClass_of_methodNamed B.named
  have hlocks := B.notSynchronized
  have hD := hD0.aself
  generalize hAe : aset [(a0, .inr (1, [.ref a1, .ref a2, .int n0_2])), (a1, .inl (ct 0, 256, .inl f1)), (a2, .inl (ct 0, 256, .inl f2)), (a3, .inr (4, [.ref a4, .ref a11, .ref a16, .int n3_3])), (a4, .inr (9, [.ref a5, .ref a7, .ref a8, .ref a9, .ref a10, .int n4_5, .int n4_6])), (a5, .inr (0, [.ref a6, .int n5_1])), (a8, .inl (ct 0, 8, .inl f8)), (a11, .inr (2, [.ref a4, .ref a12, .ref a14, .ref a15, .int n11_4, .int n11_5, .int n11_6, .int n11_7])), (a12, .inr (0, [.ref a13, .int n12_1])), (a13, .inl (ct 0, 8, .inl f13))] = A at hD ⊢
  have hS : va_S A s.heap s.heap [] := va_S.rf
  have hl := lv_entry ([.ref a0, .ref a3]) (n := 3) (Nat.le_of_ble_eq_true rfl)
  rw [lg_entry_eq]
  generalize (lg_sl ([.ref a0, .ref a3]) ++ List.replicate (3 - (lg_sl ([.ref a0, .ref a3])).length) Slot.unset).toArray = ls at hl ⊢
  have hl : lv_has ls 3 [(0, .ref a0), (1, .ref a3)] := hl
  refine lv_aload_n hx hb dX1_takeHands_0 rfl (lv_at hl 0 rfl) ?_
  refine lv_iconst (v := 1) hx hb dX1_takeHands_1 (by decide) ?_
  refine va_put (D := G) (ci := 1) (v := .int 1) (ty := .int) (C := RX1) (T := TX1) (N := 3) hx hb hts (by decide +kernel) tyX1 tyX1_ok nmX1 hown hK.1 hP hD hS 0 rfl rfl 2 (by decide) (hts (.fieldLink RX1 18 "CardHolder$Choice" "sets" "I") (by decide +kernel)) (fun _ h9 => h9) rfl (by decide +kernel) rfl rfl (Nat.le_of_ble_eq_true rfl) dX1_takeHands_2 (fun H locs hP hD hS => ?_)
  refine lv_iconst (v := 0) hx hb dX1_takeHands_5 (by decide) ?_
  refine lv_istore_n (lv' := [(2, .int 0), (0, .ref a0), (1, .ref a3)]) hx hb dX1_takeHands_6 rfl hl (by decide) rfl (fun ls hl => ?_)
  have j7 : ∀ (n : Nat) (x7_2 : Int32) (v7_0_2 : Int32) (f7_1 : Nat → Int32) (f7_2 : Nat → Int32) (H : Heap) (locs : List Loc) (ls : Array Slot), 2147483648 ≤ x7_2.toInt + (n : Int) → rg 0 8 x7_2 → rg 0 256 v7_0_2 → va_P G vwCl [(a0, .inr (1, [.ref a1, .ref a2, .int v7_0_2])), (a1, .inl (ct 0, 256, .inl f7_1)), (a2, .inl (ct 0, 256, .inl f7_2)), (a3, .inr (4, [.ref a4, .ref a11, .ref a16, .int n3_3])), (a4, .inr (9, [.ref a5, .ref a7, .ref a8, .ref a9, .ref a10, .int n4_5, .int n4_6])), (a5, .inr (0, [.ref a6, .int n5_1])), (a8, .inl (ct 0, 8, .inl f8)), (a11, .inr (2, [.ref a4, .ref a12, .ref a14, .ref a15, .int n11_4, .int n11_5, .int n11_6, .int n11_7])), (a12, .inr (0, [.ref a13, .int n12_1])), (a13, .inl (ct 0, 8, .inl f13))] H → va_D A [(a0, .inr (1, [.ref a1, .ref a2, .int v7_0_2])), (a1, .inl (ct 0, 256, .inl f7_1)), (a2, .inl (ct 0, 256, .inl f7_2)), (a3, .inr (4, [.ref a4, .ref a11, .ref a16, .int n3_3])), (a4, .inr (9, [.ref a5, .ref a7, .ref a8, .ref a9, .ref a10, .int n4_5, .int n4_6])), (a5, .inr (0, [.ref a6, .int n5_1])), (a8, .inl (ct 0, 8, .inl f8)), (a11, .inr (2, [.ref a4, .ref a12, .ref a14, .ref a15, .int n11_4, .int n11_5, .int n11_6, .int n11_7])), (a12, .inr (0, [.ref a13, .int n12_1])), (a13, .inl (ct 0, 8, .inl f13))] → va_S A s.heap H locs → lv_has ls 3 [(0, .ref a0), (1, .ref a3), (2, .int x7_2)] → W p l e (headSpec wsX1_takeHands ({ frames := 3, cells := 0, slots := 0, locals := 65 })).room s m ([.ref a0, .ref a3] : List Value).toArray below meth c H locs 0 0 (MQ below (va_Qv (fun u : SU => rg 0 256 (u.1 0) ∧ True) (fun u t => va_P G vwCl ((fun u : SU => [(a0, .inr (1, [.ref a1, .ref a2, .int (u.1 0)])), (a1, .inl (ct 0, 256, .inl (u.2.1 0))), (a2, .inl (ct 0, 256, .inl (u.2.1 1))), (a3, .inr (4, [.ref a4, .ref a11, .ref a16, .int n3_3])), (a4, .inr (9, [.ref a5, .ref a7, .ref a8, .ref a9, .ref a10, .int n4_5, .int n4_6])), (a5, .inr (0, [.ref a6, .int n5_1])), (a8, .inl (ct 0, 8, .inl f8)), (a11, .inr (2, [.ref a4, .ref a12, .ref a14, .ref a15, .int n11_4, .int n11_5, .int n11_6, .int n11_7])), (a12, .inr (0, [.ref a13, .int n12_1])), (a13, .inl (ct 0, 8, .inl f13))]) u) t.heap) A) ([.ref a0, .ref a3] : List Value).toArray s 0 0 A) (F0 m 7 ls []) := by
    intro n
    induction n with
    | zero => intro x7_2 v7_0_2 f7_1 f7_2 H locs ls hn7 hx7_2 hv7_0_2 hP hD hS hl; exact absurd hn7 (by have := Int32.toInt_lt x7_2; have := Int32.le_toInt x7_2; omega)
    | succ n ih7 =>
      intro x7_2 v7_0_2 f7_1 f7_2 H locs ls hn7 hx7_2 hv7_0_2 hP hD hS hl
      refine lv_iload_n hx hb dX1_takeHands_7 rfl (lv_at hl 2 rfl) ?_
      refine lv_aload_n hx hb dX1_takeHands_8 rfl (lv_at hl 1 rfl) ?_
      refine va_get (D := G) (ci := 4) (v := .ref a4) (C := RX4) (T := TX4) (N := 4) hx hb hts (by decide +kernel) hown hK.1 hP 3 rfl rfl 0 (by decide) (hts (.fieldLink RX1 22 "CardHolder$Play" "town" "LCardHolder$Town;") (by decide +kernel)) (fun _ h9 => h9) rfl dX1_takeHands_9 ?_
      refine va_get (D := G) (ci := 9) (v := .ref a5) (C := RX9) (T := TX9) (N := 7) hx hb hts (by decide +kernel) hown hK.1 hP 4 rfl rfl 0 (by decide) (hts (.fieldLink RX1 28 "CardHolder$Town" "bonds" "LCardHolder$Bonds;") (by decide +kernel)) (fun _ h9 => h9) rfl dX1_takeHands_12 ?_
      refine va_get (D := G) (ci := 0) (v := .int n5_1) (C := RX0) (T := TX0) (N := 2) hx hb hts (by decide +kernel) hown hK.1 hP 5 rfl rfl 1 (by decide) (hts (.fieldLink RX1 34 "CardHolder$Bonds" "persons" "I") (by decide +kernel)) (fun _ h9 => h9) rfl dX1_takeHands_15 ?_
      refine lv_icmp_ge (tgt := 50) hx hb dX1_takeHands_18 (by decide) (fun c18 => ?_) (fun c18 => ?_)
      · exact W.vret hx hb hr (fun t ht hW => ⟨⟨(fun k => ([v7_0_2] : List Int32).getD k 0, fun k => ([f7_1, f7_2] : List (Nat → Int32)).getD k (fun _ => 0), fun k => ([] : List (Nat → Int64)).getD k (fun _ => 0)), rfl, ⟨hv7_0_2, trivial⟩, hp_at ht hP⟩, hS.F ht⟩) hS.2.2 dX1_takeHands_50
      · have h_1 : rg 0 7 x7_2 := r_lt_l_i (nle_i c18) hx7_2 hp_n5_1 (by decide)
        have h_2 : rg 1 8 n5_1 := r_lt_r_i (nle_i c18) hx7_2 hp_n5_1 (by decide)
        refine lv_aload_n hx hb dX1_takeHands_21 rfl (lv_at hl 0 rfl) ?_
        refine lv_iconst (v := 1) hx hb dX1_takeHands_22 (by decide) ?_
        refine lv_aload_n hx hb dX1_takeHands_23 rfl (lv_at hl 1 rfl) ?_
        refine va_get (D := G) (ci := 4) (v := .ref a4) (C := RX4) (T := TX4) (N := 4) hx hb hts (by decide +kernel) hown hK.1 hP 3 rfl rfl 0 (by decide) (hts (.fieldLink RX1 22 "CardHolder$Play" "town" "LCardHolder$Town;") (by decide +kernel)) (fun _ h9 => h9) rfl dX1_takeHands_24 ?_
        refine lv_aload_n hx hb dX1_takeHands_27 rfl (lv_at hl 1 rfl) ?_
        refine va_get (D := G) (ci := 4) (v := .ref a11) (C := RX4) (T := TX4) (N := 4) hx hb hts (by decide +kernel) hown hK.1 hP 3 rfl rfl 1 (by decide) (hts (.fieldLink RX1 39 "CardHolder$Play" "hands" "LCardHolder$Hands;") (by decide +kernel)) (fun _ h9 => h9) rfl dX1_takeHands_28 ?_
        refine va_get (D := G) (ci := 2) (v := .ref a12) (C := RX2) (T := TX2) (N := 8) hx hb hts (by decide +kernel) hown hK.1 hP 7 rfl rfl 1 (by decide) (hts (.fieldLink RX1 43 "CardHolder$Hands" "bonds" "LCardHolder$Bonds;") (by decide +kernel)) (fun _ h9 => h9) rfl dX1_takeHands_31 ?_
        refine lv_iload_n hx hb dX1_takeHands_34 rfl (lv_at hl 2 rfl) ?_
        refine ro_calli (va_runV (As := [.int x7_2]) (rest := [.ref a4, .int 1, .ref a0]) ⟨hx, hb, hml, hown, hts⟩ (a_X0_handOf l G ct a12 a13 n12_1 f13 x7_2 hp_n12_1) (cwV 1 hts gX1_takeHands_X0_handOf rfl rfl rfl (by decide +kernel) ⟨Nat.le_of_ble_eq_true rfl, Nat.le_of_ble_eq_true rfl⟩) (ro_preV 0 0 hK (hP.sub [8, 9] rfl) rfl rfl) rfl rfl hl.1 rfl (lv_room (Nat.le_of_ble_eq_true rfl)) dX1_takeHands_35 ⟨Nat.zero_le _, Nat.zero_le _⟩) hS hP (fun r35 H locs wr35 hP hS => ?_)
        obtain ⟨p_3, -⟩ := wr35
        refine ro_calli (va_runV (As := [.int r35]) (rest := [.int 1, .ref a0]) ⟨hx, hb, hml, hown, hts⟩ (a_X9_deedsOfAll l G ct a4 a5 a7 a8 a9 a10 n4_5 n4_6 a6 n5_1 f8 r35 (rg_w (c := 0) (d := 8) h_2 (by decide))) (cwV 1 hts gX1_takeHands_X9_deedsOfAll rfl rfl rfl (by decide +kernel) ⟨Nat.le_of_ble_eq_true rfl, Nat.le_of_ble_eq_true rfl⟩) (ro_preV 9 0 hK (hP.sub [4, 5, 6] rfl) rfl rfl) rfl rfl hl.1 rfl (lv_room (Nat.le_of_ble_eq_true rfl)) dX1_takeHands_38 ⟨Nat.zero_le _, Nat.zero_le _⟩) hS hP (fun r38 H locs wr38 hP hS => ?_)
        refine wj_callv (wr := [(a3, .inr (4, [.ref a4, .ref a11, .ref a16, .int n3_3])), (a4, .inr (9, [.ref a5, .ref a7, .ref a8, .ref a9, .ref a10, .int n4_5, .int n4_6])), (a5, .inr (0, [.ref a6, .int n5_1])), (a8, .inl (ct 0, 8, .inl f8)), (a11, .inr (2, [.ref a4, .ref a12, .ref a14, .ref a15, .int n11_4, .int n11_5, .int n11_6, .int n11_7])), (a12, .inr (0, [.ref a13, .int n12_1])), (a13, .inl (ct 0, 8, .inl f13))]) (w1 := (fun u : SU => [(a0, .inr (1, [.ref a1, .ref a2, .int (u.1 0)])), (a1, .inl (ct 0, 256, .inl (u.2.1 0))), (a2, .inl (ct 0, 256, .inl (u.2.1 1)))])) (va_runV (As := [.int 1, .int r38]) (rest := []) ⟨hx, hb, hml, hown, hts⟩ (a_X1_join l G ct a0 a1 a2 v7_0_2 f7_1 f7_2 (1 : Int32) r38 hv7_0_2) (cwV 2 hts gX1_takeHands_X1_join rfl rfl rfl (by decide +kernel) ⟨Nat.le_of_ble_eq_true rfl, Nat.le_of_ble_eq_true rfl⟩) (wr_preV 1 0 hK (hP.sub [0, 1, 2] rfl) (hD.sub [0, 1, 2] (by decide) rfl) rfl rfl) rfl rfl hl.1 rfl (lv_room (Nat.le_of_ble_eq_true rfl)) dX1_takeHands_41 ⟨Nat.zero_le _, Nat.zero_le _⟩) hS hP hD [0, 1, 2] [3, 4, 5, 6, 7, 8, 9] rfl rfl (by decide) (fun _ => rfl) (fun ur41 H locs wr41 hP hD hS => ?_)
        have hP : va_P G vwCl [(a0, .inr (1, [.ref a1, .ref a2, .int (ur41.1 0)])), (a1, .inl (ct 0, 256, .inl (ur41.2.1 0))), (a2, .inl (ct 0, 256, .inl (ur41.2.1 1))), (a3, .inr (4, [.ref a4, .ref a11, .ref a16, .int n3_3])), (a4, .inr (9, [.ref a5, .ref a7, .ref a8, .ref a9, .ref a10, .int n4_5, .int n4_6])), (a5, .inr (0, [.ref a6, .int n5_1])), (a8, .inl (ct 0, 8, .inl f8)), (a11, .inr (2, [.ref a4, .ref a12, .ref a14, .ref a15, .int n11_4, .int n11_5, .int n11_6, .int n11_7])), (a12, .inr (0, [.ref a13, .int n12_1])), (a13, .inl (ct 0, 8, .inl f13))] H := hP.sub [7, 8, 9, 0, 1, 2, 3, 4, 5, 6] rfl
        have hD : va_D A [(a0, .inr (1, [.ref a1, .ref a2, .int (ur41.1 0)])), (a1, .inl (ct 0, 256, .inl (ur41.2.1 0))), (a2, .inl (ct 0, 256, .inl (ur41.2.1 1))), (a3, .inr (4, [.ref a4, .ref a11, .ref a16, .int n3_3])), (a4, .inr (9, [.ref a5, .ref a7, .ref a8, .ref a9, .ref a10, .int n4_5, .int n4_6])), (a5, .inr (0, [.ref a6, .int n5_1])), (a8, .inl (ct 0, 8, .inl f8)), (a11, .inr (2, [.ref a4, .ref a12, .ref a14, .ref a15, .int n11_4, .int n11_5, .int n11_6, .int n11_7])), (a12, .inr (0, [.ref a13, .int n12_1])), (a13, .inl (ct 0, 8, .inl f13))] := hD.sub [7, 8, 9, 0, 1, 2, 3, 4, 5, 6] (by decide) rfl
        obtain ⟨p_4, -⟩ := wr41
        obtain ⟨z44, qz44⟩ : ∃ y : Int32, y = x7_2 + Int32.ofInt 1 := ⟨_, rfl⟩
        obtain ⟨hz44, ez44⟩ := inc_z (e := 1) (f := 8) h_1 qz44 (by decide)
        refine lv_iinc (v := z44) (lv' := [(2, .int z44), (0, .ref a0), (1, .ref a3)]) hx hb dX1_takeHands_44 hl (k := 2) rfl (qz44.symm) (by decide) rfl (fun ls hl => ?_)
        refine lv_goto (tgt := 7) hx hb dX1_takeHands_47 (by decide) ?_
        exact ih7 z44 (ur41.1 0) (ur41.2.1 0) (ur41.2.1 1) _ _ ls (by have q := hn7; have := ez44; omega) (rg_w (c := 0) (d := 8) hz44 (by decide)) p_4 hP hD hS (lv_sub hl [1, 2, 0] rfl)
  exact j7 4294967296 (0 : Int32) (1 : Int32) f1 f2 _ _ ls (ms_e (0 : Int32)) (rg_w (c := 0) (d := 8) (rgn 0 (x := 0) (by decide)) (by decide)) (rg_w (c := 0) (d := 256) (rgn 1 (x := 1) (by decide)) (by decide)) hP hD hS (lv_sub hl [1, 2, 0] rfl)

set_option maxHeartbeats 4000000 in
set_option maxRecDepth 100000 in
theorem a_X1_takePersons (l : Launch) (G : va_G) (ct : Nat → ClassId) (a0 : Nat) (a1 : Nat) (a2 : Nat) (n0_2 : Int32) (f1 : Nat → Int32) (f2 : Nat → Int32) (a3 : Nat) (a4 : Nat) (a11 : Nat) (a16 : Nat) (n3_3 : Int32) (a5 : Nat) (a7 : Nat) (a8 : Nat) (a9 : Nat) (a10 : Nat) (n4_5 : Int32) (n4_6 : Int32) (a6 : Nat) (n5_1 : Int32) (f7 : Nat → Int32) (f8 : Nat → Int32) (hp_n0_2 : rg 0 256 n0_2) (hp_n5_1 : rg 0 8 n5_1) : Met l yX1_takePersons wsX1_takePersons ({ frames := 2, cells := 0, slots := 0, locals := 42 }) (va_Pc [.ref a0, .ref a3] (wrP G ct [(a0, .inr (1, [.ref a1, .ref a2, .int n0_2])), (a1, .inl (ct 0, 256, .inl f1)), (a2, .inl (ct 0, 256, .inl f2)), (a3, .inr (4, [.ref a4, .ref a11, .ref a16, .int n3_3])), (a4, .inr (9, [.ref a5, .ref a7, .ref a8, .ref a9, .ref a10, .int n4_5, .int n4_6])), (a5, .inr (0, [.ref a6, .int n5_1])), (a7, .inl (ct 0, 8, .inl f7)), (a8, .inl (ct 0, 8, .inl f8))])) (va_Qv (fun u : SU => rg 0 256 (u.1 0) ∧ True) (fun u t => va_P G vwCl ((fun u : SU => [(a0, .inr (1, [.ref a1, .ref a2, .int (u.1 0)])), (a1, .inl (ct 0, 256, .inl (u.2.1 0))), (a2, .inl (ct 0, 256, .inl (u.2.1 1))), (a3, .inr (4, [.ref a4, .ref a11, .ref a16, .int n3_3])), (a4, .inr (9, [.ref a5, .ref a7, .ref a8, .ref a9, .ref a10, .int n4_5, .int n4_6])), (a5, .inr (0, [.ref a6, .int n5_1])), (a7, .inl (ct 0, 8, .inl f7)), (a8, .inl (ct 0, 8, .inl f8))]) u) t.heap) (aset [(a0, .inr (1, [.ref a1, .ref a2, .int n0_2])), (a1, .inl (ct 0, 256, .inl f1)), (a2, .inl (ct 0, 256, .inl f2)), (a3, .inr (4, [.ref a4, .ref a11, .ref a16, .int n3_3])), (a4, .inr (9, [.ref a5, .ref a7, .ref a8, .ref a9, .ref a10, .int n4_5, .int n4_6])), (a5, .inr (0, [.ref a6, .int n5_1])), (a7, .inl (ct 0, 8, .inl f7)), (a8, .inl (ct 0, 8, .inl f8))])) 0 0 (aset [(a0, .inr (1, [.ref a1, .ref a2, .int n0_2])), (a1, .inl (ct 0, 256, .inl f1)), (a2, .inl (ct 0, 256, .inl f2)), (a3, .inr (4, [.ref a4, .ref a11, .ref a16, .int n3_3])), (a4, .inr (9, [.ref a5, .ref a7, .ref a8, .ref a9, .ref a10, .int n4_5, .int n4_6])), (a5, .inr (0, [.ref a6, .int n5_1])), (a7, .inl (ct 0, 8, .inl f7)), (a8, .inl (ct 0, 8, .inl f8))]) := by
  refine Met.ofW (cc := cX1_takePersons) (maxL := 3) (ret := none) (by decide) rfl ?_
  intro p e s m args below meth c s₁ B hml hv
  obtain ⟨rfl, hP, hK, hD0⟩ := hv
  have hx := B.exec
  have hb := B.bytes
  have hr := B.returns
  have hts := atoms_spec (ws := wsX1_takePersons) B.pre
  have hown : s.vm.findClass RX1 = some m.cls := findClass_of_methodNamed B.named
  have hlocks := B.notSynchronized
  have hD := hD0.aself
  generalize hAe : aset [(a0, .inr (1, [.ref a1, .ref a2, .int n0_2])), (a1, .inl (ct 0, 256, .inl f1)), (a2, .inl (ct 0, 256, .inl f2)), (a3, .inr (4, [.ref a4, .ref a11, .ref a16, .int n3_3])), (a4, .inr (9, [.ref a5, .ref a7, .ref a8, .ref a9, .ref a10, .int n4_5, .int n4_6])), (a5, .inr (0, [.ref a6, .int n5_1])), (a7, .inl (ct 0, 8, .inl f7)), (a8, .inl (ct 0, 8, .inl f8))] = A at hD ⊢
  have hS : va_S A s.heap s.heap [] := va_S.rf
  have hl := lv_entry ([.ref a0, .ref a3]) (n := 3) (Nat.le_of_ble_eq_true rfl)
  rw [lg_entry_eq]
  generalize (lg_sl ([.ref a0, .ref a3]) ++ List.replicate (3 - (lg_sl ([.ref a0, .ref a3])).length) Slot.unset).toArray = ls at hl ⊢
  have hl : lv_has ls 3 [(0, .ref a0), (1, .ref a3)] := hl
  refine lv_aload_n hx hb dX1_takePersons_0 rfl (lv_at hl 0 rfl) ?_
  refine lv_iconst (v := 1) hx hb dX1_takePersons_1 (by decide) ?_
  refine va_put (D := G) (ci := 1) (v := .int 1) (ty := .int) (C := RX1) (T := TX1) (N := 3) hx hb hts (by decide +kernel) tyX1 tyX1_ok nmX1 hown hK.1 hP hD hS 0 rfl rfl 2 (by decide) (hts (.fieldLink RX1 18 "CardHolder$Choice" "sets" "I") (by decide +kernel)) (fun _ h9 => h9) rfl (by decide +kernel) rfl rfl (Nat.le_of_ble_eq_true rfl) dX1_takePersons_2 (fun H locs hP hD hS => ?_)
  refine lv_iconst (v := 0) hx hb dX1_takePersons_5 (by decide) ?_
  refine lv_istore_n (lv' := [(2, .int 0), (0, .ref a0), (1, .ref a3)]) hx hb dX1_takePersons_6 rfl hl (by decide) rfl (fun ls hl => ?_)
  have j7 : ∀ (n : Nat) (x7_2 : Int32) (v7_0_2 : Int32) (f7_1 : Nat → Int32) (f7_2 : Nat → Int32) (H : Heap) (locs : List Loc) (ls : Array Slot), 2147483648 ≤ x7_2.toInt + (n : Int) → rg 0 8 x7_2 → rg 0 256 v7_0_2 → va_P G vwCl [(a0, .inr (1, [.ref a1, .ref a2, .int v7_0_2])), (a1, .inl (ct 0, 256, .inl f7_1)), (a2, .inl (ct 0, 256, .inl f7_2)), (a3, .inr (4, [.ref a4, .ref a11, .ref a16, .int n3_3])), (a4, .inr (9, [.ref a5, .ref a7, .ref a8, .ref a9, .ref a10, .int n4_5, .int n4_6])), (a5, .inr (0, [.ref a6, .int n5_1])), (a7, .inl (ct 0, 8, .inl f7)), (a8, .inl (ct 0, 8, .inl f8))] H → va_D A [(a0, .inr (1, [.ref a1, .ref a2, .int v7_0_2])), (a1, .inl (ct 0, 256, .inl f7_1)), (a2, .inl (ct 0, 256, .inl f7_2)), (a3, .inr (4, [.ref a4, .ref a11, .ref a16, .int n3_3])), (a4, .inr (9, [.ref a5, .ref a7, .ref a8, .ref a9, .ref a10, .int n4_5, .int n4_6])), (a5, .inr (0, [.ref a6, .int n5_1])), (a7, .inl (ct 0, 8, .inl f7)), (a8, .inl (ct 0, 8, .inl f8))] → va_S A s.heap H locs → lv_has ls 3 [(0, .ref a0), (1, .ref a3), (2, .int x7_2)] → W p l e (headSpec wsX1_takePersons ({ frames := 2, cells := 0, slots := 0, locals := 42 })).room s m ([.ref a0, .ref a3] : List Value).toArray below meth c H locs 0 0 (MQ below (va_Qv (fun u : SU => rg 0 256 (u.1 0) ∧ True) (fun u t => va_P G vwCl ((fun u : SU => [(a0, .inr (1, [.ref a1, .ref a2, .int (u.1 0)])), (a1, .inl (ct 0, 256, .inl (u.2.1 0))), (a2, .inl (ct 0, 256, .inl (u.2.1 1))), (a3, .inr (4, [.ref a4, .ref a11, .ref a16, .int n3_3])), (a4, .inr (9, [.ref a5, .ref a7, .ref a8, .ref a9, .ref a10, .int n4_5, .int n4_6])), (a5, .inr (0, [.ref a6, .int n5_1])), (a7, .inl (ct 0, 8, .inl f7)), (a8, .inl (ct 0, 8, .inl f8))]) u) t.heap) A) ([.ref a0, .ref a3] : List Value).toArray s 0 0 A) (F0 m 7 ls []) := by
    intro n
    induction n with
    | zero => intro x7_2 v7_0_2 f7_1 f7_2 H locs ls hn7 hx7_2 hv7_0_2 hP hD hS hl; exact absurd hn7 (by have := Int32.toInt_lt x7_2; have := Int32.le_toInt x7_2; omega)
    | succ n ih7 =>
      intro x7_2 v7_0_2 f7_1 f7_2 H locs ls hn7 hx7_2 hv7_0_2 hP hD hS hl
      refine lv_iload_n hx hb dX1_takePersons_7 rfl (lv_at hl 2 rfl) ?_
      refine lv_aload_n hx hb dX1_takePersons_8 rfl (lv_at hl 1 rfl) ?_
      refine va_get (D := G) (ci := 4) (v := .ref a4) (C := RX4) (T := TX4) (N := 4) hx hb hts (by decide +kernel) hown hK.1 hP 3 rfl rfl 0 (by decide) (hts (.fieldLink RX1 22 "CardHolder$Play" "town" "LCardHolder$Town;") (by decide +kernel)) (fun _ h9 => h9) rfl dX1_takePersons_9 ?_
      refine va_get (D := G) (ci := 9) (v := .ref a5) (C := RX9) (T := TX9) (N := 7) hx hb hts (by decide +kernel) hown hK.1 hP 4 rfl rfl 0 (by decide) (hts (.fieldLink RX1 28 "CardHolder$Town" "bonds" "LCardHolder$Bonds;") (by decide +kernel)) (fun _ h9 => h9) rfl dX1_takePersons_12 ?_
      refine va_get (D := G) (ci := 0) (v := .int n5_1) (C := RX0) (T := TX0) (N := 2) hx hb hts (by decide +kernel) hown hK.1 hP 5 rfl rfl 1 (by decide) (hts (.fieldLink RX1 34 "CardHolder$Bonds" "persons" "I") (by decide +kernel)) (fun _ h9 => h9) rfl dX1_takePersons_15 ?_
      refine lv_icmp_ge (tgt := 47) hx hb dX1_takePersons_18 (by decide) (fun c18 => ?_) (fun c18 => ?_)
      · exact W.vret hx hb hr (fun t ht hW => ⟨⟨(fun k => ([v7_0_2] : List Int32).getD k 0, fun k => ([f7_1, f7_2] : List (Nat → Int32)).getD k (fun _ => 0), fun k => ([] : List (Nat → Int64)).getD k (fun _ => 0)), rfl, ⟨hv7_0_2, trivial⟩, hp_at ht hP⟩, hS.F ht⟩) hS.2.2 dX1_takePersons_47
      · have h_1 : rg 0 7 x7_2 := r_lt_l_i (nle_i c18) hx7_2 hp_n5_1 (by decide)
        have h_2 : rg 1 8 n5_1 := r_lt_r_i (nle_i c18) hx7_2 hp_n5_1 (by decide)
        refine lv_aload_n hx hb dX1_takePersons_21 rfl (lv_at hl 0 rfl) ?_
        refine lv_aload_n hx hb dX1_takePersons_22 rfl (lv_at hl 1 rfl) ?_
        refine va_get (D := G) (ci := 4) (v := .ref a4) (C := RX4) (T := TX4) (N := 4) hx hb hts (by decide +kernel) hown hK.1 hP 3 rfl rfl 0 (by decide) (hts (.fieldLink RX1 22 "CardHolder$Play" "town" "LCardHolder$Town;") (by decide +kernel)) (fun _ h9 => h9) rfl dX1_takePersons_23 ?_
        refine lv_iload_n hx hb dX1_takePersons_26 rfl (lv_at hl 2 rfl) ?_
        refine ro_calli (va_runV (As := [.int x7_2]) (rest := [.ref a0]) ⟨hx, hb, hml, hown, hts⟩ (a_X9_worthOf l G ct a4 a5 a7 a8 a9 a10 n4_5 n4_6 a6 n5_1 f7 x7_2 (rg_w (c := 0) (d := 8) h_2 (by decide))) (cwV 1 hts gX1_takePersons_X9_worthOf rfl rfl rfl (by decide +kernel) ⟨Nat.le_of_ble_eq_true rfl, Nat.le_of_ble_eq_true rfl⟩) (ro_preV 9 0 hK (hP.sub [4, 5, 6] rfl) rfl rfl) rfl rfl hl.1 rfl (lv_room (Nat.le_of_ble_eq_true rfl)) dX1_takePersons_27 ⟨Nat.zero_le _, Nat.zero_le _⟩) hS hP (fun r27 H locs wr27 hP hS => ?_)
        obtain ⟨p_3, p_4, p_5, p_6, -⟩ := wr27
        refine lv_aload_n hx hb dX1_takePersons_30 rfl (lv_at hl 1 rfl) ?_
        refine va_get (D := G) (ci := 4) (v := .ref a4) (C := RX4) (T := TX4) (N := 4) hx hb hts (by decide +kernel) hown hK.1 hP 3 rfl rfl 0 (by decide) (hts (.fieldLink RX1 22 "CardHolder$Play" "town" "LCardHolder$Town;") (by decide +kernel)) (fun _ h9 => h9) rfl dX1_takePersons_31 ?_
        refine lv_iload_n hx hb dX1_takePersons_34 rfl (lv_at hl 2 rfl) ?_
        refine ro_calli (va_runV (As := [.int x7_2]) (rest := [.int r27, .ref a0]) ⟨hx, hb, hml, hown, hts⟩ (a_X9_deedsOf l G ct a4 a5 a7 a8 a9 a10 n4_5 n4_6 a6 n5_1 f8 x7_2 (rg_w (c := 0) (d := 8) h_2 (by decide))) (cwV 1 hts gX1_takePersons_X9_deedsOf rfl rfl rfl (by decide +kernel) ⟨Nat.le_of_ble_eq_true rfl, Nat.le_of_ble_eq_true rfl⟩) (ro_preV 9 0 hK (hP.sub [4, 5, 7] rfl) rfl rfl) rfl rfl hl.1 rfl (lv_room (Nat.le_of_ble_eq_true rfl)) dX1_takePersons_35 ⟨Nat.zero_le _, Nat.zero_le _⟩) hS hP (fun r35 H locs wr35 hP hS => ?_)
        obtain ⟨p_7, p_8, p_9, p_10, -⟩ := wr35
        refine wj_callv (wr := [(a3, .inr (4, [.ref a4, .ref a11, .ref a16, .int n3_3])), (a4, .inr (9, [.ref a5, .ref a7, .ref a8, .ref a9, .ref a10, .int n4_5, .int n4_6])), (a5, .inr (0, [.ref a6, .int n5_1])), (a7, .inl (ct 0, 8, .inl f7)), (a8, .inl (ct 0, 8, .inl f8))]) (w1 := (fun u : SU => [(a0, .inr (1, [.ref a1, .ref a2, .int (u.1 0)])), (a1, .inl (ct 0, 256, .inl (u.2.1 0))), (a2, .inl (ct 0, 256, .inl (u.2.1 1)))])) (va_runV (As := [.int r27, .int r35]) (rest := []) ⟨hx, hb, hml, hown, hts⟩ (a_X1_join l G ct a0 a1 a2 v7_0_2 f7_1 f7_2 r27 r35 hv7_0_2) (cwV 2 hts gX1_takePersons_X1_join rfl rfl rfl (by decide +kernel) ⟨Nat.le_of_ble_eq_true rfl, Nat.le_of_ble_eq_true rfl⟩) (wr_preV 1 0 hK (hP.sub [0, 1, 2] rfl) (hD.sub [0, 1, 2] (by decide) rfl) rfl rfl) rfl rfl hl.1 rfl (lv_room (Nat.le_of_ble_eq_true rfl)) dX1_takePersons_38 ⟨Nat.zero_le _, Nat.zero_le _⟩) hS hP hD [0, 1, 2] [3, 4, 5, 6, 7] rfl rfl (by decide) (fun _ => rfl) (fun ur38 H locs wr38 hP hD hS => ?_)
        have hP : va_P G vwCl [(a0, .inr (1, [.ref a1, .ref a2, .int (ur38.1 0)])), (a1, .inl (ct 0, 256, .inl (ur38.2.1 0))), (a2, .inl (ct 0, 256, .inl (ur38.2.1 1))), (a3, .inr (4, [.ref a4, .ref a11, .ref a16, .int n3_3])), (a4, .inr (9, [.ref a5, .ref a7, .ref a8, .ref a9, .ref a10, .int n4_5, .int n4_6])), (a5, .inr (0, [.ref a6, .int n5_1])), (a7, .inl (ct 0, 8, .inl f7)), (a8, .inl (ct 0, 8, .inl f8))] H := hP.sub [5, 6, 7, 0, 1, 2, 3, 4] rfl
        have hD : va_D A [(a0, .inr (1, [.ref a1, .ref a2, .int (ur38.1 0)])), (a1, .inl (ct 0, 256, .inl (ur38.2.1 0))), (a2, .inl (ct 0, 256, .inl (ur38.2.1 1))), (a3, .inr (4, [.ref a4, .ref a11, .ref a16, .int n3_3])), (a4, .inr (9, [.ref a5, .ref a7, .ref a8, .ref a9, .ref a10, .int n4_5, .int n4_6])), (a5, .inr (0, [.ref a6, .int n5_1])), (a7, .inl (ct 0, 8, .inl f7)), (a8, .inl (ct 0, 8, .inl f8))] := hD.sub [5, 6, 7, 0, 1, 2, 3, 4] (by decide) rfl
        obtain ⟨p_11, -⟩ := wr38
        obtain ⟨z41, qz41⟩ : ∃ y : Int32, y = x7_2 + Int32.ofInt 1 := ⟨_, rfl⟩
        obtain ⟨hz41, ez41⟩ := inc_z (e := 1) (f := 8) h_1 qz41 (by decide)
        refine lv_iinc (v := z41) (lv' := [(2, .int z41), (0, .ref a0), (1, .ref a3)]) hx hb dX1_takePersons_41 hl (k := 2) rfl (qz41.symm) (by decide) rfl (fun ls hl => ?_)
        refine lv_goto (tgt := 7) hx hb dX1_takePersons_44 (by decide) ?_
        exact ih7 z41 (ur38.1 0) (ur38.2.1 0) (ur38.2.1 1) _ _ ls (by have q := hn7; have := ez41; omega) (rg_w (c := 0) (d := 8) hz41 (by decide)) p_11 hP hD hS (lv_sub hl [1, 2, 0] rfl)
  exact j7 4294967296 (0 : Int32) (1 : Int32) f1 f2 _ _ ls (ms_e (0 : Int32)) (rg_w (c := 0) (d := 8) (rgn 0 (x := 0) (by decide)) (by decide)) (rg_w (c := 0) (d := 256) (rgn 1 (x := 1) (by decide)) (by decide)) hP hD hS (lv_sub hl [1, 2, 0] rfl)

set_option maxHeartbeats 4000000 in
set_option maxRecDepth 100000 in
theorem a_X1_costOf (l : Launch) (G : va_G) (ct : Nat → ClassId) (a0 : Nat) (a1 : Nat) (a2 : Nat) (n0_2 : Int32) (f1 : Nat → Int32) (p0 : Int32) (hp_n0_2 : rg 0 256 n0_2) : Met l yX1_costOf wsX1_costOf ({ frames := 0, cells := 0, slots := 0, locals := 0 }) (va_Pc [.ref a0, .int p0] (roP G ct [(a0, .inr (1, [.ref a1, .ref a2, .int n0_2])), (a1, .inl (ct 0, 256, .inl f1))])) (roQ (fun r => (¬ r = 0 → rg 0 255 p0) ∧ (r = (-1) → rg 0 255 p0) ∧ (¬ r = 0 → rg 1 256 n0_2) ∧ (r = (-1) → rg 1 256 n0_2) ∧ True)) 0 0 no := by
  refine Met.ofW (cc := cX1_costOf) (maxL := 2) (ret := (some .int)) (by decide) rfl ?_
  intro p e s m args below meth c s₁ B hml hv
  obtain ⟨rfl, hP, hK⟩ := hv
  have hx := B.exec
  have hb := B.bytes
  have hr := B.returns
  have hts := atoms_spec (ws := wsX1_costOf) B.pre
  have hown : s.vm.findClass RX1 = some m.cls := findClass_of_methodNamed B.named
  have hlocks := B.notSynchronized
  have hS : va_S no s.heap s.heap [] := va_S.rf
  have hl := lv_entry ([.ref a0, .int p0]) (n := 2) (Nat.le_of_ble_eq_true rfl)
  rw [lg_entry_eq]
  generalize (lg_sl ([.ref a0, .int p0]) ++ List.replicate (2 - (lg_sl ([.ref a0, .int p0])).length) Slot.unset).toArray = ls at hl ⊢
  have hl : lv_has ls 2 [(0, .ref a0), (1, .int p0)] := hl
  refine lv_iload_n hx hb dX1_costOf_0 rfl (lv_at hl 1 rfl) ?_
  refine lv_if_lt (tgt := 21) hx hb dX1_costOf_1 (by decide) (fun c1 => ?_) (fun c1 => ?_)
  · have h_1 : rg (-2147483648) (-1) p0 := r_lt_l_i c1 (rg_t p0) (rgn 0 (x := 0) (by decide)) (by decide)
    refine lv_iconst (v := 0) hx hb dX1_costOf_21 (by decide) ?_
    exact W.iret (v := 0) hx hb hr (fun t ht hW => ⟨⟨0, (), rfl, ⟨(fun hq => absurd (req (rgn 0 (x := 0) (by decide)) (y := 0) (by decide)) hq), (fun hq => absurd hq (rne (rgn 0 (x := 0) (by decide)) (y := (-1)) (c := (-1)) (by decide) (by decide))), (fun hq => absurd (req (rgn 0 (x := 0) (by decide)) (y := 0) (by decide)) hq), (fun hq => absurd hq (rne (rgn 0 (x := 0) (by decide)) (y := (-1)) (c := (-1)) (by decide) (by decide))), trivial⟩, trivial⟩, hS.F ht⟩) hS.2.2 dX1_costOf_22
  · have h_2 : rg 0 2147483647 p0 := r_le_r_i (nlt_i c1) (rgn 0 (x := 0) (by decide)) (rg_t p0)
    refine lv_iload_n hx hb dX1_costOf_4 rfl (lv_at hl 1 rfl) ?_
    refine lv_aload_n hx hb dX1_costOf_5 rfl (lv_at hl 0 rfl) ?_
    refine va_get (D := G) (ci := 1) (v := .int n0_2) (C := RX1) (T := TX1) (N := 3) hx hb hts (by decide +kernel) hown hK.1 hP 0 rfl rfl 2 (by decide) (hts (.fieldLink RX1 18 "CardHolder$Choice" "sets" "I") (by decide +kernel)) (fun _ h9 => h9) rfl dX1_costOf_6 ?_
    refine lv_icmp_ge (tgt := 21) hx hb dX1_costOf_9 (by decide) (fun c9 => ?_) (fun c9 => ?_)
    · refine lv_iconst (v := 0) hx hb dX1_costOf_21 (by decide) ?_
      exact W.iret (v := 0) hx hb hr (fun t ht hW => ⟨⟨0, (), rfl, ⟨(fun hq => absurd (req (rgn 0 (x := 0) (by decide)) (y := 0) (by decide)) hq), (fun hq => absurd hq (rne (rgn 0 (x := 0) (by decide)) (y := (-1)) (c := (-1)) (by decide) (by decide))), (fun hq => absurd (req (rgn 0 (x := 0) (by decide)) (y := 0) (by decide)) hq), (fun hq => absurd hq (rne (rgn 0 (x := 0) (by decide)) (y := (-1)) (c := (-1)) (by decide) (by decide))), trivial⟩, trivial⟩, hS.F ht⟩) hS.2.2 dX1_costOf_22
    · have h_3 : rg 0 255 p0 := r_lt_l_i (nle_i c9) h_2 hp_n0_2 (by decide)
      have h_4 : rg 1 256 n0_2 := r_lt_r_i (nle_i c9) h_2 hp_n0_2 (by decide)
      refine lv_aload_n hx hb dX1_costOf_12 rfl (lv_at hl 0 rfl) ?_
      refine va_get (D := G) (ci := 1) (v := .ref a1) (C := RX1) (T := TX1) (N := 3) hx hb hts (by decide +kernel) hown hK.1 hP 0 rfl rfl 0 (by decide) (hts (.fieldLink RX1 9 "CardHolder$Choice" "costs" "[I") (by decide +kernel)) (fun _ h9 => h9) rfl dX1_costOf_13 ?_
      refine lv_iload_n hx hb dX1_costOf_16 rfl (lv_at hl 1 rfl) ?_
      refine va_iald hx hb hK.1 hP 1 0 rfl rfl (in_rg h_3 (by decide)) dX1_costOf_17 ?_
      refine lv_topi (fun z17 gz17 => ?_)
      refine lv_goto (tgt := 22) hx hb dX1_costOf_18 (by decide) ?_
      exact W.iret (v := z17) hx hb hr (fun t ht hW => ⟨⟨z17, (), rfl, ⟨(fun _ => h_3), (fun _ => h_3), (fun _ => h_4), (fun _ => h_4), trivial⟩, trivial⟩, hS.F ht⟩) hS.2.2 dX1_costOf_22

set_option maxHeartbeats 4000000 in
set_option maxRecDepth 100000 in
theorem a_X1_deedsOf (l : Launch) (G : va_G) (ct : Nat → ClassId) (a0 : Nat) (a1 : Nat) (a2 : Nat) (n0_2 : Int32) (f2 : Nat → Int32) (p0 : Int32) (hp_n0_2 : rg 0 256 n0_2) : Met l yX1_deedsOf wsX1_deedsOf ({ frames := 0, cells := 0, slots := 0, locals := 0 }) (va_Pc [.ref a0, .int p0] (roP G ct [(a0, .inr (1, [.ref a1, .ref a2, .int n0_2])), (a2, .inl (ct 0, 256, .inl f2))])) (roQ (fun r => (¬ r = 0 → rg 0 255 p0) ∧ (r = (-1) → rg 0 255 p0) ∧ (¬ r = 0 → rg 1 256 n0_2) ∧ (r = (-1) → rg 1 256 n0_2) ∧ True)) 0 0 no := by
  refine Met.ofW (cc := cX1_deedsOf) (maxL := 2) (ret := (some .int)) (by decide) rfl ?_
  intro p e s m args below meth c s₁ B hml hv
  obtain ⟨rfl, hP, hK⟩ := hv
  have hx := B.exec
  have hb := B.bytes
  have hr := B.returns
  have hts := atoms_spec (ws := wsX1_deedsOf) B.pre
  have hown : s.vm.findClass RX1 = some m.cls := findClass_of_methodNamed B.named
  have hlocks := B.notSynchronized
  have hS : va_S no s.heap s.heap [] := va_S.rf
  have hl := lv_entry ([.ref a0, .int p0]) (n := 2) (Nat.le_of_ble_eq_true rfl)
  rw [lg_entry_eq]
  generalize (lg_sl ([.ref a0, .int p0]) ++ List.replicate (2 - (lg_sl ([.ref a0, .int p0])).length) Slot.unset).toArray = ls at hl ⊢
  have hl : lv_has ls 2 [(0, .ref a0), (1, .int p0)] := hl
  refine lv_iload_n hx hb dX1_deedsOf_0 rfl (lv_at hl 1 rfl) ?_
  refine lv_if_lt (tgt := 21) hx hb dX1_deedsOf_1 (by decide) (fun c1 => ?_) (fun c1 => ?_)
  · have h_1 : rg (-2147483648) (-1) p0 := r_lt_l_i c1 (rg_t p0) (rgn 0 (x := 0) (by decide)) (by decide)
    refine lv_iconst (v := 0) hx hb dX1_deedsOf_21 (by decide) ?_
    exact W.iret (v := 0) hx hb hr (fun t ht hW => ⟨⟨0, (), rfl, ⟨(fun hq => absurd (req (rgn 0 (x := 0) (by decide)) (y := 0) (by decide)) hq), (fun hq => absurd hq (rne (rgn 0 (x := 0) (by decide)) (y := (-1)) (c := (-1)) (by decide) (by decide))), (fun hq => absurd (req (rgn 0 (x := 0) (by decide)) (y := 0) (by decide)) hq), (fun hq => absurd hq (rne (rgn 0 (x := 0) (by decide)) (y := (-1)) (c := (-1)) (by decide) (by decide))), trivial⟩, trivial⟩, hS.F ht⟩) hS.2.2 dX1_deedsOf_22
  · have h_2 : rg 0 2147483647 p0 := r_le_r_i (nlt_i c1) (rgn 0 (x := 0) (by decide)) (rg_t p0)
    refine lv_iload_n hx hb dX1_deedsOf_4 rfl (lv_at hl 1 rfl) ?_
    refine lv_aload_n hx hb dX1_deedsOf_5 rfl (lv_at hl 0 rfl) ?_
    refine va_get (D := G) (ci := 1) (v := .int n0_2) (C := RX1) (T := TX1) (N := 3) hx hb hts (by decide +kernel) hown hK.1 hP 0 rfl rfl 2 (by decide) (hts (.fieldLink RX1 18 "CardHolder$Choice" "sets" "I") (by decide +kernel)) (fun _ h9 => h9) rfl dX1_deedsOf_6 ?_
    refine lv_icmp_ge (tgt := 21) hx hb dX1_deedsOf_9 (by decide) (fun c9 => ?_) (fun c9 => ?_)
    · refine lv_iconst (v := 0) hx hb dX1_deedsOf_21 (by decide) ?_
      exact W.iret (v := 0) hx hb hr (fun t ht hW => ⟨⟨0, (), rfl, ⟨(fun hq => absurd (req (rgn 0 (x := 0) (by decide)) (y := 0) (by decide)) hq), (fun hq => absurd hq (rne (rgn 0 (x := 0) (by decide)) (y := (-1)) (c := (-1)) (by decide) (by decide))), (fun hq => absurd (req (rgn 0 (x := 0) (by decide)) (y := 0) (by decide)) hq), (fun hq => absurd hq (rne (rgn 0 (x := 0) (by decide)) (y := (-1)) (c := (-1)) (by decide) (by decide))), trivial⟩, trivial⟩, hS.F ht⟩) hS.2.2 dX1_deedsOf_22
    · have h_3 : rg 0 255 p0 := r_lt_l_i (nle_i c9) h_2 hp_n0_2 (by decide)
      have h_4 : rg 1 256 n0_2 := r_lt_r_i (nle_i c9) h_2 hp_n0_2 (by decide)
      refine lv_aload_n hx hb dX1_deedsOf_12 rfl (lv_at hl 0 rfl) ?_
      refine va_get (D := G) (ci := 1) (v := .ref a2) (C := RX1) (T := TX1) (N := 3) hx hb hts (by decide +kernel) hown hK.1 hP 0 rfl rfl 1 (by decide) (hts (.fieldLink RX1 15 "CardHolder$Choice" "does" "[I") (by decide +kernel)) (fun _ h9 => h9) rfl dX1_deedsOf_13 ?_
      refine lv_iload_n hx hb dX1_deedsOf_16 rfl (lv_at hl 1 rfl) ?_
      refine va_iald hx hb hK.1 hP 1 0 rfl rfl (in_rg h_3 (by decide)) dX1_deedsOf_17 ?_
      refine lv_topi (fun z17 gz17 => ?_)
      refine lv_goto (tgt := 22) hx hb dX1_deedsOf_18 (by decide) ?_
      exact W.iret (v := z17) hx hb hr (fun t ht hW => ⟨⟨z17, (), rfl, ⟨(fun _ => h_3), (fun _ => h_3), (fun _ => h_4), (fun _ => h_4), trivial⟩, trivial⟩, hS.F ht⟩) hS.2.2 dX1_deedsOf_22

set_option maxHeartbeats 4000000 in
set_option maxRecDepth 100000 in
theorem a_X1_cheapest (l : Launch) (G : va_G) (ct : Nat → ClassId) (a0 : Nat) (a1 : Nat) (a2 : Nat) (n0_2 : Int32) (f1 : Nat → Int32) (f2 : Nat → Int32) (p0 : Int32) (hp_n0_2 : rg 0 256 n0_2) : Met l yX1_cheapest wsX1_cheapest ({ frames := 0, cells := 0, slots := 0, locals := 0 }) (va_Pc [.ref a0, .int p0] (roP G ct [(a0, .inr (1, [.ref a1, .ref a2, .int n0_2])), (a1, .inl (ct 0, 256, .inl f1)), (a2, .inl (ct 0, 256, .inl f2))])) (roQ (fun r => rg (-1) 255 r ∧ True)) 0 0 no := by
  refine Met.ofW (cc := cX1_cheapest) (maxL := 5) (ret := (some .int)) (by decide) rfl ?_
  intro p e s m args below meth c s₁ B hml hv
  obtain ⟨rfl, hP, hK⟩ := hv
  have hx := B.exec
  have hb := B.bytes
  have hr := B.returns
  have hts := atoms_spec (ws := wsX1_cheapest) B.pre
  have hown : s.vm.findClass RX1 = some m.cls := findClass_of_methodNamed B.named
  have hlocks := B.notSynchronized
  have hS : va_S no s.heap s.heap [] := va_S.rf
  have hl := lv_entry ([.ref a0, .int p0]) (n := 5) (Nat.le_of_ble_eq_true rfl)
  rw [lg_entry_eq]
  generalize (lg_sl ([.ref a0, .int p0]) ++ List.replicate (5 - (lg_sl ([.ref a0, .int p0])).length) Slot.unset).toArray = ls at hl ⊢
  have hl : lv_has ls 5 [(0, .ref a0), (1, .int p0)] := hl
  refine lv_iconst (v := (-1)) hx hb dX1_cheapest_0 (by decide) ?_
  refine lv_istore_n (lv' := [(2, .int (-1)), (0, .ref a0), (1, .int p0)]) hx hb dX1_cheapest_1 rfl hl (by decide) rfl (fun ls hl => ?_)
  refine lv_iconst (v := 0) hx hb dX1_cheapest_2 (by decide) ?_
  refine lv_istore_n (lv' := [(3, .int 0), (2, .int (-1)), (0, .ref a0), (1, .int p0)]) hx hb dX1_cheapest_3 rfl hl (by decide) rfl (fun ls hl => ?_)
  have j4 : ∀ (n : Nat) (x4_2 : Int32) (x4_3 : Int32) (H : Heap) (locs : List Loc) (ls : Array Slot), 2147483648 ≤ x4_3.toInt + (n : Int) → rg (-1) 255 x4_2 → rg 0 256 x4_3 → va_P G vwCl [(a0, .inr (1, [.ref a1, .ref a2, .int n0_2])), (a1, .inl (ct 0, 256, .inl f1)), (a2, .inl (ct 0, 256, .inl f2))] H → va_S no s.heap H locs → lv_has ls 5 [(0, .ref a0), (1, .int p0), (2, .int x4_2), (3, .int x4_3)] → W p l e (headSpec wsX1_cheapest ({ frames := 0, cells := 0, slots := 0, locals := 0 })).room s m ([.ref a0, .int p0] : List Value).toArray below meth c H locs 0 0 (MQ below (roQ (fun r => rg (-1) 255 r ∧ True)) ([.ref a0, .int p0] : List Value).toArray s 0 0 no) (F0 m 4 ls []) := by
    intro n
    induction n with
    | zero => intro x4_2 x4_3 H locs ls hn4 hx4_2 hx4_3 hP hS hl; exact absurd hn4 (by have := Int32.toInt_lt x4_3; have := Int32.le_toInt x4_3; omega)
    | succ n ih4 =>
      intro x4_2 x4_3 H locs ls hn4 hx4_2 hx4_3 hP hS hl
      refine lv_iload_n hx hb dX1_cheapest_4 rfl (lv_at hl 3 rfl) ?_
      refine lv_aload_n hx hb dX1_cheapest_5 rfl (lv_at hl 0 rfl) ?_
      refine va_get (D := G) (ci := 1) (v := .int n0_2) (C := RX1) (T := TX1) (N := 3) hx hb hts (by decide +kernel) hown hK.1 hP 0 rfl rfl 2 (by decide) (hts (.fieldLink RX1 18 "CardHolder$Choice" "sets" "I") (by decide +kernel)) (fun _ h9 => h9) rfl dX1_cheapest_6 ?_
      refine lv_icmp_ge (tgt := 65) hx hb dX1_cheapest_9 (by decide) (fun c9 => ?_) (fun c9 => ?_)
      · refine lv_iload_n hx hb dX1_cheapest_65 rfl (lv_at hl 2 rfl) ?_
        exact W.iret (v := x4_2) hx hb hr (fun t ht hW => ⟨⟨x4_2, (), rfl, ⟨hx4_2, trivial⟩, trivial⟩, hS.F ht⟩) hS.2.2 dX1_cheapest_66
      · have h_1 : rg 0 255 x4_3 := r_lt_l_i (nle_i c9) hx4_3 hp_n0_2 (by decide)
        have h_2 : rg 1 256 n0_2 := r_lt_r_i (nle_i c9) hx4_3 hp_n0_2 (by decide)
        refine lv_iload_n hx hb dX1_cheapest_12 rfl (lv_at hl 1 rfl) ?_
        refine lv_aload_n hx hb dX1_cheapest_13 rfl (lv_at hl 0 rfl) ?_
        refine va_get (D := G) (ci := 1) (v := .ref a2) (C := RX1) (T := TX1) (N := 3) hx hb hts (by decide +kernel) hown hK.1 hP 0 rfl rfl 1 (by decide) (hts (.fieldLink RX1 15 "CardHolder$Choice" "does" "[I") (by decide +kernel)) (fun _ h9 => h9) rfl dX1_cheapest_14 ?_
        refine lv_iload_n hx hb dX1_cheapest_17 rfl (lv_at hl 3 rfl) ?_
        refine va_iald hx hb hK.1 hP 2 0 rfl rfl (in_rg h_1 (by decide)) dX1_cheapest_18 ?_
        refine lv_topi (fun z18 gz18 => ?_)
        refine lv_iconst (v := (-1)) hx hb dX1_cheapest_19 (by decide) ?_
        refine lv_ixor hx hb dX1_cheapest_20 ?_
        refine nm_0 (fun z20 => ?_)
        refine lv_iand hx hb dX1_cheapest_21 ?_
        refine nm_0 (fun z21 => ?_)
        have j30 : ∀ (y30_0 : Int32) (H : Heap) (locs : List Loc) (ls : Array Slot), rg 0 1 y30_0 → va_P G vwCl [(a0, .inr (1, [.ref a1, .ref a2, .int n0_2])), (a1, .inl (ct 0, 256, .inl f1)), (a2, .inl (ct 0, 256, .inl f2))] H → va_S no s.heap H locs → lv_has ls 5 [(0, .ref a0), (1, .int p0), (2, .int x4_2), (3, .int x4_3)] → W p l e (headSpec wsX1_cheapest ({ frames := 0, cells := 0, slots := 0, locals := 0 })).room s m ([.ref a0, .int p0] : List Value).toArray below meth c H locs 0 0 (MQ below (roQ (fun r => rg (-1) 255 r ∧ True)) ([.ref a0, .int p0] : List Value).toArray s 0 0 no) (F0 m 30 ls [.int y30_0]) := by
          intro y30_0 H locs ls hy30_0 hP hS hl
          refine lv_istore (lv' := [(4, .int y30_0), (0, .ref a0), (1, .int p0), (2, .int x4_2), (3, .int x4_3)]) hx hb dX1_cheapest_30 hl (by decide) rfl (fun ls hl => ?_)
          refine lv_iload hx hb dX1_cheapest_32 (lv_at hl 0 rfl) ?_
          have j59 : ∀ (x59_2 : Int32) (H : Heap) (locs : List Loc) (ls : Array Slot), rg (-1) 255 x59_2 → va_P G vwCl [(a0, .inr (1, [.ref a1, .ref a2, .int n0_2])), (a1, .inl (ct 0, 256, .inl f1)), (a2, .inl (ct 0, 256, .inl f2))] H → va_S no s.heap H locs → lv_has ls 5 [(0, .ref a0), (1, .int p0), (2, .int x59_2), (3, .int x4_3), (4, .int y30_0)] → W p l e (headSpec wsX1_cheapest ({ frames := 0, cells := 0, slots := 0, locals := 0 })).room s m ([.ref a0, .int p0] : List Value).toArray below meth c H locs 0 0 (MQ below (roQ (fun r => rg (-1) 255 r ∧ True)) ([.ref a0, .int p0] : List Value).toArray s 0 0 no) (F0 m 59 ls []) := by
            intro x59_2 H locs ls hx59_2 hP hS hl
            obtain ⟨z59, qz59⟩ : ∃ y : Int32, y = x4_3 + Int32.ofInt 1 := ⟨_, rfl⟩
            obtain ⟨hz59, ez59⟩ := inc_z (e := 1) (f := 256) h_1 qz59 (by decide)
            refine lv_iinc (v := z59) (lv' := [(3, .int z59), (0, .ref a0), (1, .int p0), (2, .int x59_2), (4, .int y30_0)]) hx hb dX1_cheapest_59 hl (k := 3) rfl (qz59.symm) (by decide) rfl (fun ls hl => ?_)
            refine lv_goto (tgt := 4) hx hb dX1_cheapest_62 (by decide) ?_
            exact ih4 x59_2 z59 _ _ ls (by have q := hn4; have := ez59; omega) hx59_2 (rg_w (c := 0) (d := 256) hz59 (by decide)) hP hS (lv_sub hl [1, 2, 3, 0] rfl)
          refine lv_if_eq (tgt := 59) hx hb dX1_cheapest_34 (by decide) (fun c34 => ?_) (fun c34 => ?_)
          · have h_3 : rg 0 0 y30_0 := r_eq_l_i (e := 0) (f := 0) c34 hy30_0 (rgn 0 (x := 0) (by decide)) (by decide)
            exact j59 x4_2 _ _ ls hx4_2 hP hS (lv_sub hl [1, 2, 3, 4, 0] rfl)
          · have h_4 : rg 1 1 y30_0 := r_ne_lo_i c34 hy30_0 (by decide) (by decide)
            refine lv_iload_n hx hb dX1_cheapest_37 rfl (lv_at hl 3 rfl) ?_
            refine lv_iconst (v := (-1)) hx hb dX1_cheapest_38 (by decide) ?_
            have j57 : ∀ (H : Heap) (locs : List Loc) (ls : Array Slot), va_P G vwCl [(a0, .inr (1, [.ref a1, .ref a2, .int n0_2])), (a1, .inl (ct 0, 256, .inl f1)), (a2, .inl (ct 0, 256, .inl f2))] H → va_S no s.heap H locs → lv_has ls 5 [(0, .ref a0), (1, .int p0), (2, .int x4_2), (3, .int x4_3), (4, .int y30_0)] → W p l e (headSpec wsX1_cheapest ({ frames := 0, cells := 0, slots := 0, locals := 0 })).room s m ([.ref a0, .int p0] : List Value).toArray below meth c H locs 0 0 (MQ below (roQ (fun r => rg (-1) 255 r ∧ True)) ([.ref a0, .int p0] : List Value).toArray s 0 0 no) (F0 m 57 ls []) := by
              intro  H locs ls  hP hS hl
              refine lv_iload_n hx hb dX1_cheapest_57 rfl (lv_at hl 3 rfl) ?_
              refine lv_istore_n (lv' := [(2, .int x4_3), (0, .ref a0), (1, .int p0), (3, .int x4_3), (4, .int y30_0)]) hx hb dX1_cheapest_58 rfl hl (by decide) rfl (fun ls hl => ?_)
              exact j59 x4_3 _ _ ls (rg_w (c := (-1)) (d := 255) h_1 (by decide)) hP hS (lv_sub hl [1, 2, 0, 3, 4] rfl)
            refine lv_icmp_eq (tgt := 57) hx hb dX1_cheapest_39 (by decide) (fun c39 => ?_) (fun c39 => ?_)
            · have h_5 : rg (-1) (-1) x4_2 := r_eq_l_i (e := (-1)) (f := (-1)) c39 hx4_2 (rgn (-1) (x := (-1)) (by decide)) (by decide)
              exact j57 _ _ ls hP hS (lv_sub hl [1, 2, 3, 4, 0] rfl)
            · have h_6 : rg 0 255 x4_2 := r_ne_lo_i c39 hx4_2 (by decide) (by decide)
              refine lv_aload_n hx hb dX1_cheapest_42 rfl (lv_at hl 1 rfl) ?_
              refine va_get (D := G) (ci := 1) (v := .ref a1) (C := RX1) (T := TX1) (N := 3) hx hb hts (by decide +kernel) hown hK.1 hP 0 rfl rfl 0 (by decide) (hts (.fieldLink RX1 9 "CardHolder$Choice" "costs" "[I") (by decide +kernel)) (fun _ h9 => h9) rfl dX1_cheapest_43 ?_
              refine lv_iload_n hx hb dX1_cheapest_46 rfl (lv_at hl 4 rfl) ?_
              refine va_iald hx hb hK.1 hP 1 0 rfl rfl (in_rg h_1 (by decide)) dX1_cheapest_47 ?_
              refine lv_topi (fun z47 gz47 => ?_)
              refine lv_aload_n hx hb dX1_cheapest_48 rfl (lv_at hl 1 rfl) ?_
              refine va_get (D := G) (ci := 1) (v := .ref a1) (C := RX1) (T := TX1) (N := 3) hx hb hts (by decide +kernel) hown hK.1 hP 0 rfl rfl 0 (by decide) (hts (.fieldLink RX1 9 "CardHolder$Choice" "costs" "[I") (by decide +kernel)) (fun _ h9 => h9) rfl dX1_cheapest_49 ?_
              refine lv_iload_n hx hb dX1_cheapest_52 rfl (lv_at hl 3 rfl) ?_
              refine va_iald hx hb hK.1 hP 1 0 rfl rfl (in_rg h_6 (by decide)) dX1_cheapest_53 ?_
              refine lv_topi (fun z53 gz53 => ?_)
              refine lv_icmp_ge (tgt := 59) hx hb dX1_cheapest_54 (by decide) (fun c54 => ?_) (fun c54 => ?_)
              · exact j59 x4_2 _ _ ls (rg_w (c := (-1)) (d := 255) h_6 (by decide)) hP hS (lv_sub hl [1, 2, 3, 4, 0] rfl)
              · have h_7 : rg (-2147483648) 2147483646 z47 := r_lt_l_i (nle_i c54) (rg_t z47) (rg_t z53) (by decide)
                have h_8 : rg (-2147483647) 2147483647 z53 := r_lt_r_i (nle_i c54) (rg_t z47) (rg_t z53) (by decide)
                exact j57 _ _ ls hP hS (lv_sub hl [1, 2, 3, 4, 0] rfl)
        refine lv_if_ne (tgt := 29) hx hb dX1_cheapest_22 (by decide) (fun c22 => ?_) (fun c22 => ?_)
        · refine lv_iconst (v := 0) hx hb dX1_cheapest_29 (by decide) ?_
          exact j30 (0 : Int32) _ _ ls (rg_w (c := 0) (d := 1) (rgn 0 (x := 0) (by decide)) (by decide)) hP hS (lv_sub hl [0, 1, 2, 3] rfl)
        · have h_9 : rg 0 0 z21 := r_eq_l_i (e := 0) (f := 0) c22 (rg_t z21) (rgn 0 (x := 0) (by decide)) (by decide)
          refine lv_iconst (v := 1) hx hb dX1_cheapest_25 (by decide) ?_
          refine lv_goto (tgt := 30) hx hb dX1_cheapest_26 (by decide) ?_
          exact j30 (1 : Int32) _ _ ls (rg_w (c := 0) (d := 1) (rgn 1 (x := 1) (by decide)) (by decide)) hP hS (lv_sub hl [0, 1, 2, 3] rfl)
  exact j4 4294967296 ((-1) : Int32) (0 : Int32) _ _ ls (ms_e (0 : Int32)) (rg_w (c := (-1)) (d := 255) (rgn (-1) (x := (-1)) (by decide)) (by decide)) (rg_w (c := 0) (d := 256) (rgn 0 (x := 0) (by decide)) (by decide)) hP hS (lv_sub hl [2, 3, 1, 0] rfl)

set_option maxHeartbeats 4000000 in
set_option maxRecDepth 100000 in
theorem a_X1_richest (l : Launch) (G : va_G) (ct : Nat → ClassId) (a0 : Nat) (a1 : Nat) (a2 : Nat) (n0_2 : Int32) (f1 : Nat → Int32) (f2 : Nat → Int32) (p0 : Int32) (hp_n0_2 : rg 0 256 n0_2) : Met l yX1_richest wsX1_richest ({ frames := 1, cells := 0, slots := 0, locals := 20 }) (va_Pc [.ref a0, .int p0] (roP G ct [(a0, .inr (1, [.ref a1, .ref a2, .int n0_2])), (a1, .inl (ct 0, 256, .inl f1)), (a2, .inl (ct 0, 256, .inl f2))])) (roQ (fun r => rg 0 255 r ∧ True)) 0 0 no := by
  refine Met.ofW (cc := cX1_richest) (maxL := 6) (ret := (some .int)) (by decide) rfl ?_
  intro p e s m args below meth c s₁ B hml hv
  obtain ⟨rfl, hP, hK⟩ := hv
  have hx := B.exec
  have hb := B.bytes
  have hr := B.returns
  have hts := atoms_spec (ws := wsX1_richest) B.pre
  have hown : s.vm.findClass RX1 = some m.cls := findClass_of_methodNamed B.named
  have hlocks := B.notSynchronized
  have hS : va_S no s.heap s.heap [] := va_S.rf
  have hl := lv_entry ([.ref a0, .int p0]) (n := 6) (Nat.le_of_ble_eq_true rfl)
  rw [lg_entry_eq]
  generalize (lg_sl ([.ref a0, .int p0]) ++ List.replicate (6 - (lg_sl ([.ref a0, .int p0])).length) Slot.unset).toArray = ls at hl ⊢
  have hl : lv_has ls 6 [(0, .ref a0), (1, .int p0)] := hl
  refine lv_iconst (v := 0) hx hb dX1_richest_0 (by decide) ?_
  refine lv_istore_n (lv' := [(2, .int 0), (0, .ref a0), (1, .int p0)]) hx hb dX1_richest_1 rfl hl (by decide) rfl (fun ls hl => ?_)
  refine lv_iconst (v := 0) hx hb dX1_richest_2 (by decide) ?_
  refine lv_istore_n (lv' := [(3, .int 0), (2, .int 0), (0, .ref a0), (1, .int p0)]) hx hb dX1_richest_3 rfl hl (by decide) rfl (fun ls hl => ?_)
  refine lv_iconst (v := 0) hx hb dX1_richest_4 (by decide) ?_
  refine lv_istore (lv' := [(4, .int 0), (3, .int 0), (2, .int 0), (0, .ref a0), (1, .int p0)]) hx hb dX1_richest_5 hl (by decide) rfl (fun ls hl => ?_)
  have j7 : ∀ (n : Nat) (x7_2 : Int32) (x7_3 : Int32) (x7_4 : Int32) (H : Heap) (locs : List Loc) (ls : Array Slot), 2147483648 ≤ x7_4.toInt + (n : Int) → rg 0 255 x7_2 → rg 0 63 x7_3 → rg 0 256 x7_4 → va_P G vwCl [(a0, .inr (1, [.ref a1, .ref a2, .int n0_2])), (a1, .inl (ct 0, 256, .inl f1)), (a2, .inl (ct 0, 256, .inl f2))] H → va_S no s.heap H locs → lv_has ls 6 [(0, .ref a0), (1, .int p0), (2, .int x7_2), (3, .int x7_3), (4, .int x7_4)] → W p l e (headSpec wsX1_richest ({ frames := 1, cells := 0, slots := 0, locals := 20 })).room s m ([.ref a0, .int p0] : List Value).toArray below meth c H locs 0 0 (MQ below (roQ (fun r => rg 0 255 r ∧ True)) ([.ref a0, .int p0] : List Value).toArray s 0 0 no) (F0 m 7 ls []) := by
    intro n
    induction n with
    | zero => intro x7_2 x7_3 x7_4 H locs ls hn7 hx7_2 hx7_3 hx7_4 hP hS hl; exact absurd hn7 (by have := Int32.toInt_lt x7_4; have := Int32.le_toInt x7_4; omega)
    | succ n ih7 =>
      intro x7_2 x7_3 x7_4 H locs ls hn7 hx7_2 hx7_3 hx7_4 hP hS hl
      refine lv_iload hx hb dX1_richest_7 (lv_at hl 4 rfl) ?_
      refine lv_aload_n hx hb dX1_richest_9 rfl (lv_at hl 0 rfl) ?_
      refine va_get (D := G) (ci := 1) (v := .int n0_2) (C := RX1) (T := TX1) (N := 3) hx hb hts (by decide +kernel) hown hK.1 hP 0 rfl rfl 2 (by decide) (hts (.fieldLink RX1 18 "CardHolder$Choice" "sets" "I") (by decide +kernel)) (fun _ h9 => h9) rfl dX1_richest_10 ?_
      refine lv_icmp_ge (tgt := 57) hx hb dX1_richest_13 (by decide) (fun c13 => ?_) (fun c13 => ?_)
      · refine lv_iload_n hx hb dX1_richest_57 rfl (lv_at hl 2 rfl) ?_
        exact W.iret (v := x7_2) hx hb hr (fun t ht hW => ⟨⟨x7_2, (), rfl, ⟨hx7_2, trivial⟩, trivial⟩, hS.F ht⟩) hS.2.2 dX1_richest_58
      · have h_1 : rg 0 255 x7_4 := r_lt_l_i (nle_i c13) hx7_4 hp_n0_2 (by decide)
        have h_2 : rg 1 256 n0_2 := r_lt_r_i (nle_i c13) hx7_4 hp_n0_2 (by decide)
        refine lv_aload_n hx hb dX1_richest_16 rfl (lv_at hl 0 rfl) ?_
        refine va_get (D := G) (ci := 1) (v := .ref a2) (C := RX1) (T := TX1) (N := 3) hx hb hts (by decide +kernel) hown hK.1 hP 0 rfl rfl 1 (by decide) (hts (.fieldLink RX1 15 "CardHolder$Choice" "does" "[I") (by decide +kernel)) (fun _ h9 => h9) rfl dX1_richest_17 ?_
        refine lv_iload hx hb dX1_richest_20 (lv_at hl 4 rfl) ?_
        refine va_iald hx hb hK.1 hP 2 0 rfl rfl (in_rg h_1 (by decide)) dX1_richest_22 ?_
        refine lv_topi (fun z22 gz22 => ?_)
        refine ro_calli (va_runS (As := [.int z22]) (rest := []) ⟨hx, hb, hml, hown, hts⟩ (a_J6_bitCount_0f7a4 l G ct z22) (va_cwS 1 hts gX1_richest_J6_bitCount_0f7a4 rfl rfl rfl (by decide +kernel) ⟨Nat.le_of_ble_eq_true rfl, Nat.le_of_ble_eq_true rfl⟩) (ro_pre hK (hP.sub [] rfl)) rfl rfl hl.1 rfl (lv_room (Nat.le_of_ble_eq_true rfl)) dX1_richest_23 ⟨Nat.zero_le _, Nat.zero_le _⟩) hS hP (fun r23 H locs wr23 hP hS => ?_)
        obtain ⟨p_3, -⟩ := wr23
        refine lv_istore (lv' := [(5, .int r23), (0, .ref a0), (1, .int p0), (2, .int x7_2), (3, .int x7_3), (4, .int x7_4)]) hx hb dX1_richest_26 hl (by decide) rfl (fun ls hl => ?_)
        refine lv_iload hx hb dX1_richest_28 (lv_at hl 0 rfl) ?_
        refine lv_iload_n hx hb dX1_richest_30 rfl (lv_at hl 4 rfl) ?_
        have j51 : ∀ (x51_2 : Int32) (x51_3 : Int32) (H : Heap) (locs : List Loc) (ls : Array Slot), rg 0 255 x51_2 → rg 0 63 x51_3 → va_P G vwCl [(a0, .inr (1, [.ref a1, .ref a2, .int n0_2])), (a1, .inl (ct 0, 256, .inl f1)), (a2, .inl (ct 0, 256, .inl f2))] H → va_S no s.heap H locs → lv_has ls 6 [(0, .ref a0), (1, .int p0), (2, .int x51_2), (3, .int x51_3), (4, .int x7_4), (5, .int r23)] → W p l e (headSpec wsX1_richest ({ frames := 1, cells := 0, slots := 0, locals := 20 })).room s m ([.ref a0, .int p0] : List Value).toArray below meth c H locs 0 0 (MQ below (roQ (fun r => rg 0 255 r ∧ True)) ([.ref a0, .int p0] : List Value).toArray s 0 0 no) (F0 m 51 ls []) := by
          intro x51_2 x51_3 H locs ls hx51_2 hx51_3 hP hS hl
          obtain ⟨z51, qz51⟩ : ∃ y : Int32, y = x7_4 + Int32.ofInt 1 := ⟨_, rfl⟩
          obtain ⟨hz51, ez51⟩ := inc_z (e := 1) (f := 256) h_1 qz51 (by decide)
          refine lv_iinc (v := z51) (lv' := [(4, .int z51), (0, .ref a0), (1, .int p0), (2, .int x51_2), (3, .int x51_3), (5, .int r23)]) hx hb dX1_richest_51 hl (k := 4) rfl (qz51.symm) (by decide) rfl (fun ls hl => ?_)
          refine lv_goto (tgt := 7) hx hb dX1_richest_54 (by decide) ?_
          exact ih7 x51_2 x51_3 z51 _ _ ls (by have q := hn7; have := ez51; omega) hx51_2 hx51_3 (rg_w (c := 0) (d := 256) hz51 (by decide)) hP hS (lv_sub hl [1, 2, 3, 4, 0] rfl)
        refine lv_icmp_le (tgt := 51) hx hb dX1_richest_31 (by decide) (fun c31 => ?_) (fun c31 => ?_)
        · exact j51 x7_2 x7_3 _ _ ls hx7_2 hx7_3 hP hS (lv_sub hl [1, 2, 3, 4, 5, 0] rfl)
        · have h_4 : rg 0 62 x7_3 := r_lt_l_i (nle_i c31) hx7_3 p_3 (by decide)
          have h_5 : rg 1 63 r23 := r_lt_r_i (nle_i c31) hx7_3 p_3 (by decide)
          refine lv_aload_n hx hb dX1_richest_34 rfl (lv_at hl 1 rfl) ?_
          refine va_get (D := G) (ci := 1) (v := .ref a1) (C := RX1) (T := TX1) (N := 3) hx hb hts (by decide +kernel) hown hK.1 hP 0 rfl rfl 0 (by decide) (hts (.fieldLink RX1 9 "CardHolder$Choice" "costs" "[I") (by decide +kernel)) (fun _ h9 => h9) rfl dX1_richest_35 ?_
          refine lv_iload hx hb dX1_richest_38 (lv_at hl 5 rfl) ?_
          refine va_iald hx hb hK.1 hP 1 0 rfl rfl (in_rg h_1 (by decide)) dX1_richest_40 ?_
          refine lv_topi (fun z40 gz40 => ?_)
          refine lv_iload_n hx hb dX1_richest_41 rfl (lv_at hl 2 rfl) ?_
          refine lv_icmp_gt (tgt := 51) hx hb dX1_richest_42 (by decide) (fun c42 => ?_) (fun c42 => ?_)
          · have h_6 : rg (-2147483648) 2147483646 p0 := r_lt_l_i c42 (rg_t p0) (rg_t z40) (by decide)
            have h_7 : rg (-2147483647) 2147483647 z40 := r_lt_r_i c42 (rg_t p0) (rg_t z40) (by decide)
            exact j51 x7_2 x7_3 _ _ ls hx7_2 (rg_w (c := 0) (d := 63) h_4 (by decide)) hP hS (lv_sub hl [1, 2, 3, 4, 5, 0] rfl)
          · refine lv_iload hx hb dX1_richest_45 (lv_at hl 5 rfl) ?_
            refine lv_istore_n (lv' := [(2, .int x7_4), (5, .int r23), (0, .ref a0), (1, .int p0), (3, .int x7_3), (4, .int x7_4)]) hx hb dX1_richest_47 rfl hl (by decide) rfl (fun ls hl => ?_)
            refine lv_iload hx hb dX1_richest_48 (lv_at hl 1 rfl) ?_
            refine lv_istore_n (lv' := [(3, .int r23), (2, .int x7_4), (5, .int r23), (0, .ref a0), (1, .int p0), (4, .int x7_4)]) hx hb dX1_richest_50 rfl hl (by decide) rfl (fun ls hl => ?_)
            exact j51 x7_4 r23 _ _ ls h_1 (rg_w (c := 0) (d := 63) h_5 (by decide)) hP hS (lv_sub hl [3, 4, 1, 0, 5, 2] rfl)
  exact j7 4294967296 (0 : Int32) (0 : Int32) (0 : Int32) _ _ ls (ms_e (0 : Int32)) (rg_w (c := 0) (d := 255) (rgn 0 (x := 0) (by decide)) (by decide)) (rg_w (c := 0) (d := 63) (rgn 0 (x := 0) (by decide)) (by decide)) (rg_w (c := 0) (d := 256) (rgn 0 (x := 0) (by decide)) (by decide)) hP hS (lv_sub hl [3, 4, 2, 1, 0] rfl)
