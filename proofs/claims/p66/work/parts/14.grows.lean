theorem dX6_isSlot_0 : decode cX6_isSlot 0 = .ok (.iload_n 1, 1) := by decide +kernel
theorem dX6_isSlot_1 : decode cX6_isSlot 1 = .ok (.ifCond .lt 12, 3) := by decide +kernel
theorem dX6_isSlot_13 : decode cX6_isSlot 13 = .ok (.iconst 0, 1) := by decide +kernel
theorem dX6_isSlot_14 : decode cX6_isSlot 14 = .ok (.ireturn, 1) := by decide +kernel
theorem dX6_isSlot_4 : decode cX6_isSlot 4 = .ok (.iload_n 1, 1) := by decide +kernel
theorem dX6_isSlot_5 : decode cX6_isSlot 5 = .ok (.iconst 4, 1) := by decide +kernel
theorem dX6_isSlot_6 : decode cX6_isSlot 6 = .ok (.if_icmp .ge 7, 3) := by decide +kernel
theorem dX6_isSlot_9 : decode cX6_isSlot 9 = .ok (.iconst 1, 1) := by decide +kernel
theorem dX6_isSlot_10 : decode cX6_isSlot 10 = .ok (.goto 4, 3) := by decide +kernel
theorem dX6_isKept_0 : decode cX6_isKept 0 = .ok (.aload_n 0, 1) := by decide +kernel
theorem dX6_isKept_1 : decode cX6_isKept 1 = .ok (.iload_n 1, 1) := by decide +kernel
set_option maxRecDepth 20000 in
theorem ggX6_isKept_X6_isSlot : GoodIn wsX6_isKept wsX6_isSlot := goodIn_r _ [6] (by rfl) (by decide +kernel)
set_option maxRecDepth 20000 in
theorem gX6_isKept_X6_isSlot : GoodIn wsX6_isKept (wsV RX6 23 RX6 yX6_isSlot wsX6_isSlot) := goodIn_app (goodIn_r _ [2, 3, 4, 5] (by rfl) (by decide +kernel)) ggX6_isKept_X6_isSlot
theorem dX6_isKept_2 : decode cX6_isKept 2 = .ok (.invokevirtual 23, 3) := by decide +kernel
theorem dX6_isKept_5 : decode cX6_isKept 5 = .ok (.ifCond .eq 19, 3) := by decide +kernel
theorem dX6_isKept_24 : decode cX6_isKept 24 = .ok (.iconst 0, 1) := by decide +kernel
theorem dX6_isKept_25 : decode cX6_isKept 25 = .ok (.ireturn, 1) := by decide +kernel
theorem dX6_isKept_8 : decode cX6_isKept 8 = .ok (.aload_n 0, 1) := by decide +kernel
theorem dX6_isKept_9 : decode cX6_isKept 9 = .ok (.getfield 27, 3) := by decide +kernel
theorem dX6_isKept_12 : decode cX6_isKept 12 = .ok (.iload_n 1, 1) := by decide +kernel
set_option maxRecDepth 20000 in
theorem ggX6_isKept_X10_bitOf : GoodIn wsX6_isKept wsX10_bitOf := goodIn_r _ [9] (by rfl) (by decide +kernel)
set_option maxRecDepth 20000 in
theorem gX6_isKept_X10_bitOf_n31 : GoodIn wsX6_isKept (wsX10_bitOf) := ggX6_isKept_X10_bitOf
theorem dX6_isKept_13 : decode cX6_isKept 13 = .ok (.invokestatic 31, 3) := by decide +kernel
theorem dX6_isKept_16 : decode cX6_isKept 16 = .ok (.iconst 1, 1) := by decide +kernel
theorem dX6_isKept_17 : decode cX6_isKept 17 = .ok (.if_icmp .ne 7, 3) := by decide +kernel
theorem dX6_isKept_20 : decode cX6_isKept 20 = .ok (.iconst 1, 1) := by decide +kernel
theorem dX6_isKept_21 : decode cX6_isKept 21 = .ok (.goto 4, 3) := by decide +kernel
theorem dX6_kept_0 : decode cX6_kept 0 = .ok (.aload_n 0, 1) := by decide +kernel
theorem dX6_kept_1 : decode cX6_kept 1 = .ok (.getfield 27, 3) := by decide +kernel
set_option maxRecDepth 20000 in
theorem ggX6_kept_J6_bitCount_0f7a4 : GoodIn wsX6_kept wsJ6_bitCount_0f7a4 := goodIn_r _ [5, 6, 7, 8] (by rfl) (by decide +kernel)
set_option maxRecDepth 20000 in
theorem gX6_kept_J6_bitCount_0f7a4 : GoodIn wsX6_kept (va_wsS RX6 35 yJ6_bitCount_0f7a4 wsJ6_bitCount_0f7a4) := goodIn_app (goodIn_r _ [2, 3, 4] (by rfl) (by decide +kernel)) ggX6_kept_J6_bitCount_0f7a4
theorem dX6_kept_4 : decode cX6_kept 4 = .ok (.invokestatic 35, 3) := by decide +kernel
theorem dX6_kept_7 : decode cX6_kept 7 = .ok (.ireturn, 1) := by decide +kernel
theorem dX6_sizeOf_0 : decode cX6_sizeOf 0 = .ok (.aload_n 0, 1) := by decide +kernel
theorem dX6_sizeOf_1 : decode cX6_sizeOf 1 = .ok (.iload_n 1, 1) := by decide +kernel
set_option maxRecDepth 20000 in
theorem ggX6_sizeOf_X6_isSlot : GoodIn wsX6_sizeOf wsX6_isSlot := goodIn_r _ [6] (by rfl) (by decide +kernel)
set_option maxRecDepth 20000 in
theorem gX6_sizeOf_X6_isSlot : GoodIn wsX6_sizeOf (wsV RX6 23 RX6 yX6_isSlot wsX6_isSlot) := goodIn_app (goodIn_r _ [2, 3, 4, 5] (by rfl) (by decide +kernel)) ggX6_sizeOf_X6_isSlot
theorem dX6_sizeOf_2 : decode cX6_sizeOf 2 = .ok (.invokevirtual 23, 3) := by decide +kernel
theorem dX6_sizeOf_5 : decode cX6_sizeOf 5 = .ok (.ifCond .eq 12, 3) := by decide +kernel
theorem dX6_sizeOf_17 : decode cX6_sizeOf 17 = .ok (.iconst 0, 1) := by decide +kernel
theorem dX6_sizeOf_18 : decode cX6_sizeOf 18 = .ok (.ireturn, 1) := by decide +kernel
theorem dX6_sizeOf_8 : decode cX6_sizeOf 8 = .ok (.aload_n 0, 1) := by decide +kernel
theorem dX6_sizeOf_9 : decode cX6_sizeOf 9 = .ok (.getfield 20, 3) := by decide +kernel
theorem dX6_sizeOf_12 : decode cX6_sizeOf 12 = .ok (.iload_n 1, 1) := by decide +kernel
theorem dX6_sizeOf_13 : decode cX6_sizeOf 13 = .ok (.iaload, 1) := by decide +kernel
theorem dX6_sizeOf_14 : decode cX6_sizeOf 14 = .ok (.goto 4, 3) := by decide +kernel
theorem dX6_make_0 : decode cX6_make 0 = .ok (.aload_n 0, 1) := by decide +kernel
theorem dX6_make_1 : decode cX6_make 1 = .ok (.iload_n 1, 1) := by decide +kernel
set_option maxRecDepth 20000 in
theorem ggX6_make_X6_isSlot : GoodIn wsX6_make wsX6_isSlot := goodIn_r _ [9] (by rfl) (by decide +kernel)
set_option maxRecDepth 20000 in
theorem gX6_make_X6_isSlot : GoodIn wsX6_make (wsV RX6 23 RX6 yX6_isSlot wsX6_isSlot) := goodIn_app (goodIn_r _ [5, 6, 7, 8] (by rfl) (by decide +kernel)) ggX6_make_X6_isSlot
theorem dX6_make_2 : decode cX6_make 2 = .ok (.invokevirtual 23, 3) := by decide +kernel
theorem dX6_make_5 : decode cX6_make 5 = .ok (.ifCond .ne 4, 3) := by decide +kernel
theorem dX6_make_9 : decode cX6_make 9 = .ok (.aload_n 0, 1) := by decide +kernel
theorem dX6_make_10 : decode cX6_make 10 = .ok (.dup, 1) := by decide +kernel
theorem dX6_make_11 : decode cX6_make 11 = .ok (.getfield 27, 3) := by decide +kernel
theorem dX6_make_14 : decode cX6_make 14 = .ok (.iconst 1, 1) := by decide +kernel
theorem dX6_make_15 : decode cX6_make 15 = .ok (.iload_n 1, 1) := by decide +kernel
theorem dX6_make_16 : decode cX6_make 16 = .ok (.ishl, 1) := by decide +kernel
theorem dX6_make_17 : decode cX6_make 17 = .ok (.ior, 1) := by decide +kernel
theorem dX6_make_18 : decode cX6_make 18 = .ok (.putfield 27, 3) := by decide +kernel
theorem dX6_make_21 : decode cX6_make 21 = .ok (.aload_n 0, 1) := by decide +kernel
theorem dX6_make_22 : decode cX6_make 22 = .ok (.getfield 16, 3) := by decide +kernel
theorem dX6_make_25 : decode cX6_make 25 = .ok (.iload_n 1, 1) := by decide +kernel
theorem dX6_make_26 : decode cX6_make 26 = .ok (.iload_n 2, 1) := by decide +kernel
theorem dX6_make_27 : decode cX6_make 27 = .ok (.iastore, 1) := by decide +kernel
theorem dX6_make_28 : decode cX6_make 28 = .ok (.aload_n 0, 1) := by decide +kernel
theorem dX6_make_29 : decode cX6_make 29 = .ok (.getfield 20, 3) := by decide +kernel
theorem dX6_make_32 : decode cX6_make 32 = .ok (.iload_n 1, 1) := by decide +kernel
theorem dX6_make_33 : decode cX6_make 33 = .ok (.iload_n 3, 1) := by decide +kernel
theorem dX6_make_34 : decode cX6_make 34 = .ok (.iastore, 1) := by decide +kernel
theorem dX6_make_35 : decode cX6_make 35 = .ok (.iconst 0, 1) := by decide +kernel
theorem dX6_make_36 : decode cX6_make 36 = .ok (.istore 4, 2) := by decide +kernel
theorem dX6_make_38 : decode cX6_make 38 = .ok (.iload 4, 2) := by decide +kernel
theorem dX6_make_40 : decode cX6_make 40 = .ok (.bipush 60, 2) := by decide +kernel
theorem dX6_make_42 : decode cX6_make 42 = .ok (.if_icmp .ge 19, 3) := by decide +kernel
theorem dX6_make_61 : decode cX6_make 61 = .ok (.return_, 1) := by decide +kernel
theorem dX6_make_45 : decode cX6_make 45 = .ok (.aload_n 0, 1) := by decide +kernel
theorem dX6_make_46 : decode cX6_make 46 = .ok (.getfield 11, 3) := by decide +kernel
theorem dX6_make_49 : decode cX6_make 49 = .ok (.iload_n 1, 1) := by decide +kernel
theorem dX6_make_50 : decode cX6_make 50 = .ok (.aaload, 1) := by decide +kernel
theorem dX6_make_51 : decode cX6_make 51 = .ok (.iload 4, 2) := by decide +kernel
theorem dX6_make_53 : decode cX6_make 53 = .ok (.lconst 0, 1) := by decide +kernel
theorem dX6_make_54 : decode cX6_make 54 = .ok (.lastore, 1) := by decide +kernel
theorem dX6_make_55 : decode cX6_make 55 = .ok (.iinc 4 1, 3) := by decide +kernel
theorem dX6_make_58 : decode cX6_make 58 = .ok (.goto (-20), 3) := by decide +kernel
theorem dX6_make_8 : decode cX6_make 8 = .ok (.return_, 1) := by decide +kernel
theorem dX6_hasPlaces_0 : decode cX6_hasPlaces 0 = .ok (.iload_n 2, 1) := by decide +kernel
theorem dX6_hasPlaces_1 : decode cX6_hasPlaces 1 = .ok (.ifCond .lt 31, 3) := by decide +kernel
theorem dX6_hasPlaces_32 : decode cX6_hasPlaces 32 = .ok (.iconst 0, 1) := by decide +kernel
theorem dX6_hasPlaces_33 : decode cX6_hasPlaces 33 = .ok (.ireturn, 1) := by decide +kernel
theorem dX6_hasPlaces_4 : decode cX6_hasPlaces 4 = .ok (.iload_n 3, 1) := by decide +kernel
theorem dX6_hasPlaces_5 : decode cX6_hasPlaces 5 = .ok (.ifCond .lt 27, 3) := by decide +kernel
theorem dX6_hasPlaces_8 : decode cX6_hasPlaces 8 = .ok (.iload_n 3, 1) := by decide +kernel
theorem dX6_hasPlaces_9 : decode cX6_hasPlaces 9 = .ok (.aload_n 0, 1) := by decide +kernel
theorem dX6_hasPlaces_10 : decode cX6_hasPlaces 10 = .ok (.iload_n 1, 1) := by decide +kernel
set_option maxRecDepth 20000 in
theorem ggX6_hasPlaces_X6_sizeOf : GoodIn wsX6_hasPlaces wsX6_sizeOf := goodIn_r _ [5, 6, 7, 8, 9, 4, 10, 11, 12, 13, 14] (by rfl) (by decide +kernel)
set_option maxRecDepth 20000 in
theorem gX6_hasPlaces_X6_sizeOf : GoodIn wsX6_hasPlaces (wsV RX6 41 RX6 yX6_sizeOf wsX6_sizeOf) := goodIn_app (goodIn_r _ [1, 2, 3, 4] (by rfl) (by decide +kernel)) ggX6_hasPlaces_X6_sizeOf
theorem dX6_hasPlaces_11 : decode cX6_hasPlaces 11 = .ok (.invokevirtual 41, 3) := by decide +kernel
theorem dX6_hasPlaces_14 : decode cX6_hasPlaces 14 = .ok (.if_icmp .gt 18, 3) := by decide +kernel
theorem dX6_hasPlaces_17 : decode cX6_hasPlaces 17 = .ok (.iload_n 2, 1) := by decide +kernel
theorem dX6_hasPlaces_18 : decode cX6_hasPlaces 18 = .ok (.aload_n 0, 1) := by decide +kernel
theorem dX6_hasPlaces_19 : decode cX6_hasPlaces 19 = .ok (.iload_n 1, 1) := by decide +kernel
theorem dX6_hasPlaces_20 : decode cX6_hasPlaces 20 = .ok (.invokevirtual 41, 3) := by decide +kernel
theorem dX6_hasPlaces_23 : decode cX6_hasPlaces 23 = .ok (.iload_n 3, 1) := by decide +kernel
theorem dX6_hasPlaces_24 : decode cX6_hasPlaces 24 = .ok (.isub, 1) := by decide +kernel
theorem dX6_hasPlaces_25 : decode cX6_hasPlaces 25 = .ok (.if_icmp .gt 7, 3) := by decide +kernel
theorem dX6_hasPlaces_28 : decode cX6_hasPlaces 28 = .ok (.iconst 1, 1) := by decide +kernel
theorem dX6_hasPlaces_29 : decode cX6_hasPlaces 29 = .ok (.goto 4, 3) := by decide +kernel
theorem dX6_get_0 : decode cX6_get 0 = .ok (.aload_n 0, 1) := by decide +kernel
theorem dX6_get_1 : decode cX6_get 1 = .ok (.iload_n 1, 1) := by decide +kernel
theorem dX6_get_2 : decode cX6_get 2 = .ok (.iload_n 2, 1) := by decide +kernel
theorem dX6_get_3 : decode cX6_get 3 = .ok (.iconst 1, 1) := by decide +kernel
set_option maxRecDepth 20000 in
theorem ggX6_get_X6_hasPlaces : GoodIn wsX6_get wsX6_hasPlaces := goodIn_r _ [6, 7, 8, 9, 5, 10, 11, 12, 13, 14, 15, 16, 17, 18, 19] (by rfl) (by decide +kernel)
set_option maxRecDepth 20000 in
theorem gX6_get_X6_hasPlaces : GoodIn wsX6_get (wsV RX6 44 RX6 yX6_hasPlaces wsX6_hasPlaces) := goodIn_app (goodIn_r _ [2, 3, 4, 5] (by rfl) (by decide +kernel)) ggX6_get_X6_hasPlaces
theorem dX6_get_4 : decode cX6_get 4 = .ok (.invokevirtual 44, 3) := by decide +kernel
theorem dX6_get_7 : decode cX6_get 7 = .ok (.ifCond .eq 14, 3) := by decide +kernel
theorem dX6_get_21 : decode cX6_get 21 = .ok (.lconst 0, 1) := by decide +kernel
theorem dX6_get_22 : decode cX6_get 22 = .ok (.lreturn, 1) := by decide +kernel
theorem dX6_get_10 : decode cX6_get 10 = .ok (.aload_n 0, 1) := by decide +kernel
theorem dX6_get_11 : decode cX6_get 11 = .ok (.getfield 11, 3) := by decide +kernel
theorem dX6_get_14 : decode cX6_get 14 = .ok (.iload_n 1, 1) := by decide +kernel
theorem dX6_get_15 : decode cX6_get 15 = .ok (.aaload, 1) := by decide +kernel
theorem dX6_get_16 : decode cX6_get 16 = .ok (.iload_n 2, 1) := by decide +kernel
theorem dX6_get_17 : decode cX6_get 17 = .ok (.laload, 1) := by decide +kernel
theorem dX6_get_18 : decode cX6_get 18 = .ok (.goto 4, 3) := by decide +kernel
theorem dX6_cut_0 : decode cX6_cut 0 = .ok (.iload_n 2, 1) := by decide +kernel
theorem dX6_cut_1 : decode cX6_cut 1 = .ok (.tableswitch 41 0 2 #[27, 32, 37], 27) := by decide +kernel
theorem dX6_cut_28 : decode cX6_cut 28 = .ok (.lload_n 0, 1) := by decide +kernel
theorem dX6_cut_29 : decode cX6_cut 29 = .ok (.l2i, 1) := by decide +kernel
theorem dX6_cut_30 : decode cX6_cut 30 = .ok (.i2b, 1) := by decide +kernel
theorem dX6_cut_31 : decode cX6_cut 31 = .ok (.i2l, 1) := by decide +kernel
theorem dX6_cut_32 : decode cX6_cut 32 = .ok (.lreturn, 1) := by decide +kernel
theorem dX6_cut_33 : decode cX6_cut 33 = .ok (.lload_n 0, 1) := by decide +kernel
theorem dX6_cut_34 : decode cX6_cut 34 = .ok (.l2i, 1) := by decide +kernel
theorem dX6_cut_35 : decode cX6_cut 35 = .ok (.i2s, 1) := by decide +kernel
theorem dX6_cut_36 : decode cX6_cut 36 = .ok (.i2l, 1) := by decide +kernel
theorem dX6_cut_37 : decode cX6_cut 37 = .ok (.lreturn, 1) := by decide +kernel
theorem dX6_cut_38 : decode cX6_cut 38 = .ok (.lload_n 0, 1) := by decide +kernel
theorem dX6_cut_39 : decode cX6_cut 39 = .ok (.l2i, 1) := by decide +kernel
theorem dX6_cut_40 : decode cX6_cut 40 = .ok (.i2l, 1) := by decide +kernel
theorem dX6_cut_41 : decode cX6_cut 41 = .ok (.lreturn, 1) := by decide +kernel
theorem dX6_cut_42 : decode cX6_cut 42 = .ok (.lload_n 0, 1) := by decide +kernel
theorem dX6_cut_43 : decode cX6_cut 43 = .ok (.lreturn, 1) := by decide +kernel
theorem dX6_set_0 : decode cX6_set 0 = .ok (.aload_n 0, 1) := by decide +kernel
theorem dX6_set_1 : decode cX6_set 1 = .ok (.iload_n 1, 1) := by decide +kernel
theorem dX6_set_2 : decode cX6_set 2 = .ok (.iload_n 2, 1) := by decide +kernel
theorem dX6_set_3 : decode cX6_set 3 = .ok (.iconst 1, 1) := by decide +kernel
set_option maxRecDepth 20000 in
theorem ggX6_set_X6_hasPlaces : GoodIn wsX6_set wsX6_hasPlaces := goodIn_r _ [7, 8, 9, 10, 6, 11, 12, 13, 14, 15, 16, 20, 21, 22, 23] (by rfl) (by decide +kernel)
set_option maxRecDepth 20000 in
theorem gX6_set_X6_hasPlaces : GoodIn wsX6_set (wsV RX6 44 RX6 yX6_hasPlaces wsX6_hasPlaces) := goodIn_app (goodIn_r _ [3, 4, 5, 6] (by rfl) (by decide +kernel)) ggX6_set_X6_hasPlaces
theorem dX6_set_4 : decode cX6_set 4 = .ok (.invokevirtual 44, 3) := by decide +kernel
theorem dX6_set_7 : decode cX6_set 7 = .ok (.ifCond .eq 21, 3) := by decide +kernel
theorem dX6_set_28 : decode cX6_set 28 = .ok (.return_, 1) := by decide +kernel
theorem dX6_set_10 : decode cX6_set 10 = .ok (.aload_n 0, 1) := by decide +kernel
theorem dX6_set_11 : decode cX6_set 11 = .ok (.getfield 11, 3) := by decide +kernel
theorem dX6_set_14 : decode cX6_set 14 = .ok (.iload_n 1, 1) := by decide +kernel
theorem dX6_set_15 : decode cX6_set 15 = .ok (.aaload, 1) := by decide +kernel
theorem dX6_set_16 : decode cX6_set 16 = .ok (.iload_n 2, 1) := by decide +kernel
theorem dX6_set_17 : decode cX6_set 17 = .ok (.lload_n 3, 1) := by decide +kernel
theorem dX6_set_18 : decode cX6_set 18 = .ok (.aload_n 0, 1) := by decide +kernel
theorem dX6_set_19 : decode cX6_set 19 = .ok (.getfield 16, 3) := by decide +kernel
theorem dX6_set_22 : decode cX6_set 22 = .ok (.iload_n 1, 1) := by decide +kernel
theorem dX6_set_23 : decode cX6_set 23 = .ok (.iaload, 1) := by decide +kernel
set_option maxRecDepth 20000 in
theorem ggX6_set_X6_cut : GoodIn wsX6_set wsX6_cut := goodIn_r _ [19] (by rfl) (by decide +kernel)
set_option maxRecDepth 20000 in
theorem gX6_set_X6_cut : GoodIn wsX6_set (va_wsS RX6 48 yX6_cut wsX6_cut) := goodIn_app (goodIn_r _ [17, 18, 6] (by rfl) (by decide +kernel)) ggX6_set_X6_cut
theorem dX6_set_24 : decode cX6_set 24 = .ok (.invokestatic 48, 3) := by decide +kernel
theorem dX6_set_27 : decode cX6_set 27 = .ok (.lastore, 1) := by decide +kernel
theorem dX6_bitsOf_0 : decode cX6_bitsOf 0 = .ok (.iconst 0, 1) := by decide +kernel
theorem dX6_bitsOf_1 : decode cX6_bitsOf 1 = .ok (.istore_n 2, 1) := by decide +kernel
theorem dX6_bitsOf_2 : decode cX6_bitsOf 2 = .ok (.iconst 0, 1) := by decide +kernel
theorem dX6_bitsOf_3 : decode cX6_bitsOf 3 = .ok (.istore_n 3, 1) := by decide +kernel
theorem dX6_bitsOf_4 : decode cX6_bitsOf 4 = .ok (.iload_n 3, 1) := by decide +kernel
theorem dX6_bitsOf_5 : decode cX6_bitsOf 5 = .ok (.aload_n 0, 1) := by decide +kernel
theorem dX6_bitsOf_6 : decode cX6_bitsOf 6 = .ok (.iload_n 1, 1) := by decide +kernel
set_option maxRecDepth 20000 in
theorem ggX6_bitsOf_X6_sizeOf : GoodIn wsX6_bitsOf wsX6_sizeOf := goodIn_r _ [5, 6, 7, 8, 9, 4, 10, 20, 21, 22, 23] (by rfl) (by decide +kernel)
set_option maxRecDepth 20000 in
theorem gX6_bitsOf_X6_sizeOf : GoodIn wsX6_bitsOf (wsV RX6 41 RX6 yX6_sizeOf wsX6_sizeOf) := goodIn_app (goodIn_r _ [1, 2, 3, 4] (by rfl) (by decide +kernel)) ggX6_bitsOf_X6_sizeOf
theorem dX6_bitsOf_7 : decode cX6_bitsOf 7 = .ok (.invokevirtual 41, 3) := by decide +kernel
theorem dX6_bitsOf_10 : decode cX6_bitsOf 10 = .ok (.if_icmp .ge 21, 3) := by decide +kernel
theorem dX6_bitsOf_31 : decode cX6_bitsOf 31 = .ok (.iload_n 2, 1) := by decide +kernel
theorem dX6_bitsOf_32 : decode cX6_bitsOf 32 = .ok (.ireturn, 1) := by decide +kernel
theorem dX6_bitsOf_13 : decode cX6_bitsOf 13 = .ok (.iload_n 2, 1) := by decide +kernel
theorem dX6_bitsOf_14 : decode cX6_bitsOf 14 = .ok (.iconst 1, 1) := by decide +kernel
theorem dX6_bitsOf_15 : decode cX6_bitsOf 15 = .ok (.aload_n 0, 1) := by decide +kernel
theorem dX6_bitsOf_16 : decode cX6_bitsOf 16 = .ok (.iload_n 1, 1) := by decide +kernel
theorem dX6_bitsOf_17 : decode cX6_bitsOf 17 = .ok (.iload_n 3, 1) := by decide +kernel
set_option maxRecDepth 20000 in
theorem ggX6_bitsOf_X6_get : GoodIn wsX6_bitsOf wsX6_get := goodIn_r _ [14, 15, 16, 17, 18, 4, 19, 1, 2, 3, 5, 6, 7, 8, 9, 10, 20, 21, 22, 23] (by rfl) (by decide +kernel)
set_option maxRecDepth 20000 in
theorem gX6_bitsOf_X6_get : GoodIn wsX6_bitsOf (wsV RX6 52 RX6 yX6_get wsX6_get) := goodIn_app (goodIn_r _ [11, 12, 13, 4] (by rfl) (by decide +kernel)) ggX6_bitsOf_X6_get
theorem dX6_bitsOf_18 : decode cX6_bitsOf 18 = .ok (.invokevirtual 52, 3) := by decide +kernel
theorem dX6_bitsOf_21 : decode cX6_bitsOf 21 = .ok (.l2i, 1) := by decide +kernel
theorem dX6_bitsOf_22 : decode cX6_bitsOf 22 = .ok (.ishl, 1) := by decide +kernel
theorem dX6_bitsOf_23 : decode cX6_bitsOf 23 = .ok (.ior, 1) := by decide +kernel
theorem dX6_bitsOf_24 : decode cX6_bitsOf 24 = .ok (.istore_n 2, 1) := by decide +kernel
theorem dX6_bitsOf_25 : decode cX6_bitsOf 25 = .ok (.iinc 3 1, 3) := by decide +kernel
theorem dX6_bitsOf_28 : decode cX6_bitsOf 28 = .ok (.goto (-24), 3) := by decide +kernel
theorem dX6_isDayEnd_0 : decode cX6_isDayEnd 0 = .ok (.aload_n 0, 1) := by decide +kernel
theorem dX6_isDayEnd_1 : decode cX6_isDayEnd 1 = .ok (.iload_n 1, 1) := by decide +kernel
theorem dX6_isDayEnd_2 : decode cX6_isDayEnd 2 = .ok (.iload_n 2, 1) := by decide +kernel
set_option maxRecDepth 20000 in
theorem ggX6_isDayEnd_X6_get : GoodIn wsX6_isDayEnd wsX6_get := goodIn_r _ [6, 7, 8, 9, 10, 5, 11, 12, 13, 14, 15, 16, 17, 18, 19, 20, 21, 22, 23, 24] (by rfl) (by decide +kernel)
set_option maxRecDepth 20000 in
theorem gX6_isDayEnd_X6_get : GoodIn wsX6_isDayEnd (wsV RX6 52 RX6 yX6_get wsX6_get) := goodIn_app (goodIn_r _ [2, 3, 4, 5] (by rfl) (by decide +kernel)) ggX6_isDayEnd_X6_get
theorem dX6_isDayEnd_3 : decode cX6_isDayEnd 3 = .ok (.invokevirtual 52, 3) := by decide +kernel
theorem dX6_isDayEnd_6 : decode cX6_isDayEnd 6 = .ok (.ldc2_w 56, 3) := by decide +kernel
theorem dX6_isDayEnd_9 : decode cX6_isDayEnd 9 = .ok (.lcmp, 1) := by decide +kernel
theorem dX6_isDayEnd_10 : decode cX6_isDayEnd 10 = .ok (.ifCond .ne 37, 3) := by decide +kernel
theorem dX6_isDayEnd_47 : decode cX6_isDayEnd 47 = .ok (.iconst 0, 1) := by decide +kernel
theorem dX6_isDayEnd_48 : decode cX6_isDayEnd 48 = .ok (.ireturn, 1) := by decide +kernel
theorem dX6_isDayEnd_13 : decode cX6_isDayEnd 13 = .ok (.aload_n 0, 1) := by decide +kernel
theorem dX6_isDayEnd_14 : decode cX6_isDayEnd 14 = .ok (.iload_n 1, 1) := by decide +kernel
theorem dX6_isDayEnd_15 : decode cX6_isDayEnd 15 = .ok (.iload_n 2, 1) := by decide +kernel
theorem dX6_isDayEnd_16 : decode cX6_isDayEnd 16 = .ok (.iconst 1, 1) := by decide +kernel
theorem dX6_isDayEnd_17 : decode cX6_isDayEnd 17 = .ok (.iadd, 1) := by decide +kernel
theorem dX6_isDayEnd_18 : decode cX6_isDayEnd 18 = .ok (.invokevirtual 52, 3) := by decide +kernel
theorem dX6_isDayEnd_21 : decode cX6_isDayEnd 21 = .ok (.ldc2_w 56, 3) := by decide +kernel
theorem dX6_isDayEnd_24 : decode cX6_isDayEnd 24 = .ok (.lcmp, 1) := by decide +kernel
theorem dX6_isDayEnd_25 : decode cX6_isDayEnd 25 = .ok (.ifCond .ne 22, 3) := by decide +kernel
theorem dX6_isDayEnd_28 : decode cX6_isDayEnd 28 = .ok (.aload_n 0, 1) := by decide +kernel
theorem dX6_isDayEnd_29 : decode cX6_isDayEnd 29 = .ok (.iload_n 1, 1) := by decide +kernel
theorem dX6_isDayEnd_30 : decode cX6_isDayEnd 30 = .ok (.iload_n 2, 1) := by decide +kernel
theorem dX6_isDayEnd_31 : decode cX6_isDayEnd 31 = .ok (.iconst 2, 1) := by decide +kernel
theorem dX6_isDayEnd_32 : decode cX6_isDayEnd 32 = .ok (.iadd, 1) := by decide +kernel
theorem dX6_isDayEnd_33 : decode cX6_isDayEnd 33 = .ok (.invokevirtual 52, 3) := by decide +kernel
theorem dX6_isDayEnd_36 : decode cX6_isDayEnd 36 = .ok (.ldc2_w 56, 3) := by decide +kernel
theorem dX6_isDayEnd_39 : decode cX6_isDayEnd 39 = .ok (.lcmp, 1) := by decide +kernel
theorem dX6_isDayEnd_40 : decode cX6_isDayEnd 40 = .ok (.ifCond .ne 7, 3) := by decide +kernel
theorem dX6_isDayEnd_43 : decode cX6_isDayEnd 43 = .ok (.iconst 1, 1) := by decide +kernel
theorem dX6_isDayEnd_44 : decode cX6_isDayEnd 44 = .ok (.goto 4, 3) := by decide +kernel
set_option maxHeartbeats 4000000 in
set_option maxRecDepth 100000 in
theorem a_X6_isSlot (l : Launch) (G : va_G) (ct : Nat → ClassId) (a0 : Nat) (a1 : Nat) (a6 : Nat) (a7 : Nat) (n0_3 : Int32) (p0 : Int32)  : Met l yX6_isSlot wsX6_isSlot ({ frames := 0, cells := 0, slots := 0, locals := 0 }) (va_Pc [.ref a0, .int p0] (roP G ct [(a0, .inr (6, [.ref a1, .ref a6, .ref a7, .int n0_3]))])) (roQ (fun r => rg 0 1 r ∧ (¬ r = 0 → rg 0 3 p0) ∧ True)) 0 0 no := by
  refine Met.ofW (cc := cX6_isSlot) (maxL := 2) (ret := (some .boolean)) (by decide) rfl ?_
  intro p e s m args below meth c s₁ B hml hv
  obtain ⟨rfl, hP, hK⟩ := hv
  have hx := B.exec
  have hb := B.bytes
  have hr := B.returns
  have hts := atoms_spec (ws := wsX6_isSlot) B.pre
  have hown : s.vm.findClass RX6 = some m.cls := findClass_of_methodNamed B.named
  have hlocks := B.notSynchronized
  have hS : va_S no s.heap s.heap [] := va_S.rf
  have hl := lv_entry ([.ref a0, .int p0]) (n := 2) (Nat.le_of_ble_eq_true rfl)
  rw [lg_entry_eq]
  generalize (lg_sl ([.ref a0, .int p0]) ++ List.replicate (2 - (lg_sl ([.ref a0, .int p0])).length) Slot.unset).toArray = ls at hl ⊢
  have hl : lv_has ls 2 [(0, .ref a0), (1, .int p0)] := hl
  refine lv_iload_n hx hb dX6_isSlot_0 rfl (lv_at hl 1 rfl) ?_
  refine lv_if_lt (tgt := 13) hx hb dX6_isSlot_1 (by decide) (fun c1 => ?_) (fun c1 => ?_)
  · have h_1 : rg (-2147483648) (-1) p0 := r_lt_l_i c1 (rg_t p0) (rgn 0 (x := 0) (by decide)) (by decide)
    refine lv_iconst (v := 0) hx hb dX6_isSlot_13 (by decide) ?_
    exact W.zret (v := 0) (ty := .boolean) hx hb hr (rfl) (fun t ht hW => ⟨⟨0, (), rfl, ⟨(rg_w (c := 0) (d := 1) (rgn 0 (x := 0) (by decide)) (by decide)), (fun hq => absurd (req (rgn 0 (x := 0) (by decide)) (y := 0) (by decide)) hq), trivial⟩, trivial⟩, hS.F ht⟩) hS.2.2 dX6_isSlot_14
  · have h_2 : rg 0 2147483647 p0 := r_le_r_i (nlt_i c1) (rgn 0 (x := 0) (by decide)) (rg_t p0)
    refine lv_iload_n hx hb dX6_isSlot_4 rfl (lv_at hl 1 rfl) ?_
    refine lv_iconst (v := 4) hx hb dX6_isSlot_5 (by decide) ?_
    refine lv_icmp_ge (tgt := 13) hx hb dX6_isSlot_6 (by decide) (fun c6 => ?_) (fun c6 => ?_)
    · have h_3 : rg 4 2147483647 p0 := r_le_r_i c6 (rgn 4 (x := 4) (by decide)) h_2
      refine lv_iconst (v := 0) hx hb dX6_isSlot_13 (by decide) ?_
      exact W.zret (v := 0) (ty := .boolean) hx hb hr (rfl) (fun t ht hW => ⟨⟨0, (), rfl, ⟨(rg_w (c := 0) (d := 1) (rgn 0 (x := 0) (by decide)) (by decide)), (fun hq => absurd (req (rgn 0 (x := 0) (by decide)) (y := 0) (by decide)) hq), trivial⟩, trivial⟩, hS.F ht⟩) hS.2.2 dX6_isSlot_14
    · have h_4 : rg 0 3 p0 := r_lt_l_i (nle_i c6) h_2 (rgn 4 (x := 4) (by decide)) (by decide)
      refine lv_iconst (v := 1) hx hb dX6_isSlot_9 (by decide) ?_
      refine lv_goto (tgt := 14) hx hb dX6_isSlot_10 (by decide) ?_
      exact W.zret (v := 1) (ty := .boolean) hx hb hr (rfl) (fun t ht hW => ⟨⟨1, (), rfl, ⟨(rg_w (c := 0) (d := 1) (rgn 1 (x := 1) (by decide)) (by decide)), (fun _ => h_4), trivial⟩, trivial⟩, hS.F ht⟩) hS.2.2 dX6_isSlot_14

set_option maxHeartbeats 4000000 in
set_option maxRecDepth 100000 in
theorem a_X6_isKept (l : Launch) (G : va_G) (ct : Nat → ClassId) (a0 : Nat) (a1 : Nat) (a6 : Nat) (a7 : Nat) (n0_3 : Int32) (p0 : Int32)  : Met l yX6_isKept wsX6_isKept ({ frames := 1, cells := 0, slots := 0, locals := 21 }) (va_Pc [.ref a0, .int p0] (roP G ct [(a0, .inr (6, [.ref a1, .ref a6, .ref a7, .int n0_3]))])) (roQ (fun r => rg 0 1 r ∧ (¬ r = 0 → rg 0 3 p0) ∧ True)) 0 0 no := by
  refine Met.ofW (cc := cX6_isKept) (maxL := 2) (ret := (some .boolean)) (by decide) rfl ?_
  intro p e s m args below meth c s₁ B hml hv
  obtain ⟨rfl, hP, hK⟩ := hv
  have hx := B.exec
  have hb := B.bytes
  have hr := B.returns
  have hts := atoms_spec (ws := wsX6_isKept) B.pre
  have hown : s.vm.findClass RX6 = some m.cls := findClass_of_methodNamed B.named
  have hlocks := B.notSynchronized
  have hS : va_S no s.heap s.heap [] := va_S.rf
  have hl := lv_entry ([.ref a0, .int p0]) (n := 2) (Nat.le_of_ble_eq_true rfl)
  rw [lg_entry_eq]
  generalize (lg_sl ([.ref a0, .int p0]) ++ List.replicate (2 - (lg_sl ([.ref a0, .int p0])).length) Slot.unset).toArray = ls at hl ⊢
  have hl : lv_has ls 2 [(0, .ref a0), (1, .int p0)] := hl
  refine lv_aload_n hx hb dX6_isKept_0 rfl (lv_at hl 0 rfl) ?_
  refine lv_iload_n hx hb dX6_isKept_1 rfl (lv_at hl 1 rfl) ?_
  refine ro_calli (va_runV (As := [.int p0]) (rest := []) ⟨hx, hb, hml, hown, hts⟩ (a_X6_isSlot l G ct a0 a1 a6 a7 n0_3 p0) (cwV 1 hts gX6_isKept_X6_isSlot rfl rfl rfl (by decide +kernel) ⟨Nat.le_of_ble_eq_true rfl, Nat.le_of_ble_eq_true rfl⟩) (ro_preV 6 0 hK (hP.sub [0] rfl) rfl rfl) rfl rfl hl.1 rfl (lv_room (Nat.le_of_ble_eq_true rfl)) dX6_isKept_2 ⟨Nat.zero_le _, Nat.zero_le _⟩) hS hP (fun r2 H locs wr2 hP hS => ?_)
  obtain ⟨p_1, p_2, -⟩ := wr2
  refine lv_if_eq (tgt := 24) hx hb dX6_isKept_5 (by decide) (fun c5 => ?_) (fun c5 => ?_)
  · have h_3 : rg 0 0 r2 := r_eq_l_i (e := 0) (f := 0) c5 p_1 (rgn 0 (x := 0) (by decide)) (by decide)
    refine lv_iconst (v := 0) hx hb dX6_isKept_24 (by decide) ?_
    exact W.zret (v := 0) (ty := .boolean) hx hb hr (rfl) (fun t ht hW => ⟨⟨0, (), rfl, ⟨(rg_w (c := 0) (d := 1) (rgn 0 (x := 0) (by decide)) (by decide)), (fun hq => absurd (req (rgn 0 (x := 0) (by decide)) (y := 0) (by decide)) hq), trivial⟩, trivial⟩, hS.F ht⟩) hS.2.2 dX6_isKept_25
  · have h_4 : rg 1 1 r2 := r_ne_lo_i c5 p_1 (by decide) (by decide)
    have h_5 : rg 0 3 p0 := (p_2 (rne h_4 (y := 0) (c := 0) (by decide) (by decide)))
    refine lv_aload_n hx hb dX6_isKept_8 rfl (lv_at hl 0 rfl) ?_
    refine va_get (D := G) (ci := 6) (v := .int n0_3) (C := RX6) (T := TX6) (N := 4) hx hb hts (by decide +kernel) hown hK.1 hP 0 rfl rfl 3 (by decide) (hts (.fieldLink RX6 27 "CardHolder$Rows" "keptSlots" "I") (by decide +kernel)) (fun _ h9 => h9) rfl dX6_isKept_9 ?_
    refine lv_iload_n hx hb dX6_isKept_12 rfl (lv_at hl 1 rfl) ?_
    refine ro_calli (va_runSN (As := [.int n0_3, .int p0]) (rest := []) ⟨hx, hb, hml, hown, hts⟩ (a_X10_bitOf l G ct n0_3 p0) ⟨va_cnB 2 hts gX6_isKept_X10_bitOf_n31 rfl rfl rfl (hK.2.1 (RX6, 31, yX10_bitOf, "CardHolder") (by decide +kernel)) (hts (.initialized RX10) (by decide +kernel)) (by decide +kernel) ⟨Nat.le_of_ble_eq_true rfl, Nat.le_of_ble_eq_true rfl⟩, hts (.static yX10_bitOf) (by decide +kernel), trivial⟩ (ro_pre hK (hP.sub [] rfl)) rfl rfl hl.1 rfl (lv_room (Nat.le_of_ble_eq_true rfl)) dX6_isKept_13 ⟨Nat.zero_le _, Nat.zero_le _⟩) hS hP (fun r13 H locs wr13 hP hS => ?_)
    obtain ⟨p_6, -⟩ := wr13
    refine lv_iconst (v := 1) hx hb dX6_isKept_16 (by decide) ?_
    refine lv_icmp_ne (tgt := 24) hx hb dX6_isKept_17 (by decide) (fun c17 => ?_) (fun c17 => ?_)
    · have h_7 : rg 0 0 r13 := r_ne_hi_i c17 p_6 (by decide) (by decide)
      refine lv_iconst (v := 0) hx hb dX6_isKept_24 (by decide) ?_
      exact W.zret (v := 0) (ty := .boolean) hx hb hr (rfl) (fun t ht hW => ⟨⟨0, (), rfl, ⟨(rg_w (c := 0) (d := 1) (rgn 0 (x := 0) (by decide)) (by decide)), (fun _ => h_5), trivial⟩, trivial⟩, hS.F ht⟩) hS.2.2 dX6_isKept_25
    · have h_8 : rg 1 1 r13 := r_eq_l_i (e := 1) (f := 1) c17 p_6 (rgn 1 (x := 1) (by decide)) (by decide)
      refine lv_iconst (v := 1) hx hb dX6_isKept_20 (by decide) ?_
      refine lv_goto (tgt := 25) hx hb dX6_isKept_21 (by decide) ?_
      exact W.zret (v := 1) (ty := .boolean) hx hb hr (rfl) (fun t ht hW => ⟨⟨1, (), rfl, ⟨(rg_w (c := 0) (d := 1) (rgn 1 (x := 1) (by decide)) (by decide)), (fun _ => h_5), trivial⟩, trivial⟩, hS.F ht⟩) hS.2.2 dX6_isKept_25

set_option maxHeartbeats 4000000 in
set_option maxRecDepth 100000 in
theorem a_X6_kept (l : Launch) (G : va_G) (ct : Nat → ClassId) (a0 : Nat) (a1 : Nat) (a6 : Nat) (a7 : Nat) (n0_3 : Int32)  : Met l yX6_kept wsX6_kept ({ frames := 1, cells := 0, slots := 0, locals := 20 }) (va_Pc [.ref a0] (roP G ct [(a0, .inr (6, [.ref a1, .ref a6, .ref a7, .int n0_3]))])) (roQ (fun r => rg 0 63 r ∧ True)) 0 0 no := by
  refine Met.ofW (cc := cX6_kept) (maxL := 1) (ret := (some .int)) (by decide) rfl ?_
  intro p e s m args below meth c s₁ B hml hv
  obtain ⟨rfl, hP, hK⟩ := hv
  have hx := B.exec
  have hb := B.bytes
  have hr := B.returns
  have hts := atoms_spec (ws := wsX6_kept) B.pre
  have hown : s.vm.findClass RX6 = some m.cls := findClass_of_methodNamed B.named
  have hlocks := B.notSynchronized
  have hS : va_S no s.heap s.heap [] := va_S.rf
  have hl := lv_entry ([.ref a0]) (n := 1) (Nat.le_of_ble_eq_true rfl)
  rw [lg_entry_eq]
  generalize (lg_sl ([.ref a0]) ++ List.replicate (1 - (lg_sl ([.ref a0])).length) Slot.unset).toArray = ls at hl ⊢
  have hl : lv_has ls 1 [(0, .ref a0)] := hl
  refine lv_aload_n hx hb dX6_kept_0 rfl (lv_at hl 0 rfl) ?_
  refine va_get (D := G) (ci := 6) (v := .int n0_3) (C := RX6) (T := TX6) (N := 4) hx hb hts (by decide +kernel) hown hK.1 hP 0 rfl rfl 3 (by decide) (hts (.fieldLink RX6 27 "CardHolder$Rows" "keptSlots" "I") (by decide +kernel)) (fun _ h9 => h9) rfl dX6_kept_1 ?_
  refine ro_calli (va_runS (As := [.int n0_3]) (rest := []) ⟨hx, hb, hml, hown, hts⟩ (a_J6_bitCount_0f7a4 l G ct n0_3) (va_cwS 1 hts gX6_kept_J6_bitCount_0f7a4 rfl rfl rfl (by decide +kernel) ⟨Nat.le_of_ble_eq_true rfl, Nat.le_of_ble_eq_true rfl⟩) (ro_pre hK (hP.sub [] rfl)) rfl rfl hl.1 rfl (lv_room (Nat.le_of_ble_eq_true rfl)) dX6_kept_4 ⟨Nat.zero_le _, Nat.zero_le _⟩) hS hP (fun r4 H locs wr4 hP hS => ?_)
  obtain ⟨p_1, -⟩ := wr4
  exact W.iret (v := r4) hx hb hr (fun t ht hW => ⟨⟨r4, (), rfl, ⟨p_1, trivial⟩, trivial⟩, hS.F ht⟩) hS.2.2 dX6_kept_7

set_option maxHeartbeats 4000000 in
set_option maxRecDepth 100000 in
theorem a_X6_sizeOf (l : Launch) (G : va_G) (ct : Nat → ClassId) (a0 : Nat) (a1 : Nat) (a6 : Nat) (a7 : Nat) (n0_3 : Int32) (f7 : Nat → Int32) (p0 : Int32) (hp_f7 : ar 0 60 f7) : Met l yX6_sizeOf wsX6_sizeOf ({ frames := 1, cells := 0, slots := 0, locals := 21 }) (va_Pc [.ref a0, .int p0] (roP G ct [(a0, .inr (6, [.ref a1, .ref a6, .ref a7, .int n0_3])), (a7, .inl (ct 0, 4, .inl f7))])) (roQ (fun r => rg 0 60 r ∧ (¬ r = 0 → rg 0 3 p0) ∧ True)) 0 0 no := by
  refine Met.ofW (cc := cX6_sizeOf) (maxL := 2) (ret := (some .int)) (by decide) rfl ?_
  intro p e s m args below meth c s₁ B hml hv
  obtain ⟨rfl, hP, hK⟩ := hv
  have hx := B.exec
  have hb := B.bytes
  have hr := B.returns
  have hts := atoms_spec (ws := wsX6_sizeOf) B.pre
  have hown : s.vm.findClass RX6 = some m.cls := findClass_of_methodNamed B.named
  have hlocks := B.notSynchronized
  have hS : va_S no s.heap s.heap [] := va_S.rf
  have hl := lv_entry ([.ref a0, .int p0]) (n := 2) (Nat.le_of_ble_eq_true rfl)
  rw [lg_entry_eq]
  generalize (lg_sl ([.ref a0, .int p0]) ++ List.replicate (2 - (lg_sl ([.ref a0, .int p0])).length) Slot.unset).toArray = ls at hl ⊢
  have hl : lv_has ls 2 [(0, .ref a0), (1, .int p0)] := hl
  refine lv_aload_n hx hb dX6_sizeOf_0 rfl (lv_at hl 0 rfl) ?_
  refine lv_iload_n hx hb dX6_sizeOf_1 rfl (lv_at hl 1 rfl) ?_
  refine ro_calli (va_runV (As := [.int p0]) (rest := []) ⟨hx, hb, hml, hown, hts⟩ (a_X6_isSlot l G ct a0 a1 a6 a7 n0_3 p0) (cwV 1 hts gX6_sizeOf_X6_isSlot rfl rfl rfl (by decide +kernel) ⟨Nat.le_of_ble_eq_true rfl, Nat.le_of_ble_eq_true rfl⟩) (ro_preV 6 0 hK (hP.sub [0] rfl) rfl rfl) rfl rfl hl.1 rfl (lv_room (Nat.le_of_ble_eq_true rfl)) dX6_sizeOf_2 ⟨Nat.zero_le _, Nat.zero_le _⟩) hS hP (fun r2 H locs wr2 hP hS => ?_)
  obtain ⟨p_1, p_2, -⟩ := wr2
  refine lv_if_eq (tgt := 17) hx hb dX6_sizeOf_5 (by decide) (fun c5 => ?_) (fun c5 => ?_)
  · have h_3 : rg 0 0 r2 := r_eq_l_i (e := 0) (f := 0) c5 p_1 (rgn 0 (x := 0) (by decide)) (by decide)
    refine lv_iconst (v := 0) hx hb dX6_sizeOf_17 (by decide) ?_
    exact W.iret (v := 0) hx hb hr (fun t ht hW => ⟨⟨0, (), rfl, ⟨(rg_w (c := 0) (d := 60) (rgn 0 (x := 0) (by decide)) (by decide)), (fun hq => absurd (req (rgn 0 (x := 0) (by decide)) (y := 0) (by decide)) hq), trivial⟩, trivial⟩, hS.F ht⟩) hS.2.2 dX6_sizeOf_18
  · have h_4 : rg 1 1 r2 := r_ne_lo_i c5 p_1 (by decide) (by decide)
    have h_5 : rg 0 3 p0 := (p_2 (rne h_4 (y := 0) (c := 0) (by decide) (by decide)))
    refine lv_aload_n hx hb dX6_sizeOf_8 rfl (lv_at hl 0 rfl) ?_
    refine va_get (D := G) (ci := 6) (v := .ref a7) (C := RX6) (T := TX6) (N := 4) hx hb hts (by decide +kernel) hown hK.1 hP 0 rfl rfl 2 (by decide) (hts (.fieldLink RX6 20 "CardHolder$Rows" "sizes" "[I") (by decide +kernel)) (fun _ h9 => h9) rfl dX6_sizeOf_9 ?_
    refine lv_iload_n hx hb dX6_sizeOf_12 rfl (lv_at hl 1 rfl) ?_
    refine va_iald hx hb hK.1 hP 1 0 rfl rfl (in_rg h_5 (by decide)) dX6_sizeOf_13 ?_
    refine lv_topi (fun z13 gz13 => ?_)
    have hz13 : rg 0 60 z13 := by rw [gz13]; exact hp_f7 _
    refine lv_goto (tgt := 18) hx hb dX6_sizeOf_14 (by decide) ?_
    exact W.iret (v := z13) hx hb hr (fun t ht hW => ⟨⟨z13, (), rfl, ⟨hz13, (fun _ => h_5), trivial⟩, trivial⟩, hS.F ht⟩) hS.2.2 dX6_sizeOf_18

set_option maxHeartbeats 4000000 in
set_option maxRecDepth 100000 in
theorem a_X6_make (l : Launch) (G : va_G) (ct : Nat → ClassId) (a0 : Nat) (a1 : Nat) (a6 : Nat) (a7 : Nat) (n0_3 : Int32) (rr : Nat → Nat) (f2 : Nat → Int64) (f3 : Nat → Int64) (f4 : Nat → Int64) (f5 : Nat → Int64) (f6 : Nat → Int32) (f7 : Nat → Int32) (p0 : Int32) (p1 : Int32) (p2 : Int32) (hp_f7 : ar 0 60 f7) (hp_p2 : rg 0 60 p2) : Met l yX6_make wsX6_make ({ frames := 1, cells := 0, slots := 0, locals := 21 }) (va_Pc [.ref a0, .int p0, .int p1, .int p2] (wrP G ct [(a0, .inr (6, [.ref a1, .ref a6, .ref a7, .int n0_3])), (a1, .inl (ct 5, 4, .inr (.inr (.inr (.inr (fun i => if i < 4 then some (rr i) else none)))))), ((rr 0), .inl (ct 3, 60, .inr (.inl f2))), ((rr 1), .inl (ct 3, 60, .inr (.inl f3))), ((rr 2), .inl (ct 3, 60, .inr (.inl f4))), ((rr 3), .inl (ct 3, 60, .inr (.inl f5))), (a6, .inl (ct 0, 4, .inl f6)), (a7, .inl (ct 0, 4, .inl f7))])) (va_Qv (fun u : SU => ar 0 60 (u.2.1 1) ∧ True) (fun u t => va_P G vwCl ((fun u : SU => [(a0, .inr (6, [.ref a1, .ref a6, .ref a7, .int (u.1 0)])), (a1, .inl (ct 5, 4, .inr (.inr (.inr (.inr (fun i => if i < 4 then some (rr i) else none)))))), ((rr 0), .inl (ct 3, 60, .inr (.inl (u.2.2 0)))), ((rr 1), .inl (ct 3, 60, .inr (.inl (u.2.2 1)))), ((rr 2), .inl (ct 3, 60, .inr (.inl (u.2.2 2)))), ((rr 3), .inl (ct 3, 60, .inr (.inl (u.2.2 3)))), (a6, .inl (ct 0, 4, .inl (u.2.1 0))), (a7, .inl (ct 0, 4, .inl (u.2.1 1)))]) u) t.heap) (aset [(a0, .inr (6, [.ref a1, .ref a6, .ref a7, .int n0_3])), (a1, .inl (ct 5, 4, .inr (.inr (.inr (.inr (fun i => if i < 4 then some (rr i) else none)))))), ((rr 0), .inl (ct 3, 60, .inr (.inl f2))), ((rr 1), .inl (ct 3, 60, .inr (.inl f3))), ((rr 2), .inl (ct 3, 60, .inr (.inl f4))), ((rr 3), .inl (ct 3, 60, .inr (.inl f5))), (a6, .inl (ct 0, 4, .inl f6)), (a7, .inl (ct 0, 4, .inl f7))])) 0 0 (aset [(a0, .inr (6, [.ref a1, .ref a6, .ref a7, .int n0_3])), (a1, .inl (ct 5, 4, .inr (.inr (.inr (.inr (fun i => if i < 4 then some (rr i) else none)))))), ((rr 0), .inl (ct 3, 60, .inr (.inl f2))), ((rr 1), .inl (ct 3, 60, .inr (.inl f3))), ((rr 2), .inl (ct 3, 60, .inr (.inl f4))), ((rr 3), .inl (ct 3, 60, .inr (.inl f5))), (a6, .inl (ct 0, 4, .inl f6)), (a7, .inl (ct 0, 4, .inl f7))]) := by
  refine Met.ofW (cc := cX6_make) (maxL := 5) (ret := none) (by decide) rfl ?_
  intro p e s m args below meth c s₁ B hml hv
  obtain ⟨rfl, hP, hK, hD0⟩ := hv
  have hx := B.exec
  have hb := B.bytes
  have hr := B.returns
  have hts := atoms_spec (ws := wsX6_make) B.pre
  have hown : s.vm.findClass RX6 = some m.cls := findClass_of_methodNamed B.named
  have hlocks := B.notSynchronized
  have hD := hD0.aself
  generalize hAe : aset [(a0, .inr (6, [.ref a1, .ref a6, .ref a7, .int n0_3])), (a1, .inl (ct 5, 4, .inr (.inr (.inr (.inr (fun i => if i < 4 then some (rr i) else none)))))), ((rr 0), .inl (ct 3, 60, .inr (.inl f2))), ((rr 1), .inl (ct 3, 60, .inr (.inl f3))), ((rr 2), .inl (ct 3, 60, .inr (.inl f4))), ((rr 3), .inl (ct 3, 60, .inr (.inl f5))), (a6, .inl (ct 0, 4, .inl f6)), (a7, .inl (ct 0, 4, .inl f7))] = A at hD ⊢
  have hS : va_S A s.heap s.heap [] := va_S.rf
  have hl := lv_entry ([.ref a0, .int p0, .int p1, .int p2]) (n := 5) (Nat.le_of_ble_eq_true rfl)
  rw [lg_entry_eq]
  generalize (lg_sl ([.ref a0, .int p0, .int p1, .int p2]) ++ List.replicate (5 - (lg_sl ([.ref a0, .int p0, .int p1, .int p2])).length) Slot.unset).toArray = ls at hl ⊢
  have hl : lv_has ls 5 [(0, .ref a0), (1, .int p0), (2, .int p1), (3, .int p2)] := hl
  refine lv_aload_n hx hb dX6_make_0 rfl (lv_at hl 0 rfl) ?_
  refine lv_iload_n hx hb dX6_make_1 rfl (lv_at hl 1 rfl) ?_
  refine ro_calli (va_runV (As := [.int p0]) (rest := []) ⟨hx, hb, hml, hown, hts⟩ (a_X6_isSlot l G ct a0 a1 a6 a7 n0_3 p0) (cwV 1 hts gX6_make_X6_isSlot rfl rfl rfl (by decide +kernel) ⟨Nat.le_of_ble_eq_true rfl, Nat.le_of_ble_eq_true rfl⟩) (ro_preV 6 0 hK (hP.sub [0] rfl) rfl rfl) rfl rfl hl.1 rfl (lv_room (Nat.le_of_ble_eq_true rfl)) dX6_make_2 ⟨Nat.zero_le _, Nat.zero_le _⟩) hS hP (fun r2 H locs wr2 hP hS => ?_)
  obtain ⟨p_1, p_2, -⟩ := wr2
  refine lv_if_ne (tgt := 9) hx hb dX6_make_5 (by decide) (fun c5 => ?_) (fun c5 => ?_)
  · have h_3 : rg 1 1 r2 := r_ne_lo_i c5 p_1 (by decide) (by decide)
    have h_4 : rg 0 3 p0 := (p_2 (rne h_3 (y := 0) (c := 0) (by decide) (by decide)))
    refine lv_aload_n hx hb dX6_make_9 rfl (lv_at hl 0 rfl) ?_
    refine lv_dup hx hb dX6_make_10 rfl ?_
    refine va_get (D := G) (ci := 6) (v := .int n0_3) (C := RX6) (T := TX6) (N := 4) hx hb hts (by decide +kernel) hown hK.1 hP 0 rfl rfl 3 (by decide) (hts (.fieldLink RX6 27 "CardHolder$Rows" "keptSlots" "I") (by decide +kernel)) (fun _ h9 => h9) rfl dX6_make_11 ?_
    refine lv_iconst (v := 1) hx hb dX6_make_14 (by decide) ?_
    refine lv_iload_n hx hb dX6_make_15 rfl (lv_at hl 1 rfl) ?_
    refine lv_ishl hx hb dX6_make_16 ?_
    refine nm_shl (e1 := 1) (f := 8) h_4 (by decide) (fun z16 hz16 => ?_)
    refine lv_ior hx hb dX6_make_17 ?_
    refine nm_0 (fun z17 => ?_)
    refine va_put (D := G) (ci := 6) (v := .int z17) (ty := .int) (C := RX6) (T := TX6) (N := 4) hx hb hts (by decide +kernel) tyX6 tyX6_ok nmX6 hown hK.1 hP hD hS 0 rfl rfl 3 (by decide) (hts (.fieldLink RX6 27 "CardHolder$Rows" "keptSlots" "I") (by decide +kernel)) (fun _ h9 => h9) rfl (by decide +kernel) rfl rfl (Nat.le_of_ble_eq_true rfl) dX6_make_18 (fun H locs hP hD hS => ?_)
    refine lv_aload_n hx hb dX6_make_21 rfl (lv_at hl 0 rfl) ?_
    refine va_get (D := G) (ci := 6) (v := .ref a6) (C := RX6) (T := TX6) (N := 4) hx hb hts (by decide +kernel) hown hK.1 hP 0 rfl rfl 1 (by decide) (hts (.fieldLink RX6 16 "CardHolder$Rows" "widths" "[I") (by decide +kernel)) (fun _ h9 => h9) rfl dX6_make_22 ?_
    refine lv_iload_n hx hb dX6_make_25 rfl (lv_at hl 1 rfl) ?_
    refine lv_iload_n hx hb dX6_make_26 rfl (lv_at hl 2 rfl) ?_
    refine va_iast hx hb hK.1 hP hD hS 6 0 rfl rfl (in_rg h_4 (by decide)) dX6_make_27 (fun H locs hP hD hS => ?_)
    refine lv_aload_n hx hb dX6_make_28 rfl (lv_at hl 0 rfl) ?_
    refine va_get (D := G) (ci := 6) (v := .ref a7) (C := RX6) (T := TX6) (N := 4) hx hb hts (by decide +kernel) hown hK.1 hP 0 rfl rfl 2 (by decide) (hts (.fieldLink RX6 20 "CardHolder$Rows" "sizes" "[I") (by decide +kernel)) (fun _ h9 => h9) rfl dX6_make_29 ?_
    refine lv_iload_n hx hb dX6_make_32 rfl (lv_at hl 1 rfl) ?_
    refine lv_iload_n hx hb dX6_make_33 rfl (lv_at hl 3 rfl) ?_
    refine va_iast hx hb hK.1 hP hD hS 7 0 rfl rfl (in_rg h_4 (by decide)) dX6_make_34 (fun H locs hP hD hS => ?_)
    have h_5 : ar 0 60 (upd f7 p0.toNatClampNeg p2) := ar_u hp_f7 hp_p2
    refine lv_iconst (v := 0) hx hb dX6_make_35 (by decide) ?_
    refine lv_istore (lv' := [(4, .int 0), (0, .ref a0), (1, .int p0), (2, .int p1), (3, .int p2)]) hx hb dX6_make_36 hl (by decide) rfl (fun ls hl => ?_)
    have j38 : ∀ (n : Nat) (x38_4 : Int32) (f38_2 : Nat → Int64) (f38_3 : Nat → Int64) (f38_4 : Nat → Int64) (f38_5 : Nat → Int64) (H : Heap) (locs : List Loc) (ls : Array Slot), 2147483648 ≤ x38_4.toInt + (n : Int) → rg 0 60 x38_4 → va_P G vwCl [(a0, .inr (6, [.ref a1, .ref a6, .ref a7, .int z17])), (a1, .inl (ct 5, 4, .inr (.inr (.inr (.inr (fun i => if i < 4 then some (rr i) else none)))))), ((rr 0), .inl (ct 3, 60, .inr (.inl f38_2))), ((rr 1), .inl (ct 3, 60, .inr (.inl f38_3))), ((rr 2), .inl (ct 3, 60, .inr (.inl f38_4))), ((rr 3), .inl (ct 3, 60, .inr (.inl f38_5))), (a6, .inl (ct 0, 4, .inl (upd f6 p0.toNatClampNeg p1))), (a7, .inl (ct 0, 4, .inl (upd f7 p0.toNatClampNeg p2)))] H → va_D A [(a0, .inr (6, [.ref a1, .ref a6, .ref a7, .int z17])), (a1, .inl (ct 5, 4, .inr (.inr (.inr (.inr (fun i => if i < 4 then some (rr i) else none)))))), ((rr 0), .inl (ct 3, 60, .inr (.inl f38_2))), ((rr 1), .inl (ct 3, 60, .inr (.inl f38_3))), ((rr 2), .inl (ct 3, 60, .inr (.inl f38_4))), ((rr 3), .inl (ct 3, 60, .inr (.inl f38_5))), (a6, .inl (ct 0, 4, .inl (upd f6 p0.toNatClampNeg p1))), (a7, .inl (ct 0, 4, .inl (upd f7 p0.toNatClampNeg p2)))] → va_S A s.heap H locs → lv_has ls 5 [(0, .ref a0), (1, .int p0), (2, .int p1), (3, .int p2), (4, .int x38_4)] → W p l e (headSpec wsX6_make ({ frames := 1, cells := 0, slots := 0, locals := 21 })).room s m ([.ref a0, .int p0, .int p1, .int p2] : List Value).toArray below meth c H locs 0 0 (MQ below (va_Qv (fun u : SU => ar 0 60 (u.2.1 1) ∧ True) (fun u t => va_P G vwCl ((fun u : SU => [(a0, .inr (6, [.ref a1, .ref a6, .ref a7, .int (u.1 0)])), (a1, .inl (ct 5, 4, .inr (.inr (.inr (.inr (fun i => if i < 4 then some (rr i) else none)))))), ((rr 0), .inl (ct 3, 60, .inr (.inl (u.2.2 0)))), ((rr 1), .inl (ct 3, 60, .inr (.inl (u.2.2 1)))), ((rr 2), .inl (ct 3, 60, .inr (.inl (u.2.2 2)))), ((rr 3), .inl (ct 3, 60, .inr (.inl (u.2.2 3)))), (a6, .inl (ct 0, 4, .inl (u.2.1 0))), (a7, .inl (ct 0, 4, .inl (u.2.1 1)))]) u) t.heap) A) ([.ref a0, .int p0, .int p1, .int p2] : List Value).toArray s 0 0 A) (F0 m 38 ls []) := by
      intro n
      induction n with
      | zero => intro x38_4 f38_2 f38_3 f38_4 f38_5 H locs ls hn38 hx38_4 hP hD hS hl; exact absurd hn38 (by have := Int32.toInt_lt x38_4; have := Int32.le_toInt x38_4; omega)
      | succ n ih38 =>
        intro x38_4 f38_2 f38_3 f38_4 f38_5 H locs ls hn38 hx38_4 hP hD hS hl
        refine lv_iload hx hb dX6_make_38 (lv_at hl 4 rfl) ?_
        refine lv_bipush (v := 60) hx hb dX6_make_40 (by decide) ?_
        refine lv_icmp_ge (tgt := 61) hx hb dX6_make_42 (by decide) (fun c42 => ?_) (fun c42 => ?_)
        · have h_6 : rg 60 60 x38_4 := r_le_r_i c42 (rgn 60 (x := 60) (by decide)) hx38_4
          exact W.vret hx hb hr (fun t ht hW => ⟨⟨(fun k => ([z17] : List Int32).getD k 0, fun k => ([upd f6 p0.toNatClampNeg p1, upd f7 p0.toNatClampNeg p2] : List (Nat → Int32)).getD k (fun _ => 0), fun k => ([f38_2, f38_3, f38_4, f38_5] : List (Nat → Int64)).getD k (fun _ => 0)), rfl, ⟨h_5, trivial⟩, hp_at ht hP⟩, hS.F ht⟩) hS.2.2 dX6_make_61
        · have h_7 : rg 0 59 x38_4 := r_lt_l_i (nle_i c42) hx38_4 (rgn 60 (x := 60) (by decide)) (by decide)
          refine lv_aload_n hx hb dX6_make_45 rfl (lv_at hl 0 rfl) ?_
          refine va_get (D := G) (ci := 6) (v := .ref a1) (C := RX6) (T := TX6) (N := 4) hx hb hts (by decide +kernel) hown hK.1 hP 0 rfl rfl 0 (by decide) (hts (.fieldLink RX6 11 "CardHolder$Rows" "numbers" "[[J") (by decide +kernel)) (fun _ h9 => h9) rfl dX6_make_46 ?_
          refine lv_iload_n hx hb dX6_make_49 rfl (lv_at hl 1 rfl) ?_
          rcases (sp4 h_4.1 (by have := h_4.2; omega)) with s50 | s50 | s50 | s50
          · refine ix_i (y := 0) s50 ?_
            have h_8 : rg 0 0 p0 := r_eq_l_i (e := 0) (f := 0) s50 h_4 (rgn 0 (x := 0) (by decide)) (by decide)
            refine va_aldL hx hb hK.1 hP 1 5 rfl rfl (in_lit (by decide)) dX6_make_50 ?_
            refine ix_r (y := .ref (rr 0)) rfl ?_
            refine lv_iload hx hb dX6_make_51 (lv_at hl 4 rfl) ?_
            refine lv_lconst (v := 0) hx hb dX6_make_53 (by decide) ?_
            refine va_last hx hb hK.1 hP hD hS 2 3 rfl rfl (in_rg h_7 (by decide)) dX6_make_54 (fun H locs hP hD hS => ?_)
            obtain ⟨z55, qz55⟩ : ∃ y : Int32, y = x38_4 + Int32.ofInt 1 := ⟨_, rfl⟩
            obtain ⟨hz55, ez55⟩ := inc_z (e := 1) (f := 60) h_7 qz55 (by decide)
            refine lv_iinc (v := z55) (lv' := [(4, .int z55), (0, .ref a0), (1, .int p0), (2, .int p1), (3, .int p2)]) hx hb dX6_make_55 hl (k := 4) rfl (qz55.symm) (by decide) rfl (fun ls hl => ?_)
            refine lv_goto (tgt := 38) hx hb dX6_make_58 (by decide) ?_
            exact ih38 z55 (vp_updL f38_2 x38_4.toNatClampNeg 0) f38_3 f38_4 f38_5 _ _ ls (by have q := hn38; have := ez55; omega) (rg_w (c := 0) (d := 60) hz55 (by decide)) hP hD hS (lv_sub hl [1, 2, 3, 4, 0] rfl)
          · refine ix_i (y := 1) s50 ?_
            have h_9 : rg 1 1 p0 := r_eq_l_i (e := 1) (f := 1) s50 h_4 (rgn 1 (x := 1) (by decide)) (by decide)
            refine va_aldL hx hb hK.1 hP 1 5 rfl rfl (in_lit (by decide)) dX6_make_50 ?_
            refine ix_r (y := .ref (rr 1)) rfl ?_
            refine lv_iload hx hb dX6_make_51 (lv_at hl 4 rfl) ?_
            refine lv_lconst (v := 0) hx hb dX6_make_53 (by decide) ?_
            refine va_last hx hb hK.1 hP hD hS 3 3 rfl rfl (in_rg h_7 (by decide)) dX6_make_54 (fun H locs hP hD hS => ?_)
            obtain ⟨z55, qz55⟩ : ∃ y : Int32, y = x38_4 + Int32.ofInt 1 := ⟨_, rfl⟩
            obtain ⟨hz55, ez55⟩ := inc_z (e := 1) (f := 60) h_7 qz55 (by decide)
            refine lv_iinc (v := z55) (lv' := [(4, .int z55), (0, .ref a0), (1, .int p0), (2, .int p1), (3, .int p2)]) hx hb dX6_make_55 hl (k := 4) rfl (qz55.symm) (by decide) rfl (fun ls hl => ?_)
            refine lv_goto (tgt := 38) hx hb dX6_make_58 (by decide) ?_
            exact ih38 z55 f38_2 (vp_updL f38_3 x38_4.toNatClampNeg 0) f38_4 f38_5 _ _ ls (by have q := hn38; have := ez55; omega) (rg_w (c := 0) (d := 60) hz55 (by decide)) hP hD hS (lv_sub hl [1, 2, 3, 4, 0] rfl)
          · refine ix_i (y := 2) s50 ?_
            have h_10 : rg 2 2 p0 := r_eq_l_i (e := 2) (f := 2) s50 h_4 (rgn 2 (x := 2) (by decide)) (by decide)
            refine va_aldL hx hb hK.1 hP 1 5 rfl rfl (in_lit (by decide)) dX6_make_50 ?_
            refine ix_r (y := .ref (rr 2)) rfl ?_
            refine lv_iload hx hb dX6_make_51 (lv_at hl 4 rfl) ?_
            refine lv_lconst (v := 0) hx hb dX6_make_53 (by decide) ?_
            refine va_last hx hb hK.1 hP hD hS 4 3 rfl rfl (in_rg h_7 (by decide)) dX6_make_54 (fun H locs hP hD hS => ?_)
            obtain ⟨z55, qz55⟩ : ∃ y : Int32, y = x38_4 + Int32.ofInt 1 := ⟨_, rfl⟩
            obtain ⟨hz55, ez55⟩ := inc_z (e := 1) (f := 60) h_7 qz55 (by decide)
            refine lv_iinc (v := z55) (lv' := [(4, .int z55), (0, .ref a0), (1, .int p0), (2, .int p1), (3, .int p2)]) hx hb dX6_make_55 hl (k := 4) rfl (qz55.symm) (by decide) rfl (fun ls hl => ?_)
            refine lv_goto (tgt := 38) hx hb dX6_make_58 (by decide) ?_
            exact ih38 z55 f38_2 f38_3 (vp_updL f38_4 x38_4.toNatClampNeg 0) f38_5 _ _ ls (by have q := hn38; have := ez55; omega) (rg_w (c := 0) (d := 60) hz55 (by decide)) hP hD hS (lv_sub hl [1, 2, 3, 4, 0] rfl)
          · refine ix_i (y := 3) s50 ?_
            have h_11 : rg 3 3 p0 := r_eq_l_i (e := 3) (f := 3) s50 h_4 (rgn 3 (x := 3) (by decide)) (by decide)
            refine va_aldL hx hb hK.1 hP 1 5 rfl rfl (in_lit (by decide)) dX6_make_50 ?_
            refine ix_r (y := .ref (rr 3)) rfl ?_
            refine lv_iload hx hb dX6_make_51 (lv_at hl 4 rfl) ?_
            refine lv_lconst (v := 0) hx hb dX6_make_53 (by decide) ?_
            refine va_last hx hb hK.1 hP hD hS 5 3 rfl rfl (in_rg h_7 (by decide)) dX6_make_54 (fun H locs hP hD hS => ?_)
            obtain ⟨z55, qz55⟩ : ∃ y : Int32, y = x38_4 + Int32.ofInt 1 := ⟨_, rfl⟩
            obtain ⟨hz55, ez55⟩ := inc_z (e := 1) (f := 60) h_7 qz55 (by decide)
            refine lv_iinc (v := z55) (lv' := [(4, .int z55), (0, .ref a0), (1, .int p0), (2, .int p1), (3, .int p2)]) hx hb dX6_make_55 hl (k := 4) rfl (qz55.symm) (by decide) rfl (fun ls hl => ?_)
            refine lv_goto (tgt := 38) hx hb dX6_make_58 (by decide) ?_
            exact ih38 z55 f38_2 f38_3 f38_4 (vp_updL f38_5 x38_4.toNatClampNeg 0) _ _ ls (by have q := hn38; have := ez55; omega) (rg_w (c := 0) (d := 60) hz55 (by decide)) hP hD hS (lv_sub hl [1, 2, 3, 4, 0] rfl)
    exact j38 4294967296 (0 : Int32) f2 f3 f4 f5 _ _ ls (ms_e (0 : Int32)) (rg_w (c := 0) (d := 60) (rgn 0 (x := 0) (by decide)) (by decide)) hP hD hS (lv_sub hl [1, 2, 3, 4, 0] rfl)
  · have h_12 : rg 0 0 r2 := r_eq_l_i (e := 0) (f := 0) c5 p_1 (rgn 0 (x := 0) (by decide)) (by decide)
    exact W.vret hx hb hr (fun t ht hW => ⟨⟨(fun k => ([n0_3] : List Int32).getD k 0, fun k => ([f6, f7] : List (Nat → Int32)).getD k (fun _ => 0), fun k => ([f2, f3, f4, f5] : List (Nat → Int64)).getD k (fun _ => 0)), rfl, ⟨hp_f7, trivial⟩, hp_at ht hP⟩, hS.F ht⟩) hS.2.2 dX6_make_8

set_option maxHeartbeats 4000000 in
set_option maxRecDepth 100000 in
theorem a_X6_hasPlaces1 (l : Launch) (G : va_G) (ct : Nat → ClassId) (a0 : Nat) (a1 : Nat) (a6 : Nat) (a7 : Nat) (n0_3 : Int32) (f7 : Nat → Int32) (p0 : Int32) (p1 : Int32) (hp_f7 : ar 0 60 f7) : Met l yX6_hasPlaces wsX6_hasPlaces ({ frames := 2, cells := 0, slots := 0, locals := 42 }) (va_Pc [.ref a0, .int p0, .int p1, .int 1] (roP G ct [(a0, .inr (6, [.ref a1, .ref a6, .ref a7, .int n0_3])), (a7, .inl (ct 0, 4, .inl f7))])) (roQ (fun r => rg 0 1 r ∧ (¬ r = 0 → rg 0 3 p0) ∧ (¬ r = 0 → rg 0 59 p1) ∧ True)) 0 0 no := by
  refine Met.ofW (cc := cX6_hasPlaces) (maxL := 4) (ret := (some .boolean)) (by decide) rfl ?_
  intro p e s m args below meth c s₁ B hml hv
  obtain ⟨rfl, hP, hK⟩ := hv
  have hx := B.exec
  have hb := B.bytes
  have hr := B.returns
  have hts := atoms_spec (ws := wsX6_hasPlaces) B.pre
  have hown : s.vm.findClass RX6 = some m.cls := findClass_of_methodNamed B.named
  have hlocks := B.notSynchronized
  have hS : va_S no s.heap s.heap [] := va_S.rf
  have hl := lv_entry ([.ref a0, .int p0, .int p1, .int 1]) (n := 4) (Nat.le_of_ble_eq_true rfl)
  rw [lg_entry_eq]
  generalize (lg_sl ([.ref a0, .int p0, .int p1, .int 1]) ++ List.replicate (4 - (lg_sl ([.ref a0, .int p0, .int p1, .int 1])).length) Slot.unset).toArray = ls at hl ⊢
  have hl : lv_has ls 4 [(0, .ref a0), (1, .int p0), (2, .int p1), (3, .int 1)] := hl
  refine lv_iload_n hx hb dX6_hasPlaces_0 rfl (lv_at hl 2 rfl) ?_
  refine lv_if_lt (tgt := 32) hx hb dX6_hasPlaces_1 (by decide) (fun c1 => ?_) (fun c1 => ?_)
  · have h_1 : rg (-2147483648) (-1) p1 := r_lt_l_i c1 (rg_t p1) (rgn 0 (x := 0) (by decide)) (by decide)
    refine lv_iconst (v := 0) hx hb dX6_hasPlaces_32 (by decide) ?_
    exact W.zret (v := 0) (ty := .boolean) hx hb hr (rfl) (fun t ht hW => ⟨⟨0, (), rfl, ⟨(rg_w (c := 0) (d := 1) (rgn 0 (x := 0) (by decide)) (by decide)), (fun hq => absurd (req (rgn 0 (x := 0) (by decide)) (y := 0) (by decide)) hq), (fun hq => absurd (req (rgn 0 (x := 0) (by decide)) (y := 0) (by decide)) hq), trivial⟩, trivial⟩, hS.F ht⟩) hS.2.2 dX6_hasPlaces_33
  · have h_2 : rg 0 2147483647 p1 := r_le_r_i (nlt_i c1) (rgn 0 (x := 0) (by decide)) (rg_t p1)
    refine lv_iload_n hx hb dX6_hasPlaces_4 rfl (lv_at hl 3 rfl) ?_
    refine lv_if_lt (tgt := 32) hx hb dX6_hasPlaces_5 (by decide) (fun c5 => ?_) (fun c5 => ?_)
    · exact absurd c5 (by decide)
    · refine lv_iload_n hx hb dX6_hasPlaces_8 rfl (lv_at hl 3 rfl) ?_
      refine lv_aload_n hx hb dX6_hasPlaces_9 rfl (lv_at hl 0 rfl) ?_
      refine lv_iload_n hx hb dX6_hasPlaces_10 rfl (lv_at hl 1 rfl) ?_
      refine ro_calli (va_runV (As := [.int p0]) (rest := [.int 1]) ⟨hx, hb, hml, hown, hts⟩ (a_X6_sizeOf l G ct a0 a1 a6 a7 n0_3 f7 p0 hp_f7) (cwV 1 hts gX6_hasPlaces_X6_sizeOf rfl rfl rfl (by decide +kernel) ⟨Nat.le_of_ble_eq_true rfl, Nat.le_of_ble_eq_true rfl⟩) (ro_preV 6 0 hK (hP.sub [0, 1] rfl) rfl rfl) rfl rfl hl.1 rfl (lv_room (Nat.le_of_ble_eq_true rfl)) dX6_hasPlaces_11 ⟨Nat.zero_le _, Nat.zero_le _⟩) hS hP (fun r11 H locs wr11 hP hS => ?_)
      obtain ⟨p_3, p_4, -⟩ := wr11
      refine lv_icmp_gt (tgt := 32) hx hb dX6_hasPlaces_14 (by decide) (fun c14 => ?_) (fun c14 => ?_)
      · have h_5 : rg 0 0 r11 := r_lt_l_i c14 p_3 (rgn 1 (x := 1) (by decide)) (by decide)
        refine lv_iconst (v := 0) hx hb dX6_hasPlaces_32 (by decide) ?_
        exact W.zret (v := 0) (ty := .boolean) hx hb hr (rfl) (fun t ht hW => ⟨⟨0, (), rfl, ⟨(rg_w (c := 0) (d := 1) (rgn 0 (x := 0) (by decide)) (by decide)), (fun hq => absurd (req (rgn 0 (x := 0) (by decide)) (y := 0) (by decide)) hq), (fun hq => absurd (req (rgn 0 (x := 0) (by decide)) (y := 0) (by decide)) hq), trivial⟩, trivial⟩, hS.F ht⟩) hS.2.2 dX6_hasPlaces_33
      · have h_6 : rg 1 60 r11 := r_le_r_i (nlt_i c14) (rgn 1 (x := 1) (by decide)) p_3
        have h_7 : rg 0 3 p0 := (p_4 (rne h_6 (y := 0) (c := 0) (by decide) (by decide)))
        refine lv_iload_n hx hb dX6_hasPlaces_17 rfl (lv_at hl 2 rfl) ?_
        refine lv_aload_n hx hb dX6_hasPlaces_18 rfl (lv_at hl 0 rfl) ?_
        refine lv_iload_n hx hb dX6_hasPlaces_19 rfl (lv_at hl 1 rfl) ?_
        refine ro_calli (va_runV (As := [.int p0]) (rest := [.int p1]) ⟨hx, hb, hml, hown, hts⟩ (a_X6_sizeOf l G ct a0 a1 a6 a7 n0_3 f7 p0 hp_f7) (cwV 1 hts gX6_hasPlaces_X6_sizeOf rfl rfl rfl (by decide +kernel) ⟨Nat.le_of_ble_eq_true rfl, Nat.le_of_ble_eq_true rfl⟩) (ro_preV 6 0 hK (hP.sub [0, 1] rfl) rfl rfl) rfl rfl hl.1 rfl (lv_room (Nat.le_of_ble_eq_true rfl)) dX6_hasPlaces_20 ⟨Nat.zero_le _, Nat.zero_le _⟩) hS hP (fun r20 H locs wr20 hP hS => ?_)
        obtain ⟨p_8, p_9, -⟩ := wr20
        refine lv_iload_n hx hb dX6_hasPlaces_23 rfl (lv_at hl 3 rfl) ?_
        refine lv_isub hx hb dX6_hasPlaces_24 ?_
        refine nm_sub (e1 := (-1)) (f := 59) p_8 (rgn 1 (x := 1) (by decide)) (by decide) (fun z24 hz24 ez24 => ?_)
        replace ez24 := eqc_s ez24 (c := (-1)) (by decide)
        refine lv_icmp_gt (tgt := 32) hx hb dX6_hasPlaces_25 (by decide) (fun c25 => ?_) (fun c25 => ?_)
        · refine lv_iconst (v := 0) hx hb dX6_hasPlaces_32 (by decide) ?_
          exact W.zret (v := 0) (ty := .boolean) hx hb hr (rfl) (fun t ht hW => ⟨⟨0, (), rfl, ⟨(rg_w (c := 0) (d := 1) (rgn 0 (x := 0) (by decide)) (by decide)), (fun _ => h_7), (fun hq => absurd (req (rgn 0 (x := 0) (by decide)) (y := 0) (by decide)) hq), trivial⟩, trivial⟩, hS.F ht⟩) hS.2.2 dX6_hasPlaces_33
        · have h_10 : rg 0 59 p1 := r_le_l_i (nlt_i c25) h_2 hz24
          have h_11 : rg 0 59 z24 := r_le_r_i (nlt_i c25) h_2 hz24
          have h_12 : rg 1 60 r20 := bk_i (a := 1) (b := 60) ez24 h_11 p_8 (by decide)
          refine lv_iconst (v := 1) hx hb dX6_hasPlaces_28 (by decide) ?_
          refine lv_goto (tgt := 33) hx hb dX6_hasPlaces_29 (by decide) ?_
          exact W.zret (v := 1) (ty := .boolean) hx hb hr (rfl) (fun t ht hW => ⟨⟨1, (), rfl, ⟨(rg_w (c := 0) (d := 1) (rgn 1 (x := 1) (by decide)) (by decide)), (fun _ => h_7), (fun _ => h_10), trivial⟩, trivial⟩, hS.F ht⟩) hS.2.2 dX6_hasPlaces_33

set_option maxHeartbeats 4000000 in
set_option maxRecDepth 100000 in
theorem a_X6_get (l : Launch) (G : va_G) (ct : Nat → ClassId) (a0 : Nat) (a1 : Nat) (a6 : Nat) (a7 : Nat) (n0_3 : Int32) (rr : Nat → Nat) (f2 : Nat → Int64) (f3 : Nat → Int64) (f4 : Nat → Int64) (f5 : Nat → Int64) (f7 : Nat → Int32) (p0 : Int32) (p1 : Int32) (hp_f7 : ar 0 60 f7) : Met l yX6_get wsX6_get ({ frames := 3, cells := 0, slots := 0, locals := 65 }) (va_Pc [.ref a0, .int p0, .int p1] (roP G ct [(a0, .inr (6, [.ref a1, .ref a6, .ref a7, .int n0_3])), (a1, .inl (ct 5, 4, .inr (.inr (.inr (.inr (fun i => if i < 4 then some (rr i) else none)))))), ((rr 0), .inl (ct 3, 60, .inr (.inl f2))), ((rr 1), .inl (ct 3, 60, .inr (.inl f3))), ((rr 2), .inl (ct 3, 60, .inr (.inl f4))), ((rr 3), .inl (ct 3, 60, .inr (.inl f5))), (a7, .inl (ct 0, 4, .inl f7))])) (roQl (fun r => True)) 0 0 no := by
  refine Met.ofW (cc := cX6_get) (maxL := 3) (ret := (some .long)) (by decide) rfl ?_
  intro p e s m args below meth c s₁ B hml hv
  obtain ⟨rfl, hP, hK⟩ := hv
  have hx := B.exec
  have hb := B.bytes
  have hr := B.returns
  have hts := atoms_spec (ws := wsX6_get) B.pre
  have hown : s.vm.findClass RX6 = some m.cls := findClass_of_methodNamed B.named
  have hlocks := B.notSynchronized
  have hS : va_S no s.heap s.heap [] := va_S.rf
  have hl := lv_entry ([.ref a0, .int p0, .int p1]) (n := 3) (Nat.le_of_ble_eq_true rfl)
  rw [lg_entry_eq]
  generalize (lg_sl ([.ref a0, .int p0, .int p1]) ++ List.replicate (3 - (lg_sl ([.ref a0, .int p0, .int p1])).length) Slot.unset).toArray = ls at hl ⊢
  have hl : lv_has ls 3 [(0, .ref a0), (1, .int p0), (2, .int p1)] := hl
  refine lv_aload_n hx hb dX6_get_0 rfl (lv_at hl 0 rfl) ?_
  refine lv_iload_n hx hb dX6_get_1 rfl (lv_at hl 1 rfl) ?_
  refine lv_iload_n hx hb dX6_get_2 rfl (lv_at hl 2 rfl) ?_
  refine lv_iconst (v := 1) hx hb dX6_get_3 (by decide) ?_
  refine ro_calli (va_runV (As := [.int p0, .int p1, .int 1]) (rest := []) ⟨hx, hb, hml, hown, hts⟩ (a_X6_hasPlaces1 l G ct a0 a1 a6 a7 n0_3 f7 p0 p1 hp_f7) (cwV 3 hts gX6_get_X6_hasPlaces rfl rfl rfl (by decide +kernel) ⟨Nat.le_of_ble_eq_true rfl, Nat.le_of_ble_eq_true rfl⟩) (ro_preV 6 0 hK (hP.sub [0, 6] rfl) rfl rfl) rfl rfl hl.1 rfl (lv_room (Nat.le_of_ble_eq_true rfl)) dX6_get_4 ⟨Nat.zero_le _, Nat.zero_le _⟩) hS hP (fun r4 H locs wr4 hP hS => ?_)
  obtain ⟨p_1, p_2, p_3, -⟩ := wr4
  refine lv_if_eq (tgt := 21) hx hb dX6_get_7 (by decide) (fun c7 => ?_) (fun c7 => ?_)
  · have h_4 : rg 0 0 r4 := r_eq_l_i (e := 0) (f := 0) c7 p_1 (rgn 0 (x := 0) (by decide)) (by decide)
    refine lv_lconst (v := 0) hx hb dX6_get_21 (by decide) ?_
    exact W.lret (v := 0) hx hb hr (fun t ht hW => ⟨⟨0, (), rfl, trivial, trivial⟩, hS.F ht⟩) hS.2.2 dX6_get_22
  · have h_5 : rg 1 1 r4 := r_ne_lo_i c7 p_1 (by decide) (by decide)
    have h_6 : rg 0 3 p0 := (p_2 (rne h_5 (y := 0) (c := 0) (by decide) (by decide)))
    have h_7 : rg 0 59 p1 := (p_3 (rne h_5 (y := 0) (c := 0) (by decide) (by decide)))
    refine lv_aload_n hx hb dX6_get_10 rfl (lv_at hl 0 rfl) ?_
    refine va_get (D := G) (ci := 6) (v := .ref a1) (C := RX6) (T := TX6) (N := 4) hx hb hts (by decide +kernel) hown hK.1 hP 0 rfl rfl 0 (by decide) (hts (.fieldLink RX6 11 "CardHolder$Rows" "numbers" "[[J") (by decide +kernel)) (fun _ h9 => h9) rfl dX6_get_11 ?_
    refine lv_iload_n hx hb dX6_get_14 rfl (lv_at hl 1 rfl) ?_
    rcases (sp4 h_6.1 (by have := h_6.2; omega)) with s15 | s15 | s15 | s15
    · refine ix_i (y := 0) s15 ?_
      have h_8 : rg 0 0 p0 := r_eq_l_i (e := 0) (f := 0) s15 h_6 (rgn 0 (x := 0) (by decide)) (by decide)
      refine va_aldL hx hb hK.1 hP 1 5 rfl rfl (in_lit (by decide)) dX6_get_15 ?_
      refine ix_r (y := .ref (rr 0)) rfl ?_
      refine lv_iload_n hx hb dX6_get_16 rfl (lv_at hl 2 rfl) ?_
      refine va_lald hx hb hK.1 hP 2 3 rfl rfl (in_rg h_7 (by decide)) dX6_get_17 ?_
      refine lv_topl (fun z17 gz17 => ?_)
      refine lv_goto (tgt := 22) hx hb dX6_get_18 (by decide) ?_
      exact W.lret (v := z17) hx hb hr (fun t ht hW => ⟨⟨z17, (), rfl, trivial, trivial⟩, hS.F ht⟩) hS.2.2 dX6_get_22
    · refine ix_i (y := 1) s15 ?_
      have h_9 : rg 1 1 p0 := r_eq_l_i (e := 1) (f := 1) s15 h_6 (rgn 1 (x := 1) (by decide)) (by decide)
      refine va_aldL hx hb hK.1 hP 1 5 rfl rfl (in_lit (by decide)) dX6_get_15 ?_
      refine ix_r (y := .ref (rr 1)) rfl ?_
      refine lv_iload_n hx hb dX6_get_16 rfl (lv_at hl 2 rfl) ?_
      refine va_lald hx hb hK.1 hP 3 3 rfl rfl (in_rg h_7 (by decide)) dX6_get_17 ?_
      refine lv_topl (fun z17 gz17 => ?_)
      refine lv_goto (tgt := 22) hx hb dX6_get_18 (by decide) ?_
      exact W.lret (v := z17) hx hb hr (fun t ht hW => ⟨⟨z17, (), rfl, trivial, trivial⟩, hS.F ht⟩) hS.2.2 dX6_get_22
    · refine ix_i (y := 2) s15 ?_
      have h_10 : rg 2 2 p0 := r_eq_l_i (e := 2) (f := 2) s15 h_6 (rgn 2 (x := 2) (by decide)) (by decide)
      refine va_aldL hx hb hK.1 hP 1 5 rfl rfl (in_lit (by decide)) dX6_get_15 ?_
      refine ix_r (y := .ref (rr 2)) rfl ?_
      refine lv_iload_n hx hb dX6_get_16 rfl (lv_at hl 2 rfl) ?_
      refine va_lald hx hb hK.1 hP 4 3 rfl rfl (in_rg h_7 (by decide)) dX6_get_17 ?_
      refine lv_topl (fun z17 gz17 => ?_)
      refine lv_goto (tgt := 22) hx hb dX6_get_18 (by decide) ?_
      exact W.lret (v := z17) hx hb hr (fun t ht hW => ⟨⟨z17, (), rfl, trivial, trivial⟩, hS.F ht⟩) hS.2.2 dX6_get_22
    · refine ix_i (y := 3) s15 ?_
      have h_11 : rg 3 3 p0 := r_eq_l_i (e := 3) (f := 3) s15 h_6 (rgn 3 (x := 3) (by decide)) (by decide)
      refine va_aldL hx hb hK.1 hP 1 5 rfl rfl (in_lit (by decide)) dX6_get_15 ?_
      refine ix_r (y := .ref (rr 3)) rfl ?_
      refine lv_iload_n hx hb dX6_get_16 rfl (lv_at hl 2 rfl) ?_
      refine va_lald hx hb hK.1 hP 5 3 rfl rfl (in_rg h_7 (by decide)) dX6_get_17 ?_
      refine lv_topl (fun z17 gz17 => ?_)
      refine lv_goto (tgt := 22) hx hb dX6_get_18 (by decide) ?_
      exact W.lret (v := z17) hx hb hr (fun t ht hW => ⟨⟨z17, (), rfl, trivial, trivial⟩, hS.F ht⟩) hS.2.2 dX6_get_22

set_option maxHeartbeats 4000000 in
set_option maxRecDepth 100000 in
theorem a_X6_cut (l : Launch) (G : va_G) (ct : Nat → ClassId) (p0 : Int64) (p1 : Int32)  : Met l yX6_cut wsX6_cut ({ frames := 0, cells := 0, slots := 0, locals := 0 }) (va_Pc [.long p0, .int p1] (roP G ct [])) (roQl (fun r => True)) 0 0 no := by
  refine Met.ofW (cc := cX6_cut) (maxL := 3) (ret := (some .long)) (by decide) rfl ?_
  intro p e s m args below meth c s₁ B hml hv
  obtain ⟨rfl, hP, hK⟩ := hv
  have hx := B.exec
  have hb := B.bytes
  have hr := B.returns
  have hts := atoms_spec (ws := wsX6_cut) B.pre
  have hown : s.vm.findClass RX6 = some m.cls := findClass_of_methodNamed B.named
  have hlocks := B.notSynchronized
  have hS : va_S no s.heap s.heap [] := va_S.rf
  have hl := lv_entry ([.long p0, .int p1]) (n := 3) (Nat.le_of_ble_eq_true rfl)
  rw [lg_entry_eq]
  generalize (lg_sl ([.long p0, .int p1]) ++ List.replicate (3 - (lg_sl ([.long p0, .int p1])).length) Slot.unset).toArray = ls at hl ⊢
  have hl : lv_has ls 3 [(0, .long p0), (2, .int p1)] := hl
  refine lv_iload_n hx hb dX6_cut_0 rfl (lv_at hl 1 rfl) ?_
  by_cases c1 : p1 = 0 ∨ p1 = 1 ∨ p1 = 2
  · rcases c1 with c1 | c1 | c1
    · refine lv_tableIn (tgt := 28) hx hb dX6_cut_1 (by rw [c1]; decide) (by rw [c1]; decide) (by rw [c1]; rfl) (by decide) ?_
      have h_1 : rg 0 0 p1 := r_eq_l_i (e := 0) (f := 0) c1 (rg_t p1) (rgn 0 (x := 0) (by decide)) (by decide)
      refine lv_lload_n hx hb dX6_cut_28 rfl (lv_at hl 0 rfl) ?_
      refine lv_l2i hx hb dX6_cut_29 rfl ?_
      refine nm_0 (fun z29 => ?_)
      refine lv_i2b hx hb dX6_cut_30 rfl ?_
      refine nm_0 (fun z30 => ?_)
      refine lv_i2l hx hb dX6_cut_31 rfl ?_
      refine nl_i2l (rg_t z30) (fun z31 hz31 ez31 => ?_)
      exact W.lret (v := z31) hx hb hr (fun t ht hW => ⟨⟨z31, (), rfl, trivial, trivial⟩, hS.F ht⟩) hS.2.2 dX6_cut_32
    · refine lv_tableIn (tgt := 33) hx hb dX6_cut_1 (by rw [c1]; decide) (by rw [c1]; decide) (by rw [c1]; rfl) (by decide) ?_
      have h_2 : rg 1 1 p1 := r_eq_l_i (e := 1) (f := 1) c1 (rg_t p1) (rgn 1 (x := 1) (by decide)) (by decide)
      refine lv_lload_n hx hb dX6_cut_33 rfl (lv_at hl 0 rfl) ?_
      refine lv_l2i hx hb dX6_cut_34 rfl ?_
      refine nm_0 (fun z34 => ?_)
      refine lv_i2s hx hb dX6_cut_35 rfl ?_
      refine nm_0 (fun z35 => ?_)
      refine lv_i2l hx hb dX6_cut_36 rfl ?_
      refine nl_i2l (rg_t z35) (fun z36 hz36 ez36 => ?_)
      exact W.lret (v := z36) hx hb hr (fun t ht hW => ⟨⟨z36, (), rfl, trivial, trivial⟩, hS.F ht⟩) hS.2.2 dX6_cut_37
    · refine lv_tableIn (tgt := 38) hx hb dX6_cut_1 (by rw [c1]; decide) (by rw [c1]; decide) (by rw [c1]; rfl) (by decide) ?_
      have h_3 : rg 2 2 p1 := r_eq_l_i (e := 2) (f := 2) c1 (rg_t p1) (rgn 2 (x := 2) (by decide)) (by decide)
      refine lv_lload_n hx hb dX6_cut_38 rfl (lv_at hl 0 rfl) ?_
      refine lv_l2i hx hb dX6_cut_39 rfl ?_
      refine nm_0 (fun z39 => ?_)
      refine lv_i2l hx hb dX6_cut_40 rfl ?_
      refine nl_i2l (rg_t z39) (fun z40 hz40 ez40 => ?_)
      exact W.lret (v := z40) hx hb hr (fun t ht hW => ⟨⟨z40, (), rfl, trivial, trivial⟩, hS.F ht⟩) hS.2.2 dX6_cut_41
  · obtain ⟨d1_0, c1⟩ := not_or.mp c1
    obtain ⟨d1_1, c1⟩ := not_or.mp c1
    have d1_2 := c1
    refine lv_tableOut (tgt := 42) hx hb dX6_cut_1 (by have := i_ne d1_0; have := i_ne d1_1; have := i_ne d1_2; have : (0 : Int32).toInt = 0 := (by decide); have : (1 : Int32).toInt = 1 := (by decide); have : (2 : Int32).toInt = 2 := (by decide); omega) (by decide) ?_
    refine lv_lload_n hx hb dX6_cut_42 rfl (lv_at hl 0 rfl) ?_
    exact W.lret (v := p0) hx hb hr (fun t ht hW => ⟨⟨p0, (), rfl, trivial, trivial⟩, hS.F ht⟩) hS.2.2 dX6_cut_43

set_option maxHeartbeats 4000000 in
set_option maxRecDepth 100000 in
theorem a_X6_set (l : Launch) (G : va_G) (ct : Nat → ClassId) (a0 : Nat) (a1 : Nat) (a6 : Nat) (a7 : Nat) (n0_3 : Int32) (rr : Nat → Nat) (f2 : Nat → Int64) (f3 : Nat → Int64) (f4 : Nat → Int64) (f5 : Nat → Int64) (f6 : Nat → Int32) (f7 : Nat → Int32) (p0 : Int32) (p1 : Int32) (p2 : Int64) (hp_f7 : ar 0 60 f7) : Met l yX6_set wsX6_set ({ frames := 3, cells := 0, slots := 0, locals := 65 }) (va_Pc [.ref a0, .int p0, .int p1, .long p2] (wrP G ct [(a0, .inr (6, [.ref a1, .ref a6, .ref a7, .int n0_3])), (a1, .inl (ct 5, 4, .inr (.inr (.inr (.inr (fun i => if i < 4 then some (rr i) else none)))))), ((rr 0), .inl (ct 3, 60, .inr (.inl f2))), ((rr 1), .inl (ct 3, 60, .inr (.inl f3))), ((rr 2), .inl (ct 3, 60, .inr (.inl f4))), ((rr 3), .inl (ct 3, 60, .inr (.inl f5))), (a6, .inl (ct 0, 4, .inl f6)), (a7, .inl (ct 0, 4, .inl f7))])) (va_Qv (fun u : SU => True) (fun u t => va_P G vwCl ((fun u : SU => [(a0, .inr (6, [.ref a1, .ref a6, .ref a7, .int n0_3])), (a1, .inl (ct 5, 4, .inr (.inr (.inr (.inr (fun i => if i < 4 then some (rr i) else none)))))), ((rr 0), .inl (ct 3, 60, .inr (.inl (u.2.2 0)))), ((rr 1), .inl (ct 3, 60, .inr (.inl (u.2.2 1)))), ((rr 2), .inl (ct 3, 60, .inr (.inl (u.2.2 2)))), ((rr 3), .inl (ct 3, 60, .inr (.inl (u.2.2 3)))), (a6, .inl (ct 0, 4, .inl f6)), (a7, .inl (ct 0, 4, .inl f7))]) u) t.heap) (aset [(a0, .inr (6, [.ref a1, .ref a6, .ref a7, .int n0_3])), (a1, .inl (ct 5, 4, .inr (.inr (.inr (.inr (fun i => if i < 4 then some (rr i) else none)))))), ((rr 0), .inl (ct 3, 60, .inr (.inl f2))), ((rr 1), .inl (ct 3, 60, .inr (.inl f3))), ((rr 2), .inl (ct 3, 60, .inr (.inl f4))), ((rr 3), .inl (ct 3, 60, .inr (.inl f5))), (a6, .inl (ct 0, 4, .inl f6)), (a7, .inl (ct 0, 4, .inl f7))])) 0 0 (aset [(a0, .inr (6, [.ref a1, .ref a6, .ref a7, .int n0_3])), (a1, .inl (ct 5, 4, .inr (.inr (.inr (.inr (fun i => if i < 4 then some (rr i) else none)))))), ((rr 0), .inl (ct 3, 60, .inr (.inl f2))), ((rr 1), .inl (ct 3, 60, .inr (.inl f3))), ((rr 2), .inl (ct 3, 60, .inr (.inl f4))), ((rr 3), .inl (ct 3, 60, .inr (.inl f5))), (a6, .inl (ct 0, 4, .inl f6)), (a7, .inl (ct 0, 4, .inl f7))]) := by
  refine Met.ofW (cc := cX6_set) (maxL := 5) (ret := none) (by decide) rfl ?_
  intro p e s m args below meth c s₁ B hml hv
  obtain ⟨rfl, hP, hK, hD0⟩ := hv
  have hx := B.exec
  have hb := B.bytes
  have hr := B.returns
  have hts := atoms_spec (ws := wsX6_set) B.pre
  have hown : s.vm.findClass RX6 = some m.cls := findClass_of_methodNamed B.named
  have hlocks := B.notSynchronized
  have hD := hD0.aself
  generalize hAe : aset [(a0, .inr (6, [.ref a1, .ref a6, .ref a7, .int n0_3])), (a1, .inl (ct 5, 4, .inr (.inr (.inr (.inr (fun i => if i < 4 then some (rr i) else none)))))), ((rr 0), .inl (ct 3, 60, .inr (.inl f2))), ((rr 1), .inl (ct 3, 60, .inr (.inl f3))), ((rr 2), .inl (ct 3, 60, .inr (.inl f4))), ((rr 3), .inl (ct 3, 60, .inr (.inl f5))), (a6, .inl (ct 0, 4, .inl f6)), (a7, .inl (ct 0, 4, .inl f7))] = A at hD ⊢
  have hS : va_S A s.heap s.heap [] := va_S.rf
  have hl := lv_entry ([.ref a0, .int p0, .int p1, .long p2]) (n := 5) (Nat.le_of_ble_eq_true rfl)
  rw [lg_entry_eq]
  generalize (lg_sl ([.ref a0, .int p0, .int p1, .long p2]) ++ List.replicate (5 - (lg_sl ([.ref a0, .int p0, .int p1, .long p2])).length) Slot.unset).toArray = ls at hl ⊢
  have hl : lv_has ls 5 [(0, .ref a0), (1, .int p0), (2, .int p1), (3, .long p2)] := hl
  refine lv_aload_n hx hb dX6_set_0 rfl (lv_at hl 0 rfl) ?_
  refine lv_iload_n hx hb dX6_set_1 rfl (lv_at hl 1 rfl) ?_
  refine lv_iload_n hx hb dX6_set_2 rfl (lv_at hl 2 rfl) ?_
  refine lv_iconst (v := 1) hx hb dX6_set_3 (by decide) ?_
  refine ro_calli (va_runV (As := [.int p0, .int p1, .int 1]) (rest := []) ⟨hx, hb, hml, hown, hts⟩ (a_X6_hasPlaces1 l G ct a0 a1 a6 a7 n0_3 f7 p0 p1 hp_f7) (cwV 3 hts gX6_set_X6_hasPlaces rfl rfl rfl (by decide +kernel) ⟨Nat.le_of_ble_eq_true rfl, Nat.le_of_ble_eq_true rfl⟩) (ro_preV 6 0 hK (hP.sub [0, 7] rfl) rfl rfl) rfl rfl hl.1 rfl (lv_room (Nat.le_of_ble_eq_true rfl)) dX6_set_4 ⟨Nat.zero_le _, Nat.zero_le _⟩) hS hP (fun r4 H locs wr4 hP hS => ?_)
  obtain ⟨p_1, p_2, p_3, -⟩ := wr4
  refine lv_if_eq (tgt := 28) hx hb dX6_set_7 (by decide) (fun c7 => ?_) (fun c7 => ?_)
  · have h_4 : rg 0 0 r4 := r_eq_l_i (e := 0) (f := 0) c7 p_1 (rgn 0 (x := 0) (by decide)) (by decide)
    exact W.vret hx hb hr (fun t ht hW => ⟨⟨(fun k => ([] : List Int32).getD k 0, fun k => ([] : List (Nat → Int32)).getD k (fun _ => 0), fun k => ([f2, f3, f4, f5] : List (Nat → Int64)).getD k (fun _ => 0)), rfl, trivial, hp_at ht hP⟩, hS.F ht⟩) hS.2.2 dX6_set_28
  · have h_5 : rg 1 1 r4 := r_ne_lo_i c7 p_1 (by decide) (by decide)
    have h_6 : rg 0 3 p0 := (p_2 (rne h_5 (y := 0) (c := 0) (by decide) (by decide)))
    have h_7 : rg 0 59 p1 := (p_3 (rne h_5 (y := 0) (c := 0) (by decide) (by decide)))
    refine lv_aload_n hx hb dX6_set_10 rfl (lv_at hl 0 rfl) ?_
    refine va_get (D := G) (ci := 6) (v := .ref a1) (C := RX6) (T := TX6) (N := 4) hx hb hts (by decide +kernel) hown hK.1 hP 0 rfl rfl 0 (by decide) (hts (.fieldLink RX6 11 "CardHolder$Rows" "numbers" "[[J") (by decide +kernel)) (fun _ h9 => h9) rfl dX6_set_11 ?_
    refine lv_iload_n hx hb dX6_set_14 rfl (lv_at hl 1 rfl) ?_
    rcases (sp4 h_6.1 (by have := h_6.2; omega)) with s15 | s15 | s15 | s15
    · refine ix_i (y := 0) s15 ?_
      have h_8 : rg 0 0 p0 := r_eq_l_i (e := 0) (f := 0) s15 h_6 (rgn 0 (x := 0) (by decide)) (by decide)
      refine va_aldL hx hb hK.1 hP 1 5 rfl rfl (in_lit (by decide)) dX6_set_15 ?_
      refine ix_r (y := .ref (rr 0)) rfl ?_
      refine lv_iload_n hx hb dX6_set_16 rfl (lv_at hl 2 rfl) ?_
      refine lv_lload_n hx hb dX6_set_17 rfl (lv_at hl 3 rfl) ?_
      refine lv_aload_n hx hb dX6_set_18 rfl (lv_at hl 0 rfl) ?_
      refine va_get (D := G) (ci := 6) (v := .ref a6) (C := RX6) (T := TX6) (N := 4) hx hb hts (by decide +kernel) hown hK.1 hP 0 rfl rfl 1 (by decide) (hts (.fieldLink RX6 16 "CardHolder$Rows" "widths" "[I") (by decide +kernel)) (fun _ h9 => h9) rfl dX6_set_19 ?_
      refine lv_iload_n hx hb dX6_set_22 rfl (lv_at hl 1 rfl) ?_
      refine va_iald hx hb hK.1 hP 6 0 rfl rfl (in_rg h_8 (by decide)) dX6_set_23 ?_
      refine lv_topi (fun z23 gz23 => ?_)
      refine ro_calll (va_runS (As := [.long p2, .int z23]) (rest := [.int p1, .ref (rr 0)]) ⟨hx, hb, hml, hown, hts⟩ (a_X6_cut l G ct p2 z23) (va_cwS 2 hts gX6_set_X6_cut rfl rfl rfl (by decide +kernel) ⟨Nat.le_of_ble_eq_true rfl, Nat.le_of_ble_eq_true rfl⟩) (ro_pre hK (hP.sub [] rfl)) rfl rfl hl.1 rfl (lv_room (Nat.le_of_ble_eq_true rfl)) dX6_set_24 ⟨Nat.zero_le _, Nat.zero_le _⟩) hS hP (fun r24 H locs wr24 hP hS => ?_)
      refine va_last hx hb hK.1 hP hD hS 2 3 rfl rfl (in_rg h_7 (by decide)) dX6_set_27 (fun H locs hP hD hS => ?_)
      exact W.vret hx hb hr (fun t ht hW => ⟨⟨(fun k => ([] : List Int32).getD k 0, fun k => ([] : List (Nat → Int32)).getD k (fun _ => 0), fun k => ([vp_updL f2 p1.toNatClampNeg r24, f3, f4, f5] : List (Nat → Int64)).getD k (fun _ => 0)), rfl, trivial, hp_at ht hP⟩, hS.F ht⟩) hS.2.2 dX6_set_28
    · refine ix_i (y := 1) s15 ?_
      have h_9 : rg 1 1 p0 := r_eq_l_i (e := 1) (f := 1) s15 h_6 (rgn 1 (x := 1) (by decide)) (by decide)
      refine va_aldL hx hb hK.1 hP 1 5 rfl rfl (in_lit (by decide)) dX6_set_15 ?_
      refine ix_r (y := .ref (rr 1)) rfl ?_
      refine lv_iload_n hx hb dX6_set_16 rfl (lv_at hl 2 rfl) ?_
      refine lv_lload_n hx hb dX6_set_17 rfl (lv_at hl 3 rfl) ?_
      refine lv_aload_n hx hb dX6_set_18 rfl (lv_at hl 0 rfl) ?_
      refine va_get (D := G) (ci := 6) (v := .ref a6) (C := RX6) (T := TX6) (N := 4) hx hb hts (by decide +kernel) hown hK.1 hP 0 rfl rfl 1 (by decide) (hts (.fieldLink RX6 16 "CardHolder$Rows" "widths" "[I") (by decide +kernel)) (fun _ h9 => h9) rfl dX6_set_19 ?_
      refine lv_iload_n hx hb dX6_set_22 rfl (lv_at hl 1 rfl) ?_
      refine va_iald hx hb hK.1 hP 6 0 rfl rfl (in_rg h_9 (by decide)) dX6_set_23 ?_
      refine lv_topi (fun z23 gz23 => ?_)
      refine ro_calll (va_runS (As := [.long p2, .int z23]) (rest := [.int p1, .ref (rr 1)]) ⟨hx, hb, hml, hown, hts⟩ (a_X6_cut l G ct p2 z23) (va_cwS 2 hts gX6_set_X6_cut rfl rfl rfl (by decide +kernel) ⟨Nat.le_of_ble_eq_true rfl, Nat.le_of_ble_eq_true rfl⟩) (ro_pre hK (hP.sub [] rfl)) rfl rfl hl.1 rfl (lv_room (Nat.le_of_ble_eq_true rfl)) dX6_set_24 ⟨Nat.zero_le _, Nat.zero_le _⟩) hS hP (fun r24 H locs wr24 hP hS => ?_)
      refine va_last hx hb hK.1 hP hD hS 3 3 rfl rfl (in_rg h_7 (by decide)) dX6_set_27 (fun H locs hP hD hS => ?_)
      exact W.vret hx hb hr (fun t ht hW => ⟨⟨(fun k => ([] : List Int32).getD k 0, fun k => ([] : List (Nat → Int32)).getD k (fun _ => 0), fun k => ([f2, vp_updL f3 p1.toNatClampNeg r24, f4, f5] : List (Nat → Int64)).getD k (fun _ => 0)), rfl, trivial, hp_at ht hP⟩, hS.F ht⟩) hS.2.2 dX6_set_28
    · refine ix_i (y := 2) s15 ?_
      have h_10 : rg 2 2 p0 := r_eq_l_i (e := 2) (f := 2) s15 h_6 (rgn 2 (x := 2) (by decide)) (by decide)
      refine va_aldL hx hb hK.1 hP 1 5 rfl rfl (in_lit (by decide)) dX6_set_15 ?_
      refine ix_r (y := .ref (rr 2)) rfl ?_
      refine lv_iload_n hx hb dX6_set_16 rfl (lv_at hl 2 rfl) ?_
      refine lv_lload_n hx hb dX6_set_17 rfl (lv_at hl 3 rfl) ?_
      refine lv_aload_n hx hb dX6_set_18 rfl (lv_at hl 0 rfl) ?_
      refine va_get (D := G) (ci := 6) (v := .ref a6) (C := RX6) (T := TX6) (N := 4) hx hb hts (by decide +kernel) hown hK.1 hP 0 rfl rfl 1 (by decide) (hts (.fieldLink RX6 16 "CardHolder$Rows" "widths" "[I") (by decide +kernel)) (fun _ h9 => h9) rfl dX6_set_19 ?_
      refine lv_iload_n hx hb dX6_set_22 rfl (lv_at hl 1 rfl) ?_
      refine va_iald hx hb hK.1 hP 6 0 rfl rfl (in_rg h_10 (by decide)) dX6_set_23 ?_
      refine lv_topi (fun z23 gz23 => ?_)
      refine ro_calll (va_runS (As := [.long p2, .int z23]) (rest := [.int p1, .ref (rr 2)]) ⟨hx, hb, hml, hown, hts⟩ (a_X6_cut l G ct p2 z23) (va_cwS 2 hts gX6_set_X6_cut rfl rfl rfl (by decide +kernel) ⟨Nat.le_of_ble_eq_true rfl, Nat.le_of_ble_eq_true rfl⟩) (ro_pre hK (hP.sub [] rfl)) rfl rfl hl.1 rfl (lv_room (Nat.le_of_ble_eq_true rfl)) dX6_set_24 ⟨Nat.zero_le _, Nat.zero_le _⟩) hS hP (fun r24 H locs wr24 hP hS => ?_)
      refine va_last hx hb hK.1 hP hD hS 4 3 rfl rfl (in_rg h_7 (by decide)) dX6_set_27 (fun H locs hP hD hS => ?_)
      exact W.vret hx hb hr (fun t ht hW => ⟨⟨(fun k => ([] : List Int32).getD k 0, fun k => ([] : List (Nat → Int32)).getD k (fun _ => 0), fun k => ([f2, f3, vp_updL f4 p1.toNatClampNeg r24, f5] : List (Nat → Int64)).getD k (fun _ => 0)), rfl, trivial, hp_at ht hP⟩, hS.F ht⟩) hS.2.2 dX6_set_28
    · refine ix_i (y := 3) s15 ?_
      have h_11 : rg 3 3 p0 := r_eq_l_i (e := 3) (f := 3) s15 h_6 (rgn 3 (x := 3) (by decide)) (by decide)
      refine va_aldL hx hb hK.1 hP 1 5 rfl rfl (in_lit (by decide)) dX6_set_15 ?_
      refine ix_r (y := .ref (rr 3)) rfl ?_
      refine lv_iload_n hx hb dX6_set_16 rfl (lv_at hl 2 rfl) ?_
      refine lv_lload_n hx hb dX6_set_17 rfl (lv_at hl 3 rfl) ?_
      refine lv_aload_n hx hb dX6_set_18 rfl (lv_at hl 0 rfl) ?_
      refine va_get (D := G) (ci := 6) (v := .ref a6) (C := RX6) (T := TX6) (N := 4) hx hb hts (by decide +kernel) hown hK.1 hP 0 rfl rfl 1 (by decide) (hts (.fieldLink RX6 16 "CardHolder$Rows" "widths" "[I") (by decide +kernel)) (fun _ h9 => h9) rfl dX6_set_19 ?_
      refine lv_iload_n hx hb dX6_set_22 rfl (lv_at hl 1 rfl) ?_
      refine va_iald hx hb hK.1 hP 6 0 rfl rfl (in_rg h_11 (by decide)) dX6_set_23 ?_
      refine lv_topi (fun z23 gz23 => ?_)
      refine ro_calll (va_runS (As := [.long p2, .int z23]) (rest := [.int p1, .ref (rr 3)]) ⟨hx, hb, hml, hown, hts⟩ (a_X6_cut l G ct p2 z23) (va_cwS 2 hts gX6_set_X6_cut rfl rfl rfl (by decide +kernel) ⟨Nat.le_of_ble_eq_true rfl, Nat.le_of_ble_eq_true rfl⟩) (ro_pre hK (hP.sub [] rfl)) rfl rfl hl.1 rfl (lv_room (Nat.le_of_ble_eq_true rfl)) dX6_set_24 ⟨Nat.zero_le _, Nat.zero_le _⟩) hS hP (fun r24 H locs wr24 hP hS => ?_)
      refine va_last hx hb hK.1 hP hD hS 5 3 rfl rfl (in_rg h_7 (by decide)) dX6_set_27 (fun H locs hP hD hS => ?_)
      exact W.vret hx hb hr (fun t ht hW => ⟨⟨(fun k => ([] : List Int32).getD k 0, fun k => ([] : List (Nat → Int32)).getD k (fun _ => 0), fun k => ([f2, f3, f4, vp_updL f5 p1.toNatClampNeg r24] : List (Nat → Int64)).getD k (fun _ => 0)), rfl, trivial, hp_at ht hP⟩, hS.F ht⟩) hS.2.2 dX6_set_28

set_option maxHeartbeats 4000000 in
set_option maxRecDepth 100000 in
theorem a_X6_bitsOf (l : Launch) (G : va_G) (ct : Nat → ClassId) (a0 : Nat) (a1 : Nat) (a6 : Nat) (a7 : Nat) (n0_3 : Int32) (rr : Nat → Nat) (f2 : Nat → Int64) (f3 : Nat → Int64) (f4 : Nat → Int64) (f5 : Nat → Int64) (f7 : Nat → Int32) (p0 : Int32) (hp_f7 : ar 0 60 f7) : Met l yX6_bitsOf wsX6_bitsOf ({ frames := 4, cells := 0, slots := 0, locals := 87 }) (va_Pc [.ref a0, .int p0] (roP G ct [(a0, .inr (6, [.ref a1, .ref a6, .ref a7, .int n0_3])), (a1, .inl (ct 5, 4, .inr (.inr (.inr (.inr (fun i => if i < 4 then some (rr i) else none)))))), ((rr 0), .inl (ct 3, 60, .inr (.inl f2))), ((rr 1), .inl (ct 3, 60, .inr (.inl f3))), ((rr 2), .inl (ct 3, 60, .inr (.inl f4))), ((rr 3), .inl (ct 3, 60, .inr (.inl f5))), (a7, .inl (ct 0, 4, .inl f7))])) (roQ (fun r => True)) 0 0 no := by
  refine Met.ofW (cc := cX6_bitsOf) (maxL := 4) (ret := (some .int)) (by decide) rfl ?_
  intro p e s m args below meth c s₁ B hml hv
  obtain ⟨rfl, hP, hK⟩ := hv
  have hx := B.exec
  have hb := B.bytes
  have hr := B.returns
  have hts := atoms_spec (ws := wsX6_bitsOf) B.pre
  have hown : s.vm.findClass RX6 = some m.cls := findClass_of_methodNamed B.named
  have hlocks := B.notSynchronized
  have hS : va_S no s.heap s.heap [] := va_S.rf
  have hl := lv_entry ([.ref a0, .int p0]) (n := 4) (Nat.le_of_ble_eq_true rfl)
  rw [lg_entry_eq]
  generalize (lg_sl ([.ref a0, .int p0]) ++ List.replicate (4 - (lg_sl ([.ref a0, .int p0])).length) Slot.unset).toArray = ls at hl ⊢
  have hl : lv_has ls 4 [(0, .ref a0), (1, .int p0)] := hl
  refine lv_iconst (v := 0) hx hb dX6_bitsOf_0 (by decide) ?_
  refine lv_istore_n (lv' := [(2, .int 0), (0, .ref a0), (1, .int p0)]) hx hb dX6_bitsOf_1 rfl hl (by decide) rfl (fun ls hl => ?_)
  refine lv_iconst (v := 0) hx hb dX6_bitsOf_2 (by decide) ?_
  refine lv_istore_n (lv' := [(3, .int 0), (2, .int 0), (0, .ref a0), (1, .int p0)]) hx hb dX6_bitsOf_3 rfl hl (by decide) rfl (fun ls hl => ?_)
  have j4 : ∀ (n : Nat) (x4_2 : Int32) (x4_3 : Int32) (H : Heap) (locs : List Loc) (ls : Array Slot), 2147483648 ≤ x4_3.toInt + (n : Int) → rg 0 60 x4_3 → va_P G vwCl [(a0, .inr (6, [.ref a1, .ref a6, .ref a7, .int n0_3])), (a1, .inl (ct 5, 4, .inr (.inr (.inr (.inr (fun i => if i < 4 then some (rr i) else none)))))), ((rr 0), .inl (ct 3, 60, .inr (.inl f2))), ((rr 1), .inl (ct 3, 60, .inr (.inl f3))), ((rr 2), .inl (ct 3, 60, .inr (.inl f4))), ((rr 3), .inl (ct 3, 60, .inr (.inl f5))), (a7, .inl (ct 0, 4, .inl f7))] H → va_S no s.heap H locs → lv_has ls 4 [(0, .ref a0), (1, .int p0), (2, .int x4_2), (3, .int x4_3)] → W p l e (headSpec wsX6_bitsOf ({ frames := 4, cells := 0, slots := 0, locals := 87 })).room s m ([.ref a0, .int p0] : List Value).toArray below meth c H locs 0 0 (MQ below (roQ (fun r => True)) ([.ref a0, .int p0] : List Value).toArray s 0 0 no) (F0 m 4 ls []) := by
    intro n
    induction n with
    | zero => intro x4_2 x4_3 H locs ls hn4 hx4_3 hP hS hl; exact absurd hn4 (by have := Int32.toInt_lt x4_3; have := Int32.le_toInt x4_3; omega)
    | succ n ih4 =>
      intro x4_2 x4_3 H locs ls hn4 hx4_3 hP hS hl
      refine lv_iload_n hx hb dX6_bitsOf_4 rfl (lv_at hl 3 rfl) ?_
      refine lv_aload_n hx hb dX6_bitsOf_5 rfl (lv_at hl 0 rfl) ?_
      refine lv_iload_n hx hb dX6_bitsOf_6 rfl (lv_at hl 1 rfl) ?_
      refine ro_calli (va_runV (As := [.int p0]) (rest := [.int x4_3]) ⟨hx, hb, hml, hown, hts⟩ (a_X6_sizeOf l G ct a0 a1 a6 a7 n0_3 f7 p0 hp_f7) (cwV 1 hts gX6_bitsOf_X6_sizeOf rfl rfl rfl (by decide +kernel) ⟨Nat.le_of_ble_eq_true rfl, Nat.le_of_ble_eq_true rfl⟩) (ro_preV 6 0 hK (hP.sub [0, 6] rfl) rfl rfl) rfl rfl hl.1 rfl (lv_room (Nat.le_of_ble_eq_true rfl)) dX6_bitsOf_7 ⟨Nat.zero_le _, Nat.zero_le _⟩) hS hP (fun r7 H locs wr7 hP hS => ?_)
      obtain ⟨p_1, p_2, -⟩ := wr7
      refine lv_icmp_ge (tgt := 31) hx hb dX6_bitsOf_10 (by decide) (fun c10 => ?_) (fun c10 => ?_)
      · refine lv_iload_n hx hb dX6_bitsOf_31 rfl (lv_at hl 2 rfl) ?_
        exact W.iret (v := x4_2) hx hb hr (fun t ht hW => ⟨⟨x4_2, (), rfl, trivial, trivial⟩, hS.F ht⟩) hS.2.2 dX6_bitsOf_32
      · have h_3 : rg 0 59 x4_3 := r_lt_l_i (nle_i c10) hx4_3 p_1 (by decide)
        have h_4 : rg 1 60 r7 := r_lt_r_i (nle_i c10) hx4_3 p_1 (by decide)
        have h_5 : rg 0 3 p0 := (p_2 (rne h_4 (y := 0) (c := 0) (by decide) (by decide)))
        refine lv_iload_n hx hb dX6_bitsOf_13 rfl (lv_at hl 2 rfl) ?_
        refine lv_iconst (v := 1) hx hb dX6_bitsOf_14 (by decide) ?_
        refine lv_aload_n hx hb dX6_bitsOf_15 rfl (lv_at hl 0 rfl) ?_
        refine lv_iload_n hx hb dX6_bitsOf_16 rfl (lv_at hl 1 rfl) ?_
        refine lv_iload_n hx hb dX6_bitsOf_17 rfl (lv_at hl 3 rfl) ?_
        refine ro_calll (va_runV (As := [.int p0, .int x4_3]) (rest := [.int 1, .int x4_2]) ⟨hx, hb, hml, hown, hts⟩ (a_X6_get l G ct a0 a1 a6 a7 n0_3 rr f2 f3 f4 f5 f7 p0 x4_3 hp_f7) (cwV 2 hts gX6_bitsOf_X6_get rfl rfl rfl (by decide +kernel) ⟨Nat.le_of_ble_eq_true rfl, Nat.le_of_ble_eq_true rfl⟩) (ro_preV 6 0 hK (hP.sub [0, 1, 2, 3, 4, 5, 6] rfl) rfl rfl) rfl rfl hl.1 rfl (lv_room (Nat.le_of_ble_eq_true rfl)) dX6_bitsOf_18 ⟨Nat.zero_le _, Nat.zero_le _⟩) hS hP (fun r18 H locs wr18 hP hS => ?_)
        refine lv_l2i hx hb dX6_bitsOf_21 rfl ?_
        refine nm_0 (fun z21 => ?_)
        refine lv_ishl hx hb dX6_bitsOf_22 ?_
        refine nm_0 (fun z22 => ?_)
        refine lv_ior hx hb dX6_bitsOf_23 ?_
        refine nm_0 (fun z23 => ?_)
        refine lv_istore_n (lv' := [(2, .int z23), (0, .ref a0), (1, .int p0), (3, .int x4_3)]) hx hb dX6_bitsOf_24 rfl hl (by decide) rfl (fun ls hl => ?_)
        obtain ⟨z25, qz25⟩ : ∃ y : Int32, y = x4_3 + Int32.ofInt 1 := ⟨_, rfl⟩
        obtain ⟨hz25, ez25⟩ := inc_z (e := 1) (f := 60) h_3 qz25 (by decide)
        refine lv_iinc (v := z25) (lv' := [(3, .int z25), (2, .int z23), (0, .ref a0), (1, .int p0)]) hx hb dX6_bitsOf_25 hl (k := 3) rfl (qz25.symm) (by decide) rfl (fun ls hl => ?_)
        refine lv_goto (tgt := 4) hx hb dX6_bitsOf_28 (by decide) ?_
        exact ih4 z23 z25 _ _ ls (by have q := hn4; have := ez25; omega) (rg_w (c := 0) (d := 60) hz25 (by decide)) hP hS (lv_sub hl [2, 3, 1, 0] rfl)
  exact j4 4294967296 (0 : Int32) (0 : Int32) _ _ ls (ms_e (0 : Int32)) (rg_w (c := 0) (d := 60) (rgn 0 (x := 0) (by decide)) (by decide)) hP hS (lv_sub hl [2, 3, 1, 0] rfl)

set_option maxHeartbeats 4000000 in
set_option maxRecDepth 100000 in
theorem a_X6_isDayEnd (l : Launch) (G : va_G) (ct : Nat → ClassId) (a0 : Nat) (a1 : Nat) (a6 : Nat) (a7 : Nat) (n0_3 : Int32) (rr : Nat → Nat) (f2 : Nat → Int64) (f3 : Nat → Int64) (f4 : Nat → Int64) (f5 : Nat → Int64) (f7 : Nat → Int32) (p0 : Int32) (p1 : Int32) (hp_f7 : ar 0 60 f7) : Met l yX6_isDayEnd wsX6_isDayEnd ({ frames := 4, cells := 0, slots := 0, locals := 87 }) (va_Pc [.ref a0, .int p0, .int p1] (roP G ct [(a0, .inr (6, [.ref a1, .ref a6, .ref a7, .int n0_3])), (a1, .inl (ct 5, 4, .inr (.inr (.inr (.inr (fun i => if i < 4 then some (rr i) else none)))))), ((rr 0), .inl (ct 3, 60, .inr (.inl f2))), ((rr 1), .inl (ct 3, 60, .inr (.inl f3))), ((rr 2), .inl (ct 3, 60, .inr (.inl f4))), ((rr 3), .inl (ct 3, 60, .inr (.inl f5))), (a7, .inl (ct 0, 4, .inl f7))])) (roQ (fun r => rg 0 1 r ∧ True)) 0 0 no := by
  refine Met.ofW (cc := cX6_isDayEnd) (maxL := 3) (ret := (some .boolean)) (by decide) rfl ?_
  intro p e s m args below meth c s₁ B hml hv
  obtain ⟨rfl, hP, hK⟩ := hv
  have hx := B.exec
  have hb := B.bytes
  have hr := B.returns
  have hts := atoms_spec (ws := wsX6_isDayEnd) B.pre
  have hown : s.vm.findClass RX6 = some m.cls := findClass_of_methodNamed B.named
  have hlocks := B.notSynchronized
  have hS : va_S no s.heap s.heap [] := va_S.rf
  have hl := lv_entry ([.ref a0, .int p0, .int p1]) (n := 3) (Nat.le_of_ble_eq_true rfl)
  rw [lg_entry_eq]
  generalize (lg_sl ([.ref a0, .int p0, .int p1]) ++ List.replicate (3 - (lg_sl ([.ref a0, .int p0, .int p1])).length) Slot.unset).toArray = ls at hl ⊢
  have hl : lv_has ls 3 [(0, .ref a0), (1, .int p0), (2, .int p1)] := hl
  refine lv_aload_n hx hb dX6_isDayEnd_0 rfl (lv_at hl 0 rfl) ?_
  refine lv_iload_n hx hb dX6_isDayEnd_1 rfl (lv_at hl 1 rfl) ?_
  refine lv_iload_n hx hb dX6_isDayEnd_2 rfl (lv_at hl 2 rfl) ?_
  refine ro_calll (va_runV (As := [.int p0, .int p1]) (rest := []) ⟨hx, hb, hml, hown, hts⟩ (a_X6_get l G ct a0 a1 a6 a7 n0_3 rr f2 f3 f4 f5 f7 p0 p1 hp_f7) (cwV 2 hts gX6_isDayEnd_X6_get rfl rfl rfl (by decide +kernel) ⟨Nat.le_of_ble_eq_true rfl, Nat.le_of_ble_eq_true rfl⟩) (ro_preV 6 0 hK (hP.sub [0, 1, 2, 3, 4, 5, 6] rfl) rfl rfl) rfl rfl hl.1 rfl (lv_room (Nat.le_of_ble_eq_true rfl)) dX6_isDayEnd_3 ⟨Nat.zero_le _, Nat.zero_le _⟩) hS hP (fun r3 H locs wr3 hP hS => ?_)
  refine lv_ldc2 (own := RX6) (v := (-1)) hx hb hown (hts (.constantLong RX6 56 (-1)) (by decide +kernel)) dX6_isDayEnd_6 ?_
  refine W.lcmp hx hb dX6_isDayEnd_9 ?_
  refine lb_ne (tgt := 47) hx hb dX6_isDayEnd_10 (by decide) (fun c10 => ?_) (fun c10 => ?_)
  · refine lv_iconst (v := 0) hx hb dX6_isDayEnd_47 (by decide) ?_
    exact W.zret (v := 0) (ty := .boolean) hx hb hr (rfl) (fun t ht hW => ⟨⟨0, (), rfl, ⟨(rg_w (c := 0) (d := 1) (rgn 0 (x := 0) (by decide)) (by decide)), trivial⟩, trivial⟩, hS.F ht⟩) hS.2.2 dX6_isDayEnd_48
  · have h_1 : rl (-1) (-1) r3 := r_eq_l_l (e := (-1)) (f := (-1)) c10 (rl_t r3) (rln (-1) (x := (-1)) (by decide)) (by decide)
    refine lv_aload_n hx hb dX6_isDayEnd_13 rfl (lv_at hl 0 rfl) ?_
    refine lv_iload_n hx hb dX6_isDayEnd_14 rfl (lv_at hl 1 rfl) ?_
    refine lv_iload_n hx hb dX6_isDayEnd_15 rfl (lv_at hl 2 rfl) ?_
    refine lv_iconst (v := 1) hx hb dX6_isDayEnd_16 (by decide) ?_
    refine lv_iadd hx hb dX6_isDayEnd_17 ?_
    refine nm_0 (fun z17 => ?_)
    refine ro_calll (va_runV (As := [.int p0, .int z17]) (rest := []) ⟨hx, hb, hml, hown, hts⟩ (a_X6_get l G ct a0 a1 a6 a7 n0_3 rr f2 f3 f4 f5 f7 p0 z17 hp_f7) (cwV 2 hts gX6_isDayEnd_X6_get rfl rfl rfl (by decide +kernel) ⟨Nat.le_of_ble_eq_true rfl, Nat.le_of_ble_eq_true rfl⟩) (ro_preV 6 0 hK (hP.sub [0, 1, 2, 3, 4, 5, 6] rfl) rfl rfl) rfl rfl hl.1 rfl (lv_room (Nat.le_of_ble_eq_true rfl)) dX6_isDayEnd_18 ⟨Nat.zero_le _, Nat.zero_le _⟩) hS hP (fun r18 H locs wr18 hP hS => ?_)
    refine lv_ldc2 (own := RX6) (v := (-1)) hx hb hown (hts (.constantLong RX6 56 (-1)) (by decide +kernel)) dX6_isDayEnd_21 ?_
    refine W.lcmp hx hb dX6_isDayEnd_24 ?_
    refine lb_ne (tgt := 47) hx hb dX6_isDayEnd_25 (by decide) (fun c25 => ?_) (fun c25 => ?_)
    · refine lv_iconst (v := 0) hx hb dX6_isDayEnd_47 (by decide) ?_
      exact W.zret (v := 0) (ty := .boolean) hx hb hr (rfl) (fun t ht hW => ⟨⟨0, (), rfl, ⟨(rg_w (c := 0) (d := 1) (rgn 0 (x := 0) (by decide)) (by decide)), trivial⟩, trivial⟩, hS.F ht⟩) hS.2.2 dX6_isDayEnd_48
    · have h_2 : rl (-1) (-1) r18 := r_eq_l_l (e := (-1)) (f := (-1)) c25 (rl_t r18) (rln (-1) (x := (-1)) (by decide)) (by decide)
      refine lv_aload_n hx hb dX6_isDayEnd_28 rfl (lv_at hl 0 rfl) ?_
      refine lv_iload_n hx hb dX6_isDayEnd_29 rfl (lv_at hl 1 rfl) ?_
      refine lv_iload_n hx hb dX6_isDayEnd_30 rfl (lv_at hl 2 rfl) ?_
      refine lv_iconst (v := 2) hx hb dX6_isDayEnd_31 (by decide) ?_
      refine lv_iadd hx hb dX6_isDayEnd_32 ?_
      refine nm_0 (fun z32 => ?_)
      refine ro_calll (va_runV (As := [.int p0, .int z32]) (rest := []) ⟨hx, hb, hml, hown, hts⟩ (a_X6_get l G ct a0 a1 a6 a7 n0_3 rr f2 f3 f4 f5 f7 p0 z32 hp_f7) (cwV 2 hts gX6_isDayEnd_X6_get rfl rfl rfl (by decide +kernel) ⟨Nat.le_of_ble_eq_true rfl, Nat.le_of_ble_eq_true rfl⟩) (ro_preV 6 0 hK (hP.sub [0, 1, 2, 3, 4, 5, 6] rfl) rfl rfl) rfl rfl hl.1 rfl (lv_room (Nat.le_of_ble_eq_true rfl)) dX6_isDayEnd_33 ⟨Nat.zero_le _, Nat.zero_le _⟩) hS hP (fun r33 H locs wr33 hP hS => ?_)
      refine lv_ldc2 (own := RX6) (v := (-1)) hx hb hown (hts (.constantLong RX6 56 (-1)) (by decide +kernel)) dX6_isDayEnd_36 ?_
      refine W.lcmp hx hb dX6_isDayEnd_39 ?_
      refine lb_ne (tgt := 47) hx hb dX6_isDayEnd_40 (by decide) (fun c40 => ?_) (fun c40 => ?_)
      · refine lv_iconst (v := 0) hx hb dX6_isDayEnd_47 (by decide) ?_
        exact W.zret (v := 0) (ty := .boolean) hx hb hr (rfl) (fun t ht hW => ⟨⟨0, (), rfl, ⟨(rg_w (c := 0) (d := 1) (rgn 0 (x := 0) (by decide)) (by decide)), trivial⟩, trivial⟩, hS.F ht⟩) hS.2.2 dX6_isDayEnd_48
      · have h_3 : rl (-1) (-1) r33 := r_eq_l_l (e := (-1)) (f := (-1)) c40 (rl_t r33) (rln (-1) (x := (-1)) (by decide)) (by decide)
        refine lv_iconst (v := 1) hx hb dX6_isDayEnd_43 (by decide) ?_
        refine lv_goto (tgt := 48) hx hb dX6_isDayEnd_44 (by decide) ?_
        exact W.zret (v := 1) (ty := .boolean) hx hb hr (rfl) (fun t ht hW => ⟨⟨1, (), rfl, ⟨(rg_w (c := 0) (d := 1) (rgn 1 (x := 1) (by decide)) (by decide)), trivial⟩, trivial⟩, hS.F ht⟩) hS.2.2 dX6_isDayEnd_48

set_option maxHeartbeats 4000000 in
set_option maxRecDepth 100000 in
theorem a_X6_hasPlaces (l : Launch) (G : va_G) (ct : Nat → ClassId) (a0 : Nat) (a1 : Nat) (a6 : Nat) (a7 : Nat) (n0_3 : Int32) (f7 : Nat → Int32) (p0 : Int32) (p1 : Int32) (p2 : Int32) (hp_f7 : ar 0 60 f7) : Met l yX6_hasPlaces wsX6_hasPlaces ({ frames := 2, cells := 0, slots := 0, locals := 42 }) (va_Pc [.ref a0, .int p0, .int p1, .int p2] (roP G ct [(a0, .inr (6, [.ref a1, .ref a6, .ref a7, .int n0_3])), (a7, .inl (ct 0, 4, .inl f7))])) (roQ (fun r => rg 0 1 r ∧ (¬ r = 0 → rg 0 60 p1) ∧ (¬ r = 0 → rg 0 60 p2) ∧ (¬ r = 0 → p1.toInt + p2.toInt ≤ 60) ∧ True)) 0 0 no := by
  refine Met.ofW (cc := cX6_hasPlaces) (maxL := 4) (ret := (some .boolean)) (by decide) rfl ?_
  intro p e s m args below meth c s₁ B hml hv
  obtain ⟨rfl, hP, hK⟩ := hv
  have hx := B.exec
  have hb := B.bytes
  have hr := B.returns
  have hts := atoms_spec (ws := wsX6_hasPlaces) B.pre
  have hown : s.vm.findClass RX6 = some m.cls := findClass_of_methodNamed B.named
  have hlocks := B.notSynchronized
  have hS : va_S no s.heap s.heap [] := va_S.rf
  have hl := lv_entry ([.ref a0, .int p0, .int p1, .int p2]) (n := 4) (Nat.le_of_ble_eq_true rfl)
  rw [lg_entry_eq]
  generalize (lg_sl ([.ref a0, .int p0, .int p1, .int p2]) ++ List.replicate (4 - (lg_sl ([.ref a0, .int p0, .int p1, .int p2])).length) Slot.unset).toArray = ls at hl ⊢
  have hl : lv_has ls 4 [(0, .ref a0), (1, .int p0), (2, .int p1), (3, .int p2)] := hl
  refine lv_iload_n hx hb dX6_hasPlaces_0 rfl (lv_at hl 2 rfl) ?_
  refine lv_if_lt (tgt := 32) hx hb dX6_hasPlaces_1 (by decide) (fun c1 => ?_) (fun c1 => ?_)
  · have h_1 : rg (-2147483648) (-1) p1 := r_lt_l_i c1 (rg_t p1) (rgn 0 (x := 0) (by decide)) (by decide)
    refine lv_iconst (v := 0) hx hb dX6_hasPlaces_32 (by decide) ?_
    exact W.zret (v := 0) (ty := .boolean) hx hb hr (rfl) (fun t ht hW => ⟨⟨0, (), rfl, ⟨(rg_w (c := 0) (d := 1) (rgn 0 (x := 0) (by decide)) (by decide)), (fun hq => absurd (req (rgn 0 (x := 0) (by decide)) (y := 0) (by decide)) hq), (fun hq => absurd (req (rgn 0 (x := 0) (by decide)) (y := 0) (by decide)) hq), (fun hq => absurd (req (rgn 0 (x := 0) (by decide)) (y := 0) (by decide)) hq), trivial⟩, trivial⟩, hS.F ht⟩) hS.2.2 dX6_hasPlaces_33
  · have h_2 : rg 0 2147483647 p1 := r_le_r_i (nlt_i c1) (rgn 0 (x := 0) (by decide)) (rg_t p1)
    refine lv_iload_n hx hb dX6_hasPlaces_4 rfl (lv_at hl 3 rfl) ?_
    refine lv_if_lt (tgt := 32) hx hb dX6_hasPlaces_5 (by decide) (fun c5 => ?_) (fun c5 => ?_)
    · have h_3 : rg (-2147483648) (-1) p2 := r_lt_l_i c5 (rg_t p2) (rgn 0 (x := 0) (by decide)) (by decide)
      refine lv_iconst (v := 0) hx hb dX6_hasPlaces_32 (by decide) ?_
      exact W.zret (v := 0) (ty := .boolean) hx hb hr (rfl) (fun t ht hW => ⟨⟨0, (), rfl, ⟨(rg_w (c := 0) (d := 1) (rgn 0 (x := 0) (by decide)) (by decide)), (fun hq => absurd (req (rgn 0 (x := 0) (by decide)) (y := 0) (by decide)) hq), (fun hq => absurd (req (rgn 0 (x := 0) (by decide)) (y := 0) (by decide)) hq), (fun hq => absurd (req (rgn 0 (x := 0) (by decide)) (y := 0) (by decide)) hq), trivial⟩, trivial⟩, hS.F ht⟩) hS.2.2 dX6_hasPlaces_33
    · have h_4 : rg 0 2147483647 p2 := r_le_r_i (nlt_i c5) (rgn 0 (x := 0) (by decide)) (rg_t p2)
      refine lv_iload_n hx hb dX6_hasPlaces_8 rfl (lv_at hl 3 rfl) ?_
      refine lv_aload_n hx hb dX6_hasPlaces_9 rfl (lv_at hl 0 rfl) ?_
      refine lv_iload_n hx hb dX6_hasPlaces_10 rfl (lv_at hl 1 rfl) ?_
      refine ro_calli (va_runV (As := [.int p0]) (rest := [.int p2]) ⟨hx, hb, hml, hown, hts⟩ (a_X6_sizeOf l G ct a0 a1 a6 a7 n0_3 f7 p0 hp_f7) (cwV 1 hts gX6_hasPlaces_X6_sizeOf rfl rfl rfl (by decide +kernel) ⟨Nat.le_of_ble_eq_true rfl, Nat.le_of_ble_eq_true rfl⟩) (ro_preV 6 0 hK (hP.sub [0, 1] rfl) rfl rfl) rfl rfl hl.1 rfl (lv_room (Nat.le_of_ble_eq_true rfl)) dX6_hasPlaces_11 ⟨Nat.zero_le _, Nat.zero_le _⟩) hS hP (fun r11 H locs wr11 hP hS => ?_)
      obtain ⟨p_5, p_6, -⟩ := wr11
      refine lv_icmp_gt (tgt := 32) hx hb dX6_hasPlaces_14 (by decide) (fun c14 => ?_) (fun c14 => ?_)
      · have h_7 : rg 1 2147483647 p2 := r_lt_r_i c14 p_5 h_4 (by decide)
        refine lv_iconst (v := 0) hx hb dX6_hasPlaces_32 (by decide) ?_
        exact W.zret (v := 0) (ty := .boolean) hx hb hr (rfl) (fun t ht hW => ⟨⟨0, (), rfl, ⟨(rg_w (c := 0) (d := 1) (rgn 0 (x := 0) (by decide)) (by decide)), (fun hq => absurd (req (rgn 0 (x := 0) (by decide)) (y := 0) (by decide)) hq), (fun hq => absurd (req (rgn 0 (x := 0) (by decide)) (y := 0) (by decide)) hq), (fun hq => absurd (req (rgn 0 (x := 0) (by decide)) (y := 0) (by decide)) hq), trivial⟩, trivial⟩, hS.F ht⟩) hS.2.2 dX6_hasPlaces_33
      · have h_8 : rg 0 60 p2 := r_le_l_i (nlt_i c14) h_4 p_5
        refine lv_iload_n hx hb dX6_hasPlaces_17 rfl (lv_at hl 2 rfl) ?_
        refine lv_aload_n hx hb dX6_hasPlaces_18 rfl (lv_at hl 0 rfl) ?_
        refine lv_iload_n hx hb dX6_hasPlaces_19 rfl (lv_at hl 1 rfl) ?_
        refine ro_calli (va_runV (As := [.int p0]) (rest := [.int p1]) ⟨hx, hb, hml, hown, hts⟩ (a_X6_sizeOf l G ct a0 a1 a6 a7 n0_3 f7 p0 hp_f7) (cwV 1 hts gX6_hasPlaces_X6_sizeOf rfl rfl rfl (by decide +kernel) ⟨Nat.le_of_ble_eq_true rfl, Nat.le_of_ble_eq_true rfl⟩) (ro_preV 6 0 hK (hP.sub [0, 1] rfl) rfl rfl) rfl rfl hl.1 rfl (lv_room (Nat.le_of_ble_eq_true rfl)) dX6_hasPlaces_20 ⟨Nat.zero_le _, Nat.zero_le _⟩) hS hP (fun r20 H locs wr20 hP hS => ?_)
        obtain ⟨p_9, p_10, -⟩ := wr20
        refine lv_iload_n hx hb dX6_hasPlaces_23 rfl (lv_at hl 3 rfl) ?_
        refine lv_isub hx hb dX6_hasPlaces_24 ?_
        refine nm_sub (e1 := (-60)) (f := 60) p_9 h_8 (by decide) (fun z24 hz24 ez24 => ?_)
        refine lv_icmp_gt (tgt := 32) hx hb dX6_hasPlaces_25 (by decide) (fun c25 => ?_) (fun c25 => ?_)
        · refine lv_iconst (v := 0) hx hb dX6_hasPlaces_32 (by decide) ?_
          exact W.zret (v := 0) (ty := .boolean) hx hb hr (rfl) (fun t ht hW => ⟨⟨0, (), rfl, ⟨(rg_w (c := 0) (d := 1) (rgn 0 (x := 0) (by decide)) (by decide)), (fun hq => absurd (req (rgn 0 (x := 0) (by decide)) (y := 0) (by decide)) hq), (fun _ => h_8), (fun hq => absurd (req (rgn 0 (x := 0) (by decide)) (y := 0) (by decide)) hq), trivial⟩, trivial⟩, hS.F ht⟩) hS.2.2 dX6_hasPlaces_33
        · have h_11 : rg 0 60 p1 := r_le_l_i (nlt_i c25) h_2 hz24
          have h_12 : rg 0 60 z24 := r_le_r_i (nlt_i c25) h_2 hz24
          refine lv_iconst (v := 1) hx hb dX6_hasPlaces_28 (by decide) ?_
          refine lv_goto (tgt := 33) hx hb dX6_hasPlaces_29 (by decide) ?_
          exact W.zret (v := 1) (ty := .boolean) hx hb hr (rfl) (fun t ht hW => ⟨⟨1, (), rfl, ⟨(rg_w (c := 0) (d := 1) (rgn 1 (x := 1) (by decide)) (by decide)), (fun _ => h_11), (fun _ => h_8), (fun _ => by have := i_nlt c25; have := ez24; have := p_9; omega), trivial⟩, trivial⟩, hS.F ht⟩) hS.2.2 dX6_hasPlaces_33
