theorem dX2_begin_0 : decode cX2_begin 0 = .ok (.aload_n 0, 1) := by decide +kernel
theorem dX2_begin_1 : decode cX2_begin 1 = .ok (.getfield 12, 3) := by decide +kernel
theorem dX2_begin_4 : decode cX2_begin 4 = .ok (.aload_n 0, 1) := by decide +kernel
theorem dX2_begin_5 : decode cX2_begin 5 = .ok (.getfield 25, 3) := by decide +kernel
theorem dX2_begin_8 : decode cX2_begin 8 = .ok (.getfield 29, 3) := by decide +kernel
set_option maxRecDepth 20000 in
theorem ggX2_begin_X0_copyOf : GoodIn wsX2_begin wsX0_copyOf := goodIn_r _ [13, 14, 15, 16, 17, 18, 19, 35, 36] (by rfl) (by decide +kernel)
set_option maxRecDepth 20000 in
theorem gX2_begin_X0_copyOf : GoodIn wsX2_begin (wsV RX2 32 RX0 yX0_copyOf wsX0_copyOf) := goodIn_app (goodIn_r _ [9, 10, 11, 12] (by rfl) (by decide +kernel)) ggX2_begin_X0_copyOf
theorem dX2_begin_11 : decode cX2_begin 11 = .ok (.invokevirtual 32, 3) := by decide +kernel
theorem dX2_begin_14 : decode cX2_begin 14 = .ok (.iconst 0, 1) := by decide +kernel
theorem dX2_begin_15 : decode cX2_begin 15 = .ok (.istore_n 1, 1) := by decide +kernel
theorem dX2_begin_16 : decode cX2_begin 16 = .ok (.iload_n 1, 1) := by decide +kernel
theorem dX2_begin_17 : decode cX2_begin 17 = .ok (.bipush 8, 2) := by decide +kernel
theorem dX2_begin_19 : decode cX2_begin 19 = .ok (.if_icmp .ge 16, 3) := by decide +kernel
theorem dX2_begin_35 : decode cX2_begin 35 = .ok (.aload_n 0, 1) := by decide +kernel
theorem dX2_begin_36 : decode cX2_begin 36 = .ok (.iconst 0, 1) := by decide +kernel
theorem dX2_begin_37 : decode cX2_begin 37 = .ok (.putfield 36, 3) := by decide +kernel
theorem dX2_begin_40 : decode cX2_begin 40 = .ok (.aload_n 0, 1) := by decide +kernel
theorem dX2_begin_41 : decode cX2_begin 41 = .ok (.iconst 0, 1) := by decide +kernel
theorem dX2_begin_42 : decode cX2_begin 42 = .ok (.putfield 40, 3) := by decide +kernel
theorem dX2_begin_45 : decode cX2_begin 45 = .ok (.aload_n 0, 1) := by decide +kernel
theorem dX2_begin_46 : decode cX2_begin 46 = .ok (.iconst 0, 1) := by decide +kernel
theorem dX2_begin_47 : decode cX2_begin 47 = .ok (.putfield 43, 3) := by decide +kernel
theorem dX2_begin_50 : decode cX2_begin 50 = .ok (.aload_n 0, 1) := by decide +kernel
theorem dX2_begin_51 : decode cX2_begin 51 = .ok (.iconst 0, 1) := by decide +kernel
theorem dX2_begin_52 : decode cX2_begin 52 = .ok (.putfield 46, 3) := by decide +kernel
theorem dX2_begin_55 : decode cX2_begin 55 = .ok (.return_, 1) := by decide +kernel
theorem dX2_begin_22 : decode cX2_begin 22 = .ok (.aload_n 0, 1) := by decide +kernel
theorem dX2_begin_23 : decode cX2_begin 23 = .ok (.getfield 18, 3) := by decide +kernel
theorem dX2_begin_26 : decode cX2_begin 26 = .ok (.iload_n 1, 1) := by decide +kernel
theorem dX2_begin_27 : decode cX2_begin 27 = .ok (.iconst 0, 1) := by decide +kernel
theorem dX2_begin_28 : decode cX2_begin 28 = .ok (.iastore, 1) := by decide +kernel
theorem dX2_begin_29 : decode cX2_begin 29 = .ok (.iinc 1 1, 3) := by decide +kernel
theorem dX2_begin_32 : decode cX2_begin 32 = .ok (.goto (-16), 3) := by decide +kernel
theorem dX2_leftOf_0 : decode cX2_leftOf 0 = .ok (.aload_n 0, 1) := by decide +kernel
theorem dX2_leftOf_1 : decode cX2_leftOf 1 = .ok (.getfield 12, 3) := by decide +kernel
theorem dX2_leftOf_4 : decode cX2_leftOf 4 = .ok (.iload_n 1, 1) := by decide +kernel
set_option maxRecDepth 20000 in
theorem ggX2_leftOf_X0_holderOf : GoodIn wsX2_leftOf wsX0_holderOf := goodIn_r _ [8, 9, 10, 11, 12, 7, 13, 14, 32, 33] (by rfl) (by decide +kernel)
set_option maxRecDepth 20000 in
theorem gX2_leftOf_X0_holderOf : GoodIn wsX2_leftOf (wsV RX2 49 RX0 yX0_holderOf wsX0_holderOf) := goodIn_app (goodIn_r _ [4, 5, 6, 7] (by rfl) (by decide +kernel)) ggX2_leftOf_X0_holderOf
theorem dX2_leftOf_5 : decode cX2_leftOf 5 = .ok (.invokevirtual 49, 3) := by decide +kernel
theorem dX2_leftOf_8 : decode cX2_leftOf 8 = .ok (.iconst (-1), 1) := by decide +kernel
theorem dX2_leftOf_9 : decode cX2_leftOf 9 = .ok (.if_icmp .ne 5, 3) := by decide +kernel
theorem dX2_leftOf_14 : decode cX2_leftOf 14 = .ok (.aload_n 0, 1) := by decide +kernel
theorem dX2_leftOf_15 : decode cX2_leftOf 15 = .ok (.getfield 25, 3) := by decide +kernel
theorem dX2_leftOf_18 : decode cX2_leftOf 18 = .ok (.iload_n 1, 1) := by decide +kernel
set_option maxRecDepth 20000 in
theorem ggX2_leftOf_X9_limitOf : GoodIn wsX2_leftOf wsX9_limitOf := goodIn_r _ [19, 20, 21, 22, 23, 11, 12, 7, 13, 14, 34, 35, 36, 37, 38, 39, 40, 32, 33] (by rfl) (by decide +kernel)
set_option maxRecDepth 20000 in
theorem gX2_leftOf_X9_limitOf : GoodIn wsX2_leftOf (wsV RX2 53 RX9 yX9_limitOf wsX9_limitOf) := goodIn_app (goodIn_r _ [15, 16, 17, 18] (by rfl) (by decide +kernel)) ggX2_leftOf_X9_limitOf
theorem dX2_leftOf_19 : decode cX2_leftOf 19 = .ok (.invokevirtual 53, 3) := by decide +kernel
theorem dX2_leftOf_22 : decode cX2_leftOf 22 = .ok (.aload_n 0, 1) := by decide +kernel
theorem dX2_leftOf_23 : decode cX2_leftOf 23 = .ok (.getfield 18, 3) := by decide +kernel
theorem dX2_leftOf_26 : decode cX2_leftOf 26 = .ok (.iload_n 1, 1) := by decide +kernel
theorem dX2_leftOf_27 : decode cX2_leftOf 27 = .ok (.iaload, 1) := by decide +kernel
theorem dX2_leftOf_28 : decode cX2_leftOf 28 = .ok (.isub, 1) := by decide +kernel
theorem dX2_leftOf_29 : decode cX2_leftOf 29 = .ok (.ireturn, 1) := by decide +kernel
theorem dX2_leftOf_12 : decode cX2_leftOf 12 = .ok (.iconst 0, 1) := by decide +kernel
theorem dX2_leftOf_13 : decode cX2_leftOf 13 = .ok (.ireturn, 1) := by decide +kernel
theorem dX2_refusalToCome_0 : decode cX2_refusalToCome 0 = .ok (.aload_n 0, 1) := by decide +kernel
theorem dX2_refusalToCome_1 : decode cX2_refusalToCome 1 = .ok (.getfield 12, 3) := by decide +kernel
theorem dX2_refusalToCome_4 : decode cX2_refusalToCome 4 = .ok (.iload_n 2, 1) := by decide +kernel
set_option maxRecDepth 20000 in
theorem ggX2_refusalToCome_X0_holderOf : GoodIn wsX2_refusalToCome wsX0_holderOf := goodIn_r _ [7, 8, 9, 10, 11, 6, 12, 13, 25, 26] (by rfl) (by decide +kernel)
set_option maxRecDepth 20000 in
theorem gX2_refusalToCome_X0_holderOf : GoodIn wsX2_refusalToCome (wsV RX2 49 RX0 yX0_holderOf wsX0_holderOf) := goodIn_app (goodIn_r _ [3, 4, 5, 6] (by rfl) (by decide +kernel)) ggX2_refusalToCome_X0_holderOf
theorem dX2_refusalToCome_5 : decode cX2_refusalToCome 5 = .ok (.invokevirtual 49, 3) := by decide +kernel
theorem dX2_refusalToCome_8 : decode cX2_refusalToCome 8 = .ok (.iload_n 1, 1) := by decide +kernel
theorem dX2_refusalToCome_9 : decode cX2_refusalToCome 9 = .ok (.if_icmp .eq 5, 3) := by decide +kernel
theorem dX2_refusalToCome_14 : decode cX2_refusalToCome 14 = .ok (.aload_n 0, 1) := by decide +kernel
theorem dX2_refusalToCome_15 : decode cX2_refusalToCome 15 = .ok (.getfield 36, 3) := by decide +kernel
theorem dX2_refusalToCome_18 : decode cX2_refusalToCome 18 = .ok (.iload_n 2, 1) := by decide +kernel
set_option maxRecDepth 20000 in
theorem ggX2_refusalToCome_X10_bitOf : GoodIn wsX2_refusalToCome wsX10_bitOf := goodIn_r _ [16] (by rfl) (by decide +kernel)
set_option maxRecDepth 20000 in
theorem gX2_refusalToCome_X10_bitOf_n56 : GoodIn wsX2_refusalToCome (wsX10_bitOf) := ggX2_refusalToCome_X10_bitOf
theorem dX2_refusalToCome_19 : decode cX2_refusalToCome 19 = .ok (.invokestatic 56, 3) := by decide +kernel
theorem dX2_refusalToCome_22 : decode cX2_refusalToCome 22 = .ok (.iconst 1, 1) := by decide +kernel
theorem dX2_refusalToCome_23 : decode cX2_refusalToCome 23 = .ok (.if_icmp .ne 7, 3) := by decide +kernel
theorem dX2_refusalToCome_30 : decode cX2_refusalToCome 30 = .ok (.iconst 0, 1) := by decide +kernel
theorem dX2_refusalToCome_31 : decode cX2_refusalToCome 31 = .ok (.ireturn, 1) := by decide +kernel
theorem dX2_refusalToCome_26 : decode cX2_refusalToCome 26 = .ok (.iconst 2, 1) := by decide +kernel
theorem dX2_refusalToCome_27 : decode cX2_refusalToCome 27 = .ok (.goto 4, 3) := by decide +kernel
theorem dX2_refusalToCome_12 : decode cX2_refusalToCome 12 = .ok (.iconst 1, 1) := by decide +kernel
theorem dX2_refusalToCome_13 : decode cX2_refusalToCome 13 = .ok (.ireturn, 1) := by decide +kernel
theorem dX2_refusal_0 : decode cX2_refusal 0 = .ok (.aload_n 0, 1) := by decide +kernel
theorem dX2_refusal_1 : decode cX2_refusal 1 = .ok (.iload_n 1, 1) := by decide +kernel
theorem dX2_refusal_2 : decode cX2_refusal 2 = .ok (.iload_n 2, 1) := by decide +kernel
set_option maxRecDepth 20000 in
theorem ggX2_refusal_X2_refusalToCome : GoodIn wsX2_refusal wsX2_refusalToCome := goodIn_r _ [6, 7, 8, 9, 10, 11, 12, 13, 14, 15, 16, 17, 18, 19, 20, 21, 22, 31, 32, 33, 34, 35, 36, 37, 38, 39, 40] (by rfl) (by decide +kernel)
set_option maxRecDepth 20000 in
theorem gX2_refusal_X2_refusalToCome : GoodIn wsX2_refusal (wsV RX2 60 RX2 yX2_refusalToCome wsX2_refusalToCome) := goodIn_app (goodIn_r _ [2, 3, 4, 5] (by rfl) (by decide +kernel)) ggX2_refusal_X2_refusalToCome
theorem dX2_refusal_3 : decode cX2_refusal 3 = .ok (.invokevirtual 60, 3) := by decide +kernel
theorem dX2_refusal_6 : decode cX2_refusal 6 = .ok (.istore 4, 2) := by decide +kernel
theorem dX2_refusal_8 : decode cX2_refusal 8 = .ok (.iload 4, 2) := by decide +kernel
theorem dX2_refusal_10 : decode cX2_refusal 10 = .ok (.ifCond .eq 6, 3) := by decide +kernel
theorem dX2_refusal_16 : decode cX2_refusal 16 = .ok (.aload_n 0, 1) := by decide +kernel
theorem dX2_refusal_17 : decode cX2_refusal 17 = .ok (.getfield 25, 3) := by decide +kernel
theorem dX2_refusal_20 : decode cX2_refusal 20 = .ok (.iload_n 2, 1) := by decide +kernel
set_option maxRecDepth 20000 in
theorem ggX2_refusal_X9_deedsOf : GoodIn wsX2_refusal wsX9_deedsOf := goodIn_r _ [27, 28, 29, 30, 16, 17, 12, 18, 19, 41, 42, 43, 44, 45, 46, 47, 39, 40] (by rfl) (by decide +kernel)
set_option maxRecDepth 20000 in
theorem gX2_refusal_X9_deedsOf : GoodIn wsX2_refusal (wsV RX2 63 RX9 yX9_deedsOf wsX9_deedsOf) := goodIn_app (goodIn_r _ [23, 24, 25, 26] (by rfl) (by decide +kernel)) ggX2_refusal_X9_deedsOf
theorem dX2_refusal_21 : decode cX2_refusal 21 = .ok (.invokevirtual 63, 3) := by decide +kernel
theorem dX2_refusal_24 : decode cX2_refusal 24 = .ok (.iload_n 3, 1) := by decide +kernel
set_option maxRecDepth 20000 in
theorem ggX2_refusal_X10_bitOf : GoodIn wsX2_refusal wsX10_bitOf := goodIn_r _ [22] (by rfl) (by decide +kernel)
set_option maxRecDepth 20000 in
theorem gX2_refusal_X10_bitOf_n56 : GoodIn wsX2_refusal (wsX10_bitOf) := ggX2_refusal_X10_bitOf
theorem dX2_refusal_25 : decode cX2_refusal 25 = .ok (.invokestatic 56, 3) := by decide +kernel
theorem dX2_refusal_28 : decode cX2_refusal 28 = .ok (.iconst 1, 1) := by decide +kernel
theorem dX2_refusal_29 : decode cX2_refusal 29 = .ok (.if_icmp .ne 7, 3) := by decide +kernel
theorem dX2_refusal_36 : decode cX2_refusal 36 = .ok (.iconst 3, 1) := by decide +kernel
theorem dX2_refusal_37 : decode cX2_refusal 37 = .ok (.ireturn, 1) := by decide +kernel
theorem dX2_refusal_32 : decode cX2_refusal 32 = .ok (.iconst 0, 1) := by decide +kernel
theorem dX2_refusal_33 : decode cX2_refusal 33 = .ok (.goto 4, 3) := by decide +kernel
theorem dX2_refusal_13 : decode cX2_refusal 13 = .ok (.iload 4, 2) := by decide +kernel
theorem dX2_refusal_15 : decode cX2_refusal 15 = .ok (.ireturn, 1) := by decide +kernel
theorem dX2_wearCard_0 : decode cX2_wearCard 0 = .ok (.aload_n 0, 1) := by decide +kernel
theorem dX2_wearCard_1 : decode cX2_wearCard 1 = .ok (.getfield 12, 3) := by decide +kernel
theorem dX2_wearCard_4 : decode cX2_wearCard 4 = .ok (.iload_n 1, 1) := by decide +kernel
set_option maxRecDepth 20000 in
theorem ggX2_wearCard_X0_has : GoodIn wsX2_wearCard wsX0_has := goodIn_r _ [9, 10, 34, 35] (by rfl) (by decide +kernel)
set_option maxRecDepth 20000 in
theorem gX2_wearCard_X0_has : GoodIn wsX2_wearCard (wsV RX2 66 RX0 yX0_has wsX0_has) := goodIn_app (goodIn_r _ [5, 6, 7, 8] (by rfl) (by decide +kernel)) ggX2_wearCard_X0_has
theorem dX2_wearCard_5 : decode cX2_wearCard 5 = .ok (.invokevirtual 66, 3) := by decide +kernel
theorem dX2_wearCard_8 : decode cX2_wearCard 8 = .ok (.ifCond .ne 4, 3) := by decide +kernel
theorem dX2_wearCard_12 : decode cX2_wearCard 12 = .ok (.aload_n 0, 1) := by decide +kernel
theorem dX2_wearCard_13 : decode cX2_wearCard 13 = .ok (.dup, 1) := by decide +kernel
theorem dX2_wearCard_14 : decode cX2_wearCard 14 = .ok (.getfield 36, 3) := by decide +kernel
theorem dX2_wearCard_17 : decode cX2_wearCard 17 = .ok (.iconst 1, 1) := by decide +kernel
theorem dX2_wearCard_18 : decode cX2_wearCard 18 = .ok (.iload_n 1, 1) := by decide +kernel
theorem dX2_wearCard_19 : decode cX2_wearCard 19 = .ok (.ishl, 1) := by decide +kernel
theorem dX2_wearCard_20 : decode cX2_wearCard 20 = .ok (.ior, 1) := by decide +kernel
theorem dX2_wearCard_21 : decode cX2_wearCard 21 = .ok (.putfield 36, 3) := by decide +kernel
theorem dX2_wearCard_24 : decode cX2_wearCard 24 = .ok (.aload_n 0, 1) := by decide +kernel
theorem dX2_wearCard_25 : decode cX2_wearCard 25 = .ok (.getfield 18, 3) := by decide +kernel
theorem dX2_wearCard_28 : decode cX2_wearCard 28 = .ok (.iload_n 1, 1) := by decide +kernel
theorem dX2_wearCard_29 : decode cX2_wearCard 29 = .ok (.dup2, 1) := by decide +kernel
theorem dX2_wearCard_30 : decode cX2_wearCard 30 = .ok (.iaload, 1) := by decide +kernel
theorem dX2_wearCard_31 : decode cX2_wearCard 31 = .ok (.iconst 1, 1) := by decide +kernel
theorem dX2_wearCard_32 : decode cX2_wearCard 32 = .ok (.iadd, 1) := by decide +kernel
theorem dX2_wearCard_33 : decode cX2_wearCard 33 = .ok (.iastore, 1) := by decide +kernel
theorem dX2_wearCard_34 : decode cX2_wearCard 34 = .ok (.aload_n 0, 1) := by decide +kernel
theorem dX2_wearCard_35 : decode cX2_wearCard 35 = .ok (.getfield 18, 3) := by decide +kernel
theorem dX2_wearCard_38 : decode cX2_wearCard 38 = .ok (.iload_n 1, 1) := by decide +kernel
theorem dX2_wearCard_39 : decode cX2_wearCard 39 = .ok (.iaload, 1) := by decide +kernel
theorem dX2_wearCard_40 : decode cX2_wearCard 40 = .ok (.aload_n 0, 1) := by decide +kernel
theorem dX2_wearCard_41 : decode cX2_wearCard 41 = .ok (.getfield 25, 3) := by decide +kernel
theorem dX2_wearCard_44 : decode cX2_wearCard 44 = .ok (.iload_n 1, 1) := by decide +kernel
set_option maxRecDepth 20000 in
theorem ggX2_wearCard_X9_limitOf : GoodIn wsX2_wearCard wsX9_limitOf := goodIn_r _ [15, 16, 17, 18, 19, 6, 7, 8, 9, 10, 36, 37, 38, 39, 40, 41, 42, 34, 35] (by rfl) (by decide +kernel)
set_option maxRecDepth 20000 in
theorem gX2_wearCard_X9_limitOf : GoodIn wsX2_wearCard (wsV RX2 53 RX9 yX9_limitOf wsX9_limitOf) := goodIn_app (goodIn_r _ [11, 12, 13, 14] (by rfl) (by decide +kernel)) ggX2_wearCard_X9_limitOf
theorem dX2_wearCard_45 : decode cX2_wearCard 45 = .ok (.invokevirtual 53, 3) := by decide +kernel
theorem dX2_wearCard_48 : decode cX2_wearCard 48 = .ok (.if_icmp .lt 12, 3) := by decide +kernel
theorem dX2_wearCard_60 : decode cX2_wearCard 60 = .ok (.return_, 1) := by decide +kernel
theorem dX2_wearCard_51 : decode cX2_wearCard 51 = .ok (.aload_n 0, 1) := by decide +kernel
theorem dX2_wearCard_52 : decode cX2_wearCard 52 = .ok (.getfield 12, 3) := by decide +kernel
theorem dX2_wearCard_55 : decode cX2_wearCard 55 = .ok (.iload_n 1, 1) := by decide +kernel
theorem dX2_wearCard_56 : decode cX2_wearCard 56 = .ok (.iconst (-1), 1) := by decide +kernel
set_option maxRecDepth 20000 in
theorem ggX2_wearCard_X0_put : GoodIn wsX2_wearCard wsX0_put := goodIn_r _ [23, 24, 25, 6, 7, 8, 9, 10, 34, 35] (by rfl) (by decide +kernel)
set_option maxRecDepth 20000 in
theorem gX2_wearCard_X0_put : GoodIn wsX2_wearCard (wsV RX2 70 RX0 yX0_put wsX0_put) := goodIn_app (goodIn_r _ [20, 21, 22, 8] (by rfl) (by decide +kernel)) ggX2_wearCard_X0_put
theorem dX2_wearCard_57 : decode cX2_wearCard 57 = .ok (.invokevirtual 70, 3) := by decide +kernel
theorem dX2_wearCard_11 : decode cX2_wearCard 11 = .ok (.return_, 1) := by decide +kernel
theorem dX2_changeHands_0 : decode cX2_changeHands 0 = .ok (.aload_n 0, 1) := by decide +kernel
theorem dX2_changeHands_1 : decode cX2_changeHands 1 = .ok (.getfield 12, 3) := by decide +kernel
theorem dX2_changeHands_4 : decode cX2_changeHands 4 = .ok (.iload_n 1, 1) := by decide +kernel
set_option maxRecDepth 20000 in
theorem ggX2_changeHands_X0_holderOf : GoodIn wsX2_changeHands wsX0_holderOf := goodIn_r _ [6, 7, 8, 9, 10, 5, 11, 12, 25, 26] (by rfl) (by decide +kernel)
set_option maxRecDepth 20000 in
theorem gX2_changeHands_X0_holderOf : GoodIn wsX2_changeHands (wsV RX2 49 RX0 yX0_holderOf wsX0_holderOf) := goodIn_app (goodIn_r _ [2, 3, 4, 5] (by rfl) (by decide +kernel)) ggX2_changeHands_X0_holderOf
theorem dX2_changeHands_5 : decode cX2_changeHands 5 = .ok (.invokevirtual 49, 3) := by decide +kernel
theorem dX2_changeHands_8 : decode cX2_changeHands 8 = .ok (.istore_n 3, 1) := by decide +kernel
theorem dX2_changeHands_9 : decode cX2_changeHands 9 = .ok (.aload_n 0, 1) := by decide +kernel
theorem dX2_changeHands_10 : decode cX2_changeHands 10 = .ok (.getfield 12, 3) := by decide +kernel
theorem dX2_changeHands_13 : decode cX2_changeHands 13 = .ok (.iload_n 1, 1) := by decide +kernel
theorem dX2_changeHands_14 : decode cX2_changeHands 14 = .ok (.aload_n 0, 1) := by decide +kernel
theorem dX2_changeHands_15 : decode cX2_changeHands 15 = .ok (.getfield 12, 3) := by decide +kernel
theorem dX2_changeHands_18 : decode cX2_changeHands 18 = .ok (.iload_n 2, 1) := by decide +kernel
theorem dX2_changeHands_19 : decode cX2_changeHands 19 = .ok (.invokevirtual 49, 3) := by decide +kernel
set_option maxRecDepth 20000 in
theorem ggX2_changeHands_X0_put : GoodIn wsX2_changeHands wsX0_put := goodIn_r _ [16, 7, 8, 9, 10, 5, 11, 12, 25, 26] (by rfl) (by decide +kernel)
set_option maxRecDepth 20000 in
theorem gX2_changeHands_X0_put : GoodIn wsX2_changeHands (wsV RX2 70 RX0 yX0_put wsX0_put) := goodIn_app (goodIn_r _ [13, 14, 15, 5] (by rfl) (by decide +kernel)) ggX2_changeHands_X0_put
theorem dX2_changeHands_22 : decode cX2_changeHands 22 = .ok (.invokevirtual 70, 3) := by decide +kernel
theorem dX2_changeHands_25 : decode cX2_changeHands 25 = .ok (.aload_n 0, 1) := by decide +kernel
theorem dX2_changeHands_26 : decode cX2_changeHands 26 = .ok (.getfield 12, 3) := by decide +kernel
theorem dX2_changeHands_29 : decode cX2_changeHands 29 = .ok (.iload_n 2, 1) := by decide +kernel
theorem dX2_changeHands_30 : decode cX2_changeHands 30 = .ok (.iload_n 3, 1) := by decide +kernel
theorem dX2_changeHands_31 : decode cX2_changeHands 31 = .ok (.invokevirtual 70, 3) := by decide +kernel
theorem dX2_changeHands_34 : decode cX2_changeHands 34 = .ok (.return_, 1) := by decide +kernel
theorem dX2_rob_0 : decode cX2_rob 0 = .ok (.aload_n 0, 1) := by decide +kernel
theorem dX2_rob_1 : decode cX2_rob 1 = .ok (.getfield 12, 3) := by decide +kernel
theorem dX2_rob_4 : decode cX2_rob 4 = .ok (.iload_n 2, 1) := by decide +kernel
set_option maxRecDepth 20000 in
theorem ggX2_rob_X0_has : GoodIn wsX2_rob wsX0_has := goodIn_r _ [8, 9, 28, 29] (by rfl) (by decide +kernel)
set_option maxRecDepth 20000 in
theorem gX2_rob_X0_has : GoodIn wsX2_rob (wsV RX2 66 RX0 yX0_has wsX0_has) := goodIn_app (goodIn_r _ [4, 5, 6, 7] (by rfl) (by decide +kernel)) ggX2_rob_X0_has
theorem dX2_rob_5 : decode cX2_rob 5 = .ok (.invokevirtual 66, 3) := by decide +kernel
theorem dX2_rob_8 : decode cX2_rob 8 = .ok (.ifCond .ne 4, 3) := by decide +kernel
theorem dX2_rob_12 : decode cX2_rob 12 = .ok (.aload_n 0, 1) := by decide +kernel
theorem dX2_rob_13 : decode cX2_rob 13 = .ok (.getfield 22, 3) := by decide +kernel
theorem dX2_rob_16 : decode cX2_rob 16 = .ok (.iload_n 2, 1) := by decide +kernel
theorem dX2_rob_17 : decode cX2_rob 17 = .ok (.aload_n 0, 1) := by decide +kernel
theorem dX2_rob_18 : decode cX2_rob 18 = .ok (.getfield 12, 3) := by decide +kernel
theorem dX2_rob_21 : decode cX2_rob 21 = .ok (.iload_n 2, 1) := by decide +kernel
set_option maxRecDepth 20000 in
theorem ggX2_rob_X0_holderOf : GoodIn wsX2_rob wsX0_holderOf := goodIn_r _ [13, 14, 15, 5, 6, 7, 8, 9, 28, 29] (by rfl) (by decide +kernel)
set_option maxRecDepth 20000 in
theorem gX2_rob_X0_holderOf : GoodIn wsX2_rob (wsV RX2 49 RX0 yX0_holderOf wsX0_holderOf) := goodIn_app (goodIn_r _ [10, 11, 12, 7] (by rfl) (by decide +kernel)) ggX2_rob_X0_holderOf
theorem dX2_rob_22 : decode cX2_rob 22 = .ok (.invokevirtual 49, 3) := by decide +kernel
theorem dX2_rob_25 : decode cX2_rob 25 = .ok (.iastore, 1) := by decide +kernel
theorem dX2_rob_26 : decode cX2_rob 26 = .ok (.aload_n 0, 1) := by decide +kernel
theorem dX2_rob_27 : decode cX2_rob 27 = .ok (.dup, 1) := by decide +kernel
theorem dX2_rob_28 : decode cX2_rob 28 = .ok (.getfield 40, 3) := by decide +kernel
theorem dX2_rob_31 : decode cX2_rob 31 = .ok (.iconst 1, 1) := by decide +kernel
theorem dX2_rob_32 : decode cX2_rob 32 = .ok (.iload_n 2, 1) := by decide +kernel
theorem dX2_rob_33 : decode cX2_rob 33 = .ok (.ishl, 1) := by decide +kernel
theorem dX2_rob_34 : decode cX2_rob 34 = .ok (.ior, 1) := by decide +kernel
theorem dX2_rob_35 : decode cX2_rob 35 = .ok (.putfield 40, 3) := by decide +kernel
theorem dX2_rob_38 : decode cX2_rob 38 = .ok (.aload_n 0, 1) := by decide +kernel
theorem dX2_rob_39 : decode cX2_rob 39 = .ok (.getfield 12, 3) := by decide +kernel
theorem dX2_rob_42 : decode cX2_rob 42 = .ok (.iload_n 2, 1) := by decide +kernel
theorem dX2_rob_43 : decode cX2_rob 43 = .ok (.iload_n 1, 1) := by decide +kernel
set_option maxRecDepth 20000 in
theorem ggX2_rob_X0_put : GoodIn wsX2_rob wsX0_put := goodIn_r _ [19, 14, 15, 5, 6, 7, 8, 9, 28, 29] (by rfl) (by decide +kernel)
set_option maxRecDepth 20000 in
theorem gX2_rob_X0_put : GoodIn wsX2_rob (wsV RX2 70 RX0 yX0_put wsX0_put) := goodIn_app (goodIn_r _ [16, 17, 18, 7] (by rfl) (by decide +kernel)) ggX2_rob_X0_put
theorem dX2_rob_44 : decode cX2_rob 44 = .ok (.invokevirtual 70, 3) := by decide +kernel
theorem dX2_rob_47 : decode cX2_rob 47 = .ok (.return_, 1) := by decide +kernel
theorem dX2_rob_11 : decode cX2_rob 11 = .ok (.return_, 1) := by decide +kernel
theorem dX2_endDay_0 : decode cX2_endDay 0 = .ok (.iconst 0, 1) := by decide +kernel
theorem dX2_endDay_1 : decode cX2_endDay 1 = .ok (.istore_n 1, 1) := by decide +kernel
theorem dX2_endDay_2 : decode cX2_endDay 2 = .ok (.iload_n 1, 1) := by decide +kernel
theorem dX2_endDay_3 : decode cX2_endDay 3 = .ok (.aload_n 0, 1) := by decide +kernel
theorem dX2_endDay_4 : decode cX2_endDay 4 = .ok (.getfield 12, 3) := by decide +kernel
theorem dX2_endDay_7 : decode cX2_endDay 7 = .ok (.getfield 74, 3) := by decide +kernel
theorem dX2_endDay_10 : decode cX2_endDay 10 = .ok (.if_icmp .ge 47, 3) := by decide +kernel
theorem dX2_endDay_57 : decode cX2_endDay 57 = .ok (.aload_n 0, 1) := by decide +kernel
theorem dX2_endDay_58 : decode cX2_endDay 58 = .ok (.iconst 0, 1) := by decide +kernel
theorem dX2_endDay_59 : decode cX2_endDay 59 = .ok (.putfield 40, 3) := by decide +kernel
theorem dX2_endDay_62 : decode cX2_endDay 62 = .ok (.aload_n 0, 1) := by decide +kernel
theorem dX2_endDay_63 : decode cX2_endDay 63 = .ok (.iconst 0, 1) := by decide +kernel
theorem dX2_endDay_64 : decode cX2_endDay 64 = .ok (.putfield 36, 3) := by decide +kernel
theorem dX2_endDay_67 : decode cX2_endDay 67 = .ok (.aload_n 0, 1) := by decide +kernel
theorem dX2_endDay_68 : decode cX2_endDay 68 = .ok (.dup, 1) := by decide +kernel
theorem dX2_endDay_69 : decode cX2_endDay 69 = .ok (.getfield 43, 3) := by decide +kernel
theorem dX2_endDay_72 : decode cX2_endDay 72 = .ok (.iconst 1, 1) := by decide +kernel
theorem dX2_endDay_73 : decode cX2_endDay 73 = .ok (.iadd, 1) := by decide +kernel
theorem dX2_endDay_74 : decode cX2_endDay 74 = .ok (.putfield 43, 3) := by decide +kernel
theorem dX2_endDay_77 : decode cX2_endDay 77 = .ok (.return_, 1) := by decide +kernel
theorem dX2_endDay_13 : decode cX2_endDay 13 = .ok (.aload_n 0, 1) := by decide +kernel
theorem dX2_endDay_14 : decode cX2_endDay 14 = .ok (.getfield 40, 3) := by decide +kernel
theorem dX2_endDay_17 : decode cX2_endDay 17 = .ok (.iload_n 1, 1) := by decide +kernel
set_option maxRecDepth 20000 in
theorem ggX2_endDay_X10_bitOf : GoodIn wsX2_endDay wsX10_bitOf := goodIn_r _ [9] (by rfl) (by decide +kernel)
set_option maxRecDepth 20000 in
theorem gX2_endDay_X10_bitOf_n56 : GoodIn wsX2_endDay (wsX10_bitOf) := ggX2_endDay_X10_bitOf
theorem dX2_endDay_18 : decode cX2_endDay 18 = .ok (.invokestatic 56, 3) := by decide +kernel
theorem dX2_endDay_21 : decode cX2_endDay 21 = .ok (.iconst 1, 1) := by decide +kernel
theorem dX2_endDay_51 : decode cX2_endDay 51 = .ok (.iinc 1 1, 3) := by decide +kernel
theorem dX2_endDay_54 : decode cX2_endDay 54 = .ok (.goto (-52), 3) := by decide +kernel
theorem dX2_endDay_22 : decode cX2_endDay 22 = .ok (.if_icmp .ne 29, 3) := by decide +kernel
theorem dX2_endDay_25 : decode cX2_endDay 25 = .ok (.aload_n 0, 1) := by decide +kernel
theorem dX2_endDay_26 : decode cX2_endDay 26 = .ok (.getfield 12, 3) := by decide +kernel
theorem dX2_endDay_29 : decode cX2_endDay 29 = .ok (.iload_n 1, 1) := by decide +kernel
set_option maxRecDepth 20000 in
theorem ggX2_endDay_X0_holderOf : GoodIn wsX2_endDay wsX0_holderOf := goodIn_r _ [14, 15, 16, 17, 18, 13, 19, 20, 33, 34] (by rfl) (by decide +kernel)
set_option maxRecDepth 20000 in
theorem gX2_endDay_X0_holderOf : GoodIn wsX2_endDay (wsV RX2 49 RX0 yX0_holderOf wsX0_holderOf) := goodIn_app (goodIn_r _ [10, 11, 12, 13] (by rfl) (by decide +kernel)) ggX2_endDay_X0_holderOf
theorem dX2_endDay_30 : decode cX2_endDay 30 = .ok (.invokevirtual 49, 3) := by decide +kernel
theorem dX2_endDay_33 : decode cX2_endDay 33 = .ok (.iconst (-1), 1) := by decide +kernel
theorem dX2_endDay_34 : decode cX2_endDay 34 = .ok (.if_icmp .eq 17, 3) := by decide +kernel
theorem dX2_endDay_37 : decode cX2_endDay 37 = .ok (.aload_n 0, 1) := by decide +kernel
theorem dX2_endDay_38 : decode cX2_endDay 38 = .ok (.getfield 12, 3) := by decide +kernel
theorem dX2_endDay_41 : decode cX2_endDay 41 = .ok (.iload_n 1, 1) := by decide +kernel
theorem dX2_endDay_42 : decode cX2_endDay 42 = .ok (.aload_n 0, 1) := by decide +kernel
theorem dX2_endDay_43 : decode cX2_endDay 43 = .ok (.getfield 22, 3) := by decide +kernel
theorem dX2_endDay_46 : decode cX2_endDay 46 = .ok (.iload_n 1, 1) := by decide +kernel
theorem dX2_endDay_47 : decode cX2_endDay 47 = .ok (.iaload, 1) := by decide +kernel
set_option maxRecDepth 20000 in
theorem ggX2_endDay_X0_put : GoodIn wsX2_endDay wsX0_put := goodIn_r _ [24, 15, 16, 17, 18, 13, 19, 20, 33, 34] (by rfl) (by decide +kernel)
set_option maxRecDepth 20000 in
theorem gX2_endDay_X0_put : GoodIn wsX2_endDay (wsV RX2 70 RX0 yX0_put wsX0_put) := goodIn_app (goodIn_r _ [21, 22, 23, 13] (by rfl) (by decide +kernel)) ggX2_endDay_X0_put
theorem dX2_endDay_48 : decode cX2_endDay 48 = .ok (.invokevirtual 70, 3) := by decide +kernel
set_option maxHeartbeats 4000000 in
set_option maxRecDepth 100000 in
theorem a_X2_begin (l : Launch) (G : va_G) (ct : Nat → ClassId) (a0 : Nat) (a1 : Nat) (a3 : Nat) (a4 : Nat) (a5 : Nat) (a6 : Nat) (n0_5 : Int32) (n0_6 : Int32) (a2 : Nat) (n1_1 : Int32) (f2 : Nat → Int32) (a7 : Nat) (a8 : Nat) (a10 : Nat) (a11 : Nat) (n7_4 : Int32) (n7_5 : Int32) (n7_6 : Int32) (n7_7 : Int32) (a9 : Nat) (n8_1 : Int32) (f9 : Nat → Int32) (f10 : Nat → Int32) (hp_n1_1 : rg 0 8 n1_1) (hp_n8_1 : rg 0 8 n8_1) : Met l yX2_begin wsX2_begin ({ frames := 2, cells := 0, slots := 0, locals := 81 }) (va_Pc [.ref a7] (wrP G ct [(a0, .inr (9, [.ref a1, .ref a3, .ref a4, .ref a5, .ref a6, .int n0_5, .int n0_6])), (a1, .inr (0, [.ref a2, .int n1_1])), (a2, .inl (ct 0, 8, .inl f2)), (a7, .inr (2, [.ref a0, .ref a8, .ref a10, .ref a11, .int n7_4, .int n7_5, .int n7_6, .int n7_7])), (a8, .inr (0, [.ref a9, .int n8_1])), (a9, .inl (ct 0, 8, .inl f9)), (a10, .inl (ct 0, 8, .inl f10))])) (va_Qv (fun u : SU => rg 0 0 (u.1 0) ∧ rg 0 0 (u.1 1) ∧ rg 0 0 (u.1 2) ∧ rg 0 0 (u.1 3) ∧ rg 0 8 (u.1 4) ∧ True) (fun u t => va_P G vwCl ((fun u : SU => [(a0, .inr (9, [.ref a1, .ref a3, .ref a4, .ref a5, .ref a6, .int n0_5, .int n0_6])), (a1, .inr (0, [.ref a2, .int n1_1])), (a2, .inl (ct 0, 8, .inl f2)), (a7, .inr (2, [.ref a0, .ref a8, .ref a10, .ref a11, .int (u.1 0), .int (u.1 1), .int (u.1 2), .int (u.1 3)])), (a8, .inr (0, [.ref a9, .int (u.1 4)])), (a9, .inl (ct 0, 8, .inl (u.2.1 0))), (a10, .inl (ct 0, 8, .inl (u.2.1 1)))]) u) t.heap) (aset [(a0, .inr (9, [.ref a1, .ref a3, .ref a4, .ref a5, .ref a6, .int n0_5, .int n0_6])), (a1, .inr (0, [.ref a2, .int n1_1])), (a2, .inl (ct 0, 8, .inl f2)), (a7, .inr (2, [.ref a0, .ref a8, .ref a10, .ref a11, .int n7_4, .int n7_5, .int n7_6, .int n7_7])), (a8, .inr (0, [.ref a9, .int n8_1])), (a9, .inl (ct 0, 8, .inl f9)), (a10, .inl (ct 0, 8, .inl f10))])) 0 0 (aset [(a0, .inr (9, [.ref a1, .ref a3, .ref a4, .ref a5, .ref a6, .int n0_5, .int n0_6])), (a1, .inr (0, [.ref a2, .int n1_1])), (a2, .inl (ct 0, 8, .inl f2)), (a7, .inr (2, [.ref a0, .ref a8, .ref a10, .ref a11, .int n7_4, .int n7_5, .int n7_6, .int n7_7])), (a8, .inr (0, [.ref a9, .int n8_1])), (a9, .inl (ct 0, 8, .inl f9)), (a10, .inl (ct 0, 8, .inl f10))]) := by
  refine Met.ofW (cc := cX2_begin) (maxL := 2) (ret := none) (by decide) rfl ?_
  intro p e s m args below meth c s₁ B hml hv
  obtain ⟨rfl, hP, hK, hD0⟩ := hv
  have hx := B.exec
  have hb := B.bytes
  have hr := B.returns
  have hts := atoms_spec (ws := wsX2_begin) B.pre
  have hown : s.vm.findClass RX2 = some m.cls := findClass_of_methodNamed B.named
  have hlocks := B.notSynchronized
  have hD := hD0.aself
  generalize hAe : aset [(a0, .inr (9, [.ref a1, .ref a3, .ref a4, .ref a5, .ref a6, .int n0_5, .int n0_6])), (a1, .inr (0, [.ref a2, .int n1_1])), (a2, .inl (ct 0, 8, .inl f2)), (a7, .inr (2, [.ref a0, .ref a8, .ref a10, .ref a11, .int n7_4, .int n7_5, .int n7_6, .int n7_7])), (a8, .inr (0, [.ref a9, .int n8_1])), (a9, .inl (ct 0, 8, .inl f9)), (a10, .inl (ct 0, 8, .inl f10))] = A at hD ⊢
  have hS : va_S A s.heap s.heap [] := va_S.rf
  have hl := lv_entry ([.ref a7]) (n := 2) (Nat.le_of_ble_eq_true rfl)
  rw [lg_entry_eq]
  generalize (lg_sl ([.ref a7]) ++ List.replicate (2 - (lg_sl ([.ref a7])).length) Slot.unset).toArray = ls at hl ⊢
  have hl : lv_has ls 2 [(0, .ref a7)] := hl
  refine lv_aload_n hx hb dX2_begin_0 rfl (lv_at hl 0 rfl) ?_
  refine va_get (D := G) (ci := 2) (v := .ref a8) (C := RX2) (T := TX2) (N := 8) hx hb hts (by decide +kernel) hown hK.1 hP 3 rfl rfl 1 (by decide) (hts (.fieldLink RX2 12 "CardHolder$Hands" "bonds" "LCardHolder$Bonds;") (by decide +kernel)) (fun _ h9 => h9) rfl dX2_begin_1 ?_
  refine lv_aload_n hx hb dX2_begin_4 rfl (lv_at hl 0 rfl) ?_
  refine va_get (D := G) (ci := 2) (v := .ref a0) (C := RX2) (T := TX2) (N := 8) hx hb hts (by decide +kernel) hown hK.1 hP 3 rfl rfl 0 (by decide) (hts (.fieldLink RX2 25 "CardHolder$Hands" "town" "LCardHolder$Town;") (by decide +kernel)) (fun _ h9 => h9) rfl dX2_begin_5 ?_
  refine va_get (D := G) (ci := 9) (v := .ref a1) (C := RX9) (T := TX9) (N := 7) hx hb hts (by decide +kernel) hown hK.1 hP 0 rfl rfl 0 (by decide) (hts (.fieldLink RX2 29 "CardHolder$Town" "bonds" "LCardHolder$Bonds;") (by decide +kernel)) (fun _ h9 => h9) rfl dX2_begin_8 ?_
  refine wj_callv (wr := [(a0, .inr (9, [.ref a1, .ref a3, .ref a4, .ref a5, .ref a6, .int n0_5, .int n0_6])), (a7, .inr (2, [.ref a0, .ref a8, .ref a10, .ref a11, .int n7_4, .int n7_5, .int n7_6, .int n7_7])), (a10, .inl (ct 0, 8, .inl f10))]) (w1 := (fun u : SU => [(a8, .inr (0, [.ref a9, .int (u.1 0)])), (a9, .inl (ct 0, 8, .inl (u.2.1 0))), (a1, .inr (0, [.ref a2, .int n1_1])), (a2, .inl (ct 0, 8, .inl f2))])) (va_runV (As := [.ref a1]) (rest := []) ⟨hx, hb, hml, hown, hts⟩ (a_X0_copyOf l G ct a8 a9 n8_1 f9 a1 a2 n1_1 f2 hp_n8_1 hp_n1_1) (cwV 1 hts gX2_begin_X0_copyOf rfl rfl rfl (by decide +kernel) ⟨Nat.le_of_ble_eq_true rfl, Nat.le_of_ble_eq_true rfl⟩) (wr_preV 0 0 hK (hP.sub [4, 5, 1, 2] rfl) (hD.sub [4, 5, 1, 2] (by decide) rfl) rfl rfl) rfl rfl hl.1 rfl (lv_room (Nat.le_of_ble_eq_true rfl)) dX2_begin_11 ⟨Nat.zero_le _, Nat.zero_le _⟩) hS hP hD [4, 5, 1, 2] [0, 3, 6] rfl rfl (by decide) (fun _ => rfl) (fun ur11 H locs wr11 hP hD hS => ?_)
  have hP : va_P G vwCl [(a0, .inr (9, [.ref a1, .ref a3, .ref a4, .ref a5, .ref a6, .int n0_5, .int n0_6])), (a1, .inr (0, [.ref a2, .int n1_1])), (a2, .inl (ct 0, 8, .inl f2)), (a7, .inr (2, [.ref a0, .ref a8, .ref a10, .ref a11, .int n7_4, .int n7_5, .int n7_6, .int n7_7])), (a8, .inr (0, [.ref a9, .int (ur11.1 0)])), (a9, .inl (ct 0, 8, .inl (ur11.2.1 0))), (a10, .inl (ct 0, 8, .inl f10))] H := hP.sub [0, 5, 6, 1, 3, 4, 2] rfl
  have hD : va_D A [(a0, .inr (9, [.ref a1, .ref a3, .ref a4, .ref a5, .ref a6, .int n0_5, .int n0_6])), (a1, .inr (0, [.ref a2, .int n1_1])), (a2, .inl (ct 0, 8, .inl f2)), (a7, .inr (2, [.ref a0, .ref a8, .ref a10, .ref a11, .int n7_4, .int n7_5, .int n7_6, .int n7_7])), (a8, .inr (0, [.ref a9, .int (ur11.1 0)])), (a9, .inl (ct 0, 8, .inl (ur11.2.1 0))), (a10, .inl (ct 0, 8, .inl f10))] := hD.sub [0, 5, 6, 1, 3, 4, 2] (by decide) rfl
  obtain ⟨p_1, -⟩ := wr11
  refine lv_iconst (v := 0) hx hb dX2_begin_14 (by decide) ?_
  refine lv_istore_n (lv' := [(1, .int 0), (0, .ref a7)]) hx hb dX2_begin_15 rfl hl (by decide) rfl (fun ls hl => ?_)
  have j16 : ∀ (n : Nat) (x16_1 : Int32) (f16_6 : Nat → Int32) (H : Heap) (locs : List Loc) (ls : Array Slot), 2147483648 ≤ x16_1.toInt + (n : Int) → rg 0 8 x16_1 → va_P G vwCl [(a0, .inr (9, [.ref a1, .ref a3, .ref a4, .ref a5, .ref a6, .int n0_5, .int n0_6])), (a1, .inr (0, [.ref a2, .int n1_1])), (a2, .inl (ct 0, 8, .inl f2)), (a7, .inr (2, [.ref a0, .ref a8, .ref a10, .ref a11, .int n7_4, .int n7_5, .int n7_6, .int n7_7])), (a8, .inr (0, [.ref a9, .int (ur11.1 0)])), (a9, .inl (ct 0, 8, .inl (ur11.2.1 0))), (a10, .inl (ct 0, 8, .inl f16_6))] H → va_D A [(a0, .inr (9, [.ref a1, .ref a3, .ref a4, .ref a5, .ref a6, .int n0_5, .int n0_6])), (a1, .inr (0, [.ref a2, .int n1_1])), (a2, .inl (ct 0, 8, .inl f2)), (a7, .inr (2, [.ref a0, .ref a8, .ref a10, .ref a11, .int n7_4, .int n7_5, .int n7_6, .int n7_7])), (a8, .inr (0, [.ref a9, .int (ur11.1 0)])), (a9, .inl (ct 0, 8, .inl (ur11.2.1 0))), (a10, .inl (ct 0, 8, .inl f16_6))] → va_S A s.heap H locs → lv_has ls 2 [(0, .ref a7), (1, .int x16_1)] → W p l e (headSpec wsX2_begin ({ frames := 2, cells := 0, slots := 0, locals := 81 })).room s m ([.ref a7] : List Value).toArray below meth c H locs 0 0 (MQ below (va_Qv (fun u : SU => rg 0 0 (u.1 0) ∧ rg 0 0 (u.1 1) ∧ rg 0 0 (u.1 2) ∧ rg 0 0 (u.1 3) ∧ rg 0 8 (u.1 4) ∧ True) (fun u t => va_P G vwCl ((fun u : SU => [(a0, .inr (9, [.ref a1, .ref a3, .ref a4, .ref a5, .ref a6, .int n0_5, .int n0_6])), (a1, .inr (0, [.ref a2, .int n1_1])), (a2, .inl (ct 0, 8, .inl f2)), (a7, .inr (2, [.ref a0, .ref a8, .ref a10, .ref a11, .int (u.1 0), .int (u.1 1), .int (u.1 2), .int (u.1 3)])), (a8, .inr (0, [.ref a9, .int (u.1 4)])), (a9, .inl (ct 0, 8, .inl (u.2.1 0))), (a10, .inl (ct 0, 8, .inl (u.2.1 1)))]) u) t.heap) A) ([.ref a7] : List Value).toArray s 0 0 A) (F0 m 16 ls []) := by
    intro n
    induction n with
    | zero => intro x16_1 f16_6 H locs ls hn16 hx16_1 hP hD hS hl; exact absurd hn16 (by have := Int32.toInt_lt x16_1; have := Int32.le_toInt x16_1; omega)
    | succ n ih16 =>
      intro x16_1 f16_6 H locs ls hn16 hx16_1 hP hD hS hl
      refine lv_iload_n hx hb dX2_begin_16 rfl (lv_at hl 1 rfl) ?_
      refine lv_bipush (v := 8) hx hb dX2_begin_17 (by decide) ?_
      refine lv_icmp_ge (tgt := 35) hx hb dX2_begin_19 (by decide) (fun c19 => ?_) (fun c19 => ?_)
      · have h_2 : rg 8 8 x16_1 := r_le_r_i c19 (rgn 8 (x := 8) (by decide)) hx16_1
        refine lv_aload_n hx hb dX2_begin_35 rfl (lv_at hl 0 rfl) ?_
        refine lv_iconst (v := 0) hx hb dX2_begin_36 (by decide) ?_
        refine va_put (D := G) (ci := 2) (v := .int 0) (ty := .int) (C := RX2) (T := TX2) (N := 8) hx hb hts (by decide +kernel) tyX2 tyX2_ok nmX2 hown hK.1 hP hD hS 3 rfl rfl 4 (by decide) (hts (.fieldLink RX2 36 "CardHolder$Hands" "askedToday" "I") (by decide +kernel)) (fun _ h9 => h9) rfl (by decide +kernel) rfl rfl (Nat.le_of_ble_eq_true rfl) dX2_begin_37 (fun H locs hP hD hS => ?_)
        refine lv_aload_n hx hb dX2_begin_40 rfl (lv_at hl 0 rfl) ?_
        refine lv_iconst (v := 0) hx hb dX2_begin_41 (by decide) ?_
        refine va_put (D := G) (ci := 2) (v := .int 0) (ty := .int) (C := RX2) (T := TX2) (N := 8) hx hb hts (by decide +kernel) tyX2 tyX2_ok nmX2 hown hK.1 hP hD hS 3 rfl rfl 5 (by decide) (hts (.fieldLink RX2 40 "CardHolder$Hands" "stolen" "I") (by decide +kernel)) (fun _ h9 => h9) rfl (by decide +kernel) rfl rfl (Nat.le_of_ble_eq_true rfl) dX2_begin_42 (fun H locs hP hD hS => ?_)
        refine lv_aload_n hx hb dX2_begin_45 rfl (lv_at hl 0 rfl) ?_
        refine lv_iconst (v := 0) hx hb dX2_begin_46 (by decide) ?_
        refine va_put (D := G) (ci := 2) (v := .int 0) (ty := .int) (C := RX2) (T := TX2) (N := 8) hx hb hts (by decide +kernel) tyX2 tyX2_ok nmX2 hown hK.1 hP hD hS 3 rfl rfl 6 (by decide) (hts (.fieldLink RX2 43 "CardHolder$Hands" "today" "I") (by decide +kernel)) (fun _ h9 => h9) rfl (by decide +kernel) rfl rfl (Nat.le_of_ble_eq_true rfl) dX2_begin_47 (fun H locs hP hD hS => ?_)
        refine lv_aload_n hx hb dX2_begin_50 rfl (lv_at hl 0 rfl) ?_
        refine lv_iconst (v := 0) hx hb dX2_begin_51 (by decide) ?_
        refine va_put (D := G) (ci := 2) (v := .int 0) (ty := .int) (C := RX2) (T := TX2) (N := 8) hx hb hts (by decide +kernel) tyX2 tyX2_ok nmX2 hown hK.1 hP hD hS 3 rfl rfl 7 (by decide) (hts (.fieldLink RX2 46 "CardHolder$Hands" "deedsDone" "I") (by decide +kernel)) (fun _ h9 => h9) rfl (by decide +kernel) rfl rfl (Nat.le_of_ble_eq_true rfl) dX2_begin_52 (fun H locs hP hD hS => ?_)
        exact W.vret hx hb hr (fun t ht hW => ⟨⟨(fun k => ([0, 0, 0, 0, ur11.1 0] : List Int32).getD k 0, fun k => ([ur11.2.1 0, f16_6] : List (Nat → Int32)).getD k (fun _ => 0), fun k => ([] : List (Nat → Int64)).getD k (fun _ => 0)), rfl, ⟨(rgn 0 (x := 0) (by decide)), (rgn 0 (x := 0) (by decide)), (rgn 0 (x := 0) (by decide)), (rgn 0 (x := 0) (by decide)), p_1, trivial⟩, hp_at ht hP⟩, hS.F ht⟩) hS.2.2 dX2_begin_55
      · have h_3 : rg 0 7 x16_1 := r_lt_l_i (nle_i c19) hx16_1 (rgn 8 (x := 8) (by decide)) (by decide)
        refine lv_aload_n hx hb dX2_begin_22 rfl (lv_at hl 0 rfl) ?_
        refine va_get (D := G) (ci := 2) (v := .ref a10) (C := RX2) (T := TX2) (N := 8) hx hb hts (by decide +kernel) hown hK.1 hP 3 rfl rfl 2 (by decide) (hts (.fieldLink RX2 18 "CardHolder$Hands" "worn" "[I") (by decide +kernel)) (fun _ h9 => h9) rfl dX2_begin_23 ?_
        refine lv_iload_n hx hb dX2_begin_26 rfl (lv_at hl 1 rfl) ?_
        refine lv_iconst (v := 0) hx hb dX2_begin_27 (by decide) ?_
        refine va_iast hx hb hK.1 hP hD hS 6 0 rfl rfl (in_rg h_3 (by decide)) dX2_begin_28 (fun H locs hP hD hS => ?_)
        obtain ⟨z29, qz29⟩ : ∃ y : Int32, y = x16_1 + Int32.ofInt 1 := ⟨_, rfl⟩
        obtain ⟨hz29, ez29⟩ := inc_z (e := 1) (f := 8) h_3 qz29 (by decide)
        refine lv_iinc (v := z29) (lv' := [(1, .int z29), (0, .ref a7)]) hx hb dX2_begin_29 hl (k := 1) rfl (qz29.symm) (by decide) rfl (fun ls hl => ?_)
        refine lv_goto (tgt := 16) hx hb dX2_begin_32 (by decide) ?_
        exact ih16 z29 (upd f16_6 x16_1.toNatClampNeg 0) _ _ ls (by have q := hn16; have := ez29; omega) (rg_w (c := 0) (d := 8) hz29 (by decide)) hP hD hS (lv_sub hl [1, 0] rfl)
  exact j16 4294967296 (0 : Int32) f10 _ _ ls (ms_e (0 : Int32)) (rg_w (c := 0) (d := 8) (rgn 0 (x := 0) (by decide)) (by decide)) hP hD hS (lv_sub hl [1, 0] rfl)

set_option maxHeartbeats 4000000 in
set_option maxRecDepth 100000 in
theorem a_X2_leftOf (l : Launch) (G : va_G) (ct : Nat → ClassId) (a0 : Nat) (a1 : Nat) (a3 : Nat) (a4 : Nat) (a5 : Nat) (a6 : Nat) (n0_5 : Int32) (n0_6 : Int32) (a2 : Nat) (n1_1 : Int32) (f6 : Nat → Int32) (a7 : Nat) (a8 : Nat) (a10 : Nat) (a11 : Nat) (n7_4 : Int32) (n7_5 : Int32) (n7_6 : Int32) (n7_7 : Int32) (a9 : Nat) (n8_1 : Int32) (f9 : Nat → Int32) (f10 : Nat → Int32) (p0 : Int32) (hp_n1_1 : rg 0 8 n1_1) (hp_n8_1 : rg 0 8 n8_1) : Met l yX2_leftOf wsX2_leftOf ({ frames := 2, cells := 0, slots := 0, locals := 42 }) (va_Pc [.ref a7, .int p0] (roP G ct [(a0, .inr (9, [.ref a1, .ref a3, .ref a4, .ref a5, .ref a6, .int n0_5, .int n0_6])), (a1, .inr (0, [.ref a2, .int n1_1])), (a6, .inl (ct 0, 8, .inl f6)), (a7, .inr (2, [.ref a0, .ref a8, .ref a10, .ref a11, .int n7_4, .int n7_5, .int n7_6, .int n7_7])), (a8, .inr (0, [.ref a9, .int n8_1])), (a9, .inl (ct 0, 8, .inl f9)), (a10, .inl (ct 0, 8, .inl f10))])) (roQ (fun r => (¬ r = 0 → rg 0 7 p0) ∧ (r = (-1) → rg 0 7 p0) ∧ (¬ r = 0 → rg 1 8 n8_1) ∧ (r = (-1) → rg 1 8 n8_1) ∧ True)) 0 0 no := by
  refine Met.ofW (cc := cX2_leftOf) (maxL := 2) (ret := (some .int)) (by decide) rfl ?_
  intro p e s m args below meth c s₁ B hml hv
  obtain ⟨rfl, hP, hK⟩ := hv
  have hx := B.exec
  have hb := B.bytes
  have hr := B.returns
  have hts := atoms_spec (ws := wsX2_leftOf) B.pre
  have hown : s.vm.findClass RX2 = some m.cls := findClass_of_methodNamed B.named
  have hlocks := B.notSynchronized
  have hS : va_S no s.heap s.heap [] := va_S.rf
  have hl := lv_entry ([.ref a7, .int p0]) (n := 2) (Nat.le_of_ble_eq_true rfl)
  rw [lg_entry_eq]
  generalize (lg_sl ([.ref a7, .int p0]) ++ List.replicate (2 - (lg_sl ([.ref a7, .int p0])).length) Slot.unset).toArray = ls at hl ⊢
  have hl : lv_has ls 2 [(0, .ref a7), (1, .int p0)] := hl
  refine lv_aload_n hx hb dX2_leftOf_0 rfl (lv_at hl 0 rfl) ?_
  refine va_get (D := G) (ci := 2) (v := .ref a8) (C := RX2) (T := TX2) (N := 8) hx hb hts (by decide +kernel) hown hK.1 hP 3 rfl rfl 1 (by decide) (hts (.fieldLink RX2 12 "CardHolder$Hands" "bonds" "LCardHolder$Bonds;") (by decide +kernel)) (fun _ h9 => h9) rfl dX2_leftOf_1 ?_
  refine lv_iload_n hx hb dX2_leftOf_4 rfl (lv_at hl 1 rfl) ?_
  refine ro_calli (va_runV (As := [.int p0]) (rest := []) ⟨hx, hb, hml, hown, hts⟩ (a_X0_holderOf l G ct a8 a9 n8_1 f9 p0 hp_n8_1) (cwV 1 hts gX2_leftOf_X0_holderOf rfl rfl rfl (by decide +kernel) ⟨Nat.le_of_ble_eq_true rfl, Nat.le_of_ble_eq_true rfl⟩) (ro_preV 0 0 hK (hP.sub [4, 5] rfl) rfl rfl) rfl rfl hl.1 rfl (lv_room (Nat.le_of_ble_eq_true rfl)) dX2_leftOf_5 ⟨Nat.zero_le _, Nat.zero_le _⟩) hS hP (fun r5 H locs wr5 hP hS => ?_)
  obtain ⟨p_1, p_2, p_3, p_4, -⟩ := wr5
  refine lv_iconst (v := (-1)) hx hb dX2_leftOf_8 (by decide) ?_
  refine lv_icmp_ne (tgt := 14) hx hb dX2_leftOf_9 (by decide) (fun c9 => ?_) (fun c9 => ?_)
  · have h_5 : rg 0 7 p0 := (p_2 c9)
    have h_6 : rg 1 8 n8_1 := (p_4 c9)
    refine lv_aload_n hx hb dX2_leftOf_14 rfl (lv_at hl 0 rfl) ?_
    refine va_get (D := G) (ci := 2) (v := .ref a0) (C := RX2) (T := TX2) (N := 8) hx hb hts (by decide +kernel) hown hK.1 hP 3 rfl rfl 0 (by decide) (hts (.fieldLink RX2 25 "CardHolder$Hands" "town" "LCardHolder$Town;") (by decide +kernel)) (fun _ h9 => h9) rfl dX2_leftOf_15 ?_
    refine lv_iload_n hx hb dX2_leftOf_18 rfl (lv_at hl 1 rfl) ?_
    refine ro_calli (va_runV (As := [.int p0]) (rest := []) ⟨hx, hb, hml, hown, hts⟩ (a_X9_limitOf l G ct a0 a1 a3 a4 a5 a6 n0_5 n0_6 a2 n1_1 f6 p0 hp_n1_1) (cwV 1 hts gX2_leftOf_X9_limitOf rfl rfl rfl (by decide +kernel) ⟨Nat.le_of_ble_eq_true rfl, Nat.le_of_ble_eq_true rfl⟩) (ro_preV 9 0 hK (hP.sub [0, 1, 2] rfl) rfl rfl) rfl rfl hl.1 rfl (lv_room (Nat.le_of_ble_eq_true rfl)) dX2_leftOf_19 ⟨Nat.zero_le _, Nat.zero_le _⟩) hS hP (fun r19 H locs wr19 hP hS => ?_)
    obtain ⟨p_7, p_8, p_9, p_10, -⟩ := wr19
    refine lv_aload_n hx hb dX2_leftOf_22 rfl (lv_at hl 0 rfl) ?_
    refine va_get (D := G) (ci := 2) (v := .ref a10) (C := RX2) (T := TX2) (N := 8) hx hb hts (by decide +kernel) hown hK.1 hP 3 rfl rfl 2 (by decide) (hts (.fieldLink RX2 18 "CardHolder$Hands" "worn" "[I") (by decide +kernel)) (fun _ h9 => h9) rfl dX2_leftOf_23 ?_
    refine lv_iload_n hx hb dX2_leftOf_26 rfl (lv_at hl 1 rfl) ?_
    refine va_iald hx hb hK.1 hP 6 0 rfl rfl (in_rg h_5 (by decide)) dX2_leftOf_27 ?_
    refine lv_topi (fun z27 gz27 => ?_)
    refine lv_isub hx hb dX2_leftOf_28 ?_
    refine nm_0 (fun z28 => ?_)
    exact W.iret (v := z28) hx hb hr (fun t ht hW => ⟨⟨z28, (), rfl, ⟨(fun _ => h_5), (fun _ => h_5), (fun _ => h_6), (fun _ => h_6), trivial⟩, trivial⟩, hS.F ht⟩) hS.2.2 dX2_leftOf_29
  · have h_11 : rg (-1) (-1) r5 := r_eq_l_i (e := (-1)) (f := (-1)) c9 (rg_t r5) (rgn (-1) (x := (-1)) (by decide)) (by decide)
    refine lv_iconst (v := 0) hx hb dX2_leftOf_12 (by decide) ?_
    exact W.iret (v := 0) hx hb hr (fun t ht hW => ⟨⟨0, (), rfl, ⟨(fun hq => absurd (req (rgn 0 (x := 0) (by decide)) (y := 0) (by decide)) hq), (fun hq => absurd hq (rne (rgn 0 (x := 0) (by decide)) (y := (-1)) (c := (-1)) (by decide) (by decide))), (fun hq => absurd (req (rgn 0 (x := 0) (by decide)) (y := 0) (by decide)) hq), (fun hq => absurd hq (rne (rgn 0 (x := 0) (by decide)) (y := (-1)) (c := (-1)) (by decide) (by decide))), trivial⟩, trivial⟩, hS.F ht⟩) hS.2.2 dX2_leftOf_13

set_option maxHeartbeats 4000000 in
set_option maxRecDepth 100000 in
theorem a_X2_refusalToCome (l : Launch) (G : va_G) (ct : Nat → ClassId) (a7 : Nat) (a0 : Nat) (a8 : Nat) (a10 : Nat) (a11 : Nat) (n7_4 : Int32) (n7_5 : Int32) (n7_6 : Int32) (n7_7 : Int32) (a9 : Nat) (n8_1 : Int32) (f9 : Nat → Int32) (p0 : Int32) (p1 : Int32) (hp_n8_1 : rg 0 8 n8_1) : Met l yX2_refusalToCome wsX2_refusalToCome ({ frames := 2, cells := 0, slots := 0, locals := 42 }) (va_Pc [.ref a7, .int p0, .int p1] (roP G ct [(a7, .inr (2, [.ref a0, .ref a8, .ref a10, .ref a11, .int n7_4, .int n7_5, .int n7_6, .int n7_7])), (a8, .inr (0, [.ref a9, .int n8_1])), (a9, .inl (ct 0, 8, .inl f9))])) (roQ (fun r => rg 0 2 r ∧ True)) 0 0 no := by
  refine Met.ofW (cc := cX2_refusalToCome) (maxL := 3) (ret := (some .int)) (by decide) rfl ?_
  intro p e s m args below meth c s₁ B hml hv
  obtain ⟨rfl, hP, hK⟩ := hv
  have hx := B.exec
  have hb := B.bytes
  have hr := B.returns
  have hts := atoms_spec (ws := wsX2_refusalToCome) B.pre
  have hown : s.vm.findClass RX2 = some m.cls := findClass_of_methodNamed B.named
  have hlocks := B.notSynchronized
  have hS : va_S no s.heap s.heap [] := va_S.rf
  have hl := lv_entry ([.ref a7, .int p0, .int p1]) (n := 3) (Nat.le_of_ble_eq_true rfl)
  rw [lg_entry_eq]
  generalize (lg_sl ([.ref a7, .int p0, .int p1]) ++ List.replicate (3 - (lg_sl ([.ref a7, .int p0, .int p1])).length) Slot.unset).toArray = ls at hl ⊢
  have hl : lv_has ls 3 [(0, .ref a7), (1, .int p0), (2, .int p1)] := hl
  refine lv_aload_n hx hb dX2_refusalToCome_0 rfl (lv_at hl 0 rfl) ?_
  refine va_get (D := G) (ci := 2) (v := .ref a8) (C := RX2) (T := TX2) (N := 8) hx hb hts (by decide +kernel) hown hK.1 hP 0 rfl rfl 1 (by decide) (hts (.fieldLink RX2 12 "CardHolder$Hands" "bonds" "LCardHolder$Bonds;") (by decide +kernel)) (fun _ h9 => h9) rfl dX2_refusalToCome_1 ?_
  refine lv_iload_n hx hb dX2_refusalToCome_4 rfl (lv_at hl 2 rfl) ?_
  refine ro_calli (va_runV (As := [.int p1]) (rest := []) ⟨hx, hb, hml, hown, hts⟩ (a_X0_holderOf l G ct a8 a9 n8_1 f9 p1 hp_n8_1) (cwV 1 hts gX2_refusalToCome_X0_holderOf rfl rfl rfl (by decide +kernel) ⟨Nat.le_of_ble_eq_true rfl, Nat.le_of_ble_eq_true rfl⟩) (ro_preV 0 0 hK (hP.sub [1, 2] rfl) rfl rfl) rfl rfl hl.1 rfl (lv_room (Nat.le_of_ble_eq_true rfl)) dX2_refusalToCome_5 ⟨Nat.zero_le _, Nat.zero_le _⟩) hS hP (fun r5 H locs wr5 hP hS => ?_)
  obtain ⟨p_1, p_2, p_3, p_4, -⟩ := wr5
  refine lv_iload_n hx hb dX2_refusalToCome_8 rfl (lv_at hl 1 rfl) ?_
  refine lv_icmp_eq (tgt := 14) hx hb dX2_refusalToCome_9 (by decide) (fun c9 => ?_) (fun c9 => ?_)
  · refine lv_aload_n hx hb dX2_refusalToCome_14 rfl (lv_at hl 0 rfl) ?_
    refine va_get (D := G) (ci := 2) (v := .int n7_4) (C := RX2) (T := TX2) (N := 8) hx hb hts (by decide +kernel) hown hK.1 hP 0 rfl rfl 4 (by decide) (hts (.fieldLink RX2 36 "CardHolder$Hands" "askedToday" "I") (by decide +kernel)) (fun _ h9 => h9) rfl dX2_refusalToCome_15 ?_
    refine lv_iload_n hx hb dX2_refusalToCome_18 rfl (lv_at hl 2 rfl) ?_
    refine ro_calli (va_runSN (As := [.int n7_4, .int p1]) (rest := []) ⟨hx, hb, hml, hown, hts⟩ (a_X10_bitOf l G ct n7_4 p1) ⟨va_cnB 2 hts gX2_refusalToCome_X10_bitOf_n56 rfl rfl rfl (hK.2.1 (RX2, 56, yX10_bitOf, "CardHolder") (by decide +kernel)) (hts (.initialized RX10) (by decide +kernel)) (by decide +kernel) ⟨Nat.le_of_ble_eq_true rfl, Nat.le_of_ble_eq_true rfl⟩, hts (.static yX10_bitOf) (by decide +kernel), trivial⟩ (ro_pre hK (hP.sub [] rfl)) rfl rfl hl.1 rfl (lv_room (Nat.le_of_ble_eq_true rfl)) dX2_refusalToCome_19 ⟨Nat.zero_le _, Nat.zero_le _⟩) hS hP (fun r19 H locs wr19 hP hS => ?_)
    obtain ⟨p_5, -⟩ := wr19
    refine lv_iconst (v := 1) hx hb dX2_refusalToCome_22 (by decide) ?_
    refine lv_icmp_ne (tgt := 30) hx hb dX2_refusalToCome_23 (by decide) (fun c23 => ?_) (fun c23 => ?_)
    · have h_6 : rg 0 0 r19 := r_ne_hi_i c23 p_5 (by decide) (by decide)
      refine lv_iconst (v := 0) hx hb dX2_refusalToCome_30 (by decide) ?_
      exact W.iret (v := 0) hx hb hr (fun t ht hW => ⟨⟨0, (), rfl, ⟨(rg_w (c := 0) (d := 2) (rgn 0 (x := 0) (by decide)) (by decide)), trivial⟩, trivial⟩, hS.F ht⟩) hS.2.2 dX2_refusalToCome_31
    · have h_7 : rg 1 1 r19 := r_eq_l_i (e := 1) (f := 1) c23 p_5 (rgn 1 (x := 1) (by decide)) (by decide)
      refine lv_iconst (v := 2) hx hb dX2_refusalToCome_26 (by decide) ?_
      refine lv_goto (tgt := 31) hx hb dX2_refusalToCome_27 (by decide) ?_
      exact W.iret (v := 2) hx hb hr (fun t ht hW => ⟨⟨2, (), rfl, ⟨(rg_w (c := 0) (d := 2) (rgn 2 (x := 2) (by decide)) (by decide)), trivial⟩, trivial⟩, hS.F ht⟩) hS.2.2 dX2_refusalToCome_31
  · refine lv_iconst (v := 1) hx hb dX2_refusalToCome_12 (by decide) ?_
    exact W.iret (v := 1) hx hb hr (fun t ht hW => ⟨⟨1, (), rfl, ⟨(rg_w (c := 0) (d := 2) (rgn 1 (x := 1) (by decide)) (by decide)), trivial⟩, trivial⟩, hS.F ht⟩) hS.2.2 dX2_refusalToCome_13

set_option maxHeartbeats 4000000 in
set_option maxRecDepth 100000 in
theorem a_X2_refusal (l : Launch) (G : va_G) (ct : Nat → ClassId) (a0 : Nat) (a1 : Nat) (a3 : Nat) (a4 : Nat) (a5 : Nat) (a6 : Nat) (n0_5 : Int32) (n0_6 : Int32) (a2 : Nat) (n1_1 : Int32) (f4 : Nat → Int32) (a7 : Nat) (a8 : Nat) (a10 : Nat) (a11 : Nat) (n7_4 : Int32) (n7_5 : Int32) (n7_6 : Int32) (n7_7 : Int32) (a9 : Nat) (n8_1 : Int32) (f9 : Nat → Int32) (p0 : Int32) (p1 : Int32) (p2 : Int32) (hp_n1_1 : rg 0 8 n1_1) (hp_n8_1 : rg 0 8 n8_1) : Met l yX2_refusal wsX2_refusal ({ frames := 3, cells := 0, slots := 0, locals := 64 }) (va_Pc [.ref a7, .int p0, .int p1, .int p2] (roP G ct [(a0, .inr (9, [.ref a1, .ref a3, .ref a4, .ref a5, .ref a6, .int n0_5, .int n0_6])), (a1, .inr (0, [.ref a2, .int n1_1])), (a4, .inl (ct 0, 8, .inl f4)), (a7, .inr (2, [.ref a0, .ref a8, .ref a10, .ref a11, .int n7_4, .int n7_5, .int n7_6, .int n7_7])), (a8, .inr (0, [.ref a9, .int n8_1])), (a9, .inl (ct 0, 8, .inl f9))])) (roQ (fun r => rg 0 3 r ∧ True)) 0 0 no := by
  refine Met.ofW (cc := cX2_refusal) (maxL := 5) (ret := (some .int)) (by decide) rfl ?_
  intro p e s m args below meth c s₁ B hml hv
  obtain ⟨rfl, hP, hK⟩ := hv
  have hx := B.exec
  have hb := B.bytes
  have hr := B.returns
  have hts := atoms_spec (ws := wsX2_refusal) B.pre
  have hown : s.vm.findClass RX2 = some m.cls := findClass_of_methodNamed B.named
  have hlocks := B.notSynchronized
  have hS : va_S no s.heap s.heap [] := va_S.rf
  have hl := lv_entry ([.ref a7, .int p0, .int p1, .int p2]) (n := 5) (Nat.le_of_ble_eq_true rfl)
  rw [lg_entry_eq]
  generalize (lg_sl ([.ref a7, .int p0, .int p1, .int p2]) ++ List.replicate (5 - (lg_sl ([.ref a7, .int p0, .int p1, .int p2])).length) Slot.unset).toArray = ls at hl ⊢
  have hl : lv_has ls 5 [(0, .ref a7), (1, .int p0), (2, .int p1), (3, .int p2)] := hl
  refine lv_aload_n hx hb dX2_refusal_0 rfl (lv_at hl 0 rfl) ?_
  refine lv_iload_n hx hb dX2_refusal_1 rfl (lv_at hl 1 rfl) ?_
  refine lv_iload_n hx hb dX2_refusal_2 rfl (lv_at hl 2 rfl) ?_
  refine ro_calli (va_runV (As := [.int p0, .int p1]) (rest := []) ⟨hx, hb, hml, hown, hts⟩ (a_X2_refusalToCome l G ct a7 a0 a8 a10 a11 n7_4 n7_5 n7_6 n7_7 a9 n8_1 f9 p0 p1 hp_n8_1) (cwV 2 hts gX2_refusal_X2_refusalToCome rfl rfl rfl (by decide +kernel) ⟨Nat.le_of_ble_eq_true rfl, Nat.le_of_ble_eq_true rfl⟩) (ro_preV 2 0 hK (hP.sub [3, 4, 5] rfl) rfl rfl) rfl rfl hl.1 rfl (lv_room (Nat.le_of_ble_eq_true rfl)) dX2_refusal_3 ⟨Nat.zero_le _, Nat.zero_le _⟩) hS hP (fun r3 H locs wr3 hP hS => ?_)
  obtain ⟨p_1, -⟩ := wr3
  refine lv_istore (lv' := [(4, .int r3), (0, .ref a7), (1, .int p0), (2, .int p1), (3, .int p2)]) hx hb dX2_refusal_6 hl (by decide) rfl (fun ls hl => ?_)
  refine lv_iload hx hb dX2_refusal_8 (lv_at hl 0 rfl) ?_
  refine lv_if_eq (tgt := 16) hx hb dX2_refusal_10 (by decide) (fun c10 => ?_) (fun c10 => ?_)
  · have h_2 : rg 0 0 r3 := r_eq_l_i (e := 0) (f := 0) c10 p_1 (rgn 0 (x := 0) (by decide)) (by decide)
    refine lv_aload_n hx hb dX2_refusal_16 rfl (lv_at hl 1 rfl) ?_
    refine va_get (D := G) (ci := 2) (v := .ref a0) (C := RX2) (T := TX2) (N := 8) hx hb hts (by decide +kernel) hown hK.1 hP 3 rfl rfl 0 (by decide) (hts (.fieldLink RX2 25 "CardHolder$Hands" "town" "LCardHolder$Town;") (by decide +kernel)) (fun _ h9 => h9) rfl dX2_refusal_17 ?_
    refine lv_iload_n hx hb dX2_refusal_20 rfl (lv_at hl 3 rfl) ?_
    refine ro_calli (va_runV (As := [.int p1]) (rest := []) ⟨hx, hb, hml, hown, hts⟩ (a_X9_deedsOf l G ct a0 a1 a3 a4 a5 a6 n0_5 n0_6 a2 n1_1 f4 p1 hp_n1_1) (cwV 1 hts gX2_refusal_X9_deedsOf rfl rfl rfl (by decide +kernel) ⟨Nat.le_of_ble_eq_true rfl, Nat.le_of_ble_eq_true rfl⟩) (ro_preV 9 0 hK (hP.sub [0, 1, 2] rfl) rfl rfl) rfl rfl hl.1 rfl (lv_room (Nat.le_of_ble_eq_true rfl)) dX2_refusal_21 ⟨Nat.zero_le _, Nat.zero_le _⟩) hS hP (fun r21 H locs wr21 hP hS => ?_)
    obtain ⟨p_3, p_4, p_5, p_6, -⟩ := wr21
    refine lv_iload_n hx hb dX2_refusal_24 rfl (lv_at hl 4 rfl) ?_
    refine ro_calli (va_runSN (As := [.int r21, .int p2]) (rest := []) ⟨hx, hb, hml, hown, hts⟩ (a_X10_bitOf l G ct r21 p2) ⟨va_cnB 2 hts gX2_refusal_X10_bitOf_n56 rfl rfl rfl (hK.2.1 (RX2, 56, yX10_bitOf, "CardHolder") (by decide +kernel)) (hts (.initialized RX10) (by decide +kernel)) (by decide +kernel) ⟨Nat.le_of_ble_eq_true rfl, Nat.le_of_ble_eq_true rfl⟩, hts (.static yX10_bitOf) (by decide +kernel), trivial⟩ (ro_pre hK (hP.sub [] rfl)) rfl rfl hl.1 rfl (lv_room (Nat.le_of_ble_eq_true rfl)) dX2_refusal_25 ⟨Nat.zero_le _, Nat.zero_le _⟩) hS hP (fun r25 H locs wr25 hP hS => ?_)
    obtain ⟨p_7, -⟩ := wr25
    refine lv_iconst (v := 1) hx hb dX2_refusal_28 (by decide) ?_
    refine lv_icmp_ne (tgt := 36) hx hb dX2_refusal_29 (by decide) (fun c29 => ?_) (fun c29 => ?_)
    · have h_8 : rg 0 0 r25 := r_ne_hi_i c29 p_7 (by decide) (by decide)
      refine lv_iconst (v := 3) hx hb dX2_refusal_36 (by decide) ?_
      exact W.iret (v := 3) hx hb hr (fun t ht hW => ⟨⟨3, (), rfl, ⟨(rg_w (c := 0) (d := 3) (rgn 3 (x := 3) (by decide)) (by decide)), trivial⟩, trivial⟩, hS.F ht⟩) hS.2.2 dX2_refusal_37
    · have h_9 : rg 1 1 r25 := r_eq_l_i (e := 1) (f := 1) c29 p_7 (rgn 1 (x := 1) (by decide)) (by decide)
      refine lv_iconst (v := 0) hx hb dX2_refusal_32 (by decide) ?_
      refine lv_goto (tgt := 37) hx hb dX2_refusal_33 (by decide) ?_
      exact W.iret (v := 0) hx hb hr (fun t ht hW => ⟨⟨0, (), rfl, ⟨(rg_w (c := 0) (d := 3) (rgn 0 (x := 0) (by decide)) (by decide)), trivial⟩, trivial⟩, hS.F ht⟩) hS.2.2 dX2_refusal_37
  · have h_10 : rg 1 2 r3 := r_ne_lo_i c10 p_1 (by decide) (by decide)
    refine lv_iload hx hb dX2_refusal_13 (lv_at hl 0 rfl) ?_
    exact W.iret (v := r3) hx hb hr (fun t ht hW => ⟨⟨r3, (), rfl, ⟨(rg_w (c := 0) (d := 3) h_10 (by decide)), trivial⟩, trivial⟩, hS.F ht⟩) hS.2.2 dX2_refusal_15

set_option maxHeartbeats 4000000 in
set_option maxRecDepth 100000 in
theorem a_X2_wearCard (l : Launch) (G : va_G) (ct : Nat → ClassId) (a0 : Nat) (a1 : Nat) (a3 : Nat) (a4 : Nat) (a5 : Nat) (a6 : Nat) (n0_5 : Int32) (n0_6 : Int32) (a2 : Nat) (n1_1 : Int32) (f6 : Nat → Int32) (a7 : Nat) (a8 : Nat) (a10 : Nat) (a11 : Nat) (n7_4 : Int32) (n7_5 : Int32) (n7_6 : Int32) (n7_7 : Int32) (a9 : Nat) (n8_1 : Int32) (f9 : Nat → Int32) (f10 : Nat → Int32) (p0 : Int32) (hp_n1_1 : rg 0 8 n1_1) (hp_n8_1 : rg 0 8 n8_1) : Met l yX2_wearCard wsX2_wearCard ({ frames := 2, cells := 0, slots := 0, locals := 43 }) (va_Pc [.ref a7, .int p0] (wrP G ct [(a0, .inr (9, [.ref a1, .ref a3, .ref a4, .ref a5, .ref a6, .int n0_5, .int n0_6])), (a1, .inr (0, [.ref a2, .int n1_1])), (a6, .inl (ct 0, 8, .inl f6)), (a7, .inr (2, [.ref a0, .ref a8, .ref a10, .ref a11, .int n7_4, .int n7_5, .int n7_6, .int n7_7])), (a8, .inr (0, [.ref a9, .int n8_1])), (a9, .inl (ct 0, 8, .inl f9)), (a10, .inl (ct 0, 8, .inl f10))])) (va_Qv (fun u : SU => True) (fun u t => va_P G vwCl ((fun u : SU => [(a0, .inr (9, [.ref a1, .ref a3, .ref a4, .ref a5, .ref a6, .int n0_5, .int n0_6])), (a1, .inr (0, [.ref a2, .int n1_1])), (a6, .inl (ct 0, 8, .inl f6)), (a7, .inr (2, [.ref a0, .ref a8, .ref a10, .ref a11, .int (u.1 0), .int n7_5, .int n7_6, .int n7_7])), (a8, .inr (0, [.ref a9, .int n8_1])), (a9, .inl (ct 0, 8, .inl (u.2.1 0))), (a10, .inl (ct 0, 8, .inl (u.2.1 1)))]) u) t.heap) (aset [(a0, .inr (9, [.ref a1, .ref a3, .ref a4, .ref a5, .ref a6, .int n0_5, .int n0_6])), (a1, .inr (0, [.ref a2, .int n1_1])), (a6, .inl (ct 0, 8, .inl f6)), (a7, .inr (2, [.ref a0, .ref a8, .ref a10, .ref a11, .int n7_4, .int n7_5, .int n7_6, .int n7_7])), (a8, .inr (0, [.ref a9, .int n8_1])), (a9, .inl (ct 0, 8, .inl f9)), (a10, .inl (ct 0, 8, .inl f10))])) 0 0 (aset [(a0, .inr (9, [.ref a1, .ref a3, .ref a4, .ref a5, .ref a6, .int n0_5, .int n0_6])), (a1, .inr (0, [.ref a2, .int n1_1])), (a6, .inl (ct 0, 8, .inl f6)), (a7, .inr (2, [.ref a0, .ref a8, .ref a10, .ref a11, .int n7_4, .int n7_5, .int n7_6, .int n7_7])), (a8, .inr (0, [.ref a9, .int n8_1])), (a9, .inl (ct 0, 8, .inl f9)), (a10, .inl (ct 0, 8, .inl f10))]) := by
  refine Met.ofW (cc := cX2_wearCard) (maxL := 2) (ret := none) (by decide) rfl ?_
  intro p e s m args below meth c s₁ B hml hv
  obtain ⟨rfl, hP, hK, hD0⟩ := hv
  have hx := B.exec
  have hb := B.bytes
  have hr := B.returns
  have hts := atoms_spec (ws := wsX2_wearCard) B.pre
  have hown : s.vm.findClass RX2 = some m.cls := findClass_of_methodNamed B.named
  have hlocks := B.notSynchronized
  have hD := hD0.aself
  generalize hAe : aset [(a0, .inr (9, [.ref a1, .ref a3, .ref a4, .ref a5, .ref a6, .int n0_5, .int n0_6])), (a1, .inr (0, [.ref a2, .int n1_1])), (a6, .inl (ct 0, 8, .inl f6)), (a7, .inr (2, [.ref a0, .ref a8, .ref a10, .ref a11, .int n7_4, .int n7_5, .int n7_6, .int n7_7])), (a8, .inr (0, [.ref a9, .int n8_1])), (a9, .inl (ct 0, 8, .inl f9)), (a10, .inl (ct 0, 8, .inl f10))] = A at hD ⊢
  have hS : va_S A s.heap s.heap [] := va_S.rf
  have hl := lv_entry ([.ref a7, .int p0]) (n := 2) (Nat.le_of_ble_eq_true rfl)
  rw [lg_entry_eq]
  generalize (lg_sl ([.ref a7, .int p0]) ++ List.replicate (2 - (lg_sl ([.ref a7, .int p0])).length) Slot.unset).toArray = ls at hl ⊢
  have hl : lv_has ls 2 [(0, .ref a7), (1, .int p0)] := hl
  refine lv_aload_n hx hb dX2_wearCard_0 rfl (lv_at hl 0 rfl) ?_
  refine va_get (D := G) (ci := 2) (v := .ref a8) (C := RX2) (T := TX2) (N := 8) hx hb hts (by decide +kernel) hown hK.1 hP 3 rfl rfl 1 (by decide) (hts (.fieldLink RX2 12 "CardHolder$Hands" "bonds" "LCardHolder$Bonds;") (by decide +kernel)) (fun _ h9 => h9) rfl dX2_wearCard_1 ?_
  refine lv_iload_n hx hb dX2_wearCard_4 rfl (lv_at hl 1 rfl) ?_
  refine ro_calli (va_runV (As := [.int p0]) (rest := []) ⟨hx, hb, hml, hown, hts⟩ (a_X0_has l G ct a8 a9 n8_1 p0 hp_n8_1) (cwV 1 hts gX2_wearCard_X0_has rfl rfl rfl (by decide +kernel) ⟨Nat.le_of_ble_eq_true rfl, Nat.le_of_ble_eq_true rfl⟩) (ro_preV 0 0 hK (hP.sub [4] rfl) rfl rfl) rfl rfl hl.1 rfl (lv_room (Nat.le_of_ble_eq_true rfl)) dX2_wearCard_5 ⟨Nat.zero_le _, Nat.zero_le _⟩) hS hP (fun r5 H locs wr5 hP hS => ?_)
  obtain ⟨p_1, p_2, p_3, -⟩ := wr5
  refine lv_if_ne (tgt := 12) hx hb dX2_wearCard_8 (by decide) (fun c8 => ?_) (fun c8 => ?_)
  · have h_4 : rg 1 1 r5 := r_ne_lo_i c8 p_1 (by decide) (by decide)
    have h_5 : rg 0 7 p0 := (p_2 (rne h_4 (y := 0) (c := 0) (by decide) (by decide)))
    have h_6 : rg 1 8 n8_1 := (p_3 (rne h_4 (y := 0) (c := 0) (by decide) (by decide)))
    refine lv_aload_n hx hb dX2_wearCard_12 rfl (lv_at hl 0 rfl) ?_
    refine lv_dup hx hb dX2_wearCard_13 rfl ?_
    refine va_get (D := G) (ci := 2) (v := .int n7_4) (C := RX2) (T := TX2) (N := 8) hx hb hts (by decide +kernel) hown hK.1 hP 3 rfl rfl 4 (by decide) (hts (.fieldLink RX2 36 "CardHolder$Hands" "askedToday" "I") (by decide +kernel)) (fun _ h9 => h9) rfl dX2_wearCard_14 ?_
    refine lv_iconst (v := 1) hx hb dX2_wearCard_17 (by decide) ?_
    refine lv_iload_n hx hb dX2_wearCard_18 rfl (lv_at hl 1 rfl) ?_
    refine lv_ishl hx hb dX2_wearCard_19 ?_
    refine nm_shl (e1 := 1) (f := 128) h_5 (by decide) (fun z19 hz19 => ?_)
    refine lv_ior hx hb dX2_wearCard_20 ?_
    refine nm_0 (fun z20 => ?_)
    refine va_put (D := G) (ci := 2) (v := .int z20) (ty := .int) (C := RX2) (T := TX2) (N := 8) hx hb hts (by decide +kernel) tyX2 tyX2_ok nmX2 hown hK.1 hP hD hS 3 rfl rfl 4 (by decide) (hts (.fieldLink RX2 36 "CardHolder$Hands" "askedToday" "I") (by decide +kernel)) (fun _ h9 => h9) rfl (by decide +kernel) rfl rfl (Nat.le_of_ble_eq_true rfl) dX2_wearCard_21 (fun H locs hP hD hS => ?_)
    refine lv_aload_n hx hb dX2_wearCard_24 rfl (lv_at hl 0 rfl) ?_
    refine va_get (D := G) (ci := 2) (v := .ref a10) (C := RX2) (T := TX2) (N := 8) hx hb hts (by decide +kernel) hown hK.1 hP 3 rfl rfl 2 (by decide) (hts (.fieldLink RX2 18 "CardHolder$Hands" "worn" "[I") (by decide +kernel)) (fun _ h9 => h9) rfl dX2_wearCard_25 ?_
    refine lv_iload_n hx hb dX2_wearCard_28 rfl (lv_at hl 1 rfl) ?_
    refine lv_dup2_11 hx hb dX2_wearCard_29 rfl rfl ?_
    refine va_iald hx hb hK.1 hP 6 0 rfl rfl (in_rg h_5 (by decide)) dX2_wearCard_30 ?_
    refine lv_topi (fun z30 gz30 => ?_)
    refine lv_iconst (v := 1) hx hb dX2_wearCard_31 (by decide) ?_
    refine lv_iadd hx hb dX2_wearCard_32 ?_
    refine nm_0 (fun z32 => ?_)
    refine va_iast hx hb hK.1 hP hD hS 6 0 rfl rfl (in_rg h_5 (by decide)) dX2_wearCard_33 (fun H locs hP hD hS => ?_)
    refine lv_aload_n hx hb dX2_wearCard_34 rfl (lv_at hl 0 rfl) ?_
    refine va_get (D := G) (ci := 2) (v := .ref a10) (C := RX2) (T := TX2) (N := 8) hx hb hts (by decide +kernel) hown hK.1 hP 3 rfl rfl 2 (by decide) (hts (.fieldLink RX2 18 "CardHolder$Hands" "worn" "[I") (by decide +kernel)) (fun _ h9 => h9) rfl dX2_wearCard_35 ?_
    refine lv_iload_n hx hb dX2_wearCard_38 rfl (lv_at hl 1 rfl) ?_
    refine va_iald hx hb hK.1 hP 6 0 rfl rfl (in_rg h_5 (by decide)) dX2_wearCard_39 ?_
    refine lv_topi (fun z39 gz39 => ?_)
    refine lv_aload_n hx hb dX2_wearCard_40 rfl (lv_at hl 0 rfl) ?_
    refine va_get (D := G) (ci := 2) (v := .ref a0) (C := RX2) (T := TX2) (N := 8) hx hb hts (by decide +kernel) hown hK.1 hP 3 rfl rfl 0 (by decide) (hts (.fieldLink RX2 25 "CardHolder$Hands" "town" "LCardHolder$Town;") (by decide +kernel)) (fun _ h9 => h9) rfl dX2_wearCard_41 ?_
    refine lv_iload_n hx hb dX2_wearCard_44 rfl (lv_at hl 1 rfl) ?_
    refine ro_calli (va_runV (As := [.int p0]) (rest := [.int z39]) ⟨hx, hb, hml, hown, hts⟩ (a_X9_limitOf l G ct a0 a1 a3 a4 a5 a6 n0_5 n0_6 a2 n1_1 f6 p0 hp_n1_1) (cwV 1 hts gX2_wearCard_X9_limitOf rfl rfl rfl (by decide +kernel) ⟨Nat.le_of_ble_eq_true rfl, Nat.le_of_ble_eq_true rfl⟩) (ro_preV 9 0 hK (hP.sub [0, 1, 2] rfl) rfl rfl) rfl rfl hl.1 rfl (lv_room (Nat.le_of_ble_eq_true rfl)) dX2_wearCard_45 ⟨Nat.zero_le _, Nat.zero_le _⟩) hS hP (fun r45 H locs wr45 hP hS => ?_)
    obtain ⟨p_7, p_8, p_9, p_10, -⟩ := wr45
    refine lv_icmp_lt (tgt := 60) hx hb dX2_wearCard_48 (by decide) (fun c48 => ?_) (fun c48 => ?_)
    · have h_11 : rg (-2147483648) 2147483646 z39 := r_lt_l_i c48 (rg_t z39) (rg_t r45) (by decide)
      have h_12 : rg (-2147483647) 2147483647 r45 := r_lt_r_i c48 (rg_t z39) (rg_t r45) (by decide)
      exact W.vret hx hb hr (fun t ht hW => ⟨⟨(fun k => ([z20] : List Int32).getD k 0, fun k => ([f9, upd f10 p0.toNatClampNeg z32] : List (Nat → Int32)).getD k (fun _ => 0), fun k => ([] : List (Nat → Int64)).getD k (fun _ => 0)), rfl, trivial, hp_at ht hP⟩, hS.F ht⟩) hS.2.2 dX2_wearCard_60
    · refine lv_aload_n hx hb dX2_wearCard_51 rfl (lv_at hl 0 rfl) ?_
      refine va_get (D := G) (ci := 2) (v := .ref a8) (C := RX2) (T := TX2) (N := 8) hx hb hts (by decide +kernel) hown hK.1 hP 3 rfl rfl 1 (by decide) (hts (.fieldLink RX2 12 "CardHolder$Hands" "bonds" "LCardHolder$Bonds;") (by decide +kernel)) (fun _ h9 => h9) rfl dX2_wearCard_52 ?_
      refine lv_iload_n hx hb dX2_wearCard_55 rfl (lv_at hl 1 rfl) ?_
      refine lv_iconst (v := (-1)) hx hb dX2_wearCard_56 (by decide) ?_
      refine wj_callv (wr := [(a0, .inr (9, [.ref a1, .ref a3, .ref a4, .ref a5, .ref a6, .int n0_5, .int n0_6])), (a1, .inr (0, [.ref a2, .int n1_1])), (a6, .inl (ct 0, 8, .inl f6)), (a7, .inr (2, [.ref a0, .ref a8, .ref a10, .ref a11, .int z20, .int n7_5, .int n7_6, .int n7_7])), (a10, .inl (ct 0, 8, .inl (upd f10 p0.toNatClampNeg z32)))]) (w1 := (fun u : SU => [(a8, .inr (0, [.ref a9, .int n8_1])), (a9, .inl (ct 0, 8, .inl (u.2.1 0)))])) (va_runV (As := [.int p0, .int (-1)]) (rest := []) ⟨hx, hb, hml, hown, hts⟩ (a_X0_put l G ct a8 a9 n8_1 f9 p0 ((-1) : Int32) (rg_w (c := 0) (d := 8) h_6 (by decide))) (cwV 2 hts gX2_wearCard_X0_put rfl rfl rfl (by decide +kernel) ⟨Nat.le_of_ble_eq_true rfl, Nat.le_of_ble_eq_true rfl⟩) (wr_preV 0 0 hK (hP.sub [4, 5] rfl) (hD.sub [4, 5] (by decide) rfl) rfl rfl) rfl rfl hl.1 rfl (lv_room (Nat.le_of_ble_eq_true rfl)) dX2_wearCard_57 ⟨Nat.zero_le _, Nat.zero_le _⟩) hS hP hD [4, 5] [0, 1, 2, 3, 6] rfl rfl (by decide) (fun _ => rfl) (fun ur57 H locs wr57 hP hD hS => ?_)
      have hP : va_P G vwCl [(a0, .inr (9, [.ref a1, .ref a3, .ref a4, .ref a5, .ref a6, .int n0_5, .int n0_6])), (a1, .inr (0, [.ref a2, .int n1_1])), (a6, .inl (ct 0, 8, .inl f6)), (a7, .inr (2, [.ref a0, .ref a8, .ref a10, .ref a11, .int z20, .int n7_5, .int n7_6, .int n7_7])), (a8, .inr (0, [.ref a9, .int n8_1])), (a9, .inl (ct 0, 8, .inl (ur57.2.1 0))), (a10, .inl (ct 0, 8, .inl (upd f10 p0.toNatClampNeg z32)))] H := hP.sub [0, 1, 2, 3, 5, 6, 4] rfl
      have hD : va_D A [(a0, .inr (9, [.ref a1, .ref a3, .ref a4, .ref a5, .ref a6, .int n0_5, .int n0_6])), (a1, .inr (0, [.ref a2, .int n1_1])), (a6, .inl (ct 0, 8, .inl f6)), (a7, .inr (2, [.ref a0, .ref a8, .ref a10, .ref a11, .int z20, .int n7_5, .int n7_6, .int n7_7])), (a8, .inr (0, [.ref a9, .int n8_1])), (a9, .inl (ct 0, 8, .inl (ur57.2.1 0))), (a10, .inl (ct 0, 8, .inl (upd f10 p0.toNatClampNeg z32)))] := hD.sub [0, 1, 2, 3, 5, 6, 4] (by decide) rfl
      exact W.vret hx hb hr (fun t ht hW => ⟨⟨(fun k => ([z20] : List Int32).getD k 0, fun k => ([ur57.2.1 0, upd f10 p0.toNatClampNeg z32] : List (Nat → Int32)).getD k (fun _ => 0), fun k => ([] : List (Nat → Int64)).getD k (fun _ => 0)), rfl, trivial, hp_at ht hP⟩, hS.F ht⟩) hS.2.2 dX2_wearCard_60
  · have h_13 : rg 0 0 r5 := r_eq_l_i (e := 0) (f := 0) c8 p_1 (rgn 0 (x := 0) (by decide)) (by decide)
    exact W.vret hx hb hr (fun t ht hW => ⟨⟨(fun k => ([n7_4] : List Int32).getD k 0, fun k => ([f9, f10] : List (Nat → Int32)).getD k (fun _ => 0), fun k => ([] : List (Nat → Int64)).getD k (fun _ => 0)), rfl, trivial, hp_at ht hP⟩, hS.F ht⟩) hS.2.2 dX2_wearCard_11

set_option maxHeartbeats 4000000 in
set_option maxRecDepth 100000 in
theorem a_X2_changeHands (l : Launch) (G : va_G) (ct : Nat → ClassId) (a7 : Nat) (a0 : Nat) (a8 : Nat) (a10 : Nat) (a11 : Nat) (n7_4 : Int32) (n7_5 : Int32) (n7_6 : Int32) (n7_7 : Int32) (a9 : Nat) (n8_1 : Int32) (f9 : Nat → Int32) (p0 : Int32) (p1 : Int32) (hp_n8_1 : rg 0 8 n8_1) : Met l yX2_changeHands wsX2_changeHands ({ frames := 2, cells := 0, slots := 0, locals := 43 }) (va_Pc [.ref a7, .int p0, .int p1] (wrP G ct [(a7, .inr (2, [.ref a0, .ref a8, .ref a10, .ref a11, .int n7_4, .int n7_5, .int n7_6, .int n7_7])), (a8, .inr (0, [.ref a9, .int n8_1])), (a9, .inl (ct 0, 8, .inl f9))])) (va_Qv (fun u : SU => True) (fun u t => va_P G vwCl ((fun u : SU => [(a7, .inr (2, [.ref a0, .ref a8, .ref a10, .ref a11, .int n7_4, .int n7_5, .int n7_6, .int n7_7])), (a8, .inr (0, [.ref a9, .int n8_1])), (a9, .inl (ct 0, 8, .inl (u.2.1 0)))]) u) t.heap) (aset [(a7, .inr (2, [.ref a0, .ref a8, .ref a10, .ref a11, .int n7_4, .int n7_5, .int n7_6, .int n7_7])), (a8, .inr (0, [.ref a9, .int n8_1])), (a9, .inl (ct 0, 8, .inl f9))])) 0 0 (aset [(a7, .inr (2, [.ref a0, .ref a8, .ref a10, .ref a11, .int n7_4, .int n7_5, .int n7_6, .int n7_7])), (a8, .inr (0, [.ref a9, .int n8_1])), (a9, .inl (ct 0, 8, .inl f9))]) := by
  refine Met.ofW (cc := cX2_changeHands) (maxL := 4) (ret := none) (by decide) rfl ?_
  intro p e s m args below meth c s₁ B hml hv
  obtain ⟨rfl, hP, hK, hD0⟩ := hv
  have hx := B.exec
  have hb := B.bytes
  have hr := B.returns
  have hts := atoms_spec (ws := wsX2_changeHands) B.pre
  have hown : s.vm.findClass RX2 = some m.cls := findClass_of_methodNamed B.named
  have hlocks := B.notSynchronized
  have hD := hD0.aself
  generalize hAe : aset [(a7, .inr (2, [.ref a0, .ref a8, .ref a10, .ref a11, .int n7_4, .int n7_5, .int n7_6, .int n7_7])), (a8, .inr (0, [.ref a9, .int n8_1])), (a9, .inl (ct 0, 8, .inl f9))] = A at hD ⊢
  have hS : va_S A s.heap s.heap [] := va_S.rf
  have hl := lv_entry ([.ref a7, .int p0, .int p1]) (n := 4) (Nat.le_of_ble_eq_true rfl)
  rw [lg_entry_eq]
  generalize (lg_sl ([.ref a7, .int p0, .int p1]) ++ List.replicate (4 - (lg_sl ([.ref a7, .int p0, .int p1])).length) Slot.unset).toArray = ls at hl ⊢
  have hl : lv_has ls 4 [(0, .ref a7), (1, .int p0), (2, .int p1)] := hl
  refine lv_aload_n hx hb dX2_changeHands_0 rfl (lv_at hl 0 rfl) ?_
  refine va_get (D := G) (ci := 2) (v := .ref a8) (C := RX2) (T := TX2) (N := 8) hx hb hts (by decide +kernel) hown hK.1 hP 0 rfl rfl 1 (by decide) (hts (.fieldLink RX2 12 "CardHolder$Hands" "bonds" "LCardHolder$Bonds;") (by decide +kernel)) (fun _ h9 => h9) rfl dX2_changeHands_1 ?_
  refine lv_iload_n hx hb dX2_changeHands_4 rfl (lv_at hl 1 rfl) ?_
  refine ro_calli (va_runV (As := [.int p0]) (rest := []) ⟨hx, hb, hml, hown, hts⟩ (a_X0_holderOf l G ct a8 a9 n8_1 f9 p0 hp_n8_1) (cwV 1 hts gX2_changeHands_X0_holderOf rfl rfl rfl (by decide +kernel) ⟨Nat.le_of_ble_eq_true rfl, Nat.le_of_ble_eq_true rfl⟩) (ro_preV 0 0 hK (hP.sub [1, 2] rfl) rfl rfl) rfl rfl hl.1 rfl (lv_room (Nat.le_of_ble_eq_true rfl)) dX2_changeHands_5 ⟨Nat.zero_le _, Nat.zero_le _⟩) hS hP (fun r5 H locs wr5 hP hS => ?_)
  obtain ⟨p_1, p_2, p_3, p_4, -⟩ := wr5
  refine lv_istore_n (lv' := [(3, .int r5), (0, .ref a7), (1, .int p0), (2, .int p1)]) hx hb dX2_changeHands_8 rfl hl (by decide) rfl (fun ls hl => ?_)
  refine lv_aload_n hx hb dX2_changeHands_9 rfl (lv_at hl 1 rfl) ?_
  refine va_get (D := G) (ci := 2) (v := .ref a8) (C := RX2) (T := TX2) (N := 8) hx hb hts (by decide +kernel) hown hK.1 hP 0 rfl rfl 1 (by decide) (hts (.fieldLink RX2 12 "CardHolder$Hands" "bonds" "LCardHolder$Bonds;") (by decide +kernel)) (fun _ h9 => h9) rfl dX2_changeHands_10 ?_
  refine lv_iload_n hx hb dX2_changeHands_13 rfl (lv_at hl 2 rfl) ?_
  refine lv_aload_n hx hb dX2_changeHands_14 rfl (lv_at hl 1 rfl) ?_
  refine va_get (D := G) (ci := 2) (v := .ref a8) (C := RX2) (T := TX2) (N := 8) hx hb hts (by decide +kernel) hown hK.1 hP 0 rfl rfl 1 (by decide) (hts (.fieldLink RX2 12 "CardHolder$Hands" "bonds" "LCardHolder$Bonds;") (by decide +kernel)) (fun _ h9 => h9) rfl dX2_changeHands_15 ?_
  refine lv_iload_n hx hb dX2_changeHands_18 rfl (lv_at hl 3 rfl) ?_
  refine ro_calli (va_runV (As := [.int p1]) (rest := [.int p0, .ref a8]) ⟨hx, hb, hml, hown, hts⟩ (a_X0_holderOf l G ct a8 a9 n8_1 f9 p1 hp_n8_1) (cwV 1 hts gX2_changeHands_X0_holderOf rfl rfl rfl (by decide +kernel) ⟨Nat.le_of_ble_eq_true rfl, Nat.le_of_ble_eq_true rfl⟩) (ro_preV 0 0 hK (hP.sub [1, 2] rfl) rfl rfl) rfl rfl hl.1 rfl (lv_room (Nat.le_of_ble_eq_true rfl)) dX2_changeHands_19 ⟨Nat.zero_le _, Nat.zero_le _⟩) hS hP (fun r19 H locs wr19 hP hS => ?_)
  obtain ⟨p_5, p_6, p_7, p_8, -⟩ := wr19
  refine wj_callv (wr := [(a7, .inr (2, [.ref a0, .ref a8, .ref a10, .ref a11, .int n7_4, .int n7_5, .int n7_6, .int n7_7]))]) (w1 := (fun u : SU => [(a8, .inr (0, [.ref a9, .int n8_1])), (a9, .inl (ct 0, 8, .inl (u.2.1 0)))])) (va_runV (As := [.int p0, .int r19]) (rest := []) ⟨hx, hb, hml, hown, hts⟩ (a_X0_put l G ct a8 a9 n8_1 f9 p0 r19 hp_n8_1) (cwV 2 hts gX2_changeHands_X0_put rfl rfl rfl (by decide +kernel) ⟨Nat.le_of_ble_eq_true rfl, Nat.le_of_ble_eq_true rfl⟩) (wr_preV 0 0 hK (hP.sub [1, 2] rfl) (hD.sub [1, 2] (by decide) rfl) rfl rfl) rfl rfl hl.1 rfl (lv_room (Nat.le_of_ble_eq_true rfl)) dX2_changeHands_22 ⟨Nat.zero_le _, Nat.zero_le _⟩) hS hP hD [1, 2] [0] rfl rfl (by decide) (fun _ => rfl) (fun ur22 H locs wr22 hP hD hS => ?_)
  have hP : va_P G vwCl [(a7, .inr (2, [.ref a0, .ref a8, .ref a10, .ref a11, .int n7_4, .int n7_5, .int n7_6, .int n7_7])), (a8, .inr (0, [.ref a9, .int n8_1])), (a9, .inl (ct 0, 8, .inl (ur22.2.1 0)))] H := hP.sub [0, 1, 2] rfl
  have hD : va_D A [(a7, .inr (2, [.ref a0, .ref a8, .ref a10, .ref a11, .int n7_4, .int n7_5, .int n7_6, .int n7_7])), (a8, .inr (0, [.ref a9, .int n8_1])), (a9, .inl (ct 0, 8, .inl (ur22.2.1 0)))] := hD.sub [0, 1, 2] (by decide) rfl
  refine lv_aload_n hx hb dX2_changeHands_25 rfl (lv_at hl 1 rfl) ?_
  refine va_get (D := G) (ci := 2) (v := .ref a8) (C := RX2) (T := TX2) (N := 8) hx hb hts (by decide +kernel) hown hK.1 hP 0 rfl rfl 1 (by decide) (hts (.fieldLink RX2 12 "CardHolder$Hands" "bonds" "LCardHolder$Bonds;") (by decide +kernel)) (fun _ h9 => h9) rfl dX2_changeHands_26 ?_
  refine lv_iload_n hx hb dX2_changeHands_29 rfl (lv_at hl 3 rfl) ?_
  refine lv_iload_n hx hb dX2_changeHands_30 rfl (lv_at hl 0 rfl) ?_
  refine wj_callv (wr := [(a7, .inr (2, [.ref a0, .ref a8, .ref a10, .ref a11, .int n7_4, .int n7_5, .int n7_6, .int n7_7]))]) (w1 := (fun u : SU => [(a8, .inr (0, [.ref a9, .int n8_1])), (a9, .inl (ct 0, 8, .inl (u.2.1 0)))])) (va_runV (As := [.int p1, .int r5]) (rest := []) ⟨hx, hb, hml, hown, hts⟩ (a_X0_put l G ct a8 a9 n8_1 (ur22.2.1 0) p1 r5 hp_n8_1) (cwV 2 hts gX2_changeHands_X0_put rfl rfl rfl (by decide +kernel) ⟨Nat.le_of_ble_eq_true rfl, Nat.le_of_ble_eq_true rfl⟩) (wr_preV 0 0 hK (hP.sub [1, 2] rfl) (hD.sub [1, 2] (by decide) rfl) rfl rfl) rfl rfl hl.1 rfl (lv_room (Nat.le_of_ble_eq_true rfl)) dX2_changeHands_31 ⟨Nat.zero_le _, Nat.zero_le _⟩) hS hP hD [1, 2] [0] rfl rfl (by decide) (fun _ => rfl) (fun ur31 H locs wr31 hP hD hS => ?_)
  have hP : va_P G vwCl [(a7, .inr (2, [.ref a0, .ref a8, .ref a10, .ref a11, .int n7_4, .int n7_5, .int n7_6, .int n7_7])), (a8, .inr (0, [.ref a9, .int n8_1])), (a9, .inl (ct 0, 8, .inl (ur31.2.1 0)))] H := hP.sub [0, 1, 2] rfl
  have hD : va_D A [(a7, .inr (2, [.ref a0, .ref a8, .ref a10, .ref a11, .int n7_4, .int n7_5, .int n7_6, .int n7_7])), (a8, .inr (0, [.ref a9, .int n8_1])), (a9, .inl (ct 0, 8, .inl (ur31.2.1 0)))] := hD.sub [0, 1, 2] (by decide) rfl
  exact W.vret hx hb hr (fun t ht hW => ⟨⟨(fun k => ([] : List Int32).getD k 0, fun k => ([ur31.2.1 0] : List (Nat → Int32)).getD k (fun _ => 0), fun k => ([] : List (Nat → Int64)).getD k (fun _ => 0)), rfl, trivial, hp_at ht hP⟩, hS.F ht⟩) hS.2.2 dX2_changeHands_34

set_option maxHeartbeats 4000000 in
set_option maxRecDepth 100000 in
theorem a_X2_rob (l : Launch) (G : va_G) (ct : Nat → ClassId) (a7 : Nat) (a0 : Nat) (a8 : Nat) (a10 : Nat) (a11 : Nat) (n7_4 : Int32) (n7_5 : Int32) (n7_6 : Int32) (n7_7 : Int32) (a9 : Nat) (n8_1 : Int32) (f9 : Nat → Int32) (f11 : Nat → Int32) (p0 : Int32) (p1 : Int32) (hp_n8_1 : rg 0 8 n8_1) : Met l yX2_rob wsX2_rob ({ frames := 2, cells := 0, slots := 0, locals := 43 }) (va_Pc [.ref a7, .int p0, .int p1] (wrP G ct [(a7, .inr (2, [.ref a0, .ref a8, .ref a10, .ref a11, .int n7_4, .int n7_5, .int n7_6, .int n7_7])), (a8, .inr (0, [.ref a9, .int n8_1])), (a9, .inl (ct 0, 8, .inl f9)), (a11, .inl (ct 0, 8, .inl f11))])) (va_Qv (fun u : SU => True) (fun u t => va_P G vwCl ((fun u : SU => [(a7, .inr (2, [.ref a0, .ref a8, .ref a10, .ref a11, .int n7_4, .int (u.1 0), .int n7_6, .int n7_7])), (a8, .inr (0, [.ref a9, .int n8_1])), (a9, .inl (ct 0, 8, .inl (u.2.1 0))), (a11, .inl (ct 0, 8, .inl (u.2.1 1)))]) u) t.heap) (aset [(a7, .inr (2, [.ref a0, .ref a8, .ref a10, .ref a11, .int n7_4, .int n7_5, .int n7_6, .int n7_7])), (a8, .inr (0, [.ref a9, .int n8_1])), (a9, .inl (ct 0, 8, .inl f9)), (a11, .inl (ct 0, 8, .inl f11))])) 0 0 (aset [(a7, .inr (2, [.ref a0, .ref a8, .ref a10, .ref a11, .int n7_4, .int n7_5, .int n7_6, .int n7_7])), (a8, .inr (0, [.ref a9, .int n8_1])), (a9, .inl (ct 0, 8, .inl f9)), (a11, .inl (ct 0, 8, .inl f11))]) := by
  refine Met.ofW (cc := cX2_rob) (maxL := 3) (ret := none) (by decide) rfl ?_
  intro p e s m args below meth c s₁ B hml hv
  obtain ⟨rfl, hP, hK, hD0⟩ := hv
  have hx := B.exec
  have hb := B.bytes
  have hr := B.returns
  have hts := atoms_spec (ws := wsX2_rob) B.pre
  have hown : s.vm.findClass RX2 = some m.cls := findClass_of_methodNamed B.named
  have hlocks := B.notSynchronized
  have hD := hD0.aself
  generalize hAe : aset [(a7, .inr (2, [.ref a0, .ref a8, .ref a10, .ref a11, .int n7_4, .int n7_5, .int n7_6, .int n7_7])), (a8, .inr (0, [.ref a9, .int n8_1])), (a9, .inl (ct 0, 8, .inl f9)), (a11, .inl (ct 0, 8, .inl f11))] = A at hD ⊢
  have hS : va_S A s.heap s.heap [] := va_S.rf
  have hl := lv_entry ([.ref a7, .int p0, .int p1]) (n := 3) (Nat.le_of_ble_eq_true rfl)
  rw [lg_entry_eq]
  generalize (lg_sl ([.ref a7, .int p0, .int p1]) ++ List.replicate (3 - (lg_sl ([.ref a7, .int p0, .int p1])).length) Slot.unset).toArray = ls at hl ⊢
  have hl : lv_has ls 3 [(0, .ref a7), (1, .int p0), (2, .int p1)] := hl
  refine lv_aload_n hx hb dX2_rob_0 rfl (lv_at hl 0 rfl) ?_
  refine va_get (D := G) (ci := 2) (v := .ref a8) (C := RX2) (T := TX2) (N := 8) hx hb hts (by decide +kernel) hown hK.1 hP 0 rfl rfl 1 (by decide) (hts (.fieldLink RX2 12 "CardHolder$Hands" "bonds" "LCardHolder$Bonds;") (by decide +kernel)) (fun _ h9 => h9) rfl dX2_rob_1 ?_
  refine lv_iload_n hx hb dX2_rob_4 rfl (lv_at hl 2 rfl) ?_
  refine ro_calli (va_runV (As := [.int p1]) (rest := []) ⟨hx, hb, hml, hown, hts⟩ (a_X0_has l G ct a8 a9 n8_1 p1 hp_n8_1) (cwV 1 hts gX2_rob_X0_has rfl rfl rfl (by decide +kernel) ⟨Nat.le_of_ble_eq_true rfl, Nat.le_of_ble_eq_true rfl⟩) (ro_preV 0 0 hK (hP.sub [1] rfl) rfl rfl) rfl rfl hl.1 rfl (lv_room (Nat.le_of_ble_eq_true rfl)) dX2_rob_5 ⟨Nat.zero_le _, Nat.zero_le _⟩) hS hP (fun r5 H locs wr5 hP hS => ?_)
  obtain ⟨p_1, p_2, p_3, -⟩ := wr5
  refine lv_if_ne (tgt := 12) hx hb dX2_rob_8 (by decide) (fun c8 => ?_) (fun c8 => ?_)
  · have h_4 : rg 1 1 r5 := r_ne_lo_i c8 p_1 (by decide) (by decide)
    have h_5 : rg 0 7 p1 := (p_2 (rne h_4 (y := 0) (c := 0) (by decide) (by decide)))
    have h_6 : rg 1 8 n8_1 := (p_3 (rne h_4 (y := 0) (c := 0) (by decide) (by decide)))
    refine lv_aload_n hx hb dX2_rob_12 rfl (lv_at hl 0 rfl) ?_
    refine va_get (D := G) (ci := 2) (v := .ref a11) (C := RX2) (T := TX2) (N := 8) hx hb hts (by decide +kernel) hown hK.1 hP 0 rfl rfl 3 (by decide) (hts (.fieldLink RX2 22 "CardHolder$Hands" "robbed" "[I") (by decide +kernel)) (fun _ h9 => h9) rfl dX2_rob_13 ?_
    refine lv_iload_n hx hb dX2_rob_16 rfl (lv_at hl 2 rfl) ?_
    refine lv_aload_n hx hb dX2_rob_17 rfl (lv_at hl 0 rfl) ?_
    refine va_get (D := G) (ci := 2) (v := .ref a8) (C := RX2) (T := TX2) (N := 8) hx hb hts (by decide +kernel) hown hK.1 hP 0 rfl rfl 1 (by decide) (hts (.fieldLink RX2 12 "CardHolder$Hands" "bonds" "LCardHolder$Bonds;") (by decide +kernel)) (fun _ h9 => h9) rfl dX2_rob_18 ?_
    refine lv_iload_n hx hb dX2_rob_21 rfl (lv_at hl 2 rfl) ?_
    refine ro_calli (va_runV (As := [.int p1]) (rest := [.int p1, .ref a11]) ⟨hx, hb, hml, hown, hts⟩ (a_X0_holderOf l G ct a8 a9 n8_1 f9 p1 (rg_w (c := 0) (d := 8) h_6 (by decide))) (cwV 1 hts gX2_rob_X0_holderOf rfl rfl rfl (by decide +kernel) ⟨Nat.le_of_ble_eq_true rfl, Nat.le_of_ble_eq_true rfl⟩) (ro_preV 0 0 hK (hP.sub [1, 2] rfl) rfl rfl) rfl rfl hl.1 rfl (lv_room (Nat.le_of_ble_eq_true rfl)) dX2_rob_22 ⟨Nat.zero_le _, Nat.zero_le _⟩) hS hP (fun r22 H locs wr22 hP hS => ?_)
    obtain ⟨p_7, p_8, p_9, p_10, -⟩ := wr22
    refine va_iast hx hb hK.1 hP hD hS 3 0 rfl rfl (in_rg h_5 (by decide)) dX2_rob_25 (fun H locs hP hD hS => ?_)
    refine lv_aload_n hx hb dX2_rob_26 rfl (lv_at hl 0 rfl) ?_
    refine lv_dup hx hb dX2_rob_27 rfl ?_
    refine va_get (D := G) (ci := 2) (v := .int n7_5) (C := RX2) (T := TX2) (N := 8) hx hb hts (by decide +kernel) hown hK.1 hP 0 rfl rfl 5 (by decide) (hts (.fieldLink RX2 40 "CardHolder$Hands" "stolen" "I") (by decide +kernel)) (fun _ h9 => h9) rfl dX2_rob_28 ?_
    refine lv_iconst (v := 1) hx hb dX2_rob_31 (by decide) ?_
    refine lv_iload_n hx hb dX2_rob_32 rfl (lv_at hl 2 rfl) ?_
    refine lv_ishl hx hb dX2_rob_33 ?_
    refine nm_shl (e1 := 1) (f := 128) h_5 (by decide) (fun z33 hz33 => ?_)
    refine lv_ior hx hb dX2_rob_34 ?_
    refine nm_0 (fun z34 => ?_)
    refine va_put (D := G) (ci := 2) (v := .int z34) (ty := .int) (C := RX2) (T := TX2) (N := 8) hx hb hts (by decide +kernel) tyX2 tyX2_ok nmX2 hown hK.1 hP hD hS 0 rfl rfl 5 (by decide) (hts (.fieldLink RX2 40 "CardHolder$Hands" "stolen" "I") (by decide +kernel)) (fun _ h9 => h9) rfl (by decide +kernel) rfl rfl (Nat.le_of_ble_eq_true rfl) dX2_rob_35 (fun H locs hP hD hS => ?_)
    refine lv_aload_n hx hb dX2_rob_38 rfl (lv_at hl 0 rfl) ?_
    refine va_get (D := G) (ci := 2) (v := .ref a8) (C := RX2) (T := TX2) (N := 8) hx hb hts (by decide +kernel) hown hK.1 hP 0 rfl rfl 1 (by decide) (hts (.fieldLink RX2 12 "CardHolder$Hands" "bonds" "LCardHolder$Bonds;") (by decide +kernel)) (fun _ h9 => h9) rfl dX2_rob_39 ?_
    refine lv_iload_n hx hb dX2_rob_42 rfl (lv_at hl 2 rfl) ?_
    refine lv_iload_n hx hb dX2_rob_43 rfl (lv_at hl 1 rfl) ?_
    refine wj_callv (wr := [(a7, .inr (2, [.ref a0, .ref a8, .ref a10, .ref a11, .int n7_4, .int z34, .int n7_6, .int n7_7])), (a11, .inl (ct 0, 8, .inl (upd f11 p1.toNatClampNeg r22)))]) (w1 := (fun u : SU => [(a8, .inr (0, [.ref a9, .int n8_1])), (a9, .inl (ct 0, 8, .inl (u.2.1 0)))])) (va_runV (As := [.int p1, .int p0]) (rest := []) ⟨hx, hb, hml, hown, hts⟩ (a_X0_put l G ct a8 a9 n8_1 f9 p1 p0 (rg_w (c := 0) (d := 8) h_6 (by decide))) (cwV 2 hts gX2_rob_X0_put rfl rfl rfl (by decide +kernel) ⟨Nat.le_of_ble_eq_true rfl, Nat.le_of_ble_eq_true rfl⟩) (wr_preV 0 0 hK (hP.sub [1, 2] rfl) (hD.sub [1, 2] (by decide) rfl) rfl rfl) rfl rfl hl.1 rfl (lv_room (Nat.le_of_ble_eq_true rfl)) dX2_rob_44 ⟨Nat.zero_le _, Nat.zero_le _⟩) hS hP hD [1, 2] [0, 3] rfl rfl (by decide) (fun _ => rfl) (fun ur44 H locs wr44 hP hD hS => ?_)
    have hP : va_P G vwCl [(a7, .inr (2, [.ref a0, .ref a8, .ref a10, .ref a11, .int n7_4, .int z34, .int n7_6, .int n7_7])), (a8, .inr (0, [.ref a9, .int n8_1])), (a9, .inl (ct 0, 8, .inl (ur44.2.1 0))), (a11, .inl (ct 0, 8, .inl (upd f11 p1.toNatClampNeg r22)))] H := hP.sub [0, 2, 3, 1] rfl
    have hD : va_D A [(a7, .inr (2, [.ref a0, .ref a8, .ref a10, .ref a11, .int n7_4, .int z34, .int n7_6, .int n7_7])), (a8, .inr (0, [.ref a9, .int n8_1])), (a9, .inl (ct 0, 8, .inl (ur44.2.1 0))), (a11, .inl (ct 0, 8, .inl (upd f11 p1.toNatClampNeg r22)))] := hD.sub [0, 2, 3, 1] (by decide) rfl
    exact W.vret hx hb hr (fun t ht hW => ⟨⟨(fun k => ([z34] : List Int32).getD k 0, fun k => ([ur44.2.1 0, upd f11 p1.toNatClampNeg r22] : List (Nat → Int32)).getD k (fun _ => 0), fun k => ([] : List (Nat → Int64)).getD k (fun _ => 0)), rfl, trivial, hp_at ht hP⟩, hS.F ht⟩) hS.2.2 dX2_rob_47
  · have h_11 : rg 0 0 r5 := r_eq_l_i (e := 0) (f := 0) c8 p_1 (rgn 0 (x := 0) (by decide)) (by decide)
    exact W.vret hx hb hr (fun t ht hW => ⟨⟨(fun k => ([n7_5] : List Int32).getD k 0, fun k => ([f9, f11] : List (Nat → Int32)).getD k (fun _ => 0), fun k => ([] : List (Nat → Int64)).getD k (fun _ => 0)), rfl, trivial, hp_at ht hP⟩, hS.F ht⟩) hS.2.2 dX2_rob_11

set_option maxHeartbeats 4000000 in
set_option maxRecDepth 100000 in
theorem a_X2_endDay (l : Launch) (G : va_G) (ct : Nat → ClassId) (a7 : Nat) (a0 : Nat) (a8 : Nat) (a10 : Nat) (a11 : Nat) (n7_4 : Int32) (n7_5 : Int32) (n7_6 : Int32) (n7_7 : Int32) (a9 : Nat) (n8_1 : Int32) (f9 : Nat → Int32) (f11 : Nat → Int32) (hp_n8_1 : rg 0 8 n8_1) : Met l yX2_endDay wsX2_endDay ({ frames := 2, cells := 0, slots := 0, locals := 43 }) (va_Pc [.ref a7] (wrP G ct [(a7, .inr (2, [.ref a0, .ref a8, .ref a10, .ref a11, .int n7_4, .int n7_5, .int n7_6, .int n7_7])), (a8, .inr (0, [.ref a9, .int n8_1])), (a9, .inl (ct 0, 8, .inl f9)), (a11, .inl (ct 0, 8, .inl f11))])) (va_Qv (fun u : SU => rg 0 0 (u.1 0) ∧ rg 0 0 (u.1 1) ∧ True) (fun u t => va_P G vwCl ((fun u : SU => [(a7, .inr (2, [.ref a0, .ref a8, .ref a10, .ref a11, .int (u.1 0), .int (u.1 1), .int (u.1 2), .int n7_7])), (a8, .inr (0, [.ref a9, .int n8_1])), (a9, .inl (ct 0, 8, .inl (u.2.1 0))), (a11, .inl (ct 0, 8, .inl f11))]) u) t.heap) (aset [(a7, .inr (2, [.ref a0, .ref a8, .ref a10, .ref a11, .int n7_4, .int n7_5, .int n7_6, .int n7_7])), (a8, .inr (0, [.ref a9, .int n8_1])), (a9, .inl (ct 0, 8, .inl f9)), (a11, .inl (ct 0, 8, .inl f11))])) 0 0 (aset [(a7, .inr (2, [.ref a0, .ref a8, .ref a10, .ref a11, .int n7_4, .int n7_5, .int n7_6, .int n7_7])), (a8, .inr (0, [.ref a9, .int n8_1])), (a9, .inl (ct 0, 8, .inl f9)), (a11, .inl (ct 0, 8, .inl f11))]) := by
  refine Met.ofW (cc := cX2_endDay) (maxL := 2) (ret := none) (by decide) rfl ?_
  intro p e s m args below meth c s₁ B hml hv
  obtain ⟨rfl, hP, hK, hD0⟩ := hv
  have hx := B.exec
  have hb := B.bytes
  have hr := B.returns
  have hts := atoms_spec (ws := wsX2_endDay) B.pre
  have hown : s.vm.findClass RX2 = some m.cls := findClass_of_methodNamed B.named
  have hlocks := B.notSynchronized
  have hD := hD0.aself
  generalize hAe : aset [(a7, .inr (2, [.ref a0, .ref a8, .ref a10, .ref a11, .int n7_4, .int n7_5, .int n7_6, .int n7_7])), (a8, .inr (0, [.ref a9, .int n8_1])), (a9, .inl (ct 0, 8, .inl f9)), (a11, .inl (ct 0, 8, .inl f11))] = A at hD ⊢
  have hS : va_S A s.heap s.heap [] := va_S.rf
  have hl := lv_entry ([.ref a7]) (n := 2) (Nat.le_of_ble_eq_true rfl)
  rw [lg_entry_eq]
  generalize (lg_sl ([.ref a7]) ++ List.replicate (2 - (lg_sl ([.ref a7])).length) Slot.unset).toArray = ls at hl ⊢
  have hl : lv_has ls 2 [(0, .ref a7)] := hl
  refine lv_iconst (v := 0) hx hb dX2_endDay_0 (by decide) ?_
  refine lv_istore_n (lv' := [(1, .int 0), (0, .ref a7)]) hx hb dX2_endDay_1 rfl hl (by decide) rfl (fun ls hl => ?_)
  have j2 : ∀ (n : Nat) (x2_1 : Int32) (f2_2 : Nat → Int32) (H : Heap) (locs : List Loc) (ls : Array Slot), 2147483648 ≤ x2_1.toInt + (n : Int) → rg 0 8 x2_1 → va_P G vwCl [(a7, .inr (2, [.ref a0, .ref a8, .ref a10, .ref a11, .int n7_4, .int n7_5, .int n7_6, .int n7_7])), (a8, .inr (0, [.ref a9, .int n8_1])), (a9, .inl (ct 0, 8, .inl f2_2)), (a11, .inl (ct 0, 8, .inl f11))] H → va_D A [(a7, .inr (2, [.ref a0, .ref a8, .ref a10, .ref a11, .int n7_4, .int n7_5, .int n7_6, .int n7_7])), (a8, .inr (0, [.ref a9, .int n8_1])), (a9, .inl (ct 0, 8, .inl f2_2)), (a11, .inl (ct 0, 8, .inl f11))] → va_S A s.heap H locs → lv_has ls 2 [(0, .ref a7), (1, .int x2_1)] → W p l e (headSpec wsX2_endDay ({ frames := 2, cells := 0, slots := 0, locals := 43 })).room s m ([.ref a7] : List Value).toArray below meth c H locs 0 0 (MQ below (va_Qv (fun u : SU => rg 0 0 (u.1 0) ∧ rg 0 0 (u.1 1) ∧ True) (fun u t => va_P G vwCl ((fun u : SU => [(a7, .inr (2, [.ref a0, .ref a8, .ref a10, .ref a11, .int (u.1 0), .int (u.1 1), .int (u.1 2), .int n7_7])), (a8, .inr (0, [.ref a9, .int n8_1])), (a9, .inl (ct 0, 8, .inl (u.2.1 0))), (a11, .inl (ct 0, 8, .inl f11))]) u) t.heap) A) ([.ref a7] : List Value).toArray s 0 0 A) (F0 m 2 ls []) := by
    intro n
    induction n with
    | zero => intro x2_1 f2_2 H locs ls hn2 hx2_1 hP hD hS hl; exact absurd hn2 (by have := Int32.toInt_lt x2_1; have := Int32.le_toInt x2_1; omega)
    | succ n ih2 =>
      intro x2_1 f2_2 H locs ls hn2 hx2_1 hP hD hS hl
      refine lv_iload_n hx hb dX2_endDay_2 rfl (lv_at hl 1 rfl) ?_
      refine lv_aload_n hx hb dX2_endDay_3 rfl (lv_at hl 0 rfl) ?_
      refine va_get (D := G) (ci := 2) (v := .ref a8) (C := RX2) (T := TX2) (N := 8) hx hb hts (by decide +kernel) hown hK.1 hP 0 rfl rfl 1 (by decide) (hts (.fieldLink RX2 12 "CardHolder$Hands" "bonds" "LCardHolder$Bonds;") (by decide +kernel)) (fun _ h9 => h9) rfl dX2_endDay_4 ?_
      refine va_get (D := G) (ci := 0) (v := .int n8_1) (C := RX0) (T := TX0) (N := 2) hx hb hts (by decide +kernel) hown hK.1 hP 1 rfl rfl 1 (by decide) (hts (.fieldLink RX2 74 "CardHolder$Bonds" "persons" "I") (by decide +kernel)) (fun _ h9 => h9) rfl dX2_endDay_7 ?_
      refine lv_icmp_ge (tgt := 57) hx hb dX2_endDay_10 (by decide) (fun c10 => ?_) (fun c10 => ?_)
      · refine lv_aload_n hx hb dX2_endDay_57 rfl (lv_at hl 0 rfl) ?_
        refine lv_iconst (v := 0) hx hb dX2_endDay_58 (by decide) ?_
        refine va_put (D := G) (ci := 2) (v := .int 0) (ty := .int) (C := RX2) (T := TX2) (N := 8) hx hb hts (by decide +kernel) tyX2 tyX2_ok nmX2 hown hK.1 hP hD hS 0 rfl rfl 5 (by decide) (hts (.fieldLink RX2 40 "CardHolder$Hands" "stolen" "I") (by decide +kernel)) (fun _ h9 => h9) rfl (by decide +kernel) rfl rfl (Nat.le_of_ble_eq_true rfl) dX2_endDay_59 (fun H locs hP hD hS => ?_)
        refine lv_aload_n hx hb dX2_endDay_62 rfl (lv_at hl 0 rfl) ?_
        refine lv_iconst (v := 0) hx hb dX2_endDay_63 (by decide) ?_
        refine va_put (D := G) (ci := 2) (v := .int 0) (ty := .int) (C := RX2) (T := TX2) (N := 8) hx hb hts (by decide +kernel) tyX2 tyX2_ok nmX2 hown hK.1 hP hD hS 0 rfl rfl 4 (by decide) (hts (.fieldLink RX2 36 "CardHolder$Hands" "askedToday" "I") (by decide +kernel)) (fun _ h9 => h9) rfl (by decide +kernel) rfl rfl (Nat.le_of_ble_eq_true rfl) dX2_endDay_64 (fun H locs hP hD hS => ?_)
        refine lv_aload_n hx hb dX2_endDay_67 rfl (lv_at hl 0 rfl) ?_
        refine lv_dup hx hb dX2_endDay_68 rfl ?_
        refine va_get (D := G) (ci := 2) (v := .int n7_6) (C := RX2) (T := TX2) (N := 8) hx hb hts (by decide +kernel) hown hK.1 hP 0 rfl rfl 6 (by decide) (hts (.fieldLink RX2 43 "CardHolder$Hands" "today" "I") (by decide +kernel)) (fun _ h9 => h9) rfl dX2_endDay_69 ?_
        refine lv_iconst (v := 1) hx hb dX2_endDay_72 (by decide) ?_
        refine lv_iadd hx hb dX2_endDay_73 ?_
        refine nm_0 (fun z73 => ?_)
        refine va_put (D := G) (ci := 2) (v := .int z73) (ty := .int) (C := RX2) (T := TX2) (N := 8) hx hb hts (by decide +kernel) tyX2 tyX2_ok nmX2 hown hK.1 hP hD hS 0 rfl rfl 6 (by decide) (hts (.fieldLink RX2 43 "CardHolder$Hands" "today" "I") (by decide +kernel)) (fun _ h9 => h9) rfl (by decide +kernel) rfl rfl (Nat.le_of_ble_eq_true rfl) dX2_endDay_74 (fun H locs hP hD hS => ?_)
        exact W.vret hx hb hr (fun t ht hW => ⟨⟨(fun k => ([0, 0, z73] : List Int32).getD k 0, fun k => ([f2_2] : List (Nat → Int32)).getD k (fun _ => 0), fun k => ([] : List (Nat → Int64)).getD k (fun _ => 0)), rfl, ⟨(rgn 0 (x := 0) (by decide)), (rgn 0 (x := 0) (by decide)), trivial⟩, hp_at ht hP⟩, hS.F ht⟩) hS.2.2 dX2_endDay_77
      · have h_1 : rg 0 7 x2_1 := r_lt_l_i (nle_i c10) hx2_1 hp_n8_1 (by decide)
        have h_2 : rg 1 8 n8_1 := r_lt_r_i (nle_i c10) hx2_1 hp_n8_1 (by decide)
        refine lv_aload_n hx hb dX2_endDay_13 rfl (lv_at hl 0 rfl) ?_
        refine va_get (D := G) (ci := 2) (v := .int n7_5) (C := RX2) (T := TX2) (N := 8) hx hb hts (by decide +kernel) hown hK.1 hP 0 rfl rfl 5 (by decide) (hts (.fieldLink RX2 40 "CardHolder$Hands" "stolen" "I") (by decide +kernel)) (fun _ h9 => h9) rfl dX2_endDay_14 ?_
        refine lv_iload_n hx hb dX2_endDay_17 rfl (lv_at hl 1 rfl) ?_
        refine ro_calli (va_runSN (As := [.int n7_5, .int x2_1]) (rest := []) ⟨hx, hb, hml, hown, hts⟩ (a_X10_bitOf l G ct n7_5 x2_1) ⟨va_cnB 2 hts gX2_endDay_X10_bitOf_n56 rfl rfl rfl (hK.2.1 (RX2, 56, yX10_bitOf, "CardHolder") (by decide +kernel)) (hts (.initialized RX10) (by decide +kernel)) (by decide +kernel) ⟨Nat.le_of_ble_eq_true rfl, Nat.le_of_ble_eq_true rfl⟩, hts (.static yX10_bitOf) (by decide +kernel), trivial⟩ (ro_pre hK (hP.sub [] rfl)) rfl rfl hl.1 rfl (lv_room (Nat.le_of_ble_eq_true rfl)) dX2_endDay_18 ⟨Nat.zero_le _, Nat.zero_le _⟩) hS hP (fun r18 H locs wr18 hP hS => ?_)
        obtain ⟨p_3, -⟩ := wr18
        refine lv_iconst (v := 1) hx hb dX2_endDay_21 (by decide) ?_
        have j51 : ∀ (f51_2 : Nat → Int32) (H : Heap) (locs : List Loc) (ls : Array Slot), va_P G vwCl [(a7, .inr (2, [.ref a0, .ref a8, .ref a10, .ref a11, .int n7_4, .int n7_5, .int n7_6, .int n7_7])), (a8, .inr (0, [.ref a9, .int n8_1])), (a9, .inl (ct 0, 8, .inl f51_2)), (a11, .inl (ct 0, 8, .inl f11))] H → va_D A [(a7, .inr (2, [.ref a0, .ref a8, .ref a10, .ref a11, .int n7_4, .int n7_5, .int n7_6, .int n7_7])), (a8, .inr (0, [.ref a9, .int n8_1])), (a9, .inl (ct 0, 8, .inl f51_2)), (a11, .inl (ct 0, 8, .inl f11))] → va_S A s.heap H locs → lv_has ls 2 [(0, .ref a7), (1, .int x2_1)] → W p l e (headSpec wsX2_endDay ({ frames := 2, cells := 0, slots := 0, locals := 43 })).room s m ([.ref a7] : List Value).toArray below meth c H locs 0 0 (MQ below (va_Qv (fun u : SU => rg 0 0 (u.1 0) ∧ rg 0 0 (u.1 1) ∧ True) (fun u t => va_P G vwCl ((fun u : SU => [(a7, .inr (2, [.ref a0, .ref a8, .ref a10, .ref a11, .int (u.1 0), .int (u.1 1), .int (u.1 2), .int n7_7])), (a8, .inr (0, [.ref a9, .int n8_1])), (a9, .inl (ct 0, 8, .inl (u.2.1 0))), (a11, .inl (ct 0, 8, .inl f11))]) u) t.heap) A) ([.ref a7] : List Value).toArray s 0 0 A) (F0 m 51 ls []) := by
          intro f51_2 H locs ls  hP hD hS hl
          obtain ⟨z51, qz51⟩ : ∃ y : Int32, y = x2_1 + Int32.ofInt 1 := ⟨_, rfl⟩
          obtain ⟨hz51, ez51⟩ := inc_z (e := 1) (f := 8) h_1 qz51 (by decide)
          refine lv_iinc (v := z51) (lv' := [(1, .int z51), (0, .ref a7)]) hx hb dX2_endDay_51 hl (k := 1) rfl (qz51.symm) (by decide) rfl (fun ls hl => ?_)
          refine lv_goto (tgt := 2) hx hb dX2_endDay_54 (by decide) ?_
          exact ih2 z51 f51_2 _ _ ls (by have q := hn2; have := ez51; omega) (rg_w (c := 0) (d := 8) hz51 (by decide)) hP hD hS (lv_sub hl [1, 0] rfl)
        refine lv_icmp_ne (tgt := 51) hx hb dX2_endDay_22 (by decide) (fun c22 => ?_) (fun c22 => ?_)
        · have h_4 : rg 0 0 r18 := r_ne_hi_i c22 p_3 (by decide) (by decide)
          exact j51 f2_2 _ _ ls hP hD hS (lv_sub hl [0, 1] rfl)
        · have h_5 : rg 1 1 r18 := r_eq_l_i (e := 1) (f := 1) c22 p_3 (rgn 1 (x := 1) (by decide)) (by decide)
          refine lv_aload_n hx hb dX2_endDay_25 rfl (lv_at hl 0 rfl) ?_
          refine va_get (D := G) (ci := 2) (v := .ref a8) (C := RX2) (T := TX2) (N := 8) hx hb hts (by decide +kernel) hown hK.1 hP 0 rfl rfl 1 (by decide) (hts (.fieldLink RX2 12 "CardHolder$Hands" "bonds" "LCardHolder$Bonds;") (by decide +kernel)) (fun _ h9 => h9) rfl dX2_endDay_26 ?_
          refine lv_iload_n hx hb dX2_endDay_29 rfl (lv_at hl 1 rfl) ?_
          refine ro_calli (va_runV (As := [.int x2_1]) (rest := []) ⟨hx, hb, hml, hown, hts⟩ (a_X0_holderOf l G ct a8 a9 n8_1 f2_2 x2_1 (rg_w (c := 0) (d := 8) h_2 (by decide))) (cwV 1 hts gX2_endDay_X0_holderOf rfl rfl rfl (by decide +kernel) ⟨Nat.le_of_ble_eq_true rfl, Nat.le_of_ble_eq_true rfl⟩) (ro_preV 0 0 hK (hP.sub [1, 2] rfl) rfl rfl) rfl rfl hl.1 rfl (lv_room (Nat.le_of_ble_eq_true rfl)) dX2_endDay_30 ⟨Nat.zero_le _, Nat.zero_le _⟩) hS hP (fun r30 H locs wr30 hP hS => ?_)
          obtain ⟨p_6, p_7, p_8, p_9, -⟩ := wr30
          refine lv_iconst (v := (-1)) hx hb dX2_endDay_33 (by decide) ?_
          refine lv_icmp_eq (tgt := 51) hx hb dX2_endDay_34 (by decide) (fun c34 => ?_) (fun c34 => ?_)
          · have h_10 : rg (-1) (-1) r30 := r_eq_l_i (e := (-1)) (f := (-1)) c34 (rg_t r30) (rgn (-1) (x := (-1)) (by decide)) (by decide)
            exact j51 f2_2 _ _ ls hP hD hS (lv_sub hl [0, 1] rfl)
          · refine lv_aload_n hx hb dX2_endDay_37 rfl (lv_at hl 0 rfl) ?_
            refine va_get (D := G) (ci := 2) (v := .ref a8) (C := RX2) (T := TX2) (N := 8) hx hb hts (by decide +kernel) hown hK.1 hP 0 rfl rfl 1 (by decide) (hts (.fieldLink RX2 12 "CardHolder$Hands" "bonds" "LCardHolder$Bonds;") (by decide +kernel)) (fun _ h9 => h9) rfl dX2_endDay_38 ?_
            refine lv_iload_n hx hb dX2_endDay_41 rfl (lv_at hl 1 rfl) ?_
            refine lv_aload_n hx hb dX2_endDay_42 rfl (lv_at hl 0 rfl) ?_
            refine va_get (D := G) (ci := 2) (v := .ref a11) (C := RX2) (T := TX2) (N := 8) hx hb hts (by decide +kernel) hown hK.1 hP 0 rfl rfl 3 (by decide) (hts (.fieldLink RX2 22 "CardHolder$Hands" "robbed" "[I") (by decide +kernel)) (fun _ h9 => h9) rfl dX2_endDay_43 ?_
            refine lv_iload_n hx hb dX2_endDay_46 rfl (lv_at hl 1 rfl) ?_
            refine va_iald hx hb hK.1 hP 3 0 rfl rfl (in_rg h_1 (by decide)) dX2_endDay_47 ?_
            refine lv_topi (fun z47 gz47 => ?_)
            refine wj_callv (wr := [(a7, .inr (2, [.ref a0, .ref a8, .ref a10, .ref a11, .int n7_4, .int n7_5, .int n7_6, .int n7_7])), (a11, .inl (ct 0, 8, .inl f11))]) (w1 := (fun u : SU => [(a8, .inr (0, [.ref a9, .int n8_1])), (a9, .inl (ct 0, 8, .inl (u.2.1 0)))])) (va_runV (As := [.int x2_1, .int z47]) (rest := []) ⟨hx, hb, hml, hown, hts⟩ (a_X0_put l G ct a8 a9 n8_1 f2_2 x2_1 z47 (rg_w (c := 0) (d := 8) h_2 (by decide))) (cwV 2 hts gX2_endDay_X0_put rfl rfl rfl (by decide +kernel) ⟨Nat.le_of_ble_eq_true rfl, Nat.le_of_ble_eq_true rfl⟩) (wr_preV 0 0 hK (hP.sub [1, 2] rfl) (hD.sub [1, 2] (by decide) rfl) rfl rfl) rfl rfl hl.1 rfl (lv_room (Nat.le_of_ble_eq_true rfl)) dX2_endDay_48 ⟨Nat.zero_le _, Nat.zero_le _⟩) hS hP hD [1, 2] [0, 3] rfl rfl (by decide) (fun _ => rfl) (fun ur48 H locs wr48 hP hD hS => ?_)
            have hP : va_P G vwCl [(a7, .inr (2, [.ref a0, .ref a8, .ref a10, .ref a11, .int n7_4, .int n7_5, .int n7_6, .int n7_7])), (a8, .inr (0, [.ref a9, .int n8_1])), (a9, .inl (ct 0, 8, .inl (ur48.2.1 0))), (a11, .inl (ct 0, 8, .inl f11))] H := hP.sub [0, 2, 3, 1] rfl
            have hD : va_D A [(a7, .inr (2, [.ref a0, .ref a8, .ref a10, .ref a11, .int n7_4, .int n7_5, .int n7_6, .int n7_7])), (a8, .inr (0, [.ref a9, .int n8_1])), (a9, .inl (ct 0, 8, .inl (ur48.2.1 0))), (a11, .inl (ct 0, 8, .inl f11))] := hD.sub [0, 2, 3, 1] (by decide) rfl
            exact j51 (ur48.2.1 0) _ _ ls hP hD hS (lv_sub hl [0, 1] rfl)
  exact j2 4294967296 (0 : Int32) f9 _ _ ls (ms_e (0 : Int32)) (rg_w (c := 0) (d := 8) (rgn 0 (x := 0) (by decide)) (by decide)) hP hD hS (lv_sub hl [1, 0] rfl)
