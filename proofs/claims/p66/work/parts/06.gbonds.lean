theorem dX0_has_0 : decode cX0_has 0 = .ok (.iload_n 1, 1) := by decide +kernel
theorem dX0_has_1 : decode cX0_has 1 = .ok (.ifCond .lt 21, 3) := by decide +kernel
theorem dX0_has_22 : decode cX0_has 22 = .ok (.iconst 0, 1) := by decide +kernel
theorem dX0_has_23 : decode cX0_has 23 = .ok (.ireturn, 1) := by decide +kernel
theorem dX0_has_4 : decode cX0_has 4 = .ok (.iload_n 1, 1) := by decide +kernel
theorem dX0_has_5 : decode cX0_has 5 = .ok (.aload_n 0, 1) := by decide +kernel
theorem dX0_has_6 : decode cX0_has 6 = .ok (.getfield 15, 3) := by decide +kernel
theorem dX0_has_9 : decode cX0_has 9 = .ok (.if_icmp .ge 13, 3) := by decide +kernel
theorem dX0_has_12 : decode cX0_has 12 = .ok (.iload_n 1, 1) := by decide +kernel
theorem dX0_has_13 : decode cX0_has 13 = .ok (.bipush 8, 2) := by decide +kernel
theorem dX0_has_15 : decode cX0_has 15 = .ok (.if_icmp .ge 7, 3) := by decide +kernel
theorem dX0_has_18 : decode cX0_has 18 = .ok (.iconst 1, 1) := by decide +kernel
theorem dX0_has_19 : decode cX0_has 19 = .ok (.goto 4, 3) := by decide +kernel
theorem dX0_holderOf_0 : decode cX0_holderOf 0 = .ok (.aload_n 0, 1) := by decide +kernel
theorem dX0_holderOf_1 : decode cX0_holderOf 1 = .ok (.iload_n 1, 1) := by decide +kernel
set_option maxRecDepth 20000 in
theorem ggX0_holderOf_X0_has : GoodIn wsX0_holderOf wsX0_has := goodIn_r _ [6, 7, 8, 9] (by rfl) (by decide +kernel)
set_option maxRecDepth 20000 in
theorem gX0_holderOf_X0_has : GoodIn wsX0_holderOf (wsV RX0 19 RX0 yX0_has wsX0_has) := goodIn_app (goodIn_r _ [2, 3, 4, 5] (by rfl) (by decide +kernel)) ggX0_holderOf_X0_has
theorem dX0_holderOf_2 : decode cX0_holderOf 2 = .ok (.invokevirtual 19, 3) := by decide +kernel
theorem dX0_holderOf_5 : decode cX0_holderOf 5 = .ok (.ifCond .eq 12, 3) := by decide +kernel
theorem dX0_holderOf_17 : decode cX0_holderOf 17 = .ok (.iconst (-1), 1) := by decide +kernel
theorem dX0_holderOf_18 : decode cX0_holderOf 18 = .ok (.ireturn, 1) := by decide +kernel
theorem dX0_holderOf_8 : decode cX0_holderOf 8 = .ok (.aload_n 0, 1) := by decide +kernel
theorem dX0_holderOf_9 : decode cX0_holderOf 9 = .ok (.getfield 9, 3) := by decide +kernel
theorem dX0_holderOf_12 : decode cX0_holderOf 12 = .ok (.iload_n 1, 1) := by decide +kernel
theorem dX0_holderOf_13 : decode cX0_holderOf 13 = .ok (.iaload, 1) := by decide +kernel
theorem dX0_holderOf_14 : decode cX0_holderOf 14 = .ok (.goto 4, 3) := by decide +kernel
theorem dX0_put_0 : decode cX0_put 0 = .ok (.aload_n 0, 1) := by decide +kernel
theorem dX0_put_1 : decode cX0_put 1 = .ok (.iload_n 1, 1) := by decide +kernel
set_option maxRecDepth 20000 in
theorem ggX0_put_X0_has : GoodIn wsX0_put wsX0_has := goodIn_r _ [6, 7, 8, 9] (by rfl) (by decide +kernel)
set_option maxRecDepth 20000 in
theorem gX0_put_X0_has : GoodIn wsX0_put (wsV RX0 19 RX0 yX0_has wsX0_has) := goodIn_app (goodIn_r _ [2, 3, 4, 5] (by rfl) (by decide +kernel)) ggX0_put_X0_has
theorem dX0_put_2 : decode cX0_put 2 = .ok (.invokevirtual 19, 3) := by decide +kernel
theorem dX0_put_5 : decode cX0_put 5 = .ok (.ifCond .eq 10, 3) := by decide +kernel
theorem dX0_put_15 : decode cX0_put 15 = .ok (.return_, 1) := by decide +kernel
theorem dX0_put_8 : decode cX0_put 8 = .ok (.aload_n 0, 1) := by decide +kernel
theorem dX0_put_9 : decode cX0_put 9 = .ok (.getfield 9, 3) := by decide +kernel
theorem dX0_put_12 : decode cX0_put 12 = .ok (.iload_n 1, 1) := by decide +kernel
theorem dX0_put_13 : decode cX0_put 13 = .ok (.iload_n 2, 1) := by decide +kernel
theorem dX0_put_14 : decode cX0_put 14 = .ok (.iastore, 1) := by decide +kernel
theorem dX0_copyOf_0 : decode cX0_copyOf 0 = .ok (.aload_n 0, 1) := by decide +kernel
theorem dX0_copyOf_1 : decode cX0_copyOf 1 = .ok (.aload_n 1, 1) := by decide +kernel
theorem dX0_copyOf_2 : decode cX0_copyOf 2 = .ok (.getfield 15, 3) := by decide +kernel
theorem dX0_copyOf_5 : decode cX0_copyOf 5 = .ok (.putfield 15, 3) := by decide +kernel
theorem dX0_copyOf_8 : decode cX0_copyOf 8 = .ok (.aload_n 1, 1) := by decide +kernel
theorem dX0_copyOf_9 : decode cX0_copyOf 9 = .ok (.getfield 9, 3) := by decide +kernel
theorem dX0_copyOf_12 : decode cX0_copyOf 12 = .ok (.iconst 0, 1) := by decide +kernel
theorem dX0_copyOf_13 : decode cX0_copyOf 13 = .ok (.aload_n 0, 1) := by decide +kernel
theorem dX0_copyOf_14 : decode cX0_copyOf 14 = .ok (.getfield 9, 3) := by decide +kernel
theorem dX0_copyOf_17 : decode cX0_copyOf 17 = .ok (.iconst 0, 1) := by decide +kernel
theorem dX0_copyOf_18 : decode cX0_copyOf 18 = .ok (.bipush 8, 2) := by decide +kernel
theorem dX0_copyOf_20 : decode cX0_copyOf 20 = .ok (.invokestatic 23, 3) := by decide +kernel
theorem dX0_copyOf_23 : decode cX0_copyOf 23 = .ok (.return_, 1) := by decide +kernel
theorem dX0_everyone_0 : decode cX0_everyone 0 = .ok (.iconst 1, 1) := by decide +kernel
theorem dX0_everyone_1 : decode cX0_everyone 1 = .ok (.aload_n 0, 1) := by decide +kernel
theorem dX0_everyone_2 : decode cX0_everyone 2 = .ok (.getfield 15, 3) := by decide +kernel
theorem dX0_everyone_5 : decode cX0_everyone 5 = .ok (.ishl, 1) := by decide +kernel
theorem dX0_everyone_6 : decode cX0_everyone 6 = .ok (.iconst 1, 1) := by decide +kernel
theorem dX0_everyone_7 : decode cX0_everyone 7 = .ok (.isub, 1) := by decide +kernel
theorem dX0_everyone_8 : decode cX0_everyone 8 = .ok (.ireturn, 1) := by decide +kernel
theorem dX0_handOf_0 : decode cX0_handOf 0 = .ok (.iconst 0, 1) := by decide +kernel
theorem dX0_handOf_1 : decode cX0_handOf 1 = .ok (.istore_n 2, 1) := by decide +kernel
theorem dX0_handOf_2 : decode cX0_handOf 2 = .ok (.iconst 0, 1) := by decide +kernel
theorem dX0_handOf_3 : decode cX0_handOf 3 = .ok (.istore_n 3, 1) := by decide +kernel
theorem dX0_handOf_4 : decode cX0_handOf 4 = .ok (.iload_n 3, 1) := by decide +kernel
theorem dX0_handOf_5 : decode cX0_handOf 5 = .ok (.aload_n 0, 1) := by decide +kernel
theorem dX0_handOf_6 : decode cX0_handOf 6 = .ok (.getfield 15, 3) := by decide +kernel
theorem dX0_handOf_9 : decode cX0_handOf 9 = .ok (.if_icmp .ge 24, 3) := by decide +kernel
theorem dX0_handOf_33 : decode cX0_handOf 33 = .ok (.iload_n 2, 1) := by decide +kernel
theorem dX0_handOf_34 : decode cX0_handOf 34 = .ok (.ireturn, 1) := by decide +kernel
theorem dX0_handOf_12 : decode cX0_handOf 12 = .ok (.aload_n 0, 1) := by decide +kernel
theorem dX0_handOf_13 : decode cX0_handOf 13 = .ok (.iload_n 3, 1) := by decide +kernel
set_option maxRecDepth 20000 in
theorem ggX0_handOf_X0_holderOf : GoodIn wsX0_handOf wsX0_holderOf := goodIn_r _ [6, 7, 8, 9, 10, 5, 11, 1, 12, 13] (by rfl) (by decide +kernel)
set_option maxRecDepth 20000 in
theorem gX0_handOf_X0_holderOf : GoodIn wsX0_handOf (wsV RX0 29 RX0 yX0_holderOf wsX0_holderOf) := goodIn_app (goodIn_r _ [2, 3, 4, 5] (by rfl) (by decide +kernel)) ggX0_handOf_X0_holderOf
theorem dX0_handOf_14 : decode cX0_handOf 14 = .ok (.invokevirtual 29, 3) := by decide +kernel
theorem dX0_handOf_17 : decode cX0_handOf 17 = .ok (.iload_n 1, 1) := by decide +kernel
theorem dX0_handOf_27 : decode cX0_handOf 27 = .ok (.iinc 3 1, 3) := by decide +kernel
theorem dX0_handOf_30 : decode cX0_handOf 30 = .ok (.goto (-26), 3) := by decide +kernel
theorem dX0_handOf_18 : decode cX0_handOf 18 = .ok (.if_icmp .ne 9, 3) := by decide +kernel
theorem dX0_handOf_21 : decode cX0_handOf 21 = .ok (.iload_n 2, 1) := by decide +kernel
theorem dX0_handOf_22 : decode cX0_handOf 22 = .ok (.iconst 1, 1) := by decide +kernel
theorem dX0_handOf_23 : decode cX0_handOf 23 = .ok (.iload_n 3, 1) := by decide +kernel
theorem dX0_handOf_24 : decode cX0_handOf 24 = .ok (.ishl, 1) := by decide +kernel
theorem dX0_handOf_25 : decode cX0_handOf 25 = .ok (.ior, 1) := by decide +kernel
theorem dX0_handOf_26 : decode cX0_handOf 26 = .ok (.istore_n 2, 1) := by decide +kernel
theorem dX0_freeOnes_0 : decode cX0_freeOnes 0 = .ok (.aload_n 0, 1) := by decide +kernel
theorem dX0_freeOnes_1 : decode cX0_freeOnes 1 = .ok (.iconst (-1), 1) := by decide +kernel
set_option maxRecDepth 20000 in
theorem ggX0_freeOnes_X0_handOf : GoodIn wsX0_freeOnes wsX0_handOf := goodIn_r _ [5, 6, 7, 8, 9, 4, 10, 11, 12, 13, 14, 15, 16, 17] (by rfl) (by decide +kernel)
set_option maxRecDepth 20000 in
theorem gX0_freeOnes_X0_handOf : GoodIn wsX0_freeOnes (wsV RX0 33 RX0 yX0_handOf wsX0_handOf) := goodIn_app (goodIn_r _ [1, 2, 3, 4] (by rfl) (by decide +kernel)) ggX0_freeOnes_X0_handOf
theorem dX0_freeOnes_2 : decode cX0_freeOnes 2 = .ok (.invokevirtual 33, 3) := by decide +kernel
theorem dX0_freeOnes_5 : decode cX0_freeOnes 5 = .ok (.ireturn, 1) := by decide +kernel
theorem dX0_stepsTo_0 : decode cX0_stepsTo 0 = .ok (.iload_n 2, 1) := by decide +kernel
theorem dX0_stepsTo_1 : decode cX0_stepsTo 1 = .ok (.istore_n 3, 1) := by decide +kernel
theorem dX0_stepsTo_2 : decode cX0_stepsTo 2 = .ok (.iconst 1, 1) := by decide +kernel
theorem dX0_stepsTo_3 : decode cX0_stepsTo 3 = .ok (.istore 4, 2) := by decide +kernel
theorem dX0_stepsTo_5 : decode cX0_stepsTo 5 = .ok (.iload 4, 2) := by decide +kernel
theorem dX0_stepsTo_7 : decode cX0_stepsTo 7 = .ok (.bipush 8, 2) := by decide +kernel
theorem dX0_stepsTo_9 : decode cX0_stepsTo 9 = .ok (.if_icmp .gt 28, 3) := by decide +kernel
theorem dX0_stepsTo_37 : decode cX0_stepsTo 37 = .ok (.iconst (-1), 1) := by decide +kernel
theorem dX0_stepsTo_38 : decode cX0_stepsTo 38 = .ok (.ireturn, 1) := by decide +kernel
theorem dX0_stepsTo_12 : decode cX0_stepsTo 12 = .ok (.iload_n 3, 1) := by decide +kernel
theorem dX0_stepsTo_13 : decode cX0_stepsTo 13 = .ok (.iconst (-1), 1) := by decide +kernel
theorem dX0_stepsTo_14 : decode cX0_stepsTo 14 = .ok (.if_icmp .eq 23, 3) := by decide +kernel
theorem dX0_stepsTo_17 : decode cX0_stepsTo 17 = .ok (.aload_n 0, 1) := by decide +kernel
theorem dX0_stepsTo_18 : decode cX0_stepsTo 18 = .ok (.iload_n 3, 1) := by decide +kernel
set_option maxRecDepth 20000 in
theorem ggX0_stepsTo_X0_holderOf : GoodIn wsX0_stepsTo wsX0_holderOf := goodIn_r _ [5, 6, 7, 8, 9, 4, 10, 11, 12, 13] (by rfl) (by decide +kernel)
set_option maxRecDepth 20000 in
theorem gX0_stepsTo_X0_holderOf : GoodIn wsX0_stepsTo (wsV RX0 29 RX0 yX0_holderOf wsX0_holderOf) := goodIn_app (goodIn_r _ [1, 2, 3, 4] (by rfl) (by decide +kernel)) ggX0_stepsTo_X0_holderOf
theorem dX0_stepsTo_19 : decode cX0_stepsTo 19 = .ok (.invokevirtual 29, 3) := by decide +kernel
theorem dX0_stepsTo_22 : decode cX0_stepsTo 22 = .ok (.istore_n 3, 1) := by decide +kernel
theorem dX0_stepsTo_23 : decode cX0_stepsTo 23 = .ok (.iload_n 3, 1) := by decide +kernel
theorem dX0_stepsTo_24 : decode cX0_stepsTo 24 = .ok (.iload_n 1, 1) := by decide +kernel
theorem dX0_stepsTo_25 : decode cX0_stepsTo 25 = .ok (.if_icmp .ne 6, 3) := by decide +kernel
theorem dX0_stepsTo_31 : decode cX0_stepsTo 31 = .ok (.iinc 4 1, 3) := by decide +kernel
theorem dX0_stepsTo_34 : decode cX0_stepsTo 34 = .ok (.goto (-29), 3) := by decide +kernel
theorem dX0_stepsTo_28 : decode cX0_stepsTo 28 = .ok (.iload 4, 2) := by decide +kernel
theorem dX0_stepsTo_30 : decode cX0_stepsTo 30 = .ok (.ireturn, 1) := by decide +kernel
theorem dX0_climb_0 : decode cX0_climb 0 = .ok (.iload_n 1, 1) := by decide +kernel
theorem dX0_climb_1 : decode cX0_climb 1 = .ok (.istore_n 3, 1) := by decide +kernel
theorem dX0_climb_2 : decode cX0_climb 2 = .ok (.iconst 0, 1) := by decide +kernel
theorem dX0_climb_3 : decode cX0_climb 3 = .ok (.istore 4, 2) := by decide +kernel
theorem dX0_climb_5 : decode cX0_climb 5 = .ok (.iload 4, 2) := by decide +kernel
theorem dX0_climb_7 : decode cX0_climb 7 = .ok (.iload_n 2, 1) := by decide +kernel
theorem dX0_climb_8 : decode cX0_climb 8 = .ok (.if_icmp .ge 20, 3) := by decide +kernel
theorem dX0_climb_28 : decode cX0_climb 28 = .ok (.iload_n 3, 1) := by decide +kernel
theorem dX0_climb_29 : decode cX0_climb 29 = .ok (.ireturn, 1) := by decide +kernel
theorem dX0_climb_11 : decode cX0_climb 11 = .ok (.iload_n 3, 1) := by decide +kernel
theorem dX0_climb_12 : decode cX0_climb 12 = .ok (.iconst (-1), 1) := by decide +kernel
theorem dX0_climb_13 : decode cX0_climb 13 = .ok (.if_icmp .eq 15, 3) := by decide +kernel
theorem dX0_climb_16 : decode cX0_climb 16 = .ok (.aload_n 0, 1) := by decide +kernel
theorem dX0_climb_17 : decode cX0_climb 17 = .ok (.iload_n 3, 1) := by decide +kernel
set_option maxRecDepth 20000 in
theorem ggX0_climb_X0_holderOf : GoodIn wsX0_climb wsX0_holderOf := goodIn_r _ [5, 6, 7, 8, 9, 4, 10, 11, 12, 13] (by rfl) (by decide +kernel)
set_option maxRecDepth 20000 in
theorem gX0_climb_X0_holderOf : GoodIn wsX0_climb (wsV RX0 29 RX0 yX0_holderOf wsX0_holderOf) := goodIn_app (goodIn_r _ [1, 2, 3, 4] (by rfl) (by decide +kernel)) ggX0_climb_X0_holderOf
theorem dX0_climb_18 : decode cX0_climb 18 = .ok (.invokevirtual 29, 3) := by decide +kernel
theorem dX0_climb_21 : decode cX0_climb 21 = .ok (.istore_n 3, 1) := by decide +kernel
theorem dX0_climb_22 : decode cX0_climb 22 = .ok (.iinc 4 1, 3) := by decide +kernel
theorem dX0_climb_25 : decode cX0_climb 25 = .ok (.goto (-20), 3) := by decide +kernel
theorem dX0_below_0 : decode cX0_below 0 = .ok (.iconst 0, 1) := by decide +kernel
theorem dX0_below_1 : decode cX0_below 1 = .ok (.istore_n 2, 1) := by decide +kernel
theorem dX0_below_2 : decode cX0_below 2 = .ok (.iconst 0, 1) := by decide +kernel
theorem dX0_below_3 : decode cX0_below 3 = .ok (.istore_n 3, 1) := by decide +kernel
theorem dX0_below_4 : decode cX0_below 4 = .ok (.iload_n 3, 1) := by decide +kernel
theorem dX0_below_5 : decode cX0_below 5 = .ok (.aload_n 0, 1) := by decide +kernel
theorem dX0_below_6 : decode cX0_below 6 = .ok (.getfield 15, 3) := by decide +kernel
theorem dX0_below_9 : decode cX0_below 9 = .ok (.if_icmp .ge 25, 3) := by decide +kernel
theorem dX0_below_34 : decode cX0_below 34 = .ok (.iload_n 2, 1) := by decide +kernel
theorem dX0_below_35 : decode cX0_below 35 = .ok (.ireturn, 1) := by decide +kernel
theorem dX0_below_12 : decode cX0_below 12 = .ok (.aload_n 0, 1) := by decide +kernel
theorem dX0_below_13 : decode cX0_below 13 = .ok (.iload_n 1, 1) := by decide +kernel
theorem dX0_below_14 : decode cX0_below 14 = .ok (.iload_n 3, 1) := by decide +kernel
set_option maxRecDepth 20000 in
theorem ggX0_below_X0_stepsTo : GoodIn wsX0_below wsX0_stepsTo := goodIn_r _ [6, 7, 8, 9, 5, 10, 11, 12, 13, 14, 15, 1, 16, 17] (by rfl) (by decide +kernel)
set_option maxRecDepth 20000 in
theorem gX0_below_X0_stepsTo : GoodIn wsX0_below (wsV RX0 36 RX0 yX0_stepsTo wsX0_stepsTo) := goodIn_app (goodIn_r _ [2, 3, 4, 5] (by rfl) (by decide +kernel)) ggX0_below_X0_stepsTo
theorem dX0_below_15 : decode cX0_below 15 = .ok (.invokevirtual 36, 3) := by decide +kernel
theorem dX0_below_18 : decode cX0_below 18 = .ok (.iconst (-1), 1) := by decide +kernel
theorem dX0_below_28 : decode cX0_below 28 = .ok (.iinc 3 1, 3) := by decide +kernel
theorem dX0_below_31 : decode cX0_below 31 = .ok (.goto (-27), 3) := by decide +kernel
theorem dX0_below_19 : decode cX0_below 19 = .ok (.if_icmp .eq 9, 3) := by decide +kernel
theorem dX0_below_22 : decode cX0_below 22 = .ok (.iload_n 2, 1) := by decide +kernel
theorem dX0_below_23 : decode cX0_below 23 = .ok (.iconst 1, 1) := by decide +kernel
theorem dX0_below_24 : decode cX0_below 24 = .ok (.iload_n 3, 1) := by decide +kernel
theorem dX0_below_25 : decode cX0_below 25 = .ok (.ishl, 1) := by decide +kernel
theorem dX0_below_26 : decode cX0_below 26 = .ok (.ior, 1) := by decide +kernel
theorem dX0_below_27 : decode cX0_below 27 = .ok (.istore_n 2, 1) := by decide +kernel
theorem dX0_topOf_0 : decode cX0_topOf 0 = .ok (.iload_n 1, 1) := by decide +kernel
theorem dX0_topOf_1 : decode cX0_topOf 1 = .ok (.istore_n 2, 1) := by decide +kernel
theorem dX0_topOf_2 : decode cX0_topOf 2 = .ok (.iconst 0, 1) := by decide +kernel
theorem dX0_topOf_3 : decode cX0_topOf 3 = .ok (.istore_n 3, 1) := by decide +kernel
theorem dX0_topOf_4 : decode cX0_topOf 4 = .ok (.iload_n 3, 1) := by decide +kernel
theorem dX0_topOf_5 : decode cX0_topOf 5 = .ok (.bipush 8, 2) := by decide +kernel
theorem dX0_topOf_7 : decode cX0_topOf 7 = .ok (.if_icmp .gt 27, 3) := by decide +kernel
theorem dX0_topOf_34 : decode cX0_topOf 34 = .ok (.iconst (-1), 1) := by decide +kernel
theorem dX0_topOf_35 : decode cX0_topOf 35 = .ok (.ireturn, 1) := by decide +kernel
theorem dX0_topOf_10 : decode cX0_topOf 10 = .ok (.aload_n 0, 1) := by decide +kernel
theorem dX0_topOf_11 : decode cX0_topOf 11 = .ok (.iload_n 2, 1) := by decide +kernel
set_option maxRecDepth 20000 in
theorem ggX0_topOf_X0_holderOf : GoodIn wsX0_topOf wsX0_holderOf := goodIn_r _ [5, 6, 7, 8, 9, 4, 10, 11, 12, 13] (by rfl) (by decide +kernel)
set_option maxRecDepth 20000 in
theorem gX0_topOf_X0_holderOf : GoodIn wsX0_topOf (wsV RX0 29 RX0 yX0_holderOf wsX0_holderOf) := goodIn_app (goodIn_r _ [1, 2, 3, 4] (by rfl) (by decide +kernel)) ggX0_topOf_X0_holderOf
theorem dX0_topOf_12 : decode cX0_topOf 12 = .ok (.invokevirtual 29, 3) := by decide +kernel
theorem dX0_topOf_15 : decode cX0_topOf 15 = .ok (.istore 4, 2) := by decide +kernel
theorem dX0_topOf_17 : decode cX0_topOf 17 = .ok (.iload 4, 2) := by decide +kernel
theorem dX0_topOf_19 : decode cX0_topOf 19 = .ok (.iconst (-1), 1) := by decide +kernel
theorem dX0_topOf_20 : decode cX0_topOf 20 = .ok (.if_icmp .ne 5, 3) := by decide +kernel
theorem dX0_topOf_25 : decode cX0_topOf 25 = .ok (.iload 4, 2) := by decide +kernel
theorem dX0_topOf_27 : decode cX0_topOf 27 = .ok (.istore_n 2, 1) := by decide +kernel
theorem dX0_topOf_28 : decode cX0_topOf 28 = .ok (.iinc 3 1, 3) := by decide +kernel
theorem dX0_topOf_31 : decode cX0_topOf 31 = .ok (.goto (-27), 3) := by decide +kernel
theorem dX0_topOf_23 : decode cX0_topOf 23 = .ok (.iload_n 2, 1) := by decide +kernel
theorem dX0_topOf_24 : decode cX0_topOf 24 = .ok (.ireturn, 1) := by decide +kernel
theorem dX0_ringOf_0 : decode cX0_ringOf 0 = .ok (.iconst 0, 1) := by decide +kernel
theorem dX0_ringOf_1 : decode cX0_ringOf 1 = .ok (.aload_n 0, 1) := by decide +kernel
theorem dX0_ringOf_2 : decode cX0_ringOf 2 = .ok (.iload_n 1, 1) := by decide +kernel
theorem dX0_ringOf_3 : decode cX0_ringOf 3 = .ok (.iload_n 1, 1) := by decide +kernel
set_option maxRecDepth 20000 in
theorem ggX0_ringOf_X0_stepsTo : GoodIn wsX0_ringOf wsX0_stepsTo := goodIn_r _ [9, 10, 11, 12, 8, 13, 14, 15, 16, 17, 18, 19, 20, 21] (by rfl) (by decide +kernel)
set_option maxRecDepth 20000 in
theorem gX0_ringOf_X0_stepsTo : GoodIn wsX0_ringOf (wsV RX0 36 RX0 yX0_stepsTo wsX0_stepsTo) := goodIn_app (goodIn_r _ [5, 6, 7, 8] (by rfl) (by decide +kernel)) ggX0_ringOf_X0_stepsTo
theorem dX0_ringOf_4 : decode cX0_ringOf 4 = .ok (.invokevirtual 36, 3) := by decide +kernel
theorem dX0_ringOf_7 : decode cX0_ringOf 7 = .ok (.invokestatic 40, 3) := by decide +kernel
theorem dX0_ringOf_10 : decode cX0_ringOf 10 = .ok (.ireturn, 1) := by decide +kernel
theorem dX0_isLeastOfRing_0 : decode cX0_isLeastOfRing 0 = .ok (.aload_n 0, 1) := by decide +kernel
theorem dX0_isLeastOfRing_1 : decode cX0_isLeastOfRing 1 = .ok (.iload_n 1, 1) := by decide +kernel
set_option maxRecDepth 20000 in
theorem ggX0_isLeastOfRing_X0_ringOf : GoodIn wsX0_isLeastOfRing wsX0_ringOf := goodIn_r _ [5, 6, 7, 8, 9, 10, 11, 12, 4, 13, 14, 15, 16, 17, 18, 19, 20, 21, 22, 23, 24, 25] (by rfl) (by decide +kernel)
set_option maxRecDepth 20000 in
theorem gX0_isLeastOfRing_X0_ringOf : GoodIn wsX0_isLeastOfRing (wsV RX0 48 RX0 yX0_ringOf wsX0_ringOf) := goodIn_app (goodIn_r _ [1, 2, 3, 4] (by rfl) (by decide +kernel)) ggX0_isLeastOfRing_X0_ringOf
theorem dX0_isLeastOfRing_2 : decode cX0_isLeastOfRing 2 = .ok (.invokevirtual 48, 3) := by decide +kernel
theorem dX0_isLeastOfRing_5 : decode cX0_isLeastOfRing 5 = .ok (.istore_n 2, 1) := by decide +kernel
theorem dX0_isLeastOfRing_6 : decode cX0_isLeastOfRing 6 = .ok (.iload_n 1, 1) := by decide +kernel
theorem dX0_isLeastOfRing_7 : decode cX0_isLeastOfRing 7 = .ok (.istore_n 3, 1) := by decide +kernel
theorem dX0_isLeastOfRing_8 : decode cX0_isLeastOfRing 8 = .ok (.iconst 1, 1) := by decide +kernel
theorem dX0_isLeastOfRing_9 : decode cX0_isLeastOfRing 9 = .ok (.istore 4, 2) := by decide +kernel
theorem dX0_isLeastOfRing_11 : decode cX0_isLeastOfRing 11 = .ok (.iload 4, 2) := by decide +kernel
theorem dX0_isLeastOfRing_13 : decode cX0_isLeastOfRing 13 = .ok (.iload_n 2, 1) := by decide +kernel
theorem dX0_isLeastOfRing_14 : decode cX0_isLeastOfRing 14 = .ok (.if_icmp .ge 22, 3) := by decide +kernel
theorem dX0_isLeastOfRing_36 : decode cX0_isLeastOfRing 36 = .ok (.iload_n 2, 1) := by decide +kernel
theorem dX0_isLeastOfRing_37 : decode cX0_isLeastOfRing 37 = .ok (.ifCond .le 7, 3) := by decide +kernel
theorem dX0_isLeastOfRing_44 : decode cX0_isLeastOfRing 44 = .ok (.iconst 0, 1) := by decide +kernel
theorem dX0_isLeastOfRing_45 : decode cX0_isLeastOfRing 45 = .ok (.ireturn, 1) := by decide +kernel
theorem dX0_isLeastOfRing_40 : decode cX0_isLeastOfRing 40 = .ok (.iconst 1, 1) := by decide +kernel
theorem dX0_isLeastOfRing_41 : decode cX0_isLeastOfRing 41 = .ok (.goto 4, 3) := by decide +kernel
theorem dX0_isLeastOfRing_17 : decode cX0_isLeastOfRing 17 = .ok (.aload_n 0, 1) := by decide +kernel
theorem dX0_isLeastOfRing_18 : decode cX0_isLeastOfRing 18 = .ok (.iload_n 3, 1) := by decide +kernel
set_option maxRecDepth 20000 in
theorem ggX0_isLeastOfRing_X0_holderOf : GoodIn wsX0_isLeastOfRing wsX0_holderOf := goodIn_r _ [17, 18, 19, 20, 21, 4, 22, 23, 24, 25] (by rfl) (by decide +kernel)
set_option maxRecDepth 20000 in
theorem gX0_isLeastOfRing_X0_holderOf : GoodIn wsX0_isLeastOfRing (wsV RX0 29 RX0 yX0_holderOf wsX0_holderOf) := goodIn_app (goodIn_r _ [14, 15, 16, 4] (by rfl) (by decide +kernel)) ggX0_isLeastOfRing_X0_holderOf
theorem dX0_isLeastOfRing_19 : decode cX0_isLeastOfRing 19 = .ok (.invokevirtual 29, 3) := by decide +kernel
theorem dX0_isLeastOfRing_22 : decode cX0_isLeastOfRing 22 = .ok (.istore_n 3, 1) := by decide +kernel
theorem dX0_isLeastOfRing_23 : decode cX0_isLeastOfRing 23 = .ok (.iload_n 3, 1) := by decide +kernel
theorem dX0_isLeastOfRing_24 : decode cX0_isLeastOfRing 24 = .ok (.iload_n 1, 1) := by decide +kernel
theorem dX0_isLeastOfRing_25 : decode cX0_isLeastOfRing 25 = .ok (.if_icmp .ge 5, 3) := by decide +kernel
theorem dX0_isLeastOfRing_30 : decode cX0_isLeastOfRing 30 = .ok (.iinc 4 1, 3) := by decide +kernel
theorem dX0_isLeastOfRing_33 : decode cX0_isLeastOfRing 33 = .ok (.goto (-22), 3) := by decide +kernel
theorem dX0_isLeastOfRing_28 : decode cX0_isLeastOfRing 28 = .ok (.iconst 0, 1) := by decide +kernel
theorem dX0_isLeastOfRing_29 : decode cX0_isLeastOfRing 29 = .ok (.ireturn, 1) := by decide +kernel
theorem dX0_ringCount_0 : decode cX0_ringCount 0 = .ok (.iconst 0, 1) := by decide +kernel
theorem dX0_ringCount_1 : decode cX0_ringCount 1 = .ok (.istore_n 1, 1) := by decide +kernel
theorem dX0_ringCount_2 : decode cX0_ringCount 2 = .ok (.iconst 0, 1) := by decide +kernel
theorem dX0_ringCount_3 : decode cX0_ringCount 3 = .ok (.istore_n 2, 1) := by decide +kernel
theorem dX0_ringCount_4 : decode cX0_ringCount 4 = .ok (.iload_n 2, 1) := by decide +kernel
theorem dX0_ringCount_5 : decode cX0_ringCount 5 = .ok (.aload_n 0, 1) := by decide +kernel
theorem dX0_ringCount_6 : decode cX0_ringCount 6 = .ok (.getfield 15, 3) := by decide +kernel
theorem dX0_ringCount_9 : decode cX0_ringCount 9 = .ok (.if_icmp .ge 20, 3) := by decide +kernel
theorem dX0_ringCount_29 : decode cX0_ringCount 29 = .ok (.iload_n 1, 1) := by decide +kernel
theorem dX0_ringCount_30 : decode cX0_ringCount 30 = .ok (.ireturn, 1) := by decide +kernel
theorem dX0_ringCount_12 : decode cX0_ringCount 12 = .ok (.aload_n 0, 1) := by decide +kernel
theorem dX0_ringCount_13 : decode cX0_ringCount 13 = .ok (.iload_n 2, 1) := by decide +kernel
set_option maxRecDepth 20000 in
theorem ggX0_ringCount_X0_isLeastOfRing : GoodIn wsX0_ringCount wsX0_isLeastOfRing := goodIn_r _ [6, 7, 8, 9, 5, 10, 11, 12, 13, 14, 15, 16, 17, 18, 19, 20, 21, 22, 23, 24, 25, 26, 27, 1, 28, 29] (by rfl) (by decide +kernel)
set_option maxRecDepth 20000 in
theorem gX0_ringCount_X0_isLeastOfRing : GoodIn wsX0_ringCount (wsV RX0 45 RX0 yX0_isLeastOfRing wsX0_isLeastOfRing) := goodIn_app (goodIn_r _ [2, 3, 4, 5] (by rfl) (by decide +kernel)) ggX0_ringCount_X0_isLeastOfRing
theorem dX0_ringCount_14 : decode cX0_ringCount 14 = .ok (.invokevirtual 45, 3) := by decide +kernel
theorem dX0_ringCount_23 : decode cX0_ringCount 23 = .ok (.iinc 2 1, 3) := by decide +kernel
theorem dX0_ringCount_26 : decode cX0_ringCount 26 = .ok (.goto (-22), 3) := by decide +kernel
theorem dX0_ringCount_17 : decode cX0_ringCount 17 = .ok (.ifCond .eq 6, 3) := by decide +kernel
theorem dX0_ringCount_20 : decode cX0_ringCount 20 = .ok (.iinc 1 1, 3) := by decide +kernel
theorem dX0_nextOfRing_0 : decode cX0_nextOfRing 0 = .ok (.iload_n 1, 1) := by decide +kernel
theorem dX0_nextOfRing_1 : decode cX0_nextOfRing 1 = .ok (.iconst 1, 1) := by decide +kernel
theorem dX0_nextOfRing_2 : decode cX0_nextOfRing 2 = .ok (.iadd, 1) := by decide +kernel
theorem dX0_nextOfRing_3 : decode cX0_nextOfRing 3 = .ok (.istore_n 2, 1) := by decide +kernel
theorem dX0_nextOfRing_4 : decode cX0_nextOfRing 4 = .ok (.iload_n 2, 1) := by decide +kernel
theorem dX0_nextOfRing_5 : decode cX0_nextOfRing 5 = .ok (.aload_n 0, 1) := by decide +kernel
theorem dX0_nextOfRing_6 : decode cX0_nextOfRing 6 = .ok (.getfield 15, 3) := by decide +kernel
theorem dX0_nextOfRing_9 : decode cX0_nextOfRing 9 = .ok (.if_icmp .ge 31, 3) := by decide +kernel
theorem dX0_nextOfRing_40 : decode cX0_nextOfRing 40 = .ok (.iconst (-1), 1) := by decide +kernel
theorem dX0_nextOfRing_41 : decode cX0_nextOfRing 41 = .ok (.ireturn, 1) := by decide +kernel
theorem dX0_nextOfRing_12 : decode cX0_nextOfRing 12 = .ok (.aload_n 0, 1) := by decide +kernel
theorem dX0_nextOfRing_13 : decode cX0_nextOfRing 13 = .ok (.iload_n 1, 1) := by decide +kernel
theorem dX0_nextOfRing_14 : decode cX0_nextOfRing 14 = .ok (.iload_n 2, 1) := by decide +kernel
set_option maxRecDepth 20000 in
theorem ggX0_nextOfRing_X0_stepsTo : GoodIn wsX0_nextOfRing wsX0_stepsTo := goodIn_r _ [6, 7, 8, 9, 5, 10, 11, 12, 13, 14, 15, 1, 16, 17] (by rfl) (by decide +kernel)
set_option maxRecDepth 20000 in
theorem gX0_nextOfRing_X0_stepsTo : GoodIn wsX0_nextOfRing (wsV RX0 36 RX0 yX0_stepsTo wsX0_stepsTo) := goodIn_app (goodIn_r _ [2, 3, 4, 5] (by rfl) (by decide +kernel)) ggX0_nextOfRing_X0_stepsTo
theorem dX0_nextOfRing_15 : decode cX0_nextOfRing 15 = .ok (.invokevirtual 36, 3) := by decide +kernel
theorem dX0_nextOfRing_18 : decode cX0_nextOfRing 18 = .ok (.iconst (-1), 1) := by decide +kernel
theorem dX0_nextOfRing_34 : decode cX0_nextOfRing 34 = .ok (.iinc 2 1, 3) := by decide +kernel
theorem dX0_nextOfRing_37 : decode cX0_nextOfRing 37 = .ok (.goto (-33), 3) := by decide +kernel
theorem dX0_nextOfRing_19 : decode cX0_nextOfRing 19 = .ok (.if_icmp .eq 15, 3) := by decide +kernel
theorem dX0_nextOfRing_22 : decode cX0_nextOfRing 22 = .ok (.aload_n 0, 1) := by decide +kernel
theorem dX0_nextOfRing_23 : decode cX0_nextOfRing 23 = .ok (.iload_n 2, 1) := by decide +kernel
theorem dX0_nextOfRing_24 : decode cX0_nextOfRing 24 = .ok (.iload_n 1, 1) := by decide +kernel
theorem dX0_nextOfRing_25 : decode cX0_nextOfRing 25 = .ok (.invokevirtual 36, 3) := by decide +kernel
theorem dX0_nextOfRing_28 : decode cX0_nextOfRing 28 = .ok (.iconst (-1), 1) := by decide +kernel
theorem dX0_nextOfRing_29 : decode cX0_nextOfRing 29 = .ok (.if_icmp .eq 5, 3) := by decide +kernel
theorem dX0_nextOfRing_32 : decode cX0_nextOfRing 32 = .ok (.iload_n 2, 1) := by decide +kernel
theorem dX0_nextOfRing_33 : decode cX0_nextOfRing 33 = .ok (.ireturn, 1) := by decide +kernel
theorem dX0_isOneEach_0 : decode cX0_isOneEach 0 = .ok (.iconst 0, 1) := by decide +kernel
theorem dX0_isOneEach_1 : decode cX0_isOneEach 1 = .ok (.istore_n 1, 1) := by decide +kernel
theorem dX0_isOneEach_2 : decode cX0_isOneEach 2 = .ok (.iload_n 1, 1) := by decide +kernel
theorem dX0_isOneEach_3 : decode cX0_isOneEach 3 = .ok (.aload_n 0, 1) := by decide +kernel
theorem dX0_isOneEach_4 : decode cX0_isOneEach 4 = .ok (.getfield 15, 3) := by decide +kernel
theorem dX0_isOneEach_7 : decode cX0_isOneEach 7 = .ok (.if_icmp .ge 23, 3) := by decide +kernel
theorem dX0_isOneEach_30 : decode cX0_isOneEach 30 = .ok (.iconst 1, 1) := by decide +kernel
theorem dX0_isOneEach_31 : decode cX0_isOneEach 31 = .ok (.ireturn, 1) := by decide +kernel
theorem dX0_isOneEach_10 : decode cX0_isOneEach 10 = .ok (.aload_n 0, 1) := by decide +kernel
theorem dX0_isOneEach_11 : decode cX0_isOneEach 11 = .ok (.iload_n 1, 1) := by decide +kernel
set_option maxRecDepth 20000 in
theorem ggX0_isOneEach_X0_handOf : GoodIn wsX0_isOneEach wsX0_handOf := goodIn_r _ [6, 1, 7, 8, 9, 5, 10, 11, 12, 13, 14, 15, 23, 24] (by rfl) (by decide +kernel)
set_option maxRecDepth 20000 in
theorem gX0_isOneEach_X0_handOf : GoodIn wsX0_isOneEach (wsV RX0 33 RX0 yX0_handOf wsX0_handOf) := goodIn_app (goodIn_r _ [2, 3, 4, 5] (by rfl) (by decide +kernel)) ggX0_isOneEach_X0_handOf
theorem dX0_isOneEach_12 : decode cX0_isOneEach 12 = .ok (.invokevirtual 33, 3) := by decide +kernel
set_option maxRecDepth 20000 in
theorem ggX0_isOneEach_J6_bitCount_0f7a4 : GoodIn wsX0_isOneEach wsJ6_bitCount_0f7a4 := goodIn_r _ [19, 20, 21, 22] (by rfl) (by decide +kernel)
set_option maxRecDepth 20000 in
theorem gX0_isOneEach_J6_bitCount_0f7a4 : GoodIn wsX0_isOneEach (va_wsS RX0 51 yJ6_bitCount_0f7a4 wsJ6_bitCount_0f7a4) := goodIn_app (goodIn_r _ [16, 17, 18] (by rfl) (by decide +kernel)) ggX0_isOneEach_J6_bitCount_0f7a4
theorem dX0_isOneEach_15 : decode cX0_isOneEach 15 = .ok (.invokestatic 51, 3) := by decide +kernel
theorem dX0_isOneEach_18 : decode cX0_isOneEach 18 = .ok (.iconst 1, 1) := by decide +kernel
theorem dX0_isOneEach_19 : decode cX0_isOneEach 19 = .ok (.if_icmp .eq 5, 3) := by decide +kernel
theorem dX0_isOneEach_24 : decode cX0_isOneEach 24 = .ok (.iinc 1 1, 3) := by decide +kernel
theorem dX0_isOneEach_27 : decode cX0_isOneEach 27 = .ok (.goto (-25), 3) := by decide +kernel
theorem dX0_isOneEach_22 : decode cX0_isOneEach 22 = .ok (.iconst 0, 1) := by decide +kernel
theorem dX0_isOneEach_23 : decode cX0_isOneEach 23 = .ok (.ireturn, 1) := by decide +kernel
set_option maxHeartbeats 4000000 in
set_option maxRecDepth 100000 in
theorem a_X0_has (l : Launch) (G : va_G) (ct : Nat → ClassId) (a0 : Nat) (a1 : Nat) (n0_1 : Int32) (p0 : Int32) (hp_n0_1 : rg 0 8 n0_1) : Met l yX0_has wsX0_has ({ frames := 0, cells := 0, slots := 0, locals := 0 }) (va_Pc [.ref a0, .int p0] (roP G ct [(a0, .inr (0, [.ref a1, .int n0_1]))])) (roQ (fun r => rg 0 1 r ∧ (¬ r = 0 → rg 0 7 p0) ∧ (¬ r = 0 → rg 1 8 n0_1) ∧ True)) 0 0 no := by
  refine Met.ofW (cc := cX0_has) (maxL := 2) (ret := (some .boolean)) (by decide) rfl ?_
  intro p e s m args below meth c s₁ B hml hv
  obtain ⟨rfl, hP, hK⟩ := hv
  have hx := B.exec
  have hb := B.bytes
  have hr := B.returns
  have hts := atoms_spec (ws := wsX0_has) B.pre
  have hown : s.vm.findClass RX0 = some m.cls := findClass_of_methodNamed B.named
  have hlocks := B.notSynchronized
  have hS : va_S no s.heap s.heap [] := va_S.rf
  have hl := lv_entry ([.ref a0, .int p0]) (n := 2) (Nat.le_of_ble_eq_true rfl)
  rw [lg_entry_eq]
  generalize (lg_sl ([.ref a0, .int p0]) ++ List.replicate (2 - (lg_sl ([.ref a0, .int p0])).length) Slot.unset).toArray = ls at hl ⊢
  have hl : lv_has ls 2 [(0, .ref a0), (1, .int p0)] := hl
  refine lv_iload_n hx hb dX0_has_0 rfl (lv_at hl 1 rfl) ?_
  refine lv_if_lt (tgt := 22) hx hb dX0_has_1 (by decide) (fun c1 => ?_) (fun c1 => ?_)
  · have h_1 : rg (-2147483648) (-1) p0 := r_lt_l_i c1 (rg_t p0) (rgn 0 (x := 0) (by decide)) (by decide)
    refine lv_iconst (v := 0) hx hb dX0_has_22 (by decide) ?_
    exact W.zret (v := 0) (ty := .boolean) hx hb hr (rfl) (fun t ht hW => ⟨⟨0, (), rfl, ⟨(rg_w (c := 0) (d := 1) (rgn 0 (x := 0) (by decide)) (by decide)), (fun hq => absurd (req (rgn 0 (x := 0) (by decide)) (y := 0) (by decide)) hq), (fun hq => absurd (req (rgn 0 (x := 0) (by decide)) (y := 0) (by decide)) hq), trivial⟩, trivial⟩, hS.F ht⟩) hS.2.2 dX0_has_23
  · have h_2 : rg 0 2147483647 p0 := r_le_r_i (nlt_i c1) (rgn 0 (x := 0) (by decide)) (rg_t p0)
    refine lv_iload_n hx hb dX0_has_4 rfl (lv_at hl 1 rfl) ?_
    refine lv_aload_n hx hb dX0_has_5 rfl (lv_at hl 0 rfl) ?_
    refine va_get (D := G) (ci := 0) (v := .int n0_1) (C := RX0) (T := TX0) (N := 2) hx hb hts (by decide +kernel) hown hK.1 hP 0 rfl rfl 1 (by decide) (hts (.fieldLink RX0 15 "CardHolder$Bonds" "persons" "I") (by decide +kernel)) (fun _ h9 => h9) rfl dX0_has_6 ?_
    refine lv_icmp_ge (tgt := 22) hx hb dX0_has_9 (by decide) (fun c9 => ?_) (fun c9 => ?_)
    · refine lv_iconst (v := 0) hx hb dX0_has_22 (by decide) ?_
      exact W.zret (v := 0) (ty := .boolean) hx hb hr (rfl) (fun t ht hW => ⟨⟨0, (), rfl, ⟨(rg_w (c := 0) (d := 1) (rgn 0 (x := 0) (by decide)) (by decide)), (fun hq => absurd (req (rgn 0 (x := 0) (by decide)) (y := 0) (by decide)) hq), (fun hq => absurd (req (rgn 0 (x := 0) (by decide)) (y := 0) (by decide)) hq), trivial⟩, trivial⟩, hS.F ht⟩) hS.2.2 dX0_has_23
    · have h_3 : rg 0 7 p0 := r_lt_l_i (nle_i c9) h_2 hp_n0_1 (by decide)
      have h_4 : rg 1 8 n0_1 := r_lt_r_i (nle_i c9) h_2 hp_n0_1 (by decide)
      refine lv_iload_n hx hb dX0_has_12 rfl (lv_at hl 1 rfl) ?_
      refine lv_bipush (v := 8) hx hb dX0_has_13 (by decide) ?_
      refine lv_icmp_ge (tgt := 22) hx hb dX0_has_15 (by decide) (fun c15 => ?_) (fun c15 => ?_)
      · exact (dd_le_i c15 (rgn 8 (x := 8) (by decide)) h_3 (by decide)).elim
      · refine lv_iconst (v := 1) hx hb dX0_has_18 (by decide) ?_
        refine lv_goto (tgt := 23) hx hb dX0_has_19 (by decide) ?_
        exact W.zret (v := 1) (ty := .boolean) hx hb hr (rfl) (fun t ht hW => ⟨⟨1, (), rfl, ⟨(rg_w (c := 0) (d := 1) (rgn 1 (x := 1) (by decide)) (by decide)), (fun _ => h_3), (fun _ => h_4), trivial⟩, trivial⟩, hS.F ht⟩) hS.2.2 dX0_has_23

set_option maxHeartbeats 4000000 in
set_option maxRecDepth 100000 in
theorem a_X0_holderOf (l : Launch) (G : va_G) (ct : Nat → ClassId) (a0 : Nat) (a1 : Nat) (n0_1 : Int32) (f1 : Nat → Int32) (p0 : Int32) (hp_n0_1 : rg 0 8 n0_1) : Met l yX0_holderOf wsX0_holderOf ({ frames := 1, cells := 0, slots := 0, locals := 21 }) (va_Pc [.ref a0, .int p0] (roP G ct [(a0, .inr (0, [.ref a1, .int n0_1])), (a1, .inl (ct 0, 8, .inl f1))])) (roQ (fun r => (r = 0 → rg 0 7 p0) ∧ (¬ r = (-1) → rg 0 7 p0) ∧ (r = 0 → rg 1 8 n0_1) ∧ (¬ r = (-1) → rg 1 8 n0_1) ∧ True)) 0 0 no := by
  refine Met.ofW (cc := cX0_holderOf) (maxL := 2) (ret := (some .int)) (by decide) rfl ?_
  intro p e s m args below meth c s₁ B hml hv
  obtain ⟨rfl, hP, hK⟩ := hv
  have hx := B.exec
  have hb := B.bytes
  have hr := B.returns
  have hts := atoms_spec (ws := wsX0_holderOf) B.pre
  have hown : s.vm.findClass RX0 = some m.cls := findClass_of_methodNamed B.named
  have hlocks := B.notSynchronized
  have hS : va_S no s.heap s.heap [] := va_S.rf
  have hl := lv_entry ([.ref a0, .int p0]) (n := 2) (Nat.le_of_ble_eq_true rfl)
  rw [lg_entry_eq]
  generalize (lg_sl ([.ref a0, .int p0]) ++ List.replicate (2 - (lg_sl ([.ref a0, .int p0])).length) Slot.unset).toArray = ls at hl ⊢
  have hl : lv_has ls 2 [(0, .ref a0), (1, .int p0)] := hl
  refine lv_aload_n hx hb dX0_holderOf_0 rfl (lv_at hl 0 rfl) ?_
  refine lv_iload_n hx hb dX0_holderOf_1 rfl (lv_at hl 1 rfl) ?_
  refine ro_calli (va_runV (As := [.int p0]) (rest := []) ⟨hx, hb, hml, hown, hts⟩ (a_X0_has l G ct a0 a1 n0_1 p0 hp_n0_1) (cwV 1 hts gX0_holderOf_X0_has rfl rfl rfl (by decide +kernel) ⟨Nat.le_of_ble_eq_true rfl, Nat.le_of_ble_eq_true rfl⟩) (ro_preV 0 0 hK (hP.sub [0] rfl) rfl rfl) rfl rfl hl.1 rfl (lv_room (Nat.le_of_ble_eq_true rfl)) dX0_holderOf_2 ⟨Nat.zero_le _, Nat.zero_le _⟩) hS hP (fun r2 H locs wr2 hP hS => ?_)
  obtain ⟨p_1, p_2, p_3, -⟩ := wr2
  refine lv_if_eq (tgt := 17) hx hb dX0_holderOf_5 (by decide) (fun c5 => ?_) (fun c5 => ?_)
  · have h_4 : rg 0 0 r2 := r_eq_l_i (e := 0) (f := 0) c5 p_1 (rgn 0 (x := 0) (by decide)) (by decide)
    refine lv_iconst (v := (-1)) hx hb dX0_holderOf_17 (by decide) ?_
    exact W.iret (v := (-1)) hx hb hr (fun t ht hW => ⟨⟨(-1), (), rfl, ⟨(fun hq => absurd hq (rne (rgn (-1) (x := (-1)) (by decide)) (y := 0) (c := 0) (by decide) (by decide))), (fun hq => absurd (req (rgn (-1) (x := (-1)) (by decide)) (y := (-1)) (by decide)) hq), (fun hq => absurd hq (rne (rgn (-1) (x := (-1)) (by decide)) (y := 0) (c := 0) (by decide) (by decide))), (fun hq => absurd (req (rgn (-1) (x := (-1)) (by decide)) (y := (-1)) (by decide)) hq), trivial⟩, trivial⟩, hS.F ht⟩) hS.2.2 dX0_holderOf_18
  · have h_5 : rg 1 1 r2 := r_ne_lo_i c5 p_1 (by decide) (by decide)
    have h_6 : rg 0 7 p0 := (p_2 (rne h_5 (y := 0) (c := 0) (by decide) (by decide)))
    have h_7 : rg 1 8 n0_1 := (p_3 (rne h_5 (y := 0) (c := 0) (by decide) (by decide)))
    refine lv_aload_n hx hb dX0_holderOf_8 rfl (lv_at hl 0 rfl) ?_
    refine va_get (D := G) (ci := 0) (v := .ref a1) (C := RX0) (T := TX0) (N := 2) hx hb hts (by decide +kernel) hown hK.1 hP 0 rfl rfl 0 (by decide) (hts (.fieldLink RX0 9 "CardHolder$Bonds" "holders" "[I") (by decide +kernel)) (fun _ h9 => h9) rfl dX0_holderOf_9 ?_
    refine lv_iload_n hx hb dX0_holderOf_12 rfl (lv_at hl 1 rfl) ?_
    refine va_iald hx hb hK.1 hP 1 0 rfl rfl (in_rg h_6 (by decide)) dX0_holderOf_13 ?_
    refine lv_topi (fun z13 gz13 => ?_)
    refine lv_goto (tgt := 18) hx hb dX0_holderOf_14 (by decide) ?_
    exact W.iret (v := z13) hx hb hr (fun t ht hW => ⟨⟨z13, (), rfl, ⟨(fun _ => h_6), (fun _ => h_6), (fun _ => h_7), (fun _ => h_7), trivial⟩, trivial⟩, hS.F ht⟩) hS.2.2 dX0_holderOf_18

set_option maxHeartbeats 4000000 in
set_option maxRecDepth 100000 in
theorem a_X0_put (l : Launch) (G : va_G) (ct : Nat → ClassId) (a0 : Nat) (a1 : Nat) (n0_1 : Int32) (f1 : Nat → Int32) (p0 : Int32) (p1 : Int32) (hp_n0_1 : rg 0 8 n0_1) : Met l yX0_put wsX0_put ({ frames := 1, cells := 0, slots := 0, locals := 21 }) (va_Pc [.ref a0, .int p0, .int p1] (wrP G ct [(a0, .inr (0, [.ref a1, .int n0_1])), (a1, .inl (ct 0, 8, .inl f1))])) (va_Qv (fun u : SU => True) (fun u t => va_P G vwCl ((fun u : SU => [(a0, .inr (0, [.ref a1, .int n0_1])), (a1, .inl (ct 0, 8, .inl (u.2.1 0)))]) u) t.heap) (aset [(a0, .inr (0, [.ref a1, .int n0_1])), (a1, .inl (ct 0, 8, .inl f1))])) 0 0 (aset [(a0, .inr (0, [.ref a1, .int n0_1])), (a1, .inl (ct 0, 8, .inl f1))]) := by
  refine Met.ofW (cc := cX0_put) (maxL := 3) (ret := none) (by decide) rfl ?_
  intro p e s m args below meth c s₁ B hml hv
  obtain ⟨rfl, hP, hK, hD0⟩ := hv
  have hx := B.exec
  have hb := B.bytes
  have hr := B.returns
  have hts := atoms_spec (ws := wsX0_put) B.pre
  have hown : s.vm.findClass RX0 = some m.cls := findClass_of_methodNamed B.named
  have hlocks := B.notSynchronized
  have hD := hD0.aself
  generalize hAe : aset [(a0, .inr (0, [.ref a1, .int n0_1])), (a1, .inl (ct 0, 8, .inl f1))] = A at hD ⊢
  have hS : va_S A s.heap s.heap [] := va_S.rf
  have hl := lv_entry ([.ref a0, .int p0, .int p1]) (n := 3) (Nat.le_of_ble_eq_true rfl)
  rw [lg_entry_eq]
  generalize (lg_sl ([.ref a0, .int p0, .int p1]) ++ List.replicate (3 - (lg_sl ([.ref a0, .int p0, .int p1])).length) Slot.unset).toArray = ls at hl ⊢
  have hl : lv_has ls 3 [(0, .ref a0), (1, .int p0), (2, .int p1)] := hl
  refine lv_aload_n hx hb dX0_put_0 rfl (lv_at hl 0 rfl) ?_
  refine lv_iload_n hx hb dX0_put_1 rfl (lv_at hl 1 rfl) ?_
  refine ro_calli (va_runV (As := [.int p0]) (rest := []) ⟨hx, hb, hml, hown, hts⟩ (a_X0_has l G ct a0 a1 n0_1 p0 hp_n0_1) (cwV 1 hts gX0_put_X0_has rfl rfl rfl (by decide +kernel) ⟨Nat.le_of_ble_eq_true rfl, Nat.le_of_ble_eq_true rfl⟩) (ro_preV 0 0 hK (hP.sub [0] rfl) rfl rfl) rfl rfl hl.1 rfl (lv_room (Nat.le_of_ble_eq_true rfl)) dX0_put_2 ⟨Nat.zero_le _, Nat.zero_le _⟩) hS hP (fun r2 H locs wr2 hP hS => ?_)
  obtain ⟨p_1, p_2, p_3, -⟩ := wr2
  refine lv_if_eq (tgt := 15) hx hb dX0_put_5 (by decide) (fun c5 => ?_) (fun c5 => ?_)
  · have h_4 : rg 0 0 r2 := r_eq_l_i (e := 0) (f := 0) c5 p_1 (rgn 0 (x := 0) (by decide)) (by decide)
    exact W.vret hx hb hr (fun t ht hW => ⟨⟨(fun k => ([] : List Int32).getD k 0, fun k => ([f1] : List (Nat → Int32)).getD k (fun _ => 0), fun k => ([] : List (Nat → Int64)).getD k (fun _ => 0)), rfl, trivial, hp_at ht hP⟩, hS.F ht⟩) hS.2.2 dX0_put_15
  · have h_5 : rg 1 1 r2 := r_ne_lo_i c5 p_1 (by decide) (by decide)
    have h_6 : rg 0 7 p0 := (p_2 (rne h_5 (y := 0) (c := 0) (by decide) (by decide)))
    have h_7 : rg 1 8 n0_1 := (p_3 (rne h_5 (y := 0) (c := 0) (by decide) (by decide)))
    refine lv_aload_n hx hb dX0_put_8 rfl (lv_at hl 0 rfl) ?_
    refine va_get (D := G) (ci := 0) (v := .ref a1) (C := RX0) (T := TX0) (N := 2) hx hb hts (by decide +kernel) hown hK.1 hP 0 rfl rfl 0 (by decide) (hts (.fieldLink RX0 9 "CardHolder$Bonds" "holders" "[I") (by decide +kernel)) (fun _ h9 => h9) rfl dX0_put_9 ?_
    refine lv_iload_n hx hb dX0_put_12 rfl (lv_at hl 1 rfl) ?_
    refine lv_iload_n hx hb dX0_put_13 rfl (lv_at hl 2 rfl) ?_
    refine va_iast hx hb hK.1 hP hD hS 1 0 rfl rfl (in_rg h_6 (by decide)) dX0_put_14 (fun H locs hP hD hS => ?_)
    exact W.vret hx hb hr (fun t ht hW => ⟨⟨(fun k => ([] : List Int32).getD k 0, fun k => ([upd f1 p0.toNatClampNeg p1] : List (Nat → Int32)).getD k (fun _ => 0), fun k => ([] : List (Nat → Int64)).getD k (fun _ => 0)), rfl, trivial, hp_at ht hP⟩, hS.F ht⟩) hS.2.2 dX0_put_15

set_option maxHeartbeats 4000000 in
set_option maxRecDepth 100000 in
theorem a_X0_copyOf (l : Launch) (G : va_G) (ct : Nat → ClassId) (a0 : Nat) (a1 : Nat) (n0_1 : Int32) (f1 : Nat → Int32) (a2 : Nat) (a3 : Nat) (n2_1 : Int32) (f3 : Nat → Int32) (hp_n0_1 : rg 0 8 n0_1) (hp_n2_1 : rg 0 8 n2_1) : Met l yX0_copyOf wsX0_copyOf ({ frames := 1, cells := 0, slots := 0, locals := 60 }) (va_Pc [.ref a0, .ref a2] (wrP G ct [(a0, .inr (0, [.ref a1, .int n0_1])), (a1, .inl (ct 0, 8, .inl f1)), (a2, .inr (0, [.ref a3, .int n2_1])), (a3, .inl (ct 0, 8, .inl f3))])) (va_Qv (fun u : SU => rg 0 8 (u.1 0) ∧ True) (fun u t => va_P G vwCl ((fun u : SU => [(a0, .inr (0, [.ref a1, .int (u.1 0)])), (a1, .inl (ct 0, 8, .inl (u.2.1 0))), (a2, .inr (0, [.ref a3, .int n2_1])), (a3, .inl (ct 0, 8, .inl f3))]) u) t.heap) (aset [(a0, .inr (0, [.ref a1, .int n0_1])), (a1, .inl (ct 0, 8, .inl f1)), (a2, .inr (0, [.ref a3, .int n2_1])), (a3, .inl (ct 0, 8, .inl f3))])) 0 0 (aset [(a0, .inr (0, [.ref a1, .int n0_1])), (a1, .inl (ct 0, 8, .inl f1)), (a2, .inr (0, [.ref a3, .int n2_1])), (a3, .inl (ct 0, 8, .inl f3))]) := by
  refine Met.ofW (cc := cX0_copyOf) (maxL := 2) (ret := none) (by decide) rfl ?_
  intro p e s m args below meth c s₁ B hml hv
  obtain ⟨rfl, hP, hK, hD0⟩ := hv
  have hx := B.exec
  have hb := B.bytes
  have hr := B.returns
  have hts := atoms_spec (ws := wsX0_copyOf) B.pre
  have hown : s.vm.findClass RX0 = some m.cls := findClass_of_methodNamed B.named
  have hlocks := B.notSynchronized
  have hD := hD0.aself
  generalize hAe : aset [(a0, .inr (0, [.ref a1, .int n0_1])), (a1, .inl (ct 0, 8, .inl f1)), (a2, .inr (0, [.ref a3, .int n2_1])), (a3, .inl (ct 0, 8, .inl f3))] = A at hD ⊢
  have hS : va_S A s.heap s.heap [] := va_S.rf
  have hl := lv_entry ([.ref a0, .ref a2]) (n := 2) (Nat.le_of_ble_eq_true rfl)
  rw [lg_entry_eq]
  generalize (lg_sl ([.ref a0, .ref a2]) ++ List.replicate (2 - (lg_sl ([.ref a0, .ref a2])).length) Slot.unset).toArray = ls at hl ⊢
  have hl : lv_has ls 2 [(0, .ref a0), (1, .ref a2)] := hl
  refine lv_aload_n hx hb dX0_copyOf_0 rfl (lv_at hl 0 rfl) ?_
  refine lv_aload_n hx hb dX0_copyOf_1 rfl (lv_at hl 1 rfl) ?_
  refine va_get (D := G) (ci := 0) (v := .int n2_1) (C := RX0) (T := TX0) (N := 2) hx hb hts (by decide +kernel) hown hK.1 hP 2 rfl rfl 1 (by decide) (hts (.fieldLink RX0 15 "CardHolder$Bonds" "persons" "I") (by decide +kernel)) (fun _ h9 => h9) rfl dX0_copyOf_2 ?_
  refine va_put (D := G) (ci := 0) (v := .int n2_1) (ty := .int) (C := RX0) (T := TX0) (N := 2) hx hb hts (by decide +kernel) tyX0 tyX0_ok nmX0 hown hK.1 hP hD hS 0 rfl rfl 1 (by decide) (hts (.fieldLink RX0 15 "CardHolder$Bonds" "persons" "I") (by decide +kernel)) (fun _ h9 => h9) rfl (by decide +kernel) rfl rfl (Nat.le_of_ble_eq_true rfl) dX0_copyOf_5 (fun H locs hP hD hS => ?_)
  refine lv_aload_n hx hb dX0_copyOf_8 rfl (lv_at hl 1 rfl) ?_
  refine va_get (D := G) (ci := 0) (v := .ref a3) (C := RX0) (T := TX0) (N := 2) hx hb hts (by decide +kernel) hown hK.1 hP 2 rfl rfl 0 (by decide) (hts (.fieldLink RX0 9 "CardHolder$Bonds" "holders" "[I") (by decide +kernel)) (fun _ h9 => h9) rfl dX0_copyOf_9 ?_
  refine lv_iconst (v := 0) hx hb dX0_copyOf_12 (by decide) ?_
  refine lv_aload_n hx hb dX0_copyOf_13 rfl (lv_at hl 0 rfl) ?_
  refine va_get (D := G) (ci := 0) (v := .ref a1) (C := RX0) (T := TX0) (N := 2) hx hb hts (by decide +kernel) hown hK.1 hP 0 rfl rfl 0 (by decide) (hts (.fieldLink RX0 9 "CardHolder$Bonds" "holders" "[I") (by decide +kernel)) (fun _ h9 => h9) rfl dX0_copyOf_14 ?_
  refine lv_iconst (v := 0) hx hb dX0_copyOf_17 (by decide) ?_
  refine lv_bipush (v := 8) hx hb dX0_copyOf_18 (by decide) ?_
  refine va_copyi (ty := .int) hx hb (hml.trans hl.1.symm) hown (hts (.methodLink RX0 23 arraycopyName) (by decide +kernel)) (hts (.native arraycopyName) (by decide +kernel)) (hts (.static arraycopyName) (by decide +kernel)) (hts (.initialized "java/lang/System") (by decide +kernel)) hK.1 hP hD hS 3 1 0 0 rfl rfl rfl rfl rfl (by decide) (by decide) (by decide) (by decide) (by decide) (fun _ _ => rfl) (Nat.le_of_ble_eq_true rfl) (Nat.le_of_ble_eq_true rfl) dX0_copyOf_20 (fun H locs hP hD hS => ?_)
  exact W.vret hx hb hr (fun t ht hW => ⟨⟨(fun k => ([n2_1] : List Int32).getD k 0, fun k => ([va_cpy f3 f1 (0 : Int32).toNatClampNeg (0 : Int32).toNatClampNeg (8 : Int32).toNatClampNeg] : List (Nat → Int32)).getD k (fun _ => 0), fun k => ([] : List (Nat → Int64)).getD k (fun _ => 0)), rfl, ⟨hp_n2_1, trivial⟩, hp_at ht hP⟩, hS.F ht⟩) hS.2.2 dX0_copyOf_23

set_option maxHeartbeats 4000000 in
set_option maxRecDepth 100000 in
theorem a_X0_everyone (l : Launch) (G : va_G) (ct : Nat → ClassId) (a0 : Nat) (a1 : Nat) (n0_1 : Int32) (hp_n0_1 : rg 0 8 n0_1) : Met l yX0_everyone wsX0_everyone ({ frames := 0, cells := 0, slots := 0, locals := 0 }) (va_Pc [.ref a0] (roP G ct [(a0, .inr (0, [.ref a1, .int n0_1]))])) (roQ (fun r => rg 0 255 r ∧ True)) 0 0 no := by
  refine Met.ofW (cc := cX0_everyone) (maxL := 1) (ret := (some .int)) (by decide) rfl ?_
  intro p e s m args below meth c s₁ B hml hv
  obtain ⟨rfl, hP, hK⟩ := hv
  have hx := B.exec
  have hb := B.bytes
  have hr := B.returns
  have hts := atoms_spec (ws := wsX0_everyone) B.pre
  have hown : s.vm.findClass RX0 = some m.cls := findClass_of_methodNamed B.named
  have hlocks := B.notSynchronized
  have hS : va_S no s.heap s.heap [] := va_S.rf
  have hl := lv_entry ([.ref a0]) (n := 1) (Nat.le_of_ble_eq_true rfl)
  rw [lg_entry_eq]
  generalize (lg_sl ([.ref a0]) ++ List.replicate (1 - (lg_sl ([.ref a0])).length) Slot.unset).toArray = ls at hl ⊢
  have hl : lv_has ls 1 [(0, .ref a0)] := hl
  refine lv_iconst (v := 1) hx hb dX0_everyone_0 (by decide) ?_
  refine lv_aload_n hx hb dX0_everyone_1 rfl (lv_at hl 0 rfl) ?_
  refine va_get (D := G) (ci := 0) (v := .int n0_1) (C := RX0) (T := TX0) (N := 2) hx hb hts (by decide +kernel) hown hK.1 hP 0 rfl rfl 1 (by decide) (hts (.fieldLink RX0 15 "CardHolder$Bonds" "persons" "I") (by decide +kernel)) (fun _ h9 => h9) rfl dX0_everyone_2 ?_
  refine lv_ishl hx hb dX0_everyone_5 ?_
  refine nm_shl (e1 := 1) (f := 256) hp_n0_1 (by decide) (fun z5 hz5 => ?_)
  refine lv_iconst (v := 1) hx hb dX0_everyone_6 (by decide) ?_
  refine lv_isub hx hb dX0_everyone_7 ?_
  refine nm_sub (e1 := 0) (f := 255) hz5 (rgn 1 (x := 1) (by decide)) (by decide) (fun z7 hz7 ez7 => ?_)
  replace ez7 := eqc_s ez7 (c := (-1)) (by decide)
  exact W.iret (v := z7) hx hb hr (fun t ht hW => ⟨⟨z7, (), rfl, ⟨hz7, trivial⟩, trivial⟩, hS.F ht⟩) hS.2.2 dX0_everyone_8

set_option maxHeartbeats 4000000 in
set_option maxRecDepth 100000 in
theorem a_X0_handOf (l : Launch) (G : va_G) (ct : Nat → ClassId) (a0 : Nat) (a1 : Nat) (n0_1 : Int32) (f1 : Nat → Int32) (p0 : Int32) (hp_n0_1 : rg 0 8 n0_1) : Met l yX0_handOf wsX0_handOf ({ frames := 2, cells := 0, slots := 0, locals := 42 }) (va_Pc [.ref a0, .int p0] (roP G ct [(a0, .inr (0, [.ref a1, .int n0_1])), (a1, .inl (ct 0, 8, .inl f1))])) (roQ (fun r => rg 0 255 r ∧ True)) 0 0 no := by
  refine Met.ofW (cc := cX0_handOf) (maxL := 4) (ret := (some .int)) (by decide) rfl ?_
  intro p e s m args below meth c s₁ B hml hv
  obtain ⟨rfl, hP, hK⟩ := hv
  have hx := B.exec
  have hb := B.bytes
  have hr := B.returns
  have hts := atoms_spec (ws := wsX0_handOf) B.pre
  have hown : s.vm.findClass RX0 = some m.cls := findClass_of_methodNamed B.named
  have hlocks := B.notSynchronized
  have hS : va_S no s.heap s.heap [] := va_S.rf
  have hl := lv_entry ([.ref a0, .int p0]) (n := 4) (Nat.le_of_ble_eq_true rfl)
  rw [lg_entry_eq]
  generalize (lg_sl ([.ref a0, .int p0]) ++ List.replicate (4 - (lg_sl ([.ref a0, .int p0])).length) Slot.unset).toArray = ls at hl ⊢
  have hl : lv_has ls 4 [(0, .ref a0), (1, .int p0)] := hl
  refine lv_iconst (v := 0) hx hb dX0_handOf_0 (by decide) ?_
  refine lv_istore_n (lv' := [(2, .int 0), (0, .ref a0), (1, .int p0)]) hx hb dX0_handOf_1 rfl hl (by decide) rfl (fun ls hl => ?_)
  refine lv_iconst (v := 0) hx hb dX0_handOf_2 (by decide) ?_
  refine lv_istore_n (lv' := [(3, .int 0), (2, .int 0), (0, .ref a0), (1, .int p0)]) hx hb dX0_handOf_3 rfl hl (by decide) rfl (fun ls hl => ?_)
  have j4 : ∀ (n : Nat) (x4_2 : Int32) (x4_3 : Int32) (H : Heap) (locs : List Loc) (ls : Array Slot), 2147483648 ≤ x4_3.toInt + (n : Int) → rg 0 255 x4_2 → rg 0 8 x4_3 → va_P G vwCl [(a0, .inr (0, [.ref a1, .int n0_1])), (a1, .inl (ct 0, 8, .inl f1))] H → va_S no s.heap H locs → lv_has ls 4 [(0, .ref a0), (1, .int p0), (2, .int x4_2), (3, .int x4_3)] → W p l e (headSpec wsX0_handOf ({ frames := 2, cells := 0, slots := 0, locals := 42 })).room s m ([.ref a0, .int p0] : List Value).toArray below meth c H locs 0 0 (MQ below (roQ (fun r => rg 0 255 r ∧ True)) ([.ref a0, .int p0] : List Value).toArray s 0 0 no) (F0 m 4 ls []) := by
    intro n
    induction n with
    | zero => intro x4_2 x4_3 H locs ls hn4 hx4_2 hx4_3 hP hS hl; exact absurd hn4 (by have := Int32.toInt_lt x4_3; have := Int32.le_toInt x4_3; omega)
    | succ n ih4 =>
      intro x4_2 x4_3 H locs ls hn4 hx4_2 hx4_3 hP hS hl
      refine lv_iload_n hx hb dX0_handOf_4 rfl (lv_at hl 3 rfl) ?_
      refine lv_aload_n hx hb dX0_handOf_5 rfl (lv_at hl 0 rfl) ?_
      refine va_get (D := G) (ci := 0) (v := .int n0_1) (C := RX0) (T := TX0) (N := 2) hx hb hts (by decide +kernel) hown hK.1 hP 0 rfl rfl 1 (by decide) (hts (.fieldLink RX0 15 "CardHolder$Bonds" "persons" "I") (by decide +kernel)) (fun _ h9 => h9) rfl dX0_handOf_6 ?_
      refine lv_icmp_ge (tgt := 33) hx hb dX0_handOf_9 (by decide) (fun c9 => ?_) (fun c9 => ?_)
      · refine lv_iload_n hx hb dX0_handOf_33 rfl (lv_at hl 2 rfl) ?_
        exact W.iret (v := x4_2) hx hb hr (fun t ht hW => ⟨⟨x4_2, (), rfl, ⟨hx4_2, trivial⟩, trivial⟩, hS.F ht⟩) hS.2.2 dX0_handOf_34
      · have h_1 : rg 0 7 x4_3 := r_lt_l_i (nle_i c9) hx4_3 hp_n0_1 (by decide)
        have h_2 : rg 1 8 n0_1 := r_lt_r_i (nle_i c9) hx4_3 hp_n0_1 (by decide)
        refine lv_aload_n hx hb dX0_handOf_12 rfl (lv_at hl 0 rfl) ?_
        refine lv_iload_n hx hb dX0_handOf_13 rfl (lv_at hl 3 rfl) ?_
        refine ro_calli (va_runV (As := [.int x4_3]) (rest := []) ⟨hx, hb, hml, hown, hts⟩ (a_X0_holderOf l G ct a0 a1 n0_1 f1 x4_3 (rg_w (c := 0) (d := 8) h_2 (by decide))) (cwV 1 hts gX0_handOf_X0_holderOf rfl rfl rfl (by decide +kernel) ⟨Nat.le_of_ble_eq_true rfl, Nat.le_of_ble_eq_true rfl⟩) (ro_preV 0 0 hK (hP.sub [0, 1] rfl) rfl rfl) rfl rfl hl.1 rfl (lv_room (Nat.le_of_ble_eq_true rfl)) dX0_handOf_14 ⟨Nat.zero_le _, Nat.zero_le _⟩) hS hP (fun r14 H locs wr14 hP hS => ?_)
        obtain ⟨p_3, p_4, p_5, p_6, -⟩ := wr14
        refine lv_iload_n hx hb dX0_handOf_17 rfl (lv_at hl 1 rfl) ?_
        have j27 : ∀ (x27_2 : Int32) (H : Heap) (locs : List Loc) (ls : Array Slot), rg 0 255 x27_2 → va_P G vwCl [(a0, .inr (0, [.ref a1, .int n0_1])), (a1, .inl (ct 0, 8, .inl f1))] H → va_S no s.heap H locs → lv_has ls 4 [(0, .ref a0), (1, .int p0), (2, .int x27_2), (3, .int x4_3)] → W p l e (headSpec wsX0_handOf ({ frames := 2, cells := 0, slots := 0, locals := 42 })).room s m ([.ref a0, .int p0] : List Value).toArray below meth c H locs 0 0 (MQ below (roQ (fun r => rg 0 255 r ∧ True)) ([.ref a0, .int p0] : List Value).toArray s 0 0 no) (F0 m 27 ls []) := by
          intro x27_2 H locs ls hx27_2 hP hS hl
          obtain ⟨z27, qz27⟩ : ∃ y : Int32, y = x4_3 + Int32.ofInt 1 := ⟨_, rfl⟩
          obtain ⟨hz27, ez27⟩ := inc_z (e := 1) (f := 8) h_1 qz27 (by decide)
          refine lv_iinc (v := z27) (lv' := [(3, .int z27), (0, .ref a0), (1, .int p0), (2, .int x27_2)]) hx hb dX0_handOf_27 hl (k := 3) rfl (qz27.symm) (by decide) rfl (fun ls hl => ?_)
          refine lv_goto (tgt := 4) hx hb dX0_handOf_30 (by decide) ?_
          exact ih4 x27_2 z27 _ _ ls (by have q := hn4; have := ez27; omega) hx27_2 (rg_w (c := 0) (d := 8) hz27 (by decide)) hP hS (lv_sub hl [1, 2, 3, 0] rfl)
        refine lv_icmp_ne (tgt := 27) hx hb dX0_handOf_18 (by decide) (fun c18 => ?_) (fun c18 => ?_)
        · exact j27 x4_2 _ _ ls hx4_2 hP hS (lv_sub hl [0, 1, 2, 3] rfl)
        · refine lv_iload_n hx hb dX0_handOf_21 rfl (lv_at hl 2 rfl) ?_
          refine lv_iconst (v := 1) hx hb dX0_handOf_22 (by decide) ?_
          refine lv_iload_n hx hb dX0_handOf_23 rfl (lv_at hl 3 rfl) ?_
          refine lv_ishl hx hb dX0_handOf_24 ?_
          refine nm_shl (e1 := 1) (f := 128) h_1 (by decide) (fun z24 hz24 => ?_)
          refine lv_ior hx hb dX0_handOf_25 ?_
          refine nm_or (k := 8) (e1 := 1) (f := 255) hx4_2 hz24 (by decide) (fun z25 hz25 => ?_)
          refine lv_istore_n (lv' := [(2, .int z25), (0, .ref a0), (1, .int p0), (3, .int x4_3)]) hx hb dX0_handOf_26 rfl hl (by decide) rfl (fun ls hl => ?_)
          exact j27 z25 _ _ ls (rg_w (c := 0) (d := 255) hz25 (by decide)) hP hS (lv_sub hl [1, 2, 0, 3] rfl)
  exact j4 4294967296 (0 : Int32) (0 : Int32) _ _ ls (ms_e (0 : Int32)) (rg_w (c := 0) (d := 255) (rgn 0 (x := 0) (by decide)) (by decide)) (rg_w (c := 0) (d := 8) (rgn 0 (x := 0) (by decide)) (by decide)) hP hS (lv_sub hl [2, 3, 1, 0] rfl)

set_option maxHeartbeats 4000000 in
set_option maxRecDepth 100000 in
theorem a_X0_freeOnes (l : Launch) (G : va_G) (ct : Nat → ClassId) (a0 : Nat) (a1 : Nat) (n0_1 : Int32) (f1 : Nat → Int32) (hp_n0_1 : rg 0 8 n0_1) : Met l yX0_freeOnes wsX0_freeOnes ({ frames := 3, cells := 0, slots := 0, locals := 65 }) (va_Pc [.ref a0] (roP G ct [(a0, .inr (0, [.ref a1, .int n0_1])), (a1, .inl (ct 0, 8, .inl f1))])) (roQ (fun r => rg 0 255 r ∧ True)) 0 0 no := by
  refine Met.ofW (cc := cX0_freeOnes) (maxL := 1) (ret := (some .int)) (by decide) rfl ?_
  intro p e s m args below meth c s₁ B hml hv
  obtain ⟨rfl, hP, hK⟩ := hv
  have hx := B.exec
  have hb := B.bytes
  have hr := B.returns
  have hts := atoms_spec (ws := wsX0_freeOnes) B.pre
  have hown : s.vm.findClass RX0 = some m.cls := findClass_of_methodNamed B.named
  have hlocks := B.notSynchronized
  have hS : va_S no s.heap s.heap [] := va_S.rf
  have hl := lv_entry ([.ref a0]) (n := 1) (Nat.le_of_ble_eq_true rfl)
  rw [lg_entry_eq]
  generalize (lg_sl ([.ref a0]) ++ List.replicate (1 - (lg_sl ([.ref a0])).length) Slot.unset).toArray = ls at hl ⊢
  have hl : lv_has ls 1 [(0, .ref a0)] := hl
  refine lv_aload_n hx hb dX0_freeOnes_0 rfl (lv_at hl 0 rfl) ?_
  refine lv_iconst (v := (-1)) hx hb dX0_freeOnes_1 (by decide) ?_
  refine ro_calli (va_runV (As := [.int (-1)]) (rest := []) ⟨hx, hb, hml, hown, hts⟩ (a_X0_handOf l G ct a0 a1 n0_1 f1 ((-1) : Int32) hp_n0_1) (cwV 1 hts gX0_freeOnes_X0_handOf rfl rfl rfl (by decide +kernel) ⟨Nat.le_of_ble_eq_true rfl, Nat.le_of_ble_eq_true rfl⟩) (ro_preV 0 0 hK (hP.sub [0, 1] rfl) rfl rfl) rfl rfl hl.1 rfl (lv_room (Nat.le_of_ble_eq_true rfl)) dX0_freeOnes_2 ⟨Nat.zero_le _, Nat.zero_le _⟩) hS hP (fun r2 H locs wr2 hP hS => ?_)
  obtain ⟨p_1, -⟩ := wr2
  exact W.iret (v := r2) hx hb hr (fun t ht hW => ⟨⟨r2, (), rfl, ⟨p_1, trivial⟩, trivial⟩, hS.F ht⟩) hS.2.2 dX0_freeOnes_5

set_option maxHeartbeats 4000000 in
set_option maxRecDepth 100000 in
theorem a_X0_stepsTo (l : Launch) (G : va_G) (ct : Nat → ClassId) (a0 : Nat) (a1 : Nat) (n0_1 : Int32) (f1 : Nat → Int32) (p0 : Int32) (p1 : Int32) (hp_n0_1 : rg 0 8 n0_1) : Met l yX0_stepsTo wsX0_stepsTo ({ frames := 2, cells := 0, slots := 0, locals := 42 }) (va_Pc [.ref a0, .int p0, .int p1] (roP G ct [(a0, .inr (0, [.ref a1, .int n0_1])), (a1, .inl (ct 0, 8, .inl f1))])) (roQ (fun r => rg (-1) 8 r ∧ True)) 0 0 no := by
  refine Met.ofW (cc := cX0_stepsTo) (maxL := 5) (ret := (some .int)) (by decide) rfl ?_
  intro p e s m args below meth c s₁ B hml hv
  obtain ⟨rfl, hP, hK⟩ := hv
  have hx := B.exec
  have hb := B.bytes
  have hr := B.returns
  have hts := atoms_spec (ws := wsX0_stepsTo) B.pre
  have hown : s.vm.findClass RX0 = some m.cls := findClass_of_methodNamed B.named
  have hlocks := B.notSynchronized
  have hS : va_S no s.heap s.heap [] := va_S.rf
  have hl := lv_entry ([.ref a0, .int p0, .int p1]) (n := 5) (Nat.le_of_ble_eq_true rfl)
  rw [lg_entry_eq]
  generalize (lg_sl ([.ref a0, .int p0, .int p1]) ++ List.replicate (5 - (lg_sl ([.ref a0, .int p0, .int p1])).length) Slot.unset).toArray = ls at hl ⊢
  have hl : lv_has ls 5 [(0, .ref a0), (1, .int p0), (2, .int p1)] := hl
  refine lv_iload_n hx hb dX0_stepsTo_0 rfl (lv_at hl 2 rfl) ?_
  refine lv_istore_n (lv' := [(3, .int p1), (0, .ref a0), (1, .int p0), (2, .int p1)]) hx hb dX0_stepsTo_1 rfl hl (by decide) rfl (fun ls hl => ?_)
  refine lv_iconst (v := 1) hx hb dX0_stepsTo_2 (by decide) ?_
  refine lv_istore (lv' := [(4, .int 1), (3, .int p1), (0, .ref a0), (1, .int p0), (2, .int p1)]) hx hb dX0_stepsTo_3 hl (by decide) rfl (fun ls hl => ?_)
  have j5 : ∀ (n : Nat) (x5_3 : Int32) (x5_4 : Int32) (H : Heap) (locs : List Loc) (ls : Array Slot), 2147483648 ≤ x5_4.toInt + (n : Int) → rg 1 9 x5_4 → va_P G vwCl [(a0, .inr (0, [.ref a1, .int n0_1])), (a1, .inl (ct 0, 8, .inl f1))] H → va_S no s.heap H locs → lv_has ls 5 [(0, .ref a0), (1, .int p0), (2, .int p1), (3, .int x5_3), (4, .int x5_4)] → W p l e (headSpec wsX0_stepsTo ({ frames := 2, cells := 0, slots := 0, locals := 42 })).room s m ([.ref a0, .int p0, .int p1] : List Value).toArray below meth c H locs 0 0 (MQ below (roQ (fun r => rg (-1) 8 r ∧ True)) ([.ref a0, .int p0, .int p1] : List Value).toArray s 0 0 no) (F0 m 5 ls []) := by
    intro n
    induction n with
    | zero => intro x5_3 x5_4 H locs ls hn5 hx5_4 hP hS hl; exact absurd hn5 (by have := Int32.toInt_lt x5_4; have := Int32.le_toInt x5_4; omega)
    | succ n ih5 =>
      intro x5_3 x5_4 H locs ls hn5 hx5_4 hP hS hl
      refine lv_iload hx hb dX0_stepsTo_5 (lv_at hl 4 rfl) ?_
      refine lv_bipush (v := 8) hx hb dX0_stepsTo_7 (by decide) ?_
      refine lv_icmp_gt (tgt := 37) hx hb dX0_stepsTo_9 (by decide) (fun c9 => ?_) (fun c9 => ?_)
      · have h_1 : rg 9 9 x5_4 := r_lt_r_i c9 (rgn 8 (x := 8) (by decide)) hx5_4 (by decide)
        refine lv_iconst (v := (-1)) hx hb dX0_stepsTo_37 (by decide) ?_
        exact W.iret (v := (-1)) hx hb hr (fun t ht hW => ⟨⟨(-1), (), rfl, ⟨(rg_w (c := (-1)) (d := 8) (rgn (-1) (x := (-1)) (by decide)) (by decide)), trivial⟩, trivial⟩, hS.F ht⟩) hS.2.2 dX0_stepsTo_38
      · have h_2 : rg 1 8 x5_4 := r_le_l_i (nlt_i c9) hx5_4 (rgn 8 (x := 8) (by decide))
        refine lv_iload_n hx hb dX0_stepsTo_12 rfl (lv_at hl 3 rfl) ?_
        refine lv_iconst (v := (-1)) hx hb dX0_stepsTo_13 (by decide) ?_
        refine lv_icmp_eq (tgt := 37) hx hb dX0_stepsTo_14 (by decide) (fun c14 => ?_) (fun c14 => ?_)
        · have h_3 : rg (-1) (-1) x5_3 := r_eq_l_i (e := (-1)) (f := (-1)) c14 (rg_t x5_3) (rgn (-1) (x := (-1)) (by decide)) (by decide)
          refine lv_iconst (v := (-1)) hx hb dX0_stepsTo_37 (by decide) ?_
          exact W.iret (v := (-1)) hx hb hr (fun t ht hW => ⟨⟨(-1), (), rfl, ⟨(rg_w (c := (-1)) (d := 8) (rgn (-1) (x := (-1)) (by decide)) (by decide)), trivial⟩, trivial⟩, hS.F ht⟩) hS.2.2 dX0_stepsTo_38
        · refine lv_aload_n hx hb dX0_stepsTo_17 rfl (lv_at hl 0 rfl) ?_
          refine lv_iload_n hx hb dX0_stepsTo_18 rfl (lv_at hl 3 rfl) ?_
          refine ro_calli (va_runV (As := [.int x5_3]) (rest := []) ⟨hx, hb, hml, hown, hts⟩ (a_X0_holderOf l G ct a0 a1 n0_1 f1 x5_3 hp_n0_1) (cwV 1 hts gX0_stepsTo_X0_holderOf rfl rfl rfl (by decide +kernel) ⟨Nat.le_of_ble_eq_true rfl, Nat.le_of_ble_eq_true rfl⟩) (ro_preV 0 0 hK (hP.sub [0, 1] rfl) rfl rfl) rfl rfl hl.1 rfl (lv_room (Nat.le_of_ble_eq_true rfl)) dX0_stepsTo_19 ⟨Nat.zero_le _, Nat.zero_le _⟩) hS hP (fun r19 H locs wr19 hP hS => ?_)
          obtain ⟨p_4, p_5, p_6, p_7, -⟩ := wr19
          refine lv_istore_n (lv' := [(3, .int r19), (0, .ref a0), (1, .int p0), (2, .int p1), (4, .int x5_4)]) hx hb dX0_stepsTo_22 rfl hl (by decide) rfl (fun ls hl => ?_)
          refine lv_iload_n hx hb dX0_stepsTo_23 rfl (lv_at hl 0 rfl) ?_
          refine lv_iload_n hx hb dX0_stepsTo_24 rfl (lv_at hl 2 rfl) ?_
          refine lv_icmp_ne (tgt := 31) hx hb dX0_stepsTo_25 (by decide) (fun c25 => ?_) (fun c25 => ?_)
          · obtain ⟨z31, qz31⟩ : ∃ y : Int32, y = x5_4 + Int32.ofInt 1 := ⟨_, rfl⟩
            obtain ⟨hz31, ez31⟩ := inc_z (e := 2) (f := 9) h_2 qz31 (by decide)
            refine lv_iinc (v := z31) (lv' := [(4, .int z31), (3, .int r19), (0, .ref a0), (1, .int p0), (2, .int p1)]) hx hb dX0_stepsTo_31 hl (k := 4) rfl (qz31.symm) (by decide) rfl (fun ls hl => ?_)
            refine lv_goto (tgt := 5) hx hb dX0_stepsTo_34 (by decide) ?_
            exact ih5 r19 z31 _ _ ls (by have q := hn5; have := ez31; omega) (rg_w (c := 1) (d := 9) hz31 (by decide)) hP hS (lv_sub hl [2, 3, 4, 1, 0] rfl)
          · refine lv_iload hx hb dX0_stepsTo_28 (lv_at hl 4 rfl) ?_
            exact W.iret (v := x5_4) hx hb hr (fun t ht hW => ⟨⟨x5_4, (), rfl, ⟨(rg_w (c := (-1)) (d := 8) h_2 (by decide)), trivial⟩, trivial⟩, hS.F ht⟩) hS.2.2 dX0_stepsTo_30
  exact j5 4294967296 p1 (1 : Int32) _ _ ls (ms_e (1 : Int32)) (rg_w (c := 1) (d := 9) (rgn 1 (x := 1) (by decide)) (by decide)) hP hS (lv_sub hl [2, 3, 4, 1, 0] rfl)

set_option maxHeartbeats 4000000 in
set_option maxRecDepth 100000 in
theorem a_X0_climb (l : Launch) (G : va_G) (ct : Nat → ClassId) (a0 : Nat) (a1 : Nat) (n0_1 : Int32) (f1 : Nat → Int32) (p0 : Int32) (p1 : Int32) (hp_n0_1 : rg 0 8 n0_1) : Met l yX0_climb wsX0_climb ({ frames := 2, cells := 0, slots := 0, locals := 42 }) (va_Pc [.ref a0, .int p0, .int p1] (roP G ct [(a0, .inr (0, [.ref a1, .int n0_1])), (a1, .inl (ct 0, 8, .inl f1))])) (roQ (fun r => True)) 0 0 no := by
  refine Met.ofW (cc := cX0_climb) (maxL := 5) (ret := (some .int)) (by decide) rfl ?_
  intro p e s m args below meth c s₁ B hml hv
  obtain ⟨rfl, hP, hK⟩ := hv
  have hx := B.exec
  have hb := B.bytes
  have hr := B.returns
  have hts := atoms_spec (ws := wsX0_climb) B.pre
  have hown : s.vm.findClass RX0 = some m.cls := findClass_of_methodNamed B.named
  have hlocks := B.notSynchronized
  have hS : va_S no s.heap s.heap [] := va_S.rf
  have hl := lv_entry ([.ref a0, .int p0, .int p1]) (n := 5) (Nat.le_of_ble_eq_true rfl)
  rw [lg_entry_eq]
  generalize (lg_sl ([.ref a0, .int p0, .int p1]) ++ List.replicate (5 - (lg_sl ([.ref a0, .int p0, .int p1])).length) Slot.unset).toArray = ls at hl ⊢
  have hl : lv_has ls 5 [(0, .ref a0), (1, .int p0), (2, .int p1)] := hl
  refine lv_iload_n hx hb dX0_climb_0 rfl (lv_at hl 1 rfl) ?_
  refine lv_istore_n (lv' := [(3, .int p0), (0, .ref a0), (1, .int p0), (2, .int p1)]) hx hb dX0_climb_1 rfl hl (by decide) rfl (fun ls hl => ?_)
  refine lv_iconst (v := 0) hx hb dX0_climb_2 (by decide) ?_
  refine lv_istore (lv' := [(4, .int 0), (3, .int p0), (0, .ref a0), (1, .int p0), (2, .int p1)]) hx hb dX0_climb_3 hl (by decide) rfl (fun ls hl => ?_)
  have j5 : ∀ (n : Nat) (x5_3 : Int32) (x5_4 : Int32) (H : Heap) (locs : List Loc) (ls : Array Slot), 2147483648 ≤ x5_4.toInt + (n : Int) → rg 0 2147483647 x5_4 → va_P G vwCl [(a0, .inr (0, [.ref a1, .int n0_1])), (a1, .inl (ct 0, 8, .inl f1))] H → va_S no s.heap H locs → lv_has ls 5 [(0, .ref a0), (1, .int p0), (2, .int p1), (3, .int x5_3), (4, .int x5_4)] → W p l e (headSpec wsX0_climb ({ frames := 2, cells := 0, slots := 0, locals := 42 })).room s m ([.ref a0, .int p0, .int p1] : List Value).toArray below meth c H locs 0 0 (MQ below (roQ (fun r => True)) ([.ref a0, .int p0, .int p1] : List Value).toArray s 0 0 no) (F0 m 5 ls []) := by
    intro n
    induction n with
    | zero => intro x5_3 x5_4 H locs ls hn5 hx5_4 hP hS hl; exact absurd hn5 (by have := Int32.toInt_lt x5_4; have := Int32.le_toInt x5_4; omega)
    | succ n ih5 =>
      intro x5_3 x5_4 H locs ls hn5 hx5_4 hP hS hl
      refine lv_iload hx hb dX0_climb_5 (lv_at hl 4 rfl) ?_
      refine lv_iload_n hx hb dX0_climb_7 rfl (lv_at hl 2 rfl) ?_
      refine lv_icmp_ge (tgt := 28) hx hb dX0_climb_8 (by decide) (fun c8 => ?_) (fun c8 => ?_)
      · refine lv_iload_n hx hb dX0_climb_28 rfl (lv_at hl 3 rfl) ?_
        exact W.iret (v := x5_3) hx hb hr (fun t ht hW => ⟨⟨x5_3, (), rfl, trivial, trivial⟩, hS.F ht⟩) hS.2.2 dX0_climb_29
      · have h_1 : rg 0 2147483646 x5_4 := r_lt_l_i (nle_i c8) hx5_4 (rg_t p1) (by decide)
        have h_2 : rg 1 2147483647 p1 := r_lt_r_i (nle_i c8) hx5_4 (rg_t p1) (by decide)
        refine lv_iload_n hx hb dX0_climb_11 rfl (lv_at hl 3 rfl) ?_
        refine lv_iconst (v := (-1)) hx hb dX0_climb_12 (by decide) ?_
        refine lv_icmp_eq (tgt := 28) hx hb dX0_climb_13 (by decide) (fun c13 => ?_) (fun c13 => ?_)
        · have h_3 : rg (-1) (-1) x5_3 := r_eq_l_i (e := (-1)) (f := (-1)) c13 (rg_t x5_3) (rgn (-1) (x := (-1)) (by decide)) (by decide)
          refine lv_iload_n hx hb dX0_climb_28 rfl (lv_at hl 3 rfl) ?_
          exact W.iret (v := x5_3) hx hb hr (fun t ht hW => ⟨⟨x5_3, (), rfl, trivial, trivial⟩, hS.F ht⟩) hS.2.2 dX0_climb_29
        · refine lv_aload_n hx hb dX0_climb_16 rfl (lv_at hl 0 rfl) ?_
          refine lv_iload_n hx hb dX0_climb_17 rfl (lv_at hl 3 rfl) ?_
          refine ro_calli (va_runV (As := [.int x5_3]) (rest := []) ⟨hx, hb, hml, hown, hts⟩ (a_X0_holderOf l G ct a0 a1 n0_1 f1 x5_3 hp_n0_1) (cwV 1 hts gX0_climb_X0_holderOf rfl rfl rfl (by decide +kernel) ⟨Nat.le_of_ble_eq_true rfl, Nat.le_of_ble_eq_true rfl⟩) (ro_preV 0 0 hK (hP.sub [0, 1] rfl) rfl rfl) rfl rfl hl.1 rfl (lv_room (Nat.le_of_ble_eq_true rfl)) dX0_climb_18 ⟨Nat.zero_le _, Nat.zero_le _⟩) hS hP (fun r18 H locs wr18 hP hS => ?_)
          obtain ⟨p_4, p_5, p_6, p_7, -⟩ := wr18
          refine lv_istore_n (lv' := [(3, .int r18), (0, .ref a0), (1, .int p0), (2, .int p1), (4, .int x5_4)]) hx hb dX0_climb_21 rfl hl (by decide) rfl (fun ls hl => ?_)
          obtain ⟨z22, qz22⟩ : ∃ y : Int32, y = x5_4 + Int32.ofInt 1 := ⟨_, rfl⟩
          obtain ⟨hz22, ez22⟩ := inc_z (e := 1) (f := 2147483647) h_1 qz22 (by decide)
          refine lv_iinc (v := z22) (lv' := [(4, .int z22), (3, .int r18), (0, .ref a0), (1, .int p0), (2, .int p1)]) hx hb dX0_climb_22 hl (k := 4) rfl (qz22.symm) (by decide) rfl (fun ls hl => ?_)
          refine lv_goto (tgt := 5) hx hb dX0_climb_25 (by decide) ?_
          exact ih5 r18 z22 _ _ ls (by have q := hn5; have := ez22; omega) (rg_w (c := 0) (d := 2147483647) hz22 (by decide)) hP hS (lv_sub hl [2, 3, 4, 1, 0] rfl)
  exact j5 4294967296 p0 (0 : Int32) _ _ ls (ms_e (0 : Int32)) (rg_w (c := 0) (d := 2147483647) (rgn 0 (x := 0) (by decide)) (by decide)) hP hS (lv_sub hl [2, 3, 4, 1, 0] rfl)

set_option maxHeartbeats 4000000 in
set_option maxRecDepth 100000 in
theorem a_X0_below (l : Launch) (G : va_G) (ct : Nat → ClassId) (a0 : Nat) (a1 : Nat) (n0_1 : Int32) (f1 : Nat → Int32) (p0 : Int32) (hp_n0_1 : rg 0 8 n0_1) : Met l yX0_below wsX0_below ({ frames := 3, cells := 0, slots := 0, locals := 66 }) (va_Pc [.ref a0, .int p0] (roP G ct [(a0, .inr (0, [.ref a1, .int n0_1])), (a1, .inl (ct 0, 8, .inl f1))])) (roQ (fun r => rg 0 255 r ∧ True)) 0 0 no := by
  refine Met.ofW (cc := cX0_below) (maxL := 4) (ret := (some .int)) (by decide) rfl ?_
  intro p e s m args below meth c s₁ B hml hv
  obtain ⟨rfl, hP, hK⟩ := hv
  have hx := B.exec
  have hb := B.bytes
  have hr := B.returns
  have hts := atoms_spec (ws := wsX0_below) B.pre
  have hown : s.vm.findClass RX0 = some m.cls := findClass_of_methodNamed B.named
  have hlocks := B.notSynchronized
  have hS : va_S no s.heap s.heap [] := va_S.rf
  have hl := lv_entry ([.ref a0, .int p0]) (n := 4) (Nat.le_of_ble_eq_true rfl)
  rw [lg_entry_eq]
  generalize (lg_sl ([.ref a0, .int p0]) ++ List.replicate (4 - (lg_sl ([.ref a0, .int p0])).length) Slot.unset).toArray = ls at hl ⊢
  have hl : lv_has ls 4 [(0, .ref a0), (1, .int p0)] := hl
  refine lv_iconst (v := 0) hx hb dX0_below_0 (by decide) ?_
  refine lv_istore_n (lv' := [(2, .int 0), (0, .ref a0), (1, .int p0)]) hx hb dX0_below_1 rfl hl (by decide) rfl (fun ls hl => ?_)
  refine lv_iconst (v := 0) hx hb dX0_below_2 (by decide) ?_
  refine lv_istore_n (lv' := [(3, .int 0), (2, .int 0), (0, .ref a0), (1, .int p0)]) hx hb dX0_below_3 rfl hl (by decide) rfl (fun ls hl => ?_)
  have j4 : ∀ (n : Nat) (x4_2 : Int32) (x4_3 : Int32) (H : Heap) (locs : List Loc) (ls : Array Slot), 2147483648 ≤ x4_3.toInt + (n : Int) → rg 0 255 x4_2 → rg 0 8 x4_3 → va_P G vwCl [(a0, .inr (0, [.ref a1, .int n0_1])), (a1, .inl (ct 0, 8, .inl f1))] H → va_S no s.heap H locs → lv_has ls 4 [(0, .ref a0), (1, .int p0), (2, .int x4_2), (3, .int x4_3)] → W p l e (headSpec wsX0_below ({ frames := 3, cells := 0, slots := 0, locals := 66 })).room s m ([.ref a0, .int p0] : List Value).toArray below meth c H locs 0 0 (MQ below (roQ (fun r => rg 0 255 r ∧ True)) ([.ref a0, .int p0] : List Value).toArray s 0 0 no) (F0 m 4 ls []) := by
    intro n
    induction n with
    | zero => intro x4_2 x4_3 H locs ls hn4 hx4_2 hx4_3 hP hS hl; exact absurd hn4 (by have := Int32.toInt_lt x4_3; have := Int32.le_toInt x4_3; omega)
    | succ n ih4 =>
      intro x4_2 x4_3 H locs ls hn4 hx4_2 hx4_3 hP hS hl
      refine lv_iload_n hx hb dX0_below_4 rfl (lv_at hl 3 rfl) ?_
      refine lv_aload_n hx hb dX0_below_5 rfl (lv_at hl 0 rfl) ?_
      refine va_get (D := G) (ci := 0) (v := .int n0_1) (C := RX0) (T := TX0) (N := 2) hx hb hts (by decide +kernel) hown hK.1 hP 0 rfl rfl 1 (by decide) (hts (.fieldLink RX0 15 "CardHolder$Bonds" "persons" "I") (by decide +kernel)) (fun _ h9 => h9) rfl dX0_below_6 ?_
      refine lv_icmp_ge (tgt := 34) hx hb dX0_below_9 (by decide) (fun c9 => ?_) (fun c9 => ?_)
      · refine lv_iload_n hx hb dX0_below_34 rfl (lv_at hl 2 rfl) ?_
        exact W.iret (v := x4_2) hx hb hr (fun t ht hW => ⟨⟨x4_2, (), rfl, ⟨hx4_2, trivial⟩, trivial⟩, hS.F ht⟩) hS.2.2 dX0_below_35
      · have h_1 : rg 0 7 x4_3 := r_lt_l_i (nle_i c9) hx4_3 hp_n0_1 (by decide)
        have h_2 : rg 1 8 n0_1 := r_lt_r_i (nle_i c9) hx4_3 hp_n0_1 (by decide)
        refine lv_aload_n hx hb dX0_below_12 rfl (lv_at hl 0 rfl) ?_
        refine lv_iload_n hx hb dX0_below_13 rfl (lv_at hl 1 rfl) ?_
        refine lv_iload_n hx hb dX0_below_14 rfl (lv_at hl 3 rfl) ?_
        refine ro_calli (va_runV (As := [.int p0, .int x4_3]) (rest := []) ⟨hx, hb, hml, hown, hts⟩ (a_X0_stepsTo l G ct a0 a1 n0_1 f1 p0 x4_3 (rg_w (c := 0) (d := 8) h_2 (by decide))) (cwV 2 hts gX0_below_X0_stepsTo rfl rfl rfl (by decide +kernel) ⟨Nat.le_of_ble_eq_true rfl, Nat.le_of_ble_eq_true rfl⟩) (ro_preV 0 0 hK (hP.sub [0, 1] rfl) rfl rfl) rfl rfl hl.1 rfl (lv_room (Nat.le_of_ble_eq_true rfl)) dX0_below_15 ⟨Nat.zero_le _, Nat.zero_le _⟩) hS hP (fun r15 H locs wr15 hP hS => ?_)
        obtain ⟨p_3, -⟩ := wr15
        refine lv_iconst (v := (-1)) hx hb dX0_below_18 (by decide) ?_
        have j28 : ∀ (x28_2 : Int32) (H : Heap) (locs : List Loc) (ls : Array Slot), rg 0 255 x28_2 → va_P G vwCl [(a0, .inr (0, [.ref a1, .int n0_1])), (a1, .inl (ct 0, 8, .inl f1))] H → va_S no s.heap H locs → lv_has ls 4 [(0, .ref a0), (1, .int p0), (2, .int x28_2), (3, .int x4_3)] → W p l e (headSpec wsX0_below ({ frames := 3, cells := 0, slots := 0, locals := 66 })).room s m ([.ref a0, .int p0] : List Value).toArray below meth c H locs 0 0 (MQ below (roQ (fun r => rg 0 255 r ∧ True)) ([.ref a0, .int p0] : List Value).toArray s 0 0 no) (F0 m 28 ls []) := by
          intro x28_2 H locs ls hx28_2 hP hS hl
          obtain ⟨z28, qz28⟩ : ∃ y : Int32, y = x4_3 + Int32.ofInt 1 := ⟨_, rfl⟩
          obtain ⟨hz28, ez28⟩ := inc_z (e := 1) (f := 8) h_1 qz28 (by decide)
          refine lv_iinc (v := z28) (lv' := [(3, .int z28), (0, .ref a0), (1, .int p0), (2, .int x28_2)]) hx hb dX0_below_28 hl (k := 3) rfl (qz28.symm) (by decide) rfl (fun ls hl => ?_)
          refine lv_goto (tgt := 4) hx hb dX0_below_31 (by decide) ?_
          exact ih4 x28_2 z28 _ _ ls (by have q := hn4; have := ez28; omega) hx28_2 (rg_w (c := 0) (d := 8) hz28 (by decide)) hP hS (lv_sub hl [1, 2, 3, 0] rfl)
        refine lv_icmp_eq (tgt := 28) hx hb dX0_below_19 (by decide) (fun c19 => ?_) (fun c19 => ?_)
        · have h_4 : rg (-1) (-1) r15 := r_eq_l_i (e := (-1)) (f := (-1)) c19 p_3 (rgn (-1) (x := (-1)) (by decide)) (by decide)
          exact j28 x4_2 _ _ ls hx4_2 hP hS (lv_sub hl [0, 1, 2, 3] rfl)
        · have h_5 : rg 0 8 r15 := r_ne_lo_i c19 p_3 (by decide) (by decide)
          refine lv_iload_n hx hb dX0_below_22 rfl (lv_at hl 2 rfl) ?_
          refine lv_iconst (v := 1) hx hb dX0_below_23 (by decide) ?_
          refine lv_iload_n hx hb dX0_below_24 rfl (lv_at hl 3 rfl) ?_
          refine lv_ishl hx hb dX0_below_25 ?_
          refine nm_shl (e1 := 1) (f := 128) h_1 (by decide) (fun z25 hz25 => ?_)
          refine lv_ior hx hb dX0_below_26 ?_
          refine nm_or (k := 8) (e1 := 1) (f := 255) hx4_2 hz25 (by decide) (fun z26 hz26 => ?_)
          refine lv_istore_n (lv' := [(2, .int z26), (0, .ref a0), (1, .int p0), (3, .int x4_3)]) hx hb dX0_below_27 rfl hl (by decide) rfl (fun ls hl => ?_)
          exact j28 z26 _ _ ls (rg_w (c := 0) (d := 255) hz26 (by decide)) hP hS (lv_sub hl [1, 2, 0, 3] rfl)
  exact j4 4294967296 (0 : Int32) (0 : Int32) _ _ ls (ms_e (0 : Int32)) (rg_w (c := 0) (d := 255) (rgn 0 (x := 0) (by decide)) (by decide)) (rg_w (c := 0) (d := 8) (rgn 0 (x := 0) (by decide)) (by decide)) hP hS (lv_sub hl [2, 3, 1, 0] rfl)

set_option maxHeartbeats 4000000 in
set_option maxRecDepth 100000 in
theorem a_X0_topOf (l : Launch) (G : va_G) (ct : Nat → ClassId) (a0 : Nat) (a1 : Nat) (n0_1 : Int32) (f1 : Nat → Int32) (p0 : Int32) (hp_n0_1 : rg 0 8 n0_1) : Met l yX0_topOf wsX0_topOf ({ frames := 2, cells := 0, slots := 0, locals := 42 }) (va_Pc [.ref a0, .int p0] (roP G ct [(a0, .inr (0, [.ref a1, .int n0_1])), (a1, .inl (ct 0, 8, .inl f1))])) (roQ (fun r => True)) 0 0 no := by
  refine Met.ofW (cc := cX0_topOf) (maxL := 5) (ret := (some .int)) (by decide) rfl ?_
  intro p e s m args below meth c s₁ B hml hv
  obtain ⟨rfl, hP, hK⟩ := hv
  have hx := B.exec
  have hb := B.bytes
  have hr := B.returns
  have hts := atoms_spec (ws := wsX0_topOf) B.pre
  have hown : s.vm.findClass RX0 = some m.cls := findClass_of_methodNamed B.named
  have hlocks := B.notSynchronized
  have hS : va_S no s.heap s.heap [] := va_S.rf
  have hl := lv_entry ([.ref a0, .int p0]) (n := 5) (Nat.le_of_ble_eq_true rfl)
  rw [lg_entry_eq]
  generalize (lg_sl ([.ref a0, .int p0]) ++ List.replicate (5 - (lg_sl ([.ref a0, .int p0])).length) Slot.unset).toArray = ls at hl ⊢
  have hl : lv_has ls 5 [(0, .ref a0), (1, .int p0)] := hl
  refine lv_iload_n hx hb dX0_topOf_0 rfl (lv_at hl 1 rfl) ?_
  refine lv_istore_n (lv' := [(2, .int p0), (0, .ref a0), (1, .int p0)]) hx hb dX0_topOf_1 rfl hl (by decide) rfl (fun ls hl => ?_)
  refine lv_iconst (v := 0) hx hb dX0_topOf_2 (by decide) ?_
  refine lv_istore_n (lv' := [(3, .int 0), (2, .int p0), (0, .ref a0), (1, .int p0)]) hx hb dX0_topOf_3 rfl hl (by decide) rfl (fun ls hl => ?_)
  have j4 : ∀ (n : Nat) (x4_2 : Int32) (x4_3 : Int32) (H : Heap) (locs : List Loc) (ls : Array Slot), 2147483648 ≤ x4_3.toInt + (n : Int) → rg 0 9 x4_3 → va_P G vwCl [(a0, .inr (0, [.ref a1, .int n0_1])), (a1, .inl (ct 0, 8, .inl f1))] H → va_S no s.heap H locs → lv_has ls 5 [(0, .ref a0), (1, .int p0), (2, .int x4_2), (3, .int x4_3)] → W p l e (headSpec wsX0_topOf ({ frames := 2, cells := 0, slots := 0, locals := 42 })).room s m ([.ref a0, .int p0] : List Value).toArray below meth c H locs 0 0 (MQ below (roQ (fun r => True)) ([.ref a0, .int p0] : List Value).toArray s 0 0 no) (F0 m 4 ls []) := by
    intro n
    induction n with
    | zero => intro x4_2 x4_3 H locs ls hn4 hx4_3 hP hS hl; exact absurd hn4 (by have := Int32.toInt_lt x4_3; have := Int32.le_toInt x4_3; omega)
    | succ n ih4 =>
      intro x4_2 x4_3 H locs ls hn4 hx4_3 hP hS hl
      refine lv_iload_n hx hb dX0_topOf_4 rfl (lv_at hl 3 rfl) ?_
      refine lv_bipush (v := 8) hx hb dX0_topOf_5 (by decide) ?_
      refine lv_icmp_gt (tgt := 34) hx hb dX0_topOf_7 (by decide) (fun c7 => ?_) (fun c7 => ?_)
      · have h_1 : rg 9 9 x4_3 := r_lt_r_i c7 (rgn 8 (x := 8) (by decide)) hx4_3 (by decide)
        refine lv_iconst (v := (-1)) hx hb dX0_topOf_34 (by decide) ?_
        exact W.iret (v := (-1)) hx hb hr (fun t ht hW => ⟨⟨(-1), (), rfl, trivial, trivial⟩, hS.F ht⟩) hS.2.2 dX0_topOf_35
      · have h_2 : rg 0 8 x4_3 := r_le_l_i (nlt_i c7) hx4_3 (rgn 8 (x := 8) (by decide))
        refine lv_aload_n hx hb dX0_topOf_10 rfl (lv_at hl 0 rfl) ?_
        refine lv_iload_n hx hb dX0_topOf_11 rfl (lv_at hl 2 rfl) ?_
        refine ro_calli (va_runV (As := [.int x4_2]) (rest := []) ⟨hx, hb, hml, hown, hts⟩ (a_X0_holderOf l G ct a0 a1 n0_1 f1 x4_2 hp_n0_1) (cwV 1 hts gX0_topOf_X0_holderOf rfl rfl rfl (by decide +kernel) ⟨Nat.le_of_ble_eq_true rfl, Nat.le_of_ble_eq_true rfl⟩) (ro_preV 0 0 hK (hP.sub [0, 1] rfl) rfl rfl) rfl rfl hl.1 rfl (lv_room (Nat.le_of_ble_eq_true rfl)) dX0_topOf_12 ⟨Nat.zero_le _, Nat.zero_le _⟩) hS hP (fun r12 H locs wr12 hP hS => ?_)
        obtain ⟨p_3, p_4, p_5, p_6, -⟩ := wr12
        refine lv_istore (lv' := [(4, .int r12), (0, .ref a0), (1, .int p0), (2, .int x4_2), (3, .int x4_3)]) hx hb dX0_topOf_15 hl (by decide) rfl (fun ls hl => ?_)
        refine lv_iload hx hb dX0_topOf_17 (lv_at hl 0 rfl) ?_
        refine lv_iconst (v := (-1)) hx hb dX0_topOf_19 (by decide) ?_
        refine lv_icmp_ne (tgt := 25) hx hb dX0_topOf_20 (by decide) (fun c20 => ?_) (fun c20 => ?_)
        · have h_7 : rg 0 7 x4_2 := (p_4 c20)
          have h_8 : rg 1 8 n0_1 := (p_6 c20)
          refine lv_iload hx hb dX0_topOf_25 (lv_at hl 0 rfl) ?_
          refine lv_istore_n (lv' := [(2, .int r12), (4, .int r12), (0, .ref a0), (1, .int p0), (3, .int x4_3)]) hx hb dX0_topOf_27 rfl hl (by decide) rfl (fun ls hl => ?_)
          obtain ⟨z28, qz28⟩ : ∃ y : Int32, y = x4_3 + Int32.ofInt 1 := ⟨_, rfl⟩
          obtain ⟨hz28, ez28⟩ := inc_z (e := 1) (f := 9) h_2 qz28 (by decide)
          refine lv_iinc (v := z28) (lv' := [(3, .int z28), (2, .int r12), (4, .int r12), (0, .ref a0), (1, .int p0)]) hx hb dX0_topOf_28 hl (k := 4) rfl (qz28.symm) (by decide) rfl (fun ls hl => ?_)
          refine lv_goto (tgt := 4) hx hb dX0_topOf_31 (by decide) ?_
          exact ih4 r12 z28 _ _ ls (by have q := hn4; have := ez28; omega) (rg_w (c := 0) (d := 9) hz28 (by decide)) hP hS (lv_sub hl [3, 4, 1, 0] rfl)
        · have h_9 : rg (-1) (-1) r12 := r_eq_l_i (e := (-1)) (f := (-1)) c20 (rg_t r12) (rgn (-1) (x := (-1)) (by decide)) (by decide)
          refine lv_iload_n hx hb dX0_topOf_23 rfl (lv_at hl 3 rfl) ?_
          exact W.iret (v := x4_2) hx hb hr (fun t ht hW => ⟨⟨x4_2, (), rfl, trivial, trivial⟩, hS.F ht⟩) hS.2.2 dX0_topOf_24
  exact j4 4294967296 p0 (0 : Int32) _ _ ls (ms_e (0 : Int32)) (rg_w (c := 0) (d := 9) (rgn 0 (x := 0) (by decide)) (by decide)) hP hS (lv_sub hl [2, 3, 1, 0] rfl)

set_option maxHeartbeats 4000000 in
set_option maxRecDepth 100000 in
theorem a_X0_ringOf (l : Launch) (G : va_G) (ct : Nat → ClassId) (a0 : Nat) (a1 : Nat) (n0_1 : Int32) (f1 : Nat → Int32) (p0 : Int32) (hp_n0_1 : rg 0 8 n0_1) : Met l yX0_ringOf wsX0_ringOf ({ frames := 3, cells := 0, slots := 0, locals := 66 }) (va_Pc [.ref a0, .int p0] (roP G ct [(a0, .inr (0, [.ref a1, .int n0_1])), (a1, .inl (ct 0, 8, .inl f1))])) (roQ (fun r => rg 0 8 r ∧ True)) 0 0 no := by
  refine Met.ofW (cc := cX0_ringOf) (maxL := 2) (ret := (some .int)) (by decide) rfl ?_
  intro p e s m args below meth c s₁ B hml hv
  obtain ⟨rfl, hP, hK⟩ := hv
  have hx := B.exec
  have hb := B.bytes
  have hr := B.returns
  have hts := atoms_spec (ws := wsX0_ringOf) B.pre
  have hown : s.vm.findClass RX0 = some m.cls := findClass_of_methodNamed B.named
  have hlocks := B.notSynchronized
  have hS : va_S no s.heap s.heap [] := va_S.rf
  have hl := lv_entry ([.ref a0, .int p0]) (n := 2) (Nat.le_of_ble_eq_true rfl)
  rw [lg_entry_eq]
  generalize (lg_sl ([.ref a0, .int p0]) ++ List.replicate (2 - (lg_sl ([.ref a0, .int p0])).length) Slot.unset).toArray = ls at hl ⊢
  have hl : lv_has ls 2 [(0, .ref a0), (1, .int p0)] := hl
  refine lv_iconst (v := 0) hx hb dX0_ringOf_0 (by decide) ?_
  refine lv_aload_n hx hb dX0_ringOf_1 rfl (lv_at hl 0 rfl) ?_
  refine lv_iload_n hx hb dX0_ringOf_2 rfl (lv_at hl 1 rfl) ?_
  refine lv_iload_n hx hb dX0_ringOf_3 rfl (lv_at hl 1 rfl) ?_
  refine ro_calli (va_runV (As := [.int p0, .int p0]) (rest := [.int 0]) ⟨hx, hb, hml, hown, hts⟩ (a_X0_stepsTo l G ct a0 a1 n0_1 f1 p0 p0 hp_n0_1) (cwV 2 hts gX0_ringOf_X0_stepsTo rfl rfl rfl (by decide +kernel) ⟨Nat.le_of_ble_eq_true rfl, Nat.le_of_ble_eq_true rfl⟩) (ro_preV 0 0 hK (hP.sub [0, 1] rfl) rfl rfl) rfl rfl hl.1 rfl (lv_room (Nat.le_of_ble_eq_true rfl)) dX0_ringOf_4 ⟨Nat.zero_le _, Nat.zero_le _⟩) hS hP (fun r4 H locs wr4 hP hS => ?_)
  obtain ⟨p_1, -⟩ := wr4
  refine va_mmax hx hb (hml.trans hl.1.symm) hown (hts (.methodLink RX0 40 Lib.Math.max.name) (by decide +kernel)) (hts (.static Lib.Math.max.name) (by decide +kernel)) (hts (.initialized "java/lang/Math") (by decide +kernel)) (hts (.code Lib.Math.max.name Lib.Math.max.code 2 (some .int)) (List.mem_of_getElem? (i := 4) rfl)) (Nat.le_of_ble_eq_true rfl) (Nat.le_of_ble_eq_true rfl) (Nat.zero_le _) (Nat.zero_le _) dX0_ringOf_7 ?_
  refine nm_max (e1 := 0) (f := 8) (rgn 0 (x := 0) (by decide)) p_1 (by decide) (fun z7 hz7 => ?_)
  exact W.iret (v := z7) hx hb hr (fun t ht hW => ⟨⟨z7, (), rfl, ⟨hz7, trivial⟩, trivial⟩, hS.F ht⟩) hS.2.2 dX0_ringOf_10

set_option maxHeartbeats 4000000 in
set_option maxRecDepth 100000 in
theorem a_X0_isLeastOfRing (l : Launch) (G : va_G) (ct : Nat → ClassId) (a0 : Nat) (a1 : Nat) (n0_1 : Int32) (f1 : Nat → Int32) (p0 : Int32) (hp_n0_1 : rg 0 8 n0_1) : Met l yX0_isLeastOfRing wsX0_isLeastOfRing ({ frames := 4, cells := 0, slots := 0, locals := 87 }) (va_Pc [.ref a0, .int p0] (roP G ct [(a0, .inr (0, [.ref a1, .int n0_1])), (a1, .inl (ct 0, 8, .inl f1))])) (roQ (fun r => rg 0 1 r ∧ True)) 0 0 no := by
  refine Met.ofW (cc := cX0_isLeastOfRing) (maxL := 5) (ret := (some .boolean)) (by decide) rfl ?_
  intro p e s m args below meth c s₁ B hml hv
  obtain ⟨rfl, hP, hK⟩ := hv
  have hx := B.exec
  have hb := B.bytes
  have hr := B.returns
  have hts := atoms_spec (ws := wsX0_isLeastOfRing) B.pre
  have hown : s.vm.findClass RX0 = some m.cls := findClass_of_methodNamed B.named
  have hlocks := B.notSynchronized
  have hS : va_S no s.heap s.heap [] := va_S.rf
  have hl := lv_entry ([.ref a0, .int p0]) (n := 5) (Nat.le_of_ble_eq_true rfl)
  rw [lg_entry_eq]
  generalize (lg_sl ([.ref a0, .int p0]) ++ List.replicate (5 - (lg_sl ([.ref a0, .int p0])).length) Slot.unset).toArray = ls at hl ⊢
  have hl : lv_has ls 5 [(0, .ref a0), (1, .int p0)] := hl
  refine lv_aload_n hx hb dX0_isLeastOfRing_0 rfl (lv_at hl 0 rfl) ?_
  refine lv_iload_n hx hb dX0_isLeastOfRing_1 rfl (lv_at hl 1 rfl) ?_
  refine ro_calli (va_runV (As := [.int p0]) (rest := []) ⟨hx, hb, hml, hown, hts⟩ (a_X0_ringOf l G ct a0 a1 n0_1 f1 p0 hp_n0_1) (cwV 1 hts gX0_isLeastOfRing_X0_ringOf rfl rfl rfl (by decide +kernel) ⟨Nat.le_of_ble_eq_true rfl, Nat.le_of_ble_eq_true rfl⟩) (ro_preV 0 0 hK (hP.sub [0, 1] rfl) rfl rfl) rfl rfl hl.1 rfl (lv_room (Nat.le_of_ble_eq_true rfl)) dX0_isLeastOfRing_2 ⟨Nat.zero_le _, Nat.zero_le _⟩) hS hP (fun r2 H locs wr2 hP hS => ?_)
  obtain ⟨p_1, -⟩ := wr2
  refine lv_istore_n (lv' := [(2, .int r2), (0, .ref a0), (1, .int p0)]) hx hb dX0_isLeastOfRing_5 rfl hl (by decide) rfl (fun ls hl => ?_)
  refine lv_iload_n hx hb dX0_isLeastOfRing_6 rfl (lv_at hl 2 rfl) ?_
  refine lv_istore_n (lv' := [(3, .int p0), (2, .int r2), (0, .ref a0), (1, .int p0)]) hx hb dX0_isLeastOfRing_7 rfl hl (by decide) rfl (fun ls hl => ?_)
  refine lv_iconst (v := 1) hx hb dX0_isLeastOfRing_8 (by decide) ?_
  refine lv_istore (lv' := [(4, .int 1), (3, .int p0), (2, .int r2), (0, .ref a0), (1, .int p0)]) hx hb dX0_isLeastOfRing_9 hl (by decide) rfl (fun ls hl => ?_)
  have j11 : ∀ (n : Nat) (x11_3 : Int32) (x11_4 : Int32) (H : Heap) (locs : List Loc) (ls : Array Slot), 2147483648 ≤ x11_4.toInt + (n : Int) → rg 1 8 x11_4 → va_P G vwCl [(a0, .inr (0, [.ref a1, .int n0_1])), (a1, .inl (ct 0, 8, .inl f1))] H → va_S no s.heap H locs → lv_has ls 5 [(0, .ref a0), (1, .int p0), (2, .int r2), (3, .int x11_3), (4, .int x11_4)] → W p l e (headSpec wsX0_isLeastOfRing ({ frames := 4, cells := 0, slots := 0, locals := 87 })).room s m ([.ref a0, .int p0] : List Value).toArray below meth c H locs 0 0 (MQ below (roQ (fun r => rg 0 1 r ∧ True)) ([.ref a0, .int p0] : List Value).toArray s 0 0 no) (F0 m 11 ls []) := by
    intro n
    induction n with
    | zero => intro x11_3 x11_4 H locs ls hn11 hx11_4 hP hS hl; exact absurd hn11 (by have := Int32.toInt_lt x11_4; have := Int32.le_toInt x11_4; omega)
    | succ n ih11 =>
      intro x11_3 x11_4 H locs ls hn11 hx11_4 hP hS hl
      refine lv_iload hx hb dX0_isLeastOfRing_11 (lv_at hl 4 rfl) ?_
      refine lv_iload_n hx hb dX0_isLeastOfRing_13 rfl (lv_at hl 2 rfl) ?_
      refine lv_icmp_ge (tgt := 36) hx hb dX0_isLeastOfRing_14 (by decide) (fun c14 => ?_) (fun c14 => ?_)
      · refine lv_iload_n hx hb dX0_isLeastOfRing_36 rfl (lv_at hl 2 rfl) ?_
        refine lv_if_le (tgt := 44) hx hb dX0_isLeastOfRing_37 (by decide) (fun c37 => ?_) (fun c37 => ?_)
        · have h_2 : rg 0 0 r2 := r_le_l_i c37 p_1 (rgn 0 (x := 0) (by decide))
          refine lv_iconst (v := 0) hx hb dX0_isLeastOfRing_44 (by decide) ?_
          exact W.zret (v := 0) (ty := .boolean) hx hb hr (rfl) (fun t ht hW => ⟨⟨0, (), rfl, ⟨(rg_w (c := 0) (d := 1) (rgn 0 (x := 0) (by decide)) (by decide)), trivial⟩, trivial⟩, hS.F ht⟩) hS.2.2 dX0_isLeastOfRing_45
        · have h_3 : rg 1 8 r2 := r_lt_r_i (nle_i c37) (rgn 0 (x := 0) (by decide)) p_1 (by decide)
          refine lv_iconst (v := 1) hx hb dX0_isLeastOfRing_40 (by decide) ?_
          refine lv_goto (tgt := 45) hx hb dX0_isLeastOfRing_41 (by decide) ?_
          exact W.zret (v := 1) (ty := .boolean) hx hb hr (rfl) (fun t ht hW => ⟨⟨1, (), rfl, ⟨(rg_w (c := 0) (d := 1) (rgn 1 (x := 1) (by decide)) (by decide)), trivial⟩, trivial⟩, hS.F ht⟩) hS.2.2 dX0_isLeastOfRing_45
      · have h_4 : rg 1 7 x11_4 := r_lt_l_i (nle_i c14) hx11_4 p_1 (by decide)
        have h_5 : rg 2 8 r2 := r_lt_r_i (nle_i c14) hx11_4 p_1 (by decide)
        refine lv_aload_n hx hb dX0_isLeastOfRing_17 rfl (lv_at hl 0 rfl) ?_
        refine lv_iload_n hx hb dX0_isLeastOfRing_18 rfl (lv_at hl 3 rfl) ?_
        refine ro_calli (va_runV (As := [.int x11_3]) (rest := []) ⟨hx, hb, hml, hown, hts⟩ (a_X0_holderOf l G ct a0 a1 n0_1 f1 x11_3 hp_n0_1) (cwV 1 hts gX0_isLeastOfRing_X0_holderOf rfl rfl rfl (by decide +kernel) ⟨Nat.le_of_ble_eq_true rfl, Nat.le_of_ble_eq_true rfl⟩) (ro_preV 0 0 hK (hP.sub [0, 1] rfl) rfl rfl) rfl rfl hl.1 rfl (lv_room (Nat.le_of_ble_eq_true rfl)) dX0_isLeastOfRing_19 ⟨Nat.zero_le _, Nat.zero_le _⟩) hS hP (fun r19 H locs wr19 hP hS => ?_)
        obtain ⟨p_6, p_7, p_8, p_9, -⟩ := wr19
        refine lv_istore_n (lv' := [(3, .int r19), (0, .ref a0), (1, .int p0), (2, .int r2), (4, .int x11_4)]) hx hb dX0_isLeastOfRing_22 rfl hl (by decide) rfl (fun ls hl => ?_)
        refine lv_iload_n hx hb dX0_isLeastOfRing_23 rfl (lv_at hl 0 rfl) ?_
        refine lv_iload_n hx hb dX0_isLeastOfRing_24 rfl (lv_at hl 2 rfl) ?_
        refine lv_icmp_ge (tgt := 30) hx hb dX0_isLeastOfRing_25 (by decide) (fun c25 => ?_) (fun c25 => ?_)
        · obtain ⟨z30, qz30⟩ : ∃ y : Int32, y = x11_4 + Int32.ofInt 1 := ⟨_, rfl⟩
          obtain ⟨hz30, ez30⟩ := inc_z (e := 2) (f := 8) h_4 qz30 (by decide)
          refine lv_iinc (v := z30) (lv' := [(4, .int z30), (3, .int r19), (0, .ref a0), (1, .int p0), (2, .int r2)]) hx hb dX0_isLeastOfRing_30 hl (k := 4) rfl (qz30.symm) (by decide) rfl (fun ls hl => ?_)
          refine lv_goto (tgt := 11) hx hb dX0_isLeastOfRing_33 (by decide) ?_
          exact ih11 r19 z30 _ _ ls (by have q := hn11; have := ez30; omega) (rg_w (c := 1) (d := 8) hz30 (by decide)) hP hS (lv_sub hl [2, 3, 4, 1, 0] rfl)
        · have h_10 : rg (-2147483648) 2147483646 r19 := r_lt_l_i (nle_i c25) (rg_t r19) (rg_t p0) (by decide)
          have h_11 : rg (-2147483647) 2147483647 p0 := r_lt_r_i (nle_i c25) (rg_t r19) (rg_t p0) (by decide)
          refine lv_iconst (v := 0) hx hb dX0_isLeastOfRing_28 (by decide) ?_
          exact W.zret (v := 0) (ty := .boolean) hx hb hr (rfl) (fun t ht hW => ⟨⟨0, (), rfl, ⟨(rg_w (c := 0) (d := 1) (rgn 0 (x := 0) (by decide)) (by decide)), trivial⟩, trivial⟩, hS.F ht⟩) hS.2.2 dX0_isLeastOfRing_29
  exact j11 4294967296 p0 (1 : Int32) _ _ ls (ms_e (1 : Int32)) (rg_w (c := 1) (d := 8) (rgn 1 (x := 1) (by decide)) (by decide)) hP hS (lv_sub hl [3, 4, 2, 1, 0] rfl)

set_option maxHeartbeats 4000000 in
set_option maxRecDepth 100000 in
theorem a_X0_ringCount (l : Launch) (G : va_G) (ct : Nat → ClassId) (a0 : Nat) (a1 : Nat) (n0_1 : Int32) (f1 : Nat → Int32) (hp_n0_1 : rg 0 8 n0_1) : Met l yX0_ringCount wsX0_ringCount ({ frames := 5, cells := 0, slots := 0, locals := 111 }) (va_Pc [.ref a0] (roP G ct [(a0, .inr (0, [.ref a1, .int n0_1])), (a1, .inl (ct 0, 8, .inl f1))])) (roQ (fun r => True)) 0 0 no := by
  refine Met.ofW (cc := cX0_ringCount) (maxL := 3) (ret := (some .int)) (by decide) rfl ?_
  intro p e s m args below meth c s₁ B hml hv
  obtain ⟨rfl, hP, hK⟩ := hv
  have hx := B.exec
  have hb := B.bytes
  have hr := B.returns
  have hts := atoms_spec (ws := wsX0_ringCount) B.pre
  have hown : s.vm.findClass RX0 = some m.cls := findClass_of_methodNamed B.named
  have hlocks := B.notSynchronized
  have hS : va_S no s.heap s.heap [] := va_S.rf
  have hl := lv_entry ([.ref a0]) (n := 3) (Nat.le_of_ble_eq_true rfl)
  rw [lg_entry_eq]
  generalize (lg_sl ([.ref a0]) ++ List.replicate (3 - (lg_sl ([.ref a0])).length) Slot.unset).toArray = ls at hl ⊢
  have hl : lv_has ls 3 [(0, .ref a0)] := hl
  refine lv_iconst (v := 0) hx hb dX0_ringCount_0 (by decide) ?_
  refine lv_istore_n (lv' := [(1, .int 0), (0, .ref a0)]) hx hb dX0_ringCount_1 rfl hl (by decide) rfl (fun ls hl => ?_)
  refine lv_iconst (v := 0) hx hb dX0_ringCount_2 (by decide) ?_
  refine lv_istore_n (lv' := [(2, .int 0), (1, .int 0), (0, .ref a0)]) hx hb dX0_ringCount_3 rfl hl (by decide) rfl (fun ls hl => ?_)
  have j4 : ∀ (n : Nat) (x4_1 : Int32) (x4_2 : Int32) (H : Heap) (locs : List Loc) (ls : Array Slot), 2147483648 ≤ x4_2.toInt + (n : Int) → rg 0 8 x4_2 → va_P G vwCl [(a0, .inr (0, [.ref a1, .int n0_1])), (a1, .inl (ct 0, 8, .inl f1))] H → va_S no s.heap H locs → lv_has ls 3 [(0, .ref a0), (1, .int x4_1), (2, .int x4_2)] → W p l e (headSpec wsX0_ringCount ({ frames := 5, cells := 0, slots := 0, locals := 111 })).room s m ([.ref a0] : List Value).toArray below meth c H locs 0 0 (MQ below (roQ (fun r => True)) ([.ref a0] : List Value).toArray s 0 0 no) (F0 m 4 ls []) := by
    intro n
    induction n with
    | zero => intro x4_1 x4_2 H locs ls hn4 hx4_2 hP hS hl; exact absurd hn4 (by have := Int32.toInt_lt x4_2; have := Int32.le_toInt x4_2; omega)
    | succ n ih4 =>
      intro x4_1 x4_2 H locs ls hn4 hx4_2 hP hS hl
      refine lv_iload_n hx hb dX0_ringCount_4 rfl (lv_at hl 2 rfl) ?_
      refine lv_aload_n hx hb dX0_ringCount_5 rfl (lv_at hl 0 rfl) ?_
      refine va_get (D := G) (ci := 0) (v := .int n0_1) (C := RX0) (T := TX0) (N := 2) hx hb hts (by decide +kernel) hown hK.1 hP 0 rfl rfl 1 (by decide) (hts (.fieldLink RX0 15 "CardHolder$Bonds" "persons" "I") (by decide +kernel)) (fun _ h9 => h9) rfl dX0_ringCount_6 ?_
      refine lv_icmp_ge (tgt := 29) hx hb dX0_ringCount_9 (by decide) (fun c9 => ?_) (fun c9 => ?_)
      · refine lv_iload_n hx hb dX0_ringCount_29 rfl (lv_at hl 1 rfl) ?_
        exact W.iret (v := x4_1) hx hb hr (fun t ht hW => ⟨⟨x4_1, (), rfl, trivial, trivial⟩, hS.F ht⟩) hS.2.2 dX0_ringCount_30
      · have h_1 : rg 0 7 x4_2 := r_lt_l_i (nle_i c9) hx4_2 hp_n0_1 (by decide)
        have h_2 : rg 1 8 n0_1 := r_lt_r_i (nle_i c9) hx4_2 hp_n0_1 (by decide)
        refine lv_aload_n hx hb dX0_ringCount_12 rfl (lv_at hl 0 rfl) ?_
        refine lv_iload_n hx hb dX0_ringCount_13 rfl (lv_at hl 2 rfl) ?_
        refine ro_calli (va_runV (As := [.int x4_2]) (rest := []) ⟨hx, hb, hml, hown, hts⟩ (a_X0_isLeastOfRing l G ct a0 a1 n0_1 f1 x4_2 (rg_w (c := 0) (d := 8) h_2 (by decide))) (cwV 1 hts gX0_ringCount_X0_isLeastOfRing rfl rfl rfl (by decide +kernel) ⟨Nat.le_of_ble_eq_true rfl, Nat.le_of_ble_eq_true rfl⟩) (ro_preV 0 0 hK (hP.sub [0, 1] rfl) rfl rfl) rfl rfl hl.1 rfl (lv_room (Nat.le_of_ble_eq_true rfl)) dX0_ringCount_14 ⟨Nat.zero_le _, Nat.zero_le _⟩) hS hP (fun r14 H locs wr14 hP hS => ?_)
        obtain ⟨p_3, -⟩ := wr14
        have j23 : ∀ (x23_1 : Int32) (H : Heap) (locs : List Loc) (ls : Array Slot), va_P G vwCl [(a0, .inr (0, [.ref a1, .int n0_1])), (a1, .inl (ct 0, 8, .inl f1))] H → va_S no s.heap H locs → lv_has ls 3 [(0, .ref a0), (1, .int x23_1), (2, .int x4_2)] → W p l e (headSpec wsX0_ringCount ({ frames := 5, cells := 0, slots := 0, locals := 111 })).room s m ([.ref a0] : List Value).toArray below meth c H locs 0 0 (MQ below (roQ (fun r => True)) ([.ref a0] : List Value).toArray s 0 0 no) (F0 m 23 ls []) := by
          intro x23_1 H locs ls  hP hS hl
          obtain ⟨z23, qz23⟩ : ∃ y : Int32, y = x4_2 + Int32.ofInt 1 := ⟨_, rfl⟩
          obtain ⟨hz23, ez23⟩ := inc_z (e := 1) (f := 8) h_1 qz23 (by decide)
          refine lv_iinc (v := z23) (lv' := [(2, .int z23), (0, .ref a0), (1, .int x23_1)]) hx hb dX0_ringCount_23 hl (k := 2) rfl (qz23.symm) (by decide) rfl (fun ls hl => ?_)
          refine lv_goto (tgt := 4) hx hb dX0_ringCount_26 (by decide) ?_
          exact ih4 x23_1 z23 _ _ ls (by have q := hn4; have := ez23; omega) (rg_w (c := 0) (d := 8) hz23 (by decide)) hP hS (lv_sub hl [1, 2, 0] rfl)
        refine lv_if_eq (tgt := 23) hx hb dX0_ringCount_17 (by decide) (fun c17 => ?_) (fun c17 => ?_)
        · have h_4 : rg 0 0 r14 := r_eq_l_i (e := 0) (f := 0) c17 p_3 (rgn 0 (x := 0) (by decide)) (by decide)
          exact j23 x4_1 _ _ ls hP hS (lv_sub hl [0, 1, 2] rfl)
        · have h_5 : rg 1 1 r14 := r_ne_lo_i c17 p_3 (by decide) (by decide)
          obtain ⟨z20, qz20⟩ : ∃ y : Int32, y = x4_1 + Int32.ofInt 1 := ⟨_, rfl⟩
          refine lv_iinc (v := z20) (lv' := [(1, .int z20), (0, .ref a0), (2, .int x4_2)]) hx hb dX0_ringCount_20 hl (k := 1) rfl (qz20.symm) (by decide) rfl (fun ls hl => ?_)
          exact j23 z20 _ _ ls hP hS (lv_sub hl [1, 0, 2] rfl)
  exact j4 4294967296 (0 : Int32) (0 : Int32) _ _ ls (ms_e (0 : Int32)) (rg_w (c := 0) (d := 8) (rgn 0 (x := 0) (by decide)) (by decide)) hP hS (lv_sub hl [2, 1, 0] rfl)

set_option maxHeartbeats 4000000 in
set_option maxRecDepth 100000 in
theorem a_X0_nextOfRing (l : Launch) (G : va_G) (ct : Nat → ClassId) (a0 : Nat) (a1 : Nat) (n0_1 : Int32) (f1 : Nat → Int32) (p0 : Int32) (hp_n0_1 : rg 0 8 n0_1) : Met l yX0_nextOfRing wsX0_nextOfRing ({ frames := 3, cells := 0, slots := 0, locals := 66 }) (va_Pc [.ref a0, .int p0] (roP G ct [(a0, .inr (0, [.ref a1, .int n0_1])), (a1, .inl (ct 0, 8, .inl f1))])) (roQ (fun r => rg (-2147483648) 7 r ∧ True)) 0 0 no := by
  refine Met.ofW (cc := cX0_nextOfRing) (maxL := 3) (ret := (some .int)) (by decide) rfl ?_
  intro p e s m args below meth c s₁ B hml hv
  obtain ⟨rfl, hP, hK⟩ := hv
  have hx := B.exec
  have hb := B.bytes
  have hr := B.returns
  have hts := atoms_spec (ws := wsX0_nextOfRing) B.pre
  have hown : s.vm.findClass RX0 = some m.cls := findClass_of_methodNamed B.named
  have hlocks := B.notSynchronized
  have hS : va_S no s.heap s.heap [] := va_S.rf
  have hl := lv_entry ([.ref a0, .int p0]) (n := 3) (Nat.le_of_ble_eq_true rfl)
  rw [lg_entry_eq]
  generalize (lg_sl ([.ref a0, .int p0]) ++ List.replicate (3 - (lg_sl ([.ref a0, .int p0])).length) Slot.unset).toArray = ls at hl ⊢
  have hl : lv_has ls 3 [(0, .ref a0), (1, .int p0)] := hl
  refine lv_iload_n hx hb dX0_nextOfRing_0 rfl (lv_at hl 1 rfl) ?_
  refine lv_iconst (v := 1) hx hb dX0_nextOfRing_1 (by decide) ?_
  refine lv_iadd hx hb dX0_nextOfRing_2 ?_
  refine nm_0 (fun z2 => ?_)
  refine lv_istore_n (lv' := [(2, .int z2), (0, .ref a0), (1, .int p0)]) hx hb dX0_nextOfRing_3 rfl hl (by decide) rfl (fun ls hl => ?_)
  have j4 : ∀ (n : Nat) (x4_2 : Int32) (H : Heap) (locs : List Loc) (ls : Array Slot), 2147483648 ≤ x4_2.toInt + (n : Int) → va_P G vwCl [(a0, .inr (0, [.ref a1, .int n0_1])), (a1, .inl (ct 0, 8, .inl f1))] H → va_S no s.heap H locs → lv_has ls 3 [(0, .ref a0), (1, .int p0), (2, .int x4_2)] → W p l e (headSpec wsX0_nextOfRing ({ frames := 3, cells := 0, slots := 0, locals := 66 })).room s m ([.ref a0, .int p0] : List Value).toArray below meth c H locs 0 0 (MQ below (roQ (fun r => rg (-2147483648) 7 r ∧ True)) ([.ref a0, .int p0] : List Value).toArray s 0 0 no) (F0 m 4 ls []) := by
    intro n
    induction n with
    | zero => intro x4_2 H locs ls hn4  hP hS hl; exact absurd hn4 (by have := Int32.toInt_lt x4_2; have := Int32.le_toInt x4_2; omega)
    | succ n ih4 =>
      intro x4_2 H locs ls hn4  hP hS hl
      refine lv_iload_n hx hb dX0_nextOfRing_4 rfl (lv_at hl 2 rfl) ?_
      refine lv_aload_n hx hb dX0_nextOfRing_5 rfl (lv_at hl 0 rfl) ?_
      refine va_get (D := G) (ci := 0) (v := .int n0_1) (C := RX0) (T := TX0) (N := 2) hx hb hts (by decide +kernel) hown hK.1 hP 0 rfl rfl 1 (by decide) (hts (.fieldLink RX0 15 "CardHolder$Bonds" "persons" "I") (by decide +kernel)) (fun _ h9 => h9) rfl dX0_nextOfRing_6 ?_
      refine lv_icmp_ge (tgt := 40) hx hb dX0_nextOfRing_9 (by decide) (fun c9 => ?_) (fun c9 => ?_)
      · have h_1 : rg 0 2147483647 x4_2 := r_le_r_i c9 hp_n0_1 (rg_t x4_2)
        refine lv_iconst (v := (-1)) hx hb dX0_nextOfRing_40 (by decide) ?_
        exact W.iret (v := (-1)) hx hb hr (fun t ht hW => ⟨⟨(-1), (), rfl, ⟨(rg_w (c := (-2147483648)) (d := 7) (rgn (-1) (x := (-1)) (by decide)) (by decide)), trivial⟩, trivial⟩, hS.F ht⟩) hS.2.2 dX0_nextOfRing_41
      · have h_2 : rg (-2147483648) 7 x4_2 := r_lt_l_i (nle_i c9) (rg_t x4_2) hp_n0_1 (by decide)
        refine lv_aload_n hx hb dX0_nextOfRing_12 rfl (lv_at hl 0 rfl) ?_
        refine lv_iload_n hx hb dX0_nextOfRing_13 rfl (lv_at hl 1 rfl) ?_
        refine lv_iload_n hx hb dX0_nextOfRing_14 rfl (lv_at hl 2 rfl) ?_
        refine ro_calli (va_runV (As := [.int p0, .int x4_2]) (rest := []) ⟨hx, hb, hml, hown, hts⟩ (a_X0_stepsTo l G ct a0 a1 n0_1 f1 p0 x4_2 hp_n0_1) (cwV 2 hts gX0_nextOfRing_X0_stepsTo rfl rfl rfl (by decide +kernel) ⟨Nat.le_of_ble_eq_true rfl, Nat.le_of_ble_eq_true rfl⟩) (ro_preV 0 0 hK (hP.sub [0, 1] rfl) rfl rfl) rfl rfl hl.1 rfl (lv_room (Nat.le_of_ble_eq_true rfl)) dX0_nextOfRing_15 ⟨Nat.zero_le _, Nat.zero_le _⟩) hS hP (fun r15 H locs wr15 hP hS => ?_)
        obtain ⟨p_3, -⟩ := wr15
        refine lv_iconst (v := (-1)) hx hb dX0_nextOfRing_18 (by decide) ?_
        have j34 : ∀ (H : Heap) (locs : List Loc) (ls : Array Slot), va_P G vwCl [(a0, .inr (0, [.ref a1, .int n0_1])), (a1, .inl (ct 0, 8, .inl f1))] H → va_S no s.heap H locs → lv_has ls 3 [(0, .ref a0), (1, .int p0), (2, .int x4_2)] → W p l e (headSpec wsX0_nextOfRing ({ frames := 3, cells := 0, slots := 0, locals := 66 })).room s m ([.ref a0, .int p0] : List Value).toArray below meth c H locs 0 0 (MQ below (roQ (fun r => rg (-2147483648) 7 r ∧ True)) ([.ref a0, .int p0] : List Value).toArray s 0 0 no) (F0 m 34 ls []) := by
          intro  H locs ls  hP hS hl
          obtain ⟨z34, qz34⟩ : ∃ y : Int32, y = x4_2 + Int32.ofInt 1 := ⟨_, rfl⟩
          obtain ⟨hz34, ez34⟩ := inc_z (e := (-2147483647)) (f := 8) h_2 qz34 (by decide)
          refine lv_iinc (v := z34) (lv' := [(2, .int z34), (0, .ref a0), (1, .int p0)]) hx hb dX0_nextOfRing_34 hl (k := 2) rfl (qz34.symm) (by decide) rfl (fun ls hl => ?_)
          refine lv_goto (tgt := 4) hx hb dX0_nextOfRing_37 (by decide) ?_
          exact ih4 z34 _ _ ls (by have q := hn4; have := ez34; omega) hP hS (lv_sub hl [1, 2, 0] rfl)
        refine lv_icmp_eq (tgt := 34) hx hb dX0_nextOfRing_19 (by decide) (fun c19 => ?_) (fun c19 => ?_)
        · have h_4 : rg (-1) (-1) r15 := r_eq_l_i (e := (-1)) (f := (-1)) c19 p_3 (rgn (-1) (x := (-1)) (by decide)) (by decide)
          exact j34 _ _ ls hP hS (lv_sub hl [0, 1, 2] rfl)
        · have h_5 : rg 0 8 r15 := r_ne_lo_i c19 p_3 (by decide) (by decide)
          refine lv_aload_n hx hb dX0_nextOfRing_22 rfl (lv_at hl 0 rfl) ?_
          refine lv_iload_n hx hb dX0_nextOfRing_23 rfl (lv_at hl 2 rfl) ?_
          refine lv_iload_n hx hb dX0_nextOfRing_24 rfl (lv_at hl 1 rfl) ?_
          refine ro_calli (va_runV (As := [.int x4_2, .int p0]) (rest := []) ⟨hx, hb, hml, hown, hts⟩ (a_X0_stepsTo l G ct a0 a1 n0_1 f1 x4_2 p0 hp_n0_1) (cwV 2 hts gX0_nextOfRing_X0_stepsTo rfl rfl rfl (by decide +kernel) ⟨Nat.le_of_ble_eq_true rfl, Nat.le_of_ble_eq_true rfl⟩) (ro_preV 0 0 hK (hP.sub [0, 1] rfl) rfl rfl) rfl rfl hl.1 rfl (lv_room (Nat.le_of_ble_eq_true rfl)) dX0_nextOfRing_25 ⟨Nat.zero_le _, Nat.zero_le _⟩) hS hP (fun r25 H locs wr25 hP hS => ?_)
          obtain ⟨p_6, -⟩ := wr25
          refine lv_iconst (v := (-1)) hx hb dX0_nextOfRing_28 (by decide) ?_
          refine lv_icmp_eq (tgt := 34) hx hb dX0_nextOfRing_29 (by decide) (fun c29 => ?_) (fun c29 => ?_)
          · have h_7 : rg (-1) (-1) r25 := r_eq_l_i (e := (-1)) (f := (-1)) c29 p_6 (rgn (-1) (x := (-1)) (by decide)) (by decide)
            exact j34 _ _ ls hP hS (lv_sub hl [0, 1, 2] rfl)
          · have h_8 : rg 0 8 r25 := r_ne_lo_i c29 p_6 (by decide) (by decide)
            refine lv_iload_n hx hb dX0_nextOfRing_32 rfl (lv_at hl 2 rfl) ?_
            exact W.iret (v := x4_2) hx hb hr (fun t ht hW => ⟨⟨x4_2, (), rfl, ⟨h_2, trivial⟩, trivial⟩, hS.F ht⟩) hS.2.2 dX0_nextOfRing_33
  exact j4 4294967296 z2 _ _ ls (ms_e z2) hP hS (lv_sub hl [1, 2, 0] rfl)

set_option maxHeartbeats 4000000 in
set_option maxRecDepth 100000 in
theorem a_X0_isOneEach (l : Launch) (G : va_G) (ct : Nat → ClassId) (a0 : Nat) (a1 : Nat) (n0_1 : Int32) (f1 : Nat → Int32) (hp_n0_1 : rg 0 8 n0_1) : Met l yX0_isOneEach wsX0_isOneEach ({ frames := 3, cells := 0, slots := 0, locals := 65 }) (va_Pc [.ref a0] (roP G ct [(a0, .inr (0, [.ref a1, .int n0_1])), (a1, .inl (ct 0, 8, .inl f1))])) (roQ (fun r => rg 0 1 r ∧ (r = 0 → rg 1 8 n0_1) ∧ True)) 0 0 no := by
  refine Met.ofW (cc := cX0_isOneEach) (maxL := 2) (ret := (some .boolean)) (by decide) rfl ?_
  intro p e s m args below meth c s₁ B hml hv
  obtain ⟨rfl, hP, hK⟩ := hv
  have hx := B.exec
  have hb := B.bytes
  have hr := B.returns
  have hts := atoms_spec (ws := wsX0_isOneEach) B.pre
  have hown : s.vm.findClass RX0 = some m.cls := findClass_of_methodNamed B.named
  have hlocks := B.notSynchronized
  have hS : va_S no s.heap s.heap [] := va_S.rf
  have hl := lv_entry ([.ref a0]) (n := 2) (Nat.le_of_ble_eq_true rfl)
  rw [lg_entry_eq]
  generalize (lg_sl ([.ref a0]) ++ List.replicate (2 - (lg_sl ([.ref a0])).length) Slot.unset).toArray = ls at hl ⊢
  have hl : lv_has ls 2 [(0, .ref a0)] := hl
  refine lv_iconst (v := 0) hx hb dX0_isOneEach_0 (by decide) ?_
  refine lv_istore_n (lv' := [(1, .int 0), (0, .ref a0)]) hx hb dX0_isOneEach_1 rfl hl (by decide) rfl (fun ls hl => ?_)
  have j2 : ∀ (n : Nat) (x2_1 : Int32) (H : Heap) (locs : List Loc) (ls : Array Slot), 2147483648 ≤ x2_1.toInt + (n : Int) → rg 0 8 x2_1 → va_P G vwCl [(a0, .inr (0, [.ref a1, .int n0_1])), (a1, .inl (ct 0, 8, .inl f1))] H → va_S no s.heap H locs → lv_has ls 2 [(0, .ref a0), (1, .int x2_1)] → W p l e (headSpec wsX0_isOneEach ({ frames := 3, cells := 0, slots := 0, locals := 65 })).room s m ([.ref a0] : List Value).toArray below meth c H locs 0 0 (MQ below (roQ (fun r => rg 0 1 r ∧ (r = 0 → rg 1 8 n0_1) ∧ True)) ([.ref a0] : List Value).toArray s 0 0 no) (F0 m 2 ls []) := by
    intro n
    induction n with
    | zero => intro x2_1 H locs ls hn2 hx2_1 hP hS hl; exact absurd hn2 (by have := Int32.toInt_lt x2_1; have := Int32.le_toInt x2_1; omega)
    | succ n ih2 =>
      intro x2_1 H locs ls hn2 hx2_1 hP hS hl
      refine lv_iload_n hx hb dX0_isOneEach_2 rfl (lv_at hl 1 rfl) ?_
      refine lv_aload_n hx hb dX0_isOneEach_3 rfl (lv_at hl 0 rfl) ?_
      refine va_get (D := G) (ci := 0) (v := .int n0_1) (C := RX0) (T := TX0) (N := 2) hx hb hts (by decide +kernel) hown hK.1 hP 0 rfl rfl 1 (by decide) (hts (.fieldLink RX0 15 "CardHolder$Bonds" "persons" "I") (by decide +kernel)) (fun _ h9 => h9) rfl dX0_isOneEach_4 ?_
      refine lv_icmp_ge (tgt := 30) hx hb dX0_isOneEach_7 (by decide) (fun c7 => ?_) (fun c7 => ?_)
      · refine lv_iconst (v := 1) hx hb dX0_isOneEach_30 (by decide) ?_
        exact W.zret (v := 1) (ty := .boolean) hx hb hr (rfl) (fun t ht hW => ⟨⟨1, (), rfl, ⟨(rg_w (c := 0) (d := 1) (rgn 1 (x := 1) (by decide)) (by decide)), (fun hq => absurd hq (rne (rgn 1 (x := 1) (by decide)) (y := 0) (c := 0) (by decide) (by decide))), trivial⟩, trivial⟩, hS.F ht⟩) hS.2.2 dX0_isOneEach_31
      · have h_1 : rg 0 7 x2_1 := r_lt_l_i (nle_i c7) hx2_1 hp_n0_1 (by decide)
        have h_2 : rg 1 8 n0_1 := r_lt_r_i (nle_i c7) hx2_1 hp_n0_1 (by decide)
        refine lv_aload_n hx hb dX0_isOneEach_10 rfl (lv_at hl 0 rfl) ?_
        refine lv_iload_n hx hb dX0_isOneEach_11 rfl (lv_at hl 1 rfl) ?_
        refine ro_calli (va_runV (As := [.int x2_1]) (rest := []) ⟨hx, hb, hml, hown, hts⟩ (a_X0_handOf l G ct a0 a1 n0_1 f1 x2_1 (rg_w (c := 0) (d := 8) h_2 (by decide))) (cwV 1 hts gX0_isOneEach_X0_handOf rfl rfl rfl (by decide +kernel) ⟨Nat.le_of_ble_eq_true rfl, Nat.le_of_ble_eq_true rfl⟩) (ro_preV 0 0 hK (hP.sub [0, 1] rfl) rfl rfl) rfl rfl hl.1 rfl (lv_room (Nat.le_of_ble_eq_true rfl)) dX0_isOneEach_12 ⟨Nat.zero_le _, Nat.zero_le _⟩) hS hP (fun r12 H locs wr12 hP hS => ?_)
        obtain ⟨p_3, -⟩ := wr12
        refine ro_calli (va_runS (As := [.int r12]) (rest := []) ⟨hx, hb, hml, hown, hts⟩ (a_J6_bitCount_0f7a4 l G ct r12) (va_cwS 1 hts gX0_isOneEach_J6_bitCount_0f7a4 rfl rfl rfl (by decide +kernel) ⟨Nat.le_of_ble_eq_true rfl, Nat.le_of_ble_eq_true rfl⟩) (ro_pre hK (hP.sub [] rfl)) rfl rfl hl.1 rfl (lv_room (Nat.le_of_ble_eq_true rfl)) dX0_isOneEach_15 ⟨Nat.zero_le _, Nat.zero_le _⟩) hS hP (fun r15 H locs wr15 hP hS => ?_)
        obtain ⟨p_4, -⟩ := wr15
        refine lv_iconst (v := 1) hx hb dX0_isOneEach_18 (by decide) ?_
        refine lv_icmp_eq (tgt := 24) hx hb dX0_isOneEach_19 (by decide) (fun c19 => ?_) (fun c19 => ?_)
        · have h_5 : rg 1 1 r15 := r_eq_l_i (e := 1) (f := 1) c19 p_4 (rgn 1 (x := 1) (by decide)) (by decide)
          obtain ⟨z24, qz24⟩ : ∃ y : Int32, y = x2_1 + Int32.ofInt 1 := ⟨_, rfl⟩
          obtain ⟨hz24, ez24⟩ := inc_z (e := 1) (f := 8) h_1 qz24 (by decide)
          refine lv_iinc (v := z24) (lv' := [(1, .int z24), (0, .ref a0)]) hx hb dX0_isOneEach_24 hl (k := 1) rfl (qz24.symm) (by decide) rfl (fun ls hl => ?_)
          refine lv_goto (tgt := 2) hx hb dX0_isOneEach_27 (by decide) ?_
          exact ih2 z24 _ _ ls (by have q := hn2; have := ez24; omega) (rg_w (c := 0) (d := 8) hz24 (by decide)) hP hS (lv_sub hl [1, 0] rfl)
        · refine lv_iconst (v := 0) hx hb dX0_isOneEach_22 (by decide) ?_
          exact W.zret (v := 0) (ty := .boolean) hx hb hr (rfl) (fun t ht hW => ⟨⟨0, (), rfl, ⟨(rg_w (c := 0) (d := 1) (rgn 0 (x := 0) (by decide)) (by decide)), (fun _ => h_2), trivial⟩, trivial⟩, hS.F ht⟩) hS.2.2 dX0_isOneEach_23
  exact j2 4294967296 (0 : Int32) _ _ ls (ms_e (0 : Int32)) (rg_w (c := 0) (d := 8) (rgn 0 (x := 0) (by decide)) (by decide)) hP hS (lv_sub hl [1, 0] rfl)
