theorem dX11_of_0 : decode cX11_of 0 = .ok (.aload_n 0, 1) := by decide +kernel
theorem dX11_of_1 : decode cX11_of 1 = .ok (.getfield 37, 3) := by decide +kernel
theorem dX11_of_4 : decode cX11_of 4 = .ok (.iconst 5, 1) := by decide +kernel
theorem dX11_of_5 : decode cX11_of 5 = .ok (.iload_n 1, 1) := by decide +kernel
theorem dX11_of_6 : decode cX11_of 6 = .ok (.imul, 1) := by decide +kernel
theorem dX11_of_7 : decode cX11_of 7 = .ok (.iload_n 2, 1) := by decide +kernel
theorem dX11_of_8 : decode cX11_of 8 = .ok (.iadd, 1) := by decide +kernel
theorem dX11_of_9 : decode cX11_of 9 = .ok (.iaload, 1) := by decide +kernel
theorem dX11_of_10 : decode cX11_of 10 = .ok (.ireturn, 1) := by decide +kernel
theorem dX11_isPerson_0 : decode cX11_isPerson 0 = .ok (.lload_n 1, 1) := by decide +kernel
theorem dX11_isPerson_1 : decode cX11_isPerson 1 = .ok (.lconst 0, 1) := by decide +kernel
theorem dX11_isPerson_2 : decode cX11_isPerson 2 = .ok (.aload_n 0, 1) := by decide +kernel
theorem dX11_isPerson_3 : decode cX11_isPerson 3 = .ok (.getfield 34, 3) := by decide +kernel
theorem dX11_isPerson_6 : decode cX11_isPerson 6 = .ok (.iconst 1, 1) := by decide +kernel
theorem dX11_isPerson_7 : decode cX11_isPerson 7 = .ok (.iaload, 1) := by decide +kernel
theorem dX11_isPerson_8 : decode cX11_isPerson 8 = .ok (.i2l, 1) := by decide +kernel
theorem dX11_isPerson_9 : decode cX11_isPerson 9 = .ok (.lconst 1, 1) := by decide +kernel
theorem dX11_isPerson_10 : decode cX11_isPerson 10 = .ok (.lsub, 1) := by decide +kernel
set_option maxRecDepth 20000 in
theorem ggX11_isPerson_X11_in : GoodIn wsX11_isPerson wsX11_in := goodIn_r _ [5] (by rfl) (by decide +kernel)
set_option maxRecDepth 20000 in
theorem gX11_isPerson_X11_in : GoodIn wsX11_isPerson (va_wsS RX11 64 yX11_in wsX11_in) := goodIn_app (goodIn_r _ [2, 3, 4] (by rfl) (by decide +kernel)) ggX11_isPerson_X11_in
theorem dX11_isPerson_11 : decode cX11_isPerson 11 = .ok (.invokestatic 64, 3) := by decide +kernel
theorem dX11_isPerson_14 : decode cX11_isPerson 14 = .ok (.ireturn, 1) := by decide +kernel
theorem dX11_arePeople_0 : decode cX11_arePeople 0 = .ok (.aload_n 0, 1) := by decide +kernel
theorem dX11_arePeople_1 : decode cX11_arePeople 1 = .ok (.iload_n 1, 1) := by decide +kernel
theorem dX11_arePeople_2 : decode cX11_arePeople 2 = .ok (.i2l, 1) := by decide +kernel
set_option maxRecDepth 20000 in
theorem ggX11_arePeople_X11_isPerson : GoodIn wsX11_arePeople wsX11_isPerson := goodIn_r _ [5, 6, 7, 8, 4, 9, 10, 11, 12, 13, 14, 15, 16, 17, 18, 19, 20, 21, 22, 23, 24, 25, 26, 27, 28, 29, 30, 31, 32, 33, 34, 35, 36, 37, 38, 39, 40] (by rfl) (by decide +kernel)
set_option maxRecDepth 20000 in
theorem gX11_arePeople_X11_isPerson : GoodIn wsX11_arePeople (wsV RX11 206 RX11 yX11_isPerson wsX11_isPerson) := goodIn_app (goodIn_r _ [1, 2, 3, 4] (by rfl) (by decide +kernel)) ggX11_arePeople_X11_isPerson
theorem dX11_arePeople_3 : decode cX11_arePeople 3 = .ok (.invokevirtual 206, 3) := by decide +kernel
theorem dX11_arePeople_6 : decode cX11_arePeople 6 = .ok (.ifCond .eq 16, 3) := by decide +kernel
theorem dX11_arePeople_22 : decode cX11_arePeople 22 = .ok (.iconst 0, 1) := by decide +kernel
theorem dX11_arePeople_23 : decode cX11_arePeople 23 = .ok (.ireturn, 1) := by decide +kernel
theorem dX11_arePeople_9 : decode cX11_arePeople 9 = .ok (.aload_n 0, 1) := by decide +kernel
theorem dX11_arePeople_10 : decode cX11_arePeople 10 = .ok (.iload_n 2, 1) := by decide +kernel
theorem dX11_arePeople_11 : decode cX11_arePeople 11 = .ok (.i2l, 1) := by decide +kernel
theorem dX11_arePeople_12 : decode cX11_arePeople 12 = .ok (.invokevirtual 206, 3) := by decide +kernel
theorem dX11_arePeople_15 : decode cX11_arePeople 15 = .ok (.ifCond .eq 7, 3) := by decide +kernel
theorem dX11_arePeople_18 : decode cX11_arePeople 18 = .ok (.iconst 1, 1) := by decide +kernel
theorem dX11_arePeople_19 : decode cX11_arePeople 19 = .ok (.goto 4, 3) := by decide +kernel
theorem dX11_isSet_0 : decode cX11_isSet 0 = .ok (.aload_n 0, 1) := by decide +kernel
set_option maxRecDepth 20000 in
theorem ggX11_isSet_X11_isCity : GoodIn wsX11_isSet wsX11_isCity := goodIn_r _ [6, 7, 11, 12, 13, 14, 15, 16, 17, 18, 19, 20, 21, 22, 23, 24, 25, 26, 27, 28, 29, 30, 31, 32, 33, 34, 35, 36, 37, 38, 39, 40, 41] (by rfl) (by decide +kernel)
set_option maxRecDepth 20000 in
theorem gX11_isSet_X11_isCity : GoodIn wsX11_isSet (wsV RX11 209 RX11 yX11_isCity wsX11_isCity) := goodIn_app (goodIn_r _ [2, 3, 4, 5] (by rfl) (by decide +kernel)) ggX11_isSet_X11_isCity
theorem dX11_isSet_1 : decode cX11_isSet 1 = .ok (.invokevirtual 209, 3) := by decide +kernel
theorem dX11_isSet_4 : decode cX11_isSet 4 = .ok (.ifCond .eq 27, 3) := by decide +kernel
theorem dX11_isSet_31 : decode cX11_isSet 31 = .ok (.iconst 0, 1) := by decide +kernel
theorem dX11_isSet_32 : decode cX11_isSet 32 = .ok (.ireturn, 1) := by decide +kernel
theorem dX11_isSet_7 : decode cX11_isSet 7 = .ok (.iload_n 1, 1) := by decide +kernel
theorem dX11_isSet_8 : decode cX11_isSet 8 = .ok (.i2l, 1) := by decide +kernel
theorem dX11_isSet_9 : decode cX11_isSet 9 = .ok (.lconst 0, 1) := by decide +kernel
theorem dX11_isSet_10 : decode cX11_isSet 10 = .ok (.iconst 1, 1) := by decide +kernel
theorem dX11_isSet_11 : decode cX11_isSet 11 = .ok (.aload_n 0, 1) := by decide +kernel
theorem dX11_isSet_12 : decode cX11_isSet 12 = .ok (.getfield 34, 3) := by decide +kernel
theorem dX11_isSet_15 : decode cX11_isSet 15 = .ok (.iconst 1, 1) := by decide +kernel
theorem dX11_isSet_16 : decode cX11_isSet 16 = .ok (.iaload, 1) := by decide +kernel
theorem dX11_isSet_17 : decode cX11_isSet 17 = .ok (.ishl, 1) := by decide +kernel
theorem dX11_isSet_18 : decode cX11_isSet 18 = .ok (.iconst 1, 1) := by decide +kernel
theorem dX11_isSet_19 : decode cX11_isSet 19 = .ok (.isub, 1) := by decide +kernel
theorem dX11_isSet_20 : decode cX11_isSet 20 = .ok (.i2l, 1) := by decide +kernel
set_option maxRecDepth 20000 in
theorem ggX11_isSet_X11_in : GoodIn wsX11_isSet wsX11_in := goodIn_r _ [10] (by rfl) (by decide +kernel)
set_option maxRecDepth 20000 in
theorem gX11_isSet_X11_in : GoodIn wsX11_isSet (va_wsS RX11 64 yX11_in wsX11_in) := goodIn_app (goodIn_r _ [8, 9, 5] (by rfl) (by decide +kernel)) ggX11_isSet_X11_in
theorem dX11_isSet_21 : decode cX11_isSet 21 = .ok (.invokestatic 64, 3) := by decide +kernel
theorem dX11_isSet_24 : decode cX11_isSet 24 = .ok (.ifCond .eq 7, 3) := by decide +kernel
theorem dX11_isSet_27 : decode cX11_isSet 27 = .ok (.iconst 1, 1) := by decide +kernel
theorem dX11_isSet_28 : decode cX11_isSet 28 = .ok (.goto 4, 3) := by decide +kernel
theorem dX11_isChain_0 : decode cX11_isChain 0 = .ok (.aload_n 0, 1) := by decide +kernel
theorem dX11_isChain_1 : decode cX11_isChain 1 = .ok (.iload_n 1, 1) := by decide +kernel
theorem dX11_isChain_2 : decode cX11_isChain 2 = .ok (.i2l, 1) := by decide +kernel
set_option maxRecDepth 20000 in
theorem ggX11_isChain_X11_isPerson : GoodIn wsX11_isChain wsX11_isPerson := goodIn_r _ [5, 6, 7, 8, 4, 9, 14, 15, 16, 17, 18, 19, 20, 21, 22, 23, 24, 25, 26, 27, 28, 29, 30, 31, 32, 33, 34, 35, 36, 37, 38, 39, 40, 41, 42, 43, 44] (by rfl) (by decide +kernel)
set_option maxRecDepth 20000 in
theorem gX11_isChain_X11_isPerson : GoodIn wsX11_isChain (wsV RX11 206 RX11 yX11_isPerson wsX11_isPerson) := goodIn_app (goodIn_r _ [1, 2, 3, 4] (by rfl) (by decide +kernel)) ggX11_isChain_X11_isPerson
theorem dX11_isChain_3 : decode cX11_isChain 3 = .ok (.invokevirtual 206, 3) := by decide +kernel
theorem dX11_isChain_6 : decode cX11_isChain 6 = .ok (.ifCond .eq 15, 3) := by decide +kernel
theorem dX11_isChain_21 : decode cX11_isChain 21 = .ok (.iconst 0, 1) := by decide +kernel
theorem dX11_isChain_22 : decode cX11_isChain 22 = .ok (.ireturn, 1) := by decide +kernel
theorem dX11_isChain_9 : decode cX11_isChain 9 = .ok (.iload_n 2, 1) := by decide +kernel
theorem dX11_isChain_10 : decode cX11_isChain 10 = .ok (.i2l, 1) := by decide +kernel
set_option maxRecDepth 20000 in
theorem ggX11_isChain_X11_isDeed : GoodIn wsX11_isChain wsX11_isDeed := goodIn_r _ [12, 13, 7, 8, 4, 9] (by rfl) (by decide +kernel)
set_option maxRecDepth 20000 in
theorem gX11_isChain_X11_isDeed : GoodIn wsX11_isChain (va_wsS RX11 278 yX11_isDeed wsX11_isDeed) := goodIn_app (goodIn_r _ [10, 11, 4] (by rfl) (by decide +kernel)) ggX11_isChain_X11_isDeed
theorem dX11_isChain_11 : decode cX11_isChain 11 = .ok (.invokestatic 278, 3) := by decide +kernel
theorem dX11_isChain_14 : decode cX11_isChain 14 = .ok (.ifCond .eq 7, 3) := by decide +kernel
theorem dX11_isChain_17 : decode cX11_isChain 17 = .ok (.iconst 1, 1) := by decide +kernel
theorem dX11_isChain_18 : decode cX11_isChain 18 = .ok (.goto 4, 3) := by decide +kernel
theorem dX11_areDeeds_0 : decode cX11_areDeeds 0 = .ok (.aload_n 0, 1) := by decide +kernel
set_option maxRecDepth 20000 in
theorem ggX11_areDeeds_X11_isCity : GoodIn wsX11_areDeeds wsX11_isCity := goodIn_r _ [6, 7, 11, 12, 13, 14, 15, 16, 17, 18, 19, 20, 21, 22, 23, 24, 25, 26, 27, 28, 29, 30, 31, 32, 33, 34, 35, 36, 37, 38, 39, 40, 41] (by rfl) (by decide +kernel)
set_option maxRecDepth 20000 in
theorem gX11_areDeeds_X11_isCity : GoodIn wsX11_areDeeds (wsV RX11 209 RX11 yX11_isCity wsX11_isCity) := goodIn_app (goodIn_r _ [2, 3, 4, 5] (by rfl) (by decide +kernel)) ggX11_areDeeds_X11_isCity
theorem dX11_areDeeds_1 : decode cX11_areDeeds 1 = .ok (.invokevirtual 209, 3) := by decide +kernel
theorem dX11_areDeeds_4 : decode cX11_areDeeds 4 = .ok (.ifCond .eq 19, 3) := by decide +kernel
theorem dX11_areDeeds_23 : decode cX11_areDeeds 23 = .ok (.iconst 0, 1) := by decide +kernel
theorem dX11_areDeeds_24 : decode cX11_areDeeds 24 = .ok (.ireturn, 1) := by decide +kernel
theorem dX11_areDeeds_7 : decode cX11_areDeeds 7 = .ok (.iload_n 1, 1) := by decide +kernel
theorem dX11_areDeeds_8 : decode cX11_areDeeds 8 = .ok (.i2l, 1) := by decide +kernel
theorem dX11_areDeeds_9 : decode cX11_areDeeds 9 = .ok (.lconst 0, 1) := by decide +kernel
theorem dX11_areDeeds_10 : decode cX11_areDeeds 10 = .ok (.ldc2_w 309, 3) := by decide +kernel
set_option maxRecDepth 20000 in
theorem ggX11_areDeeds_X11_in : GoodIn wsX11_areDeeds wsX11_in := goodIn_r _ [10] (by rfl) (by decide +kernel)
set_option maxRecDepth 20000 in
theorem gX11_areDeeds_X11_in : GoodIn wsX11_areDeeds (va_wsS RX11 64 yX11_in wsX11_in) := goodIn_app (goodIn_r _ [8, 9, 5] (by rfl) (by decide +kernel)) ggX11_areDeeds_X11_in
theorem dX11_areDeeds_13 : decode cX11_areDeeds 13 = .ok (.invokestatic 64, 3) := by decide +kernel
theorem dX11_areDeeds_16 : decode cX11_areDeeds 16 = .ok (.ifCond .eq 7, 3) := by decide +kernel
theorem dX11_areDeeds_19 : decode cX11_areDeeds 19 = .ok (.iconst 1, 1) := by decide +kernel
theorem dX11_areDeeds_20 : decode cX11_areDeeds 20 = .ok (.goto 4, 3) := by decide +kernel
theorem dX11_readable_0 : decode cX11_readable 0 = .ok (.aload_n 0, 1) := by decide +kernel
theorem dX11_readable_1 : decode cX11_readable 1 = .ok (.iload_n 1, 1) := by decide +kernel
theorem dX11_readable_2 : decode cX11_readable 2 = .ok (.iconst 4, 1) := by decide +kernel
set_option maxRecDepth 20000 in
theorem ggX11_readable_X11_of : GoodIn wsX11_readable wsX11_of := goodIn_r _ [6, 7, 8, 9, 10, 11, 12, 13, 14, 15, 16, 17, 18, 19, 20, 21, 22, 23, 24, 25, 26, 27, 28, 29, 30, 31, 32, 33, 34, 35, 36, 37, 38] (by rfl) (by decide +kernel)
set_option maxRecDepth 20000 in
theorem gX11_readable_X11_of : GoodIn wsX11_readable (wsV RX11 214 RX11 yX11_of wsX11_of) := goodIn_app (goodIn_r _ [2, 3, 4, 5] (by rfl) (by decide +kernel)) ggX11_readable_X11_of
theorem dX11_readable_3 : decode cX11_readable 3 = .ok (.invokevirtual 214, 3) := by decide +kernel
theorem dX11_readable_6 : decode cX11_readable 6 = .ok (.iconst 1, 1) := by decide +kernel
theorem dX11_readable_7 : decode cX11_readable 7 = .ok (.if_icmp .ne 7, 3) := by decide +kernel
theorem dX11_readable_14 : decode cX11_readable 14 = .ok (.aload_n 0, 1) := by decide +kernel
theorem dX11_readable_15 : decode cX11_readable 15 = .ok (.getfield 34, 3) := by decide +kernel
theorem dX11_readable_18 : decode cX11_readable 18 = .ok (.iconst 0, 1) := by decide +kernel
theorem dX11_readable_19 : decode cX11_readable 19 = .ok (.iaload, 1) := by decide +kernel
theorem dX11_readable_20 : decode cX11_readable 20 = .ok (.ireturn, 1) := by decide +kernel
theorem dX11_readable_10 : decode cX11_readable 10 = .ok (.iconst 1, 1) := by decide +kernel
theorem dX11_readable_11 : decode cX11_readable 11 = .ok (.goto 9, 3) := by decide +kernel
theorem dX11_isAsked_0 : decode cX11_isAsked 0 = .ok (.aload_n 0, 1) := by decide +kernel
theorem dX11_isAsked_1 : decode cX11_isAsked 1 = .ok (.dup, 1) := by decide +kernel
theorem dX11_isAsked_2 : decode cX11_isAsked 2 = .ok (.getfield 217, 3) := by decide +kernel
theorem dX11_isAsked_5 : decode cX11_isAsked 5 = .ok (.iconst 1, 1) := by decide +kernel
theorem dX11_isAsked_6 : decode cX11_isAsked 6 = .ok (.iload_n 1, 1) := by decide +kernel
theorem dX11_isAsked_7 : decode cX11_isAsked 7 = .ok (.ishl, 1) := by decide +kernel
theorem dX11_isAsked_8 : decode cX11_isAsked 8 = .ok (.ior, 1) := by decide +kernel
theorem dX11_isAsked_9 : decode cX11_isAsked 9 = .ok (.putfield 217, 3) := by decide +kernel
theorem dX11_isAsked_12 : decode cX11_isAsked 12 = .ok (.aload_n 0, 1) := by decide +kernel
theorem dX11_isAsked_13 : decode cX11_isAsked 13 = .ok (.getfield 50, 3) := by decide +kernel
theorem dX11_isAsked_16 : decode cX11_isAsked 16 = .ok (.iload_n 1, 1) := by decide +kernel
theorem dX11_isAsked_17 : decode cX11_isAsked 17 = .ok (.dup2, 1) := by decide +kernel
theorem dX11_isAsked_18 : decode cX11_isAsked 18 = .ok (.iaload, 1) := by decide +kernel
theorem dX11_isAsked_19 : decode cX11_isAsked 19 = .ok (.iconst 1, 1) := by decide +kernel
theorem dX11_isAsked_20 : decode cX11_isAsked 20 = .ok (.iadd, 1) := by decide +kernel
theorem dX11_isAsked_21 : decode cX11_isAsked 21 = .ok (.iastore, 1) := by decide +kernel
theorem dX11_isAsked_22 : decode cX11_isAsked 22 = .ok (.aload_n 0, 1) := by decide +kernel
theorem dX11_isAsked_23 : decode cX11_isAsked 23 = .ok (.getfield 50, 3) := by decide +kernel
theorem dX11_isAsked_26 : decode cX11_isAsked 26 = .ok (.iload_n 1, 1) := by decide +kernel
theorem dX11_isAsked_27 : decode cX11_isAsked 27 = .ok (.iaload, 1) := by decide +kernel
theorem dX11_isAsked_28 : decode cX11_isAsked 28 = .ok (.aload_n 0, 1) := by decide +kernel
theorem dX11_isAsked_29 : decode cX11_isAsked 29 = .ok (.iload_n 1, 1) := by decide +kernel
set_option maxRecDepth 20000 in
theorem ggX11_isAsked_X11_readable : GoodIn wsX11_isAsked wsX11_readable := goodIn_r _ [8, 9, 10, 11, 12, 7, 13, 14, 15, 16, 17, 18, 19, 20, 21, 22, 23, 24, 25, 26, 27, 28, 29, 30, 31, 32, 33, 34, 35, 36, 37, 38, 39, 40, 41, 42, 43, 44, 45] (by rfl) (by decide +kernel)
set_option maxRecDepth 20000 in
theorem gX11_isAsked_X11_readable : GoodIn wsX11_isAsked (wsV RX11 236 RX11 yX11_readable wsX11_readable) := goodIn_app (goodIn_r _ [4, 5, 6, 7] (by rfl) (by decide +kernel)) ggX11_isAsked_X11_readable
theorem dX11_isAsked_30 : decode cX11_isAsked 30 = .ok (.invokevirtual 236, 3) := by decide +kernel
theorem dX11_isAsked_33 : decode cX11_isAsked 33 = .ok (.if_icmp .lt 10, 3) := by decide +kernel
theorem dX11_isAsked_43 : decode cX11_isAsked 43 = .ok (.return_, 1) := by decide +kernel
theorem dX11_isAsked_36 : decode cX11_isAsked 36 = .ok (.aload_n 0, 1) := by decide +kernel
theorem dX11_isAsked_37 : decode cX11_isAsked 37 = .ok (.getfield 47, 3) := by decide +kernel
theorem dX11_isAsked_40 : decode cX11_isAsked 40 = .ok (.iload_n 1, 1) := by decide +kernel
theorem dX11_isAsked_41 : decode cX11_isAsked 41 = .ok (.iconst (-1), 1) := by decide +kernel
theorem dX11_isAsked_42 : decode cX11_isAsked 42 = .ok (.iastore, 1) := by decide +kernel
theorem dX11_dayEnds_0 : decode cX11_dayEnds 0 = .ok (.iconst 0, 1) := by decide +kernel
theorem dX11_dayEnds_1 : decode cX11_dayEnds 1 = .ok (.istore_n 1, 1) := by decide +kernel
theorem dX11_dayEnds_2 : decode cX11_dayEnds 2 = .ok (.iload_n 1, 1) := by decide +kernel
theorem dX11_dayEnds_3 : decode cX11_dayEnds 3 = .ok (.aload_n 0, 1) := by decide +kernel
theorem dX11_dayEnds_4 : decode cX11_dayEnds 4 = .ok (.getfield 34, 3) := by decide +kernel
theorem dX11_dayEnds_7 : decode cX11_dayEnds 7 = .ok (.iconst 1, 1) := by decide +kernel
theorem dX11_dayEnds_8 : decode cX11_dayEnds 8 = .ok (.iaload, 1) := by decide +kernel
theorem dX11_dayEnds_9 : decode cX11_dayEnds 9 = .ok (.if_icmp .ge 42, 3) := by decide +kernel
theorem dX11_dayEnds_51 : decode cX11_dayEnds 51 = .ok (.aload_n 0, 1) := by decide +kernel
theorem dX11_dayEnds_52 : decode cX11_dayEnds 52 = .ok (.iconst 0, 1) := by decide +kernel
theorem dX11_dayEnds_53 : decode cX11_dayEnds 53 = .ok (.putfield 220, 3) := by decide +kernel
theorem dX11_dayEnds_56 : decode cX11_dayEnds 56 = .ok (.aload_n 0, 1) := by decide +kernel
theorem dX11_dayEnds_57 : decode cX11_dayEnds 57 = .ok (.iconst 0, 1) := by decide +kernel
theorem dX11_dayEnds_58 : decode cX11_dayEnds 58 = .ok (.putfield 217, 3) := by decide +kernel
theorem dX11_dayEnds_61 : decode cX11_dayEnds 61 = .ok (.aload_n 0, 1) := by decide +kernel
theorem dX11_dayEnds_62 : decode cX11_dayEnds 62 = .ok (.dup, 1) := by decide +kernel
theorem dX11_dayEnds_63 : decode cX11_dayEnds 63 = .ok (.getfield 223, 3) := by decide +kernel
theorem dX11_dayEnds_66 : decode cX11_dayEnds 66 = .ok (.iconst 1, 1) := by decide +kernel
theorem dX11_dayEnds_67 : decode cX11_dayEnds 67 = .ok (.iadd, 1) := by decide +kernel
theorem dX11_dayEnds_68 : decode cX11_dayEnds 68 = .ok (.putfield 223, 3) := by decide +kernel
theorem dX11_dayEnds_71 : decode cX11_dayEnds 71 = .ok (.return_, 1) := by decide +kernel
theorem dX11_dayEnds_12 : decode cX11_dayEnds 12 = .ok (.aload_n 0, 1) := by decide +kernel
theorem dX11_dayEnds_13 : decode cX11_dayEnds 13 = .ok (.getfield 220, 3) := by decide +kernel
theorem dX11_dayEnds_16 : decode cX11_dayEnds 16 = .ok (.iload_n 1, 1) := by decide +kernel
set_option maxRecDepth 20000 in
theorem ggX11_dayEnds_X11_isBit : GoodIn wsX11_dayEnds wsX11_isBit := goodIn_r _ [10] (by rfl) (by decide +kernel)
set_option maxRecDepth 20000 in
theorem gX11_dayEnds_X11_isBit : GoodIn wsX11_dayEnds (va_wsS RX11 239 yX11_isBit wsX11_isBit) := goodIn_app (goodIn_r _ [7, 8, 9] (by rfl) (by decide +kernel)) ggX11_dayEnds_X11_isBit
theorem dX11_dayEnds_17 : decode cX11_dayEnds 17 = .ok (.invokestatic 239, 3) := by decide +kernel
theorem dX11_dayEnds_45 : decode cX11_dayEnds 45 = .ok (.iinc 1 1, 3) := by decide +kernel
theorem dX11_dayEnds_48 : decode cX11_dayEnds 48 = .ok (.goto (-46), 3) := by decide +kernel
theorem dX11_dayEnds_20 : decode cX11_dayEnds 20 = .ok (.ifCond .eq 25, 3) := by decide +kernel
theorem dX11_dayEnds_23 : decode cX11_dayEnds 23 = .ok (.aload_n 0, 1) := by decide +kernel
theorem dX11_dayEnds_24 : decode cX11_dayEnds 24 = .ok (.getfield 47, 3) := by decide +kernel
theorem dX11_dayEnds_27 : decode cX11_dayEnds 27 = .ok (.iload_n 1, 1) := by decide +kernel
theorem dX11_dayEnds_28 : decode cX11_dayEnds 28 = .ok (.iaload, 1) := by decide +kernel
theorem dX11_dayEnds_29 : decode cX11_dayEnds 29 = .ok (.iconst (-1), 1) := by decide +kernel
theorem dX11_dayEnds_30 : decode cX11_dayEnds 30 = .ok (.if_icmp .eq 15, 3) := by decide +kernel
theorem dX11_dayEnds_33 : decode cX11_dayEnds 33 = .ok (.aload_n 0, 1) := by decide +kernel
theorem dX11_dayEnds_34 : decode cX11_dayEnds 34 = .ok (.getfield 47, 3) := by decide +kernel
theorem dX11_dayEnds_37 : decode cX11_dayEnds 37 = .ok (.iload_n 1, 1) := by decide +kernel
theorem dX11_dayEnds_38 : decode cX11_dayEnds 38 = .ok (.aload_n 0, 1) := by decide +kernel
theorem dX11_dayEnds_39 : decode cX11_dayEnds 39 = .ok (.getfield 53, 3) := by decide +kernel
theorem dX11_dayEnds_42 : decode cX11_dayEnds 42 = .ok (.iload_n 1, 1) := by decide +kernel
theorem dX11_dayEnds_43 : decode cX11_dayEnds 43 = .ok (.iaload, 1) := by decide +kernel
theorem dX11_dayEnds_44 : decode cX11_dayEnds 44 = .ok (.iastore, 1) := by decide +kernel
theorem dX11_start_0 : decode cX11_start 0 = .ok (.iconst 0, 1) := by decide +kernel
theorem dX11_start_1 : decode cX11_start 1 = .ok (.istore_n 1, 1) := by decide +kernel
theorem dX11_start_2 : decode cX11_start 2 = .ok (.iload_n 1, 1) := by decide +kernel
theorem dX11_start_3 : decode cX11_start 3 = .ok (.aload_n 0, 1) := by decide +kernel
theorem dX11_start_4 : decode cX11_start 4 = .ok (.getfield 34, 3) := by decide +kernel
theorem dX11_start_7 : decode cX11_start 7 = .ok (.iconst 1, 1) := by decide +kernel
theorem dX11_start_8 : decode cX11_start 8 = .ok (.iaload, 1) := by decide +kernel
theorem dX11_start_9 : decode cX11_start 9 = .ok (.if_icmp .ge 35, 3) := by decide +kernel
theorem dX11_start_44 : decode cX11_start 44 = .ok (.aload_n 0, 1) := by decide +kernel
theorem dX11_start_45 : decode cX11_start 45 = .ok (.iconst 0, 1) := by decide +kernel
theorem dX11_start_46 : decode cX11_start 46 = .ok (.putfield 217, 3) := by decide +kernel
theorem dX11_start_49 : decode cX11_start 49 = .ok (.aload_n 0, 1) := by decide +kernel
theorem dX11_start_50 : decode cX11_start 50 = .ok (.iconst 0, 1) := by decide +kernel
theorem dX11_start_51 : decode cX11_start 51 = .ok (.putfield 220, 3) := by decide +kernel
theorem dX11_start_54 : decode cX11_start 54 = .ok (.aload_n 0, 1) := by decide +kernel
theorem dX11_start_55 : decode cX11_start 55 = .ok (.iconst 0, 1) := by decide +kernel
theorem dX11_start_56 : decode cX11_start 56 = .ok (.putfield 223, 3) := by decide +kernel
theorem dX11_start_59 : decode cX11_start 59 = .ok (.aload_n 0, 1) := by decide +kernel
theorem dX11_start_60 : decode cX11_start 60 = .ok (.iconst 0, 1) := by decide +kernel
theorem dX11_start_61 : decode cX11_start 61 = .ok (.putfield 226, 3) := by decide +kernel
theorem dX11_start_64 : decode cX11_start 64 = .ok (.return_, 1) := by decide +kernel
theorem dX11_start_12 : decode cX11_start 12 = .ok (.aload_n 0, 1) := by decide +kernel
theorem dX11_start_13 : decode cX11_start 13 = .ok (.getfield 47, 3) := by decide +kernel
theorem dX11_start_16 : decode cX11_start 16 = .ok (.iload_n 1, 1) := by decide +kernel
theorem dX11_start_17 : decode cX11_start 17 = .ok (.aload_n 0, 1) := by decide +kernel
theorem dX11_start_18 : decode cX11_start 18 = .ok (.iload_n 1, 1) := by decide +kernel
theorem dX11_start_19 : decode cX11_start 19 = .ok (.iconst 3, 1) := by decide +kernel
set_option maxRecDepth 20000 in
theorem ggX11_start_X11_of : GoodIn wsX11_start wsX11_of := goodIn_r _ [13, 14, 15, 16, 17, 18, 19, 20, 21, 22, 23, 24, 25, 26, 27, 28, 29, 30, 31, 32, 33, 34, 35, 36, 37, 38, 39, 40, 41, 42, 43, 44, 45] (by rfl) (by decide +kernel)
set_option maxRecDepth 20000 in
theorem gX11_start_X11_of : GoodIn wsX11_start (wsV RX11 214 RX11 yX11_of wsX11_of) := goodIn_app (goodIn_r _ [9, 10, 11, 12] (by rfl) (by decide +kernel)) ggX11_start_X11_of
theorem dX11_start_20 : decode cX11_start 20 = .ok (.invokevirtual 214, 3) := by decide +kernel
theorem dX11_start_23 : decode cX11_start 23 = .ok (.iastore, 1) := by decide +kernel
theorem dX11_start_24 : decode cX11_start 24 = .ok (.aload_n 0, 1) := by decide +kernel
theorem dX11_start_25 : decode cX11_start 25 = .ok (.getfield 50, 3) := by decide +kernel
theorem dX11_start_28 : decode cX11_start 28 = .ok (.iload_n 1, 1) := by decide +kernel
theorem dX11_start_29 : decode cX11_start 29 = .ok (.iconst 0, 1) := by decide +kernel
theorem dX11_start_30 : decode cX11_start 30 = .ok (.iastore, 1) := by decide +kernel
theorem dX11_start_31 : decode cX11_start 31 = .ok (.aload_n 0, 1) := by decide +kernel
theorem dX11_start_32 : decode cX11_start 32 = .ok (.getfield 53, 3) := by decide +kernel
theorem dX11_start_35 : decode cX11_start 35 = .ok (.iload_n 1, 1) := by decide +kernel
theorem dX11_start_36 : decode cX11_start 36 = .ok (.iconst (-1), 1) := by decide +kernel
theorem dX11_start_37 : decode cX11_start 37 = .ok (.iastore, 1) := by decide +kernel
theorem dX11_start_38 : decode cX11_start 38 = .ok (.iinc 1 1, 3) := by decide +kernel
theorem dX11_start_41 : decode cX11_start 41 = .ok (.goto (-39), 3) := by decide +kernel
set_option maxHeartbeats 4000000 in
set_option maxRecDepth 100000 in
theorem a_X11_tells1 (l : Launch) (G : va_G) (ct : Nat → ClassId) (a0 : Nat) (n0_0 : Int32) (a1 : Nat) (a2 : Nat) (a3 : Nat) (a4 : Nat) (a5 : Nat) (n0_6 : Int32) (n0_7 : Int32) (n0_8 : Int32) (n0_9 : Int32) (n0_10 : Int32) (l0_11 : Int64) (n0_12 : Int32) (n0_13 : Int32) (n0_14 : Int32) (n0_15 : Int32) (a6 : Nat) (a7 : Nat) (a8 : Nat) (a9 : Nat) (a10 : Nat) (a11 : Nat) (a12 : Nat) (a13 : Nat) (n0_24 : Int32) (n0_25 : Int32) (n0_26 : Int32) (n0_27 : Int32) (a14 : Nat) (n0_29 : Int32) (n0_30 : Int32) (f7 : Nat → Int32) (p1 : Int32) (hp_n0_6 : rg 0 900 n0_6) (hp_f7 : hsI f7) (hp_p1 : rg 0 8 p1) : Met l yX11_tells wsX11_tells ({ frames := 0, cells := 0, slots := 0, locals := 0 }) (va_Pc [.ref a0, .int 1, .int p1] (wrP G ct [(a0, .inr (11, [.int n0_0, .ref a1, .ref a2, .ref a3, .ref a4, .ref a5, .int n0_6, .int n0_7, .int n0_8, .int n0_9, .int n0_10, .long l0_11, .int n0_12, .int n0_13, .int n0_14, .int n0_15, .ref a6, .ref a7, .ref a8, .ref a9, .ref a10, .ref a11, .ref a12, .ref a13, .int n0_24, .int n0_25, .int n0_26, .int n0_27, .ref a14, .int n0_29, .int n0_30])), (a7, .inl (ct 0, 15, .inl f7))])) (va_Qv (fun u : SU => hsI (u.2.1 0) ∧ True) (fun u t => va_P G vwCl ((fun u : SU => [(a0, .inr (11, [.int n0_0, .ref a1, .ref a2, .ref a3, .ref a4, .ref a5, .int n0_6, .int n0_7, .int n0_8, .int n0_9, .int n0_10, .long l0_11, .int n0_12, .int n0_13, .int n0_14, .int n0_15, .ref a6, .ref a7, .ref a8, .ref a9, .ref a10, .ref a11, .ref a12, .ref a13, .int n0_24, .int n0_25, .int n0_26, .int n0_27, .ref a14, .int n0_29, .int n0_30])), (a7, .inl (ct 0, 15, .inl (u.2.1 0)))]) u) t.heap) (aset [(a0, .inr (11, [.int n0_0, .ref a1, .ref a2, .ref a3, .ref a4, .ref a5, .int n0_6, .int n0_7, .int n0_8, .int n0_9, .int n0_10, .long l0_11, .int n0_12, .int n0_13, .int n0_14, .int n0_15, .ref a6, .ref a7, .ref a8, .ref a9, .ref a10, .ref a11, .ref a12, .ref a13, .int n0_24, .int n0_25, .int n0_26, .int n0_27, .ref a14, .int n0_29, .int n0_30])), (a7, .inl (ct 0, 15, .inl f7))])) 0 0 (aset [(a0, .inr (11, [.int n0_0, .ref a1, .ref a2, .ref a3, .ref a4, .ref a5, .int n0_6, .int n0_7, .int n0_8, .int n0_9, .int n0_10, .long l0_11, .int n0_12, .int n0_13, .int n0_14, .int n0_15, .ref a6, .ref a7, .ref a8, .ref a9, .ref a10, .ref a11, .ref a12, .ref a13, .int n0_24, .int n0_25, .int n0_26, .int n0_27, .ref a14, .int n0_29, .int n0_30])), (a7, .inl (ct 0, 15, .inl f7))]) := by
  refine Met.ofW (cc := cX11_tells) (maxL := 3) (ret := none) (by decide) rfl ?_
  intro p e s m args below meth c s₁ B hml hv
  obtain ⟨rfl, hP, hK, hD0⟩ := hv
  have hx := B.exec
  have hb := B.bytes
  have hr := B.returns
  have hts := atoms_spec (ws := wsX11_tells) B.pre
  have hown : s.vm.findClass RX11 = some m.cls := findClass_of_methodNamed B.named
  have hlocks := B.notSynchronized
  have hD := hD0.aself
  generalize hAe : aset [(a0, .inr (11, [.int n0_0, .ref a1, .ref a2, .ref a3, .ref a4, .ref a5, .int n0_6, .int n0_7, .int n0_8, .int n0_9, .int n0_10, .long l0_11, .int n0_12, .int n0_13, .int n0_14, .int n0_15, .ref a6, .ref a7, .ref a8, .ref a9, .ref a10, .ref a11, .ref a12, .ref a13, .int n0_24, .int n0_25, .int n0_26, .int n0_27, .ref a14, .int n0_29, .int n0_30])), (a7, .inl (ct 0, 15, .inl f7))] = A at hD ⊢
  have hS : va_S A s.heap s.heap [] := va_S.rf
  have hl := lv_entry ([.ref a0, .int 1, .int p1]) (n := 3) (Nat.le_of_ble_eq_true rfl)
  rw [lg_entry_eq]
  generalize (lg_sl ([.ref a0, .int 1, .int p1]) ++ List.replicate (3 - (lg_sl ([.ref a0, .int 1, .int p1])).length) Slot.unset).toArray = ls at hl ⊢
  have hl : lv_has ls 3 [(0, .ref a0), (1, .int 1), (2, .int p1)] := hl
  refine lv_aload_n hx hb dX11_tells_0 rfl (lv_at hl 0 rfl) ?_
  refine va_get (D := G) (ci := 11) (v := .ref a7) (C := RX11) (T := TX11) (N := 31) hx hb hts (by decide +kernel) hown hK.1 hP 0 rfl rfl 17 (by decide) (hts (.fieldLink RX11 34 "CardHolderModel" "has" "[I") (by decide +kernel)) (fun _ h9 => h9) rfl dX11_tells_1 ?_
  refine lv_bipush (v := 12) hx hb dX11_tells_4 (by decide) ?_
  refine lv_iload_n hx hb dX11_tells_6 rfl (lv_at hl 1 rfl) ?_
  refine lv_iadd hx hb dX11_tells_7 ?_
  refine ix_i (y := 13) (by decide) ?_
  refine lv_iload_n hx hb dX11_tells_8 rfl (lv_at hl 2 rfl) ?_
  refine va_iast hx hb hK.1 hP hD hS 1 0 rfl rfl (in_lit (by decide)) dX11_tells_9 (fun H locs hP hD hS => ?_)
  have h_1 : hsI (upd f7 (13 : Int32).toNatClampNeg p1) := hs_u1 (j := 4) hp_f7 rfl hp_p1
  exact W.vret hx hb hr (fun t ht hW => ⟨⟨(fun k => ([] : List Int32).getD k 0, fun k => ([upd f7 (13 : Int32).toNatClampNeg p1] : List (Nat → Int32)).getD k (fun _ => 0), fun k => ([] : List (Nat → Int64)).getD k (fun _ => 0)), rfl, ⟨h_1, trivial⟩, hp_at ht hP⟩, hS.F ht⟩) hS.2.2 dX11_tells_10

set_option maxHeartbeats 4000000 in
set_option maxRecDepth 100000 in
theorem a_X11_hasRead2 (l : Launch) (G : va_G) (ct : Nat → ClassId) (a0 : Nat) (n0_0 : Int32) (a1 : Nat) (a2 : Nat) (a3 : Nat) (a4 : Nat) (a5 : Nat) (n0_6 : Int32) (n0_7 : Int32) (n0_8 : Int32) (n0_9 : Int32) (n0_10 : Int32) (l0_11 : Int64) (n0_12 : Int32) (n0_13 : Int32) (n0_14 : Int32) (n0_15 : Int32) (a6 : Nat) (a7 : Nat) (a8 : Nat) (a9 : Nat) (a10 : Nat) (a11 : Nat) (a12 : Nat) (a13 : Nat) (n0_24 : Int32) (n0_25 : Int32) (n0_26 : Int32) (n0_27 : Int32) (a14 : Nat) (n0_29 : Int32) (n0_30 : Int32) (f7 : Nat → Int32) (hp_n0_6 : rg 0 900 n0_6) (hp_f7 : hsI f7) : Met l yX11_hasRead wsX11_hasRead ({ frames := 0, cells := 0, slots := 0, locals := 0 }) (va_Pc [.ref a0, .int 2] (roP G ct [(a0, .inr (11, [.int n0_0, .ref a1, .ref a2, .ref a3, .ref a4, .ref a5, .int n0_6, .int n0_7, .int n0_8, .int n0_9, .int n0_10, .long l0_11, .int n0_12, .int n0_13, .int n0_14, .int n0_15, .ref a6, .ref a7, .ref a8, .ref a9, .ref a10, .ref a11, .ref a12, .ref a13, .int n0_24, .int n0_25, .int n0_26, .int n0_27, .ref a14, .int n0_29, .int n0_30])), (a7, .inl (ct 0, 15, .inl f7))])) (roQ (fun r => rg 0 40 r ∧ True)) 0 0 no := by
  refine Met.ofW (cc := cX11_hasRead) (maxL := 2) (ret := (some .int)) (by decide) rfl ?_
  intro p e s m args below meth c s₁ B hml hv
  obtain ⟨rfl, hP, hK⟩ := hv
  have hx := B.exec
  have hb := B.bytes
  have hr := B.returns
  have hts := atoms_spec (ws := wsX11_hasRead) B.pre
  have hown : s.vm.findClass RX11 = some m.cls := findClass_of_methodNamed B.named
  have hlocks := B.notSynchronized
  have hS : va_S no s.heap s.heap [] := va_S.rf
  have hl := lv_entry ([.ref a0, .int 2]) (n := 2) (Nat.le_of_ble_eq_true rfl)
  rw [lg_entry_eq]
  generalize (lg_sl ([.ref a0, .int 2]) ++ List.replicate (2 - (lg_sl ([.ref a0, .int 2])).length) Slot.unset).toArray = ls at hl ⊢
  have hl : lv_has ls 2 [(0, .ref a0), (1, .int 2)] := hl
  refine lv_aload_n hx hb dX11_hasRead_0 rfl (lv_at hl 0 rfl) ?_
  refine va_get (D := G) (ci := 11) (v := .ref a7) (C := RX11) (T := TX11) (N := 31) hx hb hts (by decide +kernel) hown hK.1 hP 0 rfl rfl 17 (by decide) (hts (.fieldLink RX11 34 "CardHolderModel" "has" "[I") (by decide +kernel)) (fun _ h9 => h9) rfl dX11_hasRead_1 ?_
  refine lv_bipush (v := 12) hx hb dX11_hasRead_4 (by decide) ?_
  refine lv_iload_n hx hb dX11_hasRead_6 rfl (lv_at hl 1 rfl) ?_
  refine lv_iadd hx hb dX11_hasRead_7 ?_
  refine ix_i (y := 14) (by decide) ?_
  refine va_iald hx hb hK.1 hP 1 0 rfl rfl (in_lit (by decide)) dX11_hasRead_8 ?_
  refine lv_topi (fun z8 gz8 => ?_)
  have hz8 : rg 0 40 z8 := by rw [gz8]; exact (hp_f7.2 4)
  exact W.iret (v := z8) hx hb hr (fun t ht hW => ⟨⟨z8, (), rfl, ⟨hz8, trivial⟩, trivial⟩, hS.F ht⟩) hS.2.2 dX11_hasRead_9

set_option maxHeartbeats 4000000 in
set_option maxRecDepth 100000 in
theorem a_X11_tells2 (l : Launch) (G : va_G) (ct : Nat → ClassId) (a0 : Nat) (n0_0 : Int32) (a1 : Nat) (a2 : Nat) (a3 : Nat) (a4 : Nat) (a5 : Nat) (n0_6 : Int32) (n0_7 : Int32) (n0_8 : Int32) (n0_9 : Int32) (n0_10 : Int32) (l0_11 : Int64) (n0_12 : Int32) (n0_13 : Int32) (n0_14 : Int32) (n0_15 : Int32) (a6 : Nat) (a7 : Nat) (a8 : Nat) (a9 : Nat) (a10 : Nat) (a11 : Nat) (a12 : Nat) (a13 : Nat) (n0_24 : Int32) (n0_25 : Int32) (n0_26 : Int32) (n0_27 : Int32) (a14 : Nat) (n0_29 : Int32) (n0_30 : Int32) (f7 : Nat → Int32) (p1 : Int32) (hp_n0_6 : rg 0 900 n0_6) (hp_f7 : hsI f7) (hp_p1 : rg 0 40 p1) : Met l yX11_tells wsX11_tells ({ frames := 0, cells := 0, slots := 0, locals := 0 }) (va_Pc [.ref a0, .int 2, .int p1] (wrP G ct [(a0, .inr (11, [.int n0_0, .ref a1, .ref a2, .ref a3, .ref a4, .ref a5, .int n0_6, .int n0_7, .int n0_8, .int n0_9, .int n0_10, .long l0_11, .int n0_12, .int n0_13, .int n0_14, .int n0_15, .ref a6, .ref a7, .ref a8, .ref a9, .ref a10, .ref a11, .ref a12, .ref a13, .int n0_24, .int n0_25, .int n0_26, .int n0_27, .ref a14, .int n0_29, .int n0_30])), (a7, .inl (ct 0, 15, .inl f7))])) (va_Qv (fun u : SU => hsI (u.2.1 0) ∧ True) (fun u t => va_P G vwCl ((fun u : SU => [(a0, .inr (11, [.int n0_0, .ref a1, .ref a2, .ref a3, .ref a4, .ref a5, .int n0_6, .int n0_7, .int n0_8, .int n0_9, .int n0_10, .long l0_11, .int n0_12, .int n0_13, .int n0_14, .int n0_15, .ref a6, .ref a7, .ref a8, .ref a9, .ref a10, .ref a11, .ref a12, .ref a13, .int n0_24, .int n0_25, .int n0_26, .int n0_27, .ref a14, .int n0_29, .int n0_30])), (a7, .inl (ct 0, 15, .inl (u.2.1 0)))]) u) t.heap) (aset [(a0, .inr (11, [.int n0_0, .ref a1, .ref a2, .ref a3, .ref a4, .ref a5, .int n0_6, .int n0_7, .int n0_8, .int n0_9, .int n0_10, .long l0_11, .int n0_12, .int n0_13, .int n0_14, .int n0_15, .ref a6, .ref a7, .ref a8, .ref a9, .ref a10, .ref a11, .ref a12, .ref a13, .int n0_24, .int n0_25, .int n0_26, .int n0_27, .ref a14, .int n0_29, .int n0_30])), (a7, .inl (ct 0, 15, .inl f7))])) 0 0 (aset [(a0, .inr (11, [.int n0_0, .ref a1, .ref a2, .ref a3, .ref a4, .ref a5, .int n0_6, .int n0_7, .int n0_8, .int n0_9, .int n0_10, .long l0_11, .int n0_12, .int n0_13, .int n0_14, .int n0_15, .ref a6, .ref a7, .ref a8, .ref a9, .ref a10, .ref a11, .ref a12, .ref a13, .int n0_24, .int n0_25, .int n0_26, .int n0_27, .ref a14, .int n0_29, .int n0_30])), (a7, .inl (ct 0, 15, .inl f7))]) := by
  refine Met.ofW (cc := cX11_tells) (maxL := 3) (ret := none) (by decide) rfl ?_
  intro p e s m args below meth c s₁ B hml hv
  obtain ⟨rfl, hP, hK, hD0⟩ := hv
  have hx := B.exec
  have hb := B.bytes
  have hr := B.returns
  have hts := atoms_spec (ws := wsX11_tells) B.pre
  have hown : s.vm.findClass RX11 = some m.cls := findClass_of_methodNamed B.named
  have hlocks := B.notSynchronized
  have hD := hD0.aself
  generalize hAe : aset [(a0, .inr (11, [.int n0_0, .ref a1, .ref a2, .ref a3, .ref a4, .ref a5, .int n0_6, .int n0_7, .int n0_8, .int n0_9, .int n0_10, .long l0_11, .int n0_12, .int n0_13, .int n0_14, .int n0_15, .ref a6, .ref a7, .ref a8, .ref a9, .ref a10, .ref a11, .ref a12, .ref a13, .int n0_24, .int n0_25, .int n0_26, .int n0_27, .ref a14, .int n0_29, .int n0_30])), (a7, .inl (ct 0, 15, .inl f7))] = A at hD ⊢
  have hS : va_S A s.heap s.heap [] := va_S.rf
  have hl := lv_entry ([.ref a0, .int 2, .int p1]) (n := 3) (Nat.le_of_ble_eq_true rfl)
  rw [lg_entry_eq]
  generalize (lg_sl ([.ref a0, .int 2, .int p1]) ++ List.replicate (3 - (lg_sl ([.ref a0, .int 2, .int p1])).length) Slot.unset).toArray = ls at hl ⊢
  have hl : lv_has ls 3 [(0, .ref a0), (1, .int 2), (2, .int p1)] := hl
  refine lv_aload_n hx hb dX11_tells_0 rfl (lv_at hl 0 rfl) ?_
  refine va_get (D := G) (ci := 11) (v := .ref a7) (C := RX11) (T := TX11) (N := 31) hx hb hts (by decide +kernel) hown hK.1 hP 0 rfl rfl 17 (by decide) (hts (.fieldLink RX11 34 "CardHolderModel" "has" "[I") (by decide +kernel)) (fun _ h9 => h9) rfl dX11_tells_1 ?_
  refine lv_bipush (v := 12) hx hb dX11_tells_4 (by decide) ?_
  refine lv_iload_n hx hb dX11_tells_6 rfl (lv_at hl 1 rfl) ?_
  refine lv_iadd hx hb dX11_tells_7 ?_
  refine ix_i (y := 14) (by decide) ?_
  refine lv_iload_n hx hb dX11_tells_8 rfl (lv_at hl 2 rfl) ?_
  refine va_iast hx hb hK.1 hP hD hS 1 0 rfl rfl (in_lit (by decide)) dX11_tells_9 (fun H locs hP hD hS => ?_)
  have h_1 : hsI (upd f7 (14 : Int32).toNatClampNeg p1) := hs_u2 (j := 4) hp_f7 rfl hp_p1
  exact W.vret hx hb hr (fun t ht hW => ⟨⟨(fun k => ([] : List Int32).getD k 0, fun k => ([upd f7 (14 : Int32).toNatClampNeg p1] : List (Nat → Int32)).getD k (fun _ => 0), fun k => ([] : List (Nat → Int64)).getD k (fun _ => 0)), rfl, ⟨h_1, trivial⟩, hp_at ht hP⟩, hS.F ht⟩) hS.2.2 dX11_tells_10

set_option maxHeartbeats 4000000 in
set_option maxRecDepth 100000 in
theorem a_X11_of0 (l : Launch) (G : va_G) (ct : Nat → ClassId) (a0 : Nat) (n0_0 : Int32) (a1 : Nat) (a2 : Nat) (a3 : Nat) (a4 : Nat) (a5 : Nat) (n0_6 : Int32) (n0_7 : Int32) (n0_8 : Int32) (n0_9 : Int32) (n0_10 : Int32) (l0_11 : Int64) (n0_12 : Int32) (n0_13 : Int32) (n0_14 : Int32) (n0_15 : Int32) (a6 : Nat) (a7 : Nat) (a8 : Nat) (a9 : Nat) (a10 : Nat) (a11 : Nat) (a12 : Nat) (a13 : Nat) (n0_24 : Int32) (n0_25 : Int32) (n0_26 : Int32) (n0_27 : Int32) (a14 : Nat) (n0_29 : Int32) (n0_30 : Int32) (f8 : Nat → Int32) (p0 : Int32) (hp_n0_6 : rg 0 900 n0_6) (hp_f8 : psI f8) (hp_p0 : rg 0 7 p0) : Met l yX11_of wsX11_of ({ frames := 0, cells := 0, slots := 0, locals := 0 }) (va_Pc [.ref a0, .int p0, .int 0] (roP G ct [(a0, .inr (11, [.int n0_0, .ref a1, .ref a2, .ref a3, .ref a4, .ref a5, .int n0_6, .int n0_7, .int n0_8, .int n0_9, .int n0_10, .long l0_11, .int n0_12, .int n0_13, .int n0_14, .int n0_15, .ref a6, .ref a7, .ref a8, .ref a9, .ref a10, .ref a11, .ref a12, .ref a13, .int n0_24, .int n0_25, .int n0_26, .int n0_27, .ref a14, .int n0_29, .int n0_30])), (a8, .inl (ct 0, 200, .inl f8))])) (roQ (fun r => True)) 0 0 no := by
  refine Met.ofW (cc := cX11_of) (maxL := 3) (ret := (some .int)) (by decide) rfl ?_
  intro p e s m args below meth c s₁ B hml hv
  obtain ⟨rfl, hP, hK⟩ := hv
  have hx := B.exec
  have hb := B.bytes
  have hr := B.returns
  have hts := atoms_spec (ws := wsX11_of) B.pre
  have hown : s.vm.findClass RX11 = some m.cls := findClass_of_methodNamed B.named
  have hlocks := B.notSynchronized
  have hS : va_S no s.heap s.heap [] := va_S.rf
  have hl := lv_entry ([.ref a0, .int p0, .int 0]) (n := 3) (Nat.le_of_ble_eq_true rfl)
  rw [lg_entry_eq]
  generalize (lg_sl ([.ref a0, .int p0, .int 0]) ++ List.replicate (3 - (lg_sl ([.ref a0, .int p0, .int 0])).length) Slot.unset).toArray = ls at hl ⊢
  have hl : lv_has ls 3 [(0, .ref a0), (1, .int p0), (2, .int 0)] := hl
  refine lv_aload_n hx hb dX11_of_0 rfl (lv_at hl 0 rfl) ?_
  refine va_get (D := G) (ci := 11) (v := .ref a8) (C := RX11) (T := TX11) (N := 31) hx hb hts (by decide +kernel) hown hK.1 hP 0 rfl rfl 18 (by decide) (hts (.fieldLink RX11 37 "CardHolderModel" "person" "[I") (by decide +kernel)) (fun _ h9 => h9) rfl dX11_of_1 ?_
  refine lv_iconst (v := 5) hx hb dX11_of_4 (by decide) ?_
  refine lv_iload_n hx hb dX11_of_5 rfl (lv_at hl 1 rfl) ?_
  refine lv_imul hx hb dX11_of_6 ?_
  refine nm_mul (e1 := 0) (f := 35) (rgn 5 (x := 5) (by decide)) hp_p0 (by decide) (fun z6 hz6 ez6 => ?_)
  replace ez6 : z6.toInt = 5 * p0.toInt := by have : (5 : Int32).toInt = 5 := (by decide); rw [this] at ez6; exact ez6
  refine lv_iload_n hx hb dX11_of_7 rfl (lv_at hl 2 rfl) ?_
  refine lv_iadd hx hb dX11_of_8 ?_
  refine nm_add (e1 := 0) (f := 35) hz6 (rgn 0 (x := 0) (by decide)) (by decide) (fun z8 hz8 ez8 => ?_)
  replace ez8 := eqc_r ez8 (c := 0) (by decide)
  refine va_iald hx hb hK.1 hP 1 0 rfl rfl (in_rg hz8 (by decide)) dX11_of_9 ?_
  refine lv_topi (fun z9 gz9 => ?_)
  exact W.iret (v := z9) hx hb hr (fun t ht hW => ⟨⟨z9, (), rfl, trivial, trivial⟩, hS.F ht⟩) hS.2.2 dX11_of_10

set_option maxHeartbeats 4000000 in
set_option maxRecDepth 100000 in
theorem a_X11_of1 (l : Launch) (G : va_G) (ct : Nat → ClassId) (a0 : Nat) (n0_0 : Int32) (a1 : Nat) (a2 : Nat) (a3 : Nat) (a4 : Nat) (a5 : Nat) (n0_6 : Int32) (n0_7 : Int32) (n0_8 : Int32) (n0_9 : Int32) (n0_10 : Int32) (l0_11 : Int64) (n0_12 : Int32) (n0_13 : Int32) (n0_14 : Int32) (n0_15 : Int32) (a6 : Nat) (a7 : Nat) (a8 : Nat) (a9 : Nat) (a10 : Nat) (a11 : Nat) (a12 : Nat) (a13 : Nat) (n0_24 : Int32) (n0_25 : Int32) (n0_26 : Int32) (n0_27 : Int32) (a14 : Nat) (n0_29 : Int32) (n0_30 : Int32) (f8 : Nat → Int32) (p0 : Int32) (hp_n0_6 : rg 0 900 n0_6) (hp_f8 : psI f8) (hp_p0 : rg 0 7 p0) : Met l yX11_of wsX11_of ({ frames := 0, cells := 0, slots := 0, locals := 0 }) (va_Pc [.ref a0, .int p0, .int 1] (roP G ct [(a0, .inr (11, [.int n0_0, .ref a1, .ref a2, .ref a3, .ref a4, .ref a5, .int n0_6, .int n0_7, .int n0_8, .int n0_9, .int n0_10, .long l0_11, .int n0_12, .int n0_13, .int n0_14, .int n0_15, .ref a6, .ref a7, .ref a8, .ref a9, .ref a10, .ref a11, .ref a12, .ref a13, .int n0_24, .int n0_25, .int n0_26, .int n0_27, .ref a14, .int n0_29, .int n0_30])), (a8, .inl (ct 0, 200, .inl f8))])) (roQ (fun r => True)) 0 0 no := by
  refine Met.ofW (cc := cX11_of) (maxL := 3) (ret := (some .int)) (by decide) rfl ?_
  intro p e s m args below meth c s₁ B hml hv
  obtain ⟨rfl, hP, hK⟩ := hv
  have hx := B.exec
  have hb := B.bytes
  have hr := B.returns
  have hts := atoms_spec (ws := wsX11_of) B.pre
  have hown : s.vm.findClass RX11 = some m.cls := findClass_of_methodNamed B.named
  have hlocks := B.notSynchronized
  have hS : va_S no s.heap s.heap [] := va_S.rf
  have hl := lv_entry ([.ref a0, .int p0, .int 1]) (n := 3) (Nat.le_of_ble_eq_true rfl)
  rw [lg_entry_eq]
  generalize (lg_sl ([.ref a0, .int p0, .int 1]) ++ List.replicate (3 - (lg_sl ([.ref a0, .int p0, .int 1])).length) Slot.unset).toArray = ls at hl ⊢
  have hl : lv_has ls 3 [(0, .ref a0), (1, .int p0), (2, .int 1)] := hl
  refine lv_aload_n hx hb dX11_of_0 rfl (lv_at hl 0 rfl) ?_
  refine va_get (D := G) (ci := 11) (v := .ref a8) (C := RX11) (T := TX11) (N := 31) hx hb hts (by decide +kernel) hown hK.1 hP 0 rfl rfl 18 (by decide) (hts (.fieldLink RX11 37 "CardHolderModel" "person" "[I") (by decide +kernel)) (fun _ h9 => h9) rfl dX11_of_1 ?_
  refine lv_iconst (v := 5) hx hb dX11_of_4 (by decide) ?_
  refine lv_iload_n hx hb dX11_of_5 rfl (lv_at hl 1 rfl) ?_
  refine lv_imul hx hb dX11_of_6 ?_
  refine nm_mul (e1 := 0) (f := 35) (rgn 5 (x := 5) (by decide)) hp_p0 (by decide) (fun z6 hz6 ez6 => ?_)
  replace ez6 : z6.toInt = 5 * p0.toInt := by have : (5 : Int32).toInt = 5 := (by decide); rw [this] at ez6; exact ez6
  refine lv_iload_n hx hb dX11_of_7 rfl (lv_at hl 2 rfl) ?_
  refine lv_iadd hx hb dX11_of_8 ?_
  refine nm_add (e1 := 1) (f := 36) hz6 (rgn 1 (x := 1) (by decide)) (by decide) (fun z8 hz8 ez8 => ?_)
  replace ez8 := eqc_r ez8 (c := 1) (by decide)
  refine va_iald hx hb hK.1 hP 1 0 rfl rfl (in_rg hz8 (by decide)) dX11_of_9 ?_
  refine lv_topi (fun z9 gz9 => ?_)
  exact W.iret (v := z9) hx hb hr (fun t ht hW => ⟨⟨z9, (), rfl, trivial, trivial⟩, hS.F ht⟩) hS.2.2 dX11_of_10

set_option maxHeartbeats 4000000 in
set_option maxRecDepth 100000 in
theorem a_X11_of2 (l : Launch) (G : va_G) (ct : Nat → ClassId) (a0 : Nat) (n0_0 : Int32) (a1 : Nat) (a2 : Nat) (a3 : Nat) (a4 : Nat) (a5 : Nat) (n0_6 : Int32) (n0_7 : Int32) (n0_8 : Int32) (n0_9 : Int32) (n0_10 : Int32) (l0_11 : Int64) (n0_12 : Int32) (n0_13 : Int32) (n0_14 : Int32) (n0_15 : Int32) (a6 : Nat) (a7 : Nat) (a8 : Nat) (a9 : Nat) (a10 : Nat) (a11 : Nat) (a12 : Nat) (a13 : Nat) (n0_24 : Int32) (n0_25 : Int32) (n0_26 : Int32) (n0_27 : Int32) (a14 : Nat) (n0_29 : Int32) (n0_30 : Int32) (f8 : Nat → Int32) (p0 : Int32) (hp_n0_6 : rg 0 900 n0_6) (hp_f8 : psI f8) (hp_p0 : rg 0 7 p0) : Met l yX11_of wsX11_of ({ frames := 0, cells := 0, slots := 0, locals := 0 }) (va_Pc [.ref a0, .int p0, .int 2] (roP G ct [(a0, .inr (11, [.int n0_0, .ref a1, .ref a2, .ref a3, .ref a4, .ref a5, .int n0_6, .int n0_7, .int n0_8, .int n0_9, .int n0_10, .long l0_11, .int n0_12, .int n0_13, .int n0_14, .int n0_15, .ref a6, .ref a7, .ref a8, .ref a9, .ref a10, .ref a11, .ref a12, .ref a13, .int n0_24, .int n0_25, .int n0_26, .int n0_27, .ref a14, .int n0_29, .int n0_30])), (a8, .inl (ct 0, 200, .inl f8))])) (roQ (fun r => rg 0 63 r ∧ True)) 0 0 no := by
  refine Met.ofW (cc := cX11_of) (maxL := 3) (ret := (some .int)) (by decide) rfl ?_
  intro p e s m args below meth c s₁ B hml hv
  obtain ⟨rfl, hP, hK⟩ := hv
  have hx := B.exec
  have hb := B.bytes
  have hr := B.returns
  have hts := atoms_spec (ws := wsX11_of) B.pre
  have hown : s.vm.findClass RX11 = some m.cls := findClass_of_methodNamed B.named
  have hlocks := B.notSynchronized
  have hS : va_S no s.heap s.heap [] := va_S.rf
  have hl := lv_entry ([.ref a0, .int p0, .int 2]) (n := 3) (Nat.le_of_ble_eq_true rfl)
  rw [lg_entry_eq]
  generalize (lg_sl ([.ref a0, .int p0, .int 2]) ++ List.replicate (3 - (lg_sl ([.ref a0, .int p0, .int 2])).length) Slot.unset).toArray = ls at hl ⊢
  have hl : lv_has ls 3 [(0, .ref a0), (1, .int p0), (2, .int 2)] := hl
  refine lv_aload_n hx hb dX11_of_0 rfl (lv_at hl 0 rfl) ?_
  refine va_get (D := G) (ci := 11) (v := .ref a8) (C := RX11) (T := TX11) (N := 31) hx hb hts (by decide +kernel) hown hK.1 hP 0 rfl rfl 18 (by decide) (hts (.fieldLink RX11 37 "CardHolderModel" "person" "[I") (by decide +kernel)) (fun _ h9 => h9) rfl dX11_of_1 ?_
  refine lv_iconst (v := 5) hx hb dX11_of_4 (by decide) ?_
  refine lv_iload_n hx hb dX11_of_5 rfl (lv_at hl 1 rfl) ?_
  refine lv_imul hx hb dX11_of_6 ?_
  refine nm_mul (e1 := 0) (f := 35) (rgn 5 (x := 5) (by decide)) hp_p0 (by decide) (fun z6 hz6 ez6 => ?_)
  replace ez6 : z6.toInt = 5 * p0.toInt := by have : (5 : Int32).toInt = 5 := (by decide); rw [this] at ez6; exact ez6
  refine lv_iload_n hx hb dX11_of_7 rfl (lv_at hl 2 rfl) ?_
  refine lv_iadd hx hb dX11_of_8 ?_
  refine nm_add (e1 := 2) (f := 37) hz6 (rgn 2 (x := 2) (by decide)) (by decide) (fun z8 hz8 ez8 => ?_)
  replace ez8 := eqc_r ez8 (c := 2) (by decide)
  refine va_iald hx hb hK.1 hP 1 0 rfl rfl (in_rg hz8 (by decide)) dX11_of_9 ?_
  refine lv_topi (fun z9 gz9 => ?_)
  have hz9 : rg 0 63 z9 := by rw [gz9]; exact (ps_l2 hp_f8 (i := z8) (by have := ez8; have := ez6; omega) (rg_w (c := 0) (d := 2147483647) hz8 (by decide)))
  exact W.iret (v := z9) hx hb hr (fun t ht hW => ⟨⟨z9, (), rfl, ⟨hz9, trivial⟩, trivial⟩, hS.F ht⟩) hS.2.2 dX11_of_10

set_option maxHeartbeats 4000000 in
set_option maxRecDepth 100000 in
theorem a_X11_of3 (l : Launch) (G : va_G) (ct : Nat → ClassId) (a0 : Nat) (n0_0 : Int32) (a1 : Nat) (a2 : Nat) (a3 : Nat) (a4 : Nat) (a5 : Nat) (n0_6 : Int32) (n0_7 : Int32) (n0_8 : Int32) (n0_9 : Int32) (n0_10 : Int32) (l0_11 : Int64) (n0_12 : Int32) (n0_13 : Int32) (n0_14 : Int32) (n0_15 : Int32) (a6 : Nat) (a7 : Nat) (a8 : Nat) (a9 : Nat) (a10 : Nat) (a11 : Nat) (a12 : Nat) (a13 : Nat) (n0_24 : Int32) (n0_25 : Int32) (n0_26 : Int32) (n0_27 : Int32) (a14 : Nat) (n0_29 : Int32) (n0_30 : Int32) (f8 : Nat → Int32) (p0 : Int32) (hp_n0_6 : rg 0 900 n0_6) (hp_f8 : psI f8) (hp_p0 : rg 0 7 p0) : Met l yX11_of wsX11_of ({ frames := 0, cells := 0, slots := 0, locals := 0 }) (va_Pc [.ref a0, .int p0, .int 3] (roP G ct [(a0, .inr (11, [.int n0_0, .ref a1, .ref a2, .ref a3, .ref a4, .ref a5, .int n0_6, .int n0_7, .int n0_8, .int n0_9, .int n0_10, .long l0_11, .int n0_12, .int n0_13, .int n0_14, .int n0_15, .ref a6, .ref a7, .ref a8, .ref a9, .ref a10, .ref a11, .ref a12, .ref a13, .int n0_24, .int n0_25, .int n0_26, .int n0_27, .ref a14, .int n0_29, .int n0_30])), (a8, .inl (ct 0, 200, .inl f8))])) (roQ (fun r => rg (-1) 7 r ∧ True)) 0 0 no := by
  refine Met.ofW (cc := cX11_of) (maxL := 3) (ret := (some .int)) (by decide) rfl ?_
  intro p e s m args below meth c s₁ B hml hv
  obtain ⟨rfl, hP, hK⟩ := hv
  have hx := B.exec
  have hb := B.bytes
  have hr := B.returns
  have hts := atoms_spec (ws := wsX11_of) B.pre
  have hown : s.vm.findClass RX11 = some m.cls := findClass_of_methodNamed B.named
  have hlocks := B.notSynchronized
  have hS : va_S no s.heap s.heap [] := va_S.rf
  have hl := lv_entry ([.ref a0, .int p0, .int 3]) (n := 3) (Nat.le_of_ble_eq_true rfl)
  rw [lg_entry_eq]
  generalize (lg_sl ([.ref a0, .int p0, .int 3]) ++ List.replicate (3 - (lg_sl ([.ref a0, .int p0, .int 3])).length) Slot.unset).toArray = ls at hl ⊢
  have hl : lv_has ls 3 [(0, .ref a0), (1, .int p0), (2, .int 3)] := hl
  refine lv_aload_n hx hb dX11_of_0 rfl (lv_at hl 0 rfl) ?_
  refine va_get (D := G) (ci := 11) (v := .ref a8) (C := RX11) (T := TX11) (N := 31) hx hb hts (by decide +kernel) hown hK.1 hP 0 rfl rfl 18 (by decide) (hts (.fieldLink RX11 37 "CardHolderModel" "person" "[I") (by decide +kernel)) (fun _ h9 => h9) rfl dX11_of_1 ?_
  refine lv_iconst (v := 5) hx hb dX11_of_4 (by decide) ?_
  refine lv_iload_n hx hb dX11_of_5 rfl (lv_at hl 1 rfl) ?_
  refine lv_imul hx hb dX11_of_6 ?_
  refine nm_mul (e1 := 0) (f := 35) (rgn 5 (x := 5) (by decide)) hp_p0 (by decide) (fun z6 hz6 ez6 => ?_)
  replace ez6 : z6.toInt = 5 * p0.toInt := by have : (5 : Int32).toInt = 5 := (by decide); rw [this] at ez6; exact ez6
  refine lv_iload_n hx hb dX11_of_7 rfl (lv_at hl 2 rfl) ?_
  refine lv_iadd hx hb dX11_of_8 ?_
  refine nm_add (e1 := 3) (f := 38) hz6 (rgn 3 (x := 3) (by decide)) (by decide) (fun z8 hz8 ez8 => ?_)
  replace ez8 := eqc_r ez8 (c := 3) (by decide)
  refine va_iald hx hb hK.1 hP 1 0 rfl rfl (in_rg hz8 (by decide)) dX11_of_9 ?_
  refine lv_topi (fun z9 gz9 => ?_)
  have hz9 : rg (-1) 7 z9 := by rw [gz9]; exact (ps_l3 hp_f8 (i := z8) (by have := ez8; have := ez6; omega) (rg_w (c := 0) (d := 2147483647) hz8 (by decide)))
  exact W.iret (v := z9) hx hb hr (fun t ht hW => ⟨⟨z9, (), rfl, ⟨hz9, trivial⟩, trivial⟩, hS.F ht⟩) hS.2.2 dX11_of_10

set_option maxHeartbeats 4000000 in
set_option maxRecDepth 100000 in
theorem a_X11_of4 (l : Launch) (G : va_G) (ct : Nat → ClassId) (a0 : Nat) (n0_0 : Int32) (a1 : Nat) (a2 : Nat) (a3 : Nat) (a4 : Nat) (a5 : Nat) (n0_6 : Int32) (n0_7 : Int32) (n0_8 : Int32) (n0_9 : Int32) (n0_10 : Int32) (l0_11 : Int64) (n0_12 : Int32) (n0_13 : Int32) (n0_14 : Int32) (n0_15 : Int32) (a6 : Nat) (a7 : Nat) (a8 : Nat) (a9 : Nat) (a10 : Nat) (a11 : Nat) (a12 : Nat) (a13 : Nat) (n0_24 : Int32) (n0_25 : Int32) (n0_26 : Int32) (n0_27 : Int32) (a14 : Nat) (n0_29 : Int32) (n0_30 : Int32) (f8 : Nat → Int32) (p0 : Int32) (hp_n0_6 : rg 0 900 n0_6) (hp_f8 : psI f8) (hp_p0 : rg 0 7 p0) : Met l yX11_of wsX11_of ({ frames := 0, cells := 0, slots := 0, locals := 0 }) (va_Pc [.ref a0, .int p0, .int 4] (roP G ct [(a0, .inr (11, [.int n0_0, .ref a1, .ref a2, .ref a3, .ref a4, .ref a5, .int n0_6, .int n0_7, .int n0_8, .int n0_9, .int n0_10, .long l0_11, .int n0_12, .int n0_13, .int n0_14, .int n0_15, .ref a6, .ref a7, .ref a8, .ref a9, .ref a10, .ref a11, .ref a12, .ref a13, .int n0_24, .int n0_25, .int n0_26, .int n0_27, .ref a14, .int n0_29, .int n0_30])), (a8, .inl (ct 0, 200, .inl f8))])) (roQ (fun r => True)) 0 0 no := by
  refine Met.ofW (cc := cX11_of) (maxL := 3) (ret := (some .int)) (by decide) rfl ?_
  intro p e s m args below meth c s₁ B hml hv
  obtain ⟨rfl, hP, hK⟩ := hv
  have hx := B.exec
  have hb := B.bytes
  have hr := B.returns
  have hts := atoms_spec (ws := wsX11_of) B.pre
  have hown : s.vm.findClass RX11 = some m.cls := findClass_of_methodNamed B.named
  have hlocks := B.notSynchronized
  have hS : va_S no s.heap s.heap [] := va_S.rf
  have hl := lv_entry ([.ref a0, .int p0, .int 4]) (n := 3) (Nat.le_of_ble_eq_true rfl)
  rw [lg_entry_eq]
  generalize (lg_sl ([.ref a0, .int p0, .int 4]) ++ List.replicate (3 - (lg_sl ([.ref a0, .int p0, .int 4])).length) Slot.unset).toArray = ls at hl ⊢
  have hl : lv_has ls 3 [(0, .ref a0), (1, .int p0), (2, .int 4)] := hl
  refine lv_aload_n hx hb dX11_of_0 rfl (lv_at hl 0 rfl) ?_
  refine va_get (D := G) (ci := 11) (v := .ref a8) (C := RX11) (T := TX11) (N := 31) hx hb hts (by decide +kernel) hown hK.1 hP 0 rfl rfl 18 (by decide) (hts (.fieldLink RX11 37 "CardHolderModel" "person" "[I") (by decide +kernel)) (fun _ h9 => h9) rfl dX11_of_1 ?_
  refine lv_iconst (v := 5) hx hb dX11_of_4 (by decide) ?_
  refine lv_iload_n hx hb dX11_of_5 rfl (lv_at hl 1 rfl) ?_
  refine lv_imul hx hb dX11_of_6 ?_
  refine nm_mul (e1 := 0) (f := 35) (rgn 5 (x := 5) (by decide)) hp_p0 (by decide) (fun z6 hz6 ez6 => ?_)
  replace ez6 : z6.toInt = 5 * p0.toInt := by have : (5 : Int32).toInt = 5 := (by decide); rw [this] at ez6; exact ez6
  refine lv_iload_n hx hb dX11_of_7 rfl (lv_at hl 2 rfl) ?_
  refine lv_iadd hx hb dX11_of_8 ?_
  refine nm_add (e1 := 4) (f := 39) hz6 (rgn 4 (x := 4) (by decide)) (by decide) (fun z8 hz8 ez8 => ?_)
  replace ez8 := eqc_r ez8 (c := 4) (by decide)
  refine va_iald hx hb hK.1 hP 1 0 rfl rfl (in_rg hz8 (by decide)) dX11_of_9 ?_
  refine lv_topi (fun z9 gz9 => ?_)
  exact W.iret (v := z9) hx hb hr (fun t ht hW => ⟨⟨z9, (), rfl, trivial, trivial⟩, hS.F ht⟩) hS.2.2 dX11_of_10

set_option maxHeartbeats 4000000 in
set_option maxRecDepth 100000 in
theorem a_X11_isPerson (l : Launch) (G : va_G) (ct : Nat → ClassId) (a0 : Nat) (n0_0 : Int32) (a1 : Nat) (a2 : Nat) (a3 : Nat) (a4 : Nat) (a5 : Nat) (n0_6 : Int32) (n0_7 : Int32) (n0_8 : Int32) (n0_9 : Int32) (n0_10 : Int32) (l0_11 : Int64) (n0_12 : Int32) (n0_13 : Int32) (n0_14 : Int32) (n0_15 : Int32) (a6 : Nat) (a7 : Nat) (a8 : Nat) (a9 : Nat) (a10 : Nat) (a11 : Nat) (a12 : Nat) (a13 : Nat) (n0_24 : Int32) (n0_25 : Int32) (n0_26 : Int32) (n0_27 : Int32) (a14 : Nat) (n0_29 : Int32) (n0_30 : Int32) (f7 : Nat → Int32) (p0 : Int64) (hp_n0_6 : rg 0 900 n0_6) (hp_f7 : hsI f7) : Met l yX11_isPerson wsX11_isPerson ({ frames := 1, cells := 0, slots := 0, locals := 25 }) (va_Pc [.ref a0, .long p0] (roP G ct [(a0, .inr (11, [.int n0_0, .ref a1, .ref a2, .ref a3, .ref a4, .ref a5, .int n0_6, .int n0_7, .int n0_8, .int n0_9, .int n0_10, .long l0_11, .int n0_12, .int n0_13, .int n0_14, .int n0_15, .ref a6, .ref a7, .ref a8, .ref a9, .ref a10, .ref a11, .ref a12, .ref a13, .int n0_24, .int n0_25, .int n0_26, .int n0_27, .ref a14, .int n0_29, .int n0_30])), (a7, .inl (ct 0, 15, .inl f7))])) (roQ (fun r => rg 0 1 r ∧ (¬ r = 0 → rl 0 7 p0) ∧ True)) 0 0 no := by
  refine Met.ofW (cc := cX11_isPerson) (maxL := 3) (ret := (some .boolean)) (by decide) rfl ?_
  intro p e s m args below meth c s₁ B hml hv
  obtain ⟨rfl, hP, hK⟩ := hv
  have hx := B.exec
  have hb := B.bytes
  have hr := B.returns
  have hts := atoms_spec (ws := wsX11_isPerson) B.pre
  have hown : s.vm.findClass RX11 = some m.cls := findClass_of_methodNamed B.named
  have hlocks := B.notSynchronized
  have hS : va_S no s.heap s.heap [] := va_S.rf
  have hl := lv_entry ([.ref a0, .long p0]) (n := 3) (Nat.le_of_ble_eq_true rfl)
  rw [lg_entry_eq]
  generalize (lg_sl ([.ref a0, .long p0]) ++ List.replicate (3 - (lg_sl ([.ref a0, .long p0])).length) Slot.unset).toArray = ls at hl ⊢
  have hl : lv_has ls 3 [(0, .ref a0), (1, .long p0)] := hl
  refine lv_lload_n hx hb dX11_isPerson_0 rfl (lv_at hl 1 rfl) ?_
  refine lv_lconst (v := 0) hx hb dX11_isPerson_1 (by decide) ?_
  refine lv_aload_n hx hb dX11_isPerson_2 rfl (lv_at hl 0 rfl) ?_
  refine va_get (D := G) (ci := 11) (v := .ref a7) (C := RX11) (T := TX11) (N := 31) hx hb hts (by decide +kernel) hown hK.1 hP 0 rfl rfl 17 (by decide) (hts (.fieldLink RX11 34 "CardHolderModel" "has" "[I") (by decide +kernel)) (fun _ h9 => h9) rfl dX11_isPerson_3 ?_
  refine lv_iconst (v := 1) hx hb dX11_isPerson_6 (by decide) ?_
  refine va_iald hx hb hK.1 hP 1 0 rfl rfl (in_lit (by decide)) dX11_isPerson_7 ?_
  refine lv_topi (fun z7 gz7 => ?_)
  have hz7 : rg 0 8 z7 := by rw [gz7]; exact (hp_f7.1 0)
  refine lv_i2l hx hb dX11_isPerson_8 rfl ?_
  refine nl_i2l hz7 (fun z8 hz8 ez8 => ?_)
  refine lv_lconst (v := 1) hx hb dX11_isPerson_9 (by decide) ?_
  refine lv_lsub hx hb dX11_isPerson_10 ?_
  refine nl_sub (e1 := (-1)) (f := 7) hz8 (rln 1 (x := 1) (by decide)) (by decide) (fun z10 hz10 ez10 => ?_)
  replace ez10 := eqc_sl ez10 (c := (-1)) (by decide)
  refine ro_calli (va_runS (As := [.long p0, .long 0, .long z10]) (rest := []) ⟨hx, hb, hml, hown, hts⟩ (a_X11_in l G ct p0 (0 : Int64) z10) (va_cwS 3 hts gX11_isPerson_X11_in rfl rfl rfl (by decide +kernel) ⟨Nat.le_of_ble_eq_true rfl, Nat.le_of_ble_eq_true rfl⟩) (ro_pre hK (hP.sub [] rfl)) rfl rfl hl.1 rfl (lv_room (Nat.le_of_ble_eq_true rfl)) dX11_isPerson_11 ⟨Nat.zero_le _, Nat.zero_le _⟩) hS hP (fun r11 H locs wr11 hP hS => ?_)
  obtain ⟨p_1, p_2, -⟩ := wr11
  exact W.zret (v := r11) (ty := .boolean) hx hb hr (nar_rg p_1) (fun t ht hW => ⟨⟨r11, (), rfl, ⟨p_1, (fun hq => rl_w ((fun hq => in_im (p_2 hq) (rln 0 (x := 0) (by decide)) hz10) hq) (by decide)), trivial⟩, trivial⟩, hS.F ht⟩) hS.2.2 dX11_isPerson_14

set_option maxHeartbeats 4000000 in
set_option maxRecDepth 100000 in
theorem a_X11_arePeople (l : Launch) (G : va_G) (ct : Nat → ClassId) (a0 : Nat) (n0_0 : Int32) (a1 : Nat) (a2 : Nat) (a3 : Nat) (a4 : Nat) (a5 : Nat) (n0_6 : Int32) (n0_7 : Int32) (n0_8 : Int32) (n0_9 : Int32) (n0_10 : Int32) (l0_11 : Int64) (n0_12 : Int32) (n0_13 : Int32) (n0_14 : Int32) (n0_15 : Int32) (a6 : Nat) (a7 : Nat) (a8 : Nat) (a9 : Nat) (a10 : Nat) (a11 : Nat) (a12 : Nat) (a13 : Nat) (n0_24 : Int32) (n0_25 : Int32) (n0_26 : Int32) (n0_27 : Int32) (a14 : Nat) (n0_29 : Int32) (n0_30 : Int32) (f7 : Nat → Int32) (p0 : Int32) (p1 : Int32) (hp_n0_6 : rg 0 900 n0_6) (hp_f7 : hsI f7) : Met l yX11_arePeople wsX11_arePeople ({ frames := 2, cells := 0, slots := 0, locals := 47 }) (va_Pc [.ref a0, .int p0, .int p1] (roP G ct [(a0, .inr (11, [.int n0_0, .ref a1, .ref a2, .ref a3, .ref a4, .ref a5, .int n0_6, .int n0_7, .int n0_8, .int n0_9, .int n0_10, .long l0_11, .int n0_12, .int n0_13, .int n0_14, .int n0_15, .ref a6, .ref a7, .ref a8, .ref a9, .ref a10, .ref a11, .ref a12, .ref a13, .int n0_24, .int n0_25, .int n0_26, .int n0_27, .ref a14, .int n0_29, .int n0_30])), (a7, .inl (ct 0, 15, .inl f7))])) (roQ (fun r => rg 0 1 r ∧ (¬ r = 0 → rg 0 7 p0) ∧ (¬ r = 0 → rg 0 7 p1) ∧ True)) 0 0 no := by
  refine Met.ofW (cc := cX11_arePeople) (maxL := 3) (ret := (some .boolean)) (by decide) rfl ?_
  intro p e s m args below meth c s₁ B hml hv
  obtain ⟨rfl, hP, hK⟩ := hv
  have hx := B.exec
  have hb := B.bytes
  have hr := B.returns
  have hts := atoms_spec (ws := wsX11_arePeople) B.pre
  have hown : s.vm.findClass RX11 = some m.cls := findClass_of_methodNamed B.named
  have hlocks := B.notSynchronized
  have hS : va_S no s.heap s.heap [] := va_S.rf
  have hl := lv_entry ([.ref a0, .int p0, .int p1]) (n := 3) (Nat.le_of_ble_eq_true rfl)
  rw [lg_entry_eq]
  generalize (lg_sl ([.ref a0, .int p0, .int p1]) ++ List.replicate (3 - (lg_sl ([.ref a0, .int p0, .int p1])).length) Slot.unset).toArray = ls at hl ⊢
  have hl : lv_has ls 3 [(0, .ref a0), (1, .int p0), (2, .int p1)] := hl
  refine lv_aload_n hx hb dX11_arePeople_0 rfl (lv_at hl 0 rfl) ?_
  refine lv_iload_n hx hb dX11_arePeople_1 rfl (lv_at hl 1 rfl) ?_
  refine lv_i2l hx hb dX11_arePeople_2 rfl ?_
  refine nl_i2l (rg_t p0) (fun z2 hz2 ez2 => ?_)
  refine ro_calli (va_runV (As := [.long z2]) (rest := []) ⟨hx, hb, hml, hown, hts⟩ (a_X11_isPerson l G ct a0 n0_0 a1 a2 a3 a4 a5 n0_6 n0_7 n0_8 n0_9 n0_10 l0_11 n0_12 n0_13 n0_14 n0_15 a6 a7 a8 a9 a10 a11 a12 a13 n0_24 n0_25 n0_26 n0_27 a14 n0_29 n0_30 f7 z2 hp_n0_6 hp_f7) (cwV 1 hts gX11_arePeople_X11_isPerson rfl rfl rfl (by decide +kernel) ⟨Nat.le_of_ble_eq_true rfl, Nat.le_of_ble_eq_true rfl⟩) (ro_preV 11 0 hK (hP.sub [0, 1] rfl) rfl rfl) rfl rfl hl.1 rfl (lv_room (Nat.le_of_ble_eq_true rfl)) dX11_arePeople_3 ⟨Nat.zero_le _, Nat.zero_le _⟩) hS hP (fun r3 H locs wr3 hP hS => ?_)
  obtain ⟨p_1, p_2, -⟩ := wr3
  refine lv_if_eq (tgt := 22) hx hb dX11_arePeople_6 (by decide) (fun c6 => ?_) (fun c6 => ?_)
  · have h_3 : rg 0 0 r3 := r_eq_l_i (e := 0) (f := 0) c6 p_1 (rgn 0 (x := 0) (by decide)) (by decide)
    refine lv_iconst (v := 0) hx hb dX11_arePeople_22 (by decide) ?_
    exact W.zret (v := 0) (ty := .boolean) hx hb hr (rfl) (fun t ht hW => ⟨⟨0, (), rfl, ⟨(rg_w (c := 0) (d := 1) (rgn 0 (x := 0) (by decide)) (by decide)), (fun hq => absurd (req (rgn 0 (x := 0) (by decide)) (y := 0) (by decide)) hq), (fun hq => absurd (req (rgn 0 (x := 0) (by decide)) (y := 0) (by decide)) hq), trivial⟩, trivial⟩, hS.F ht⟩) hS.2.2 dX11_arePeople_23
  · have h_4 : rg 1 1 r3 := r_ne_lo_i c6 p_1 (by decide) (by decide)
    have h_5 : rl 0 7 z2 := (p_2 (rne h_4 (y := 0) (c := 0) (by decide) (by decide)))
    have h_6 : rg 0 7 p0 := bk_li (a := 0) (b := 7) ez2 h_5 (rg_t p0) (by decide)
    refine lv_aload_n hx hb dX11_arePeople_9 rfl (lv_at hl 0 rfl) ?_
    refine lv_iload_n hx hb dX11_arePeople_10 rfl (lv_at hl 2 rfl) ?_
    refine lv_i2l hx hb dX11_arePeople_11 rfl ?_
    refine nl_i2l (rg_t p1) (fun z11 hz11 ez11 => ?_)
    refine ro_calli (va_runV (As := [.long z11]) (rest := []) ⟨hx, hb, hml, hown, hts⟩ (a_X11_isPerson l G ct a0 n0_0 a1 a2 a3 a4 a5 n0_6 n0_7 n0_8 n0_9 n0_10 l0_11 n0_12 n0_13 n0_14 n0_15 a6 a7 a8 a9 a10 a11 a12 a13 n0_24 n0_25 n0_26 n0_27 a14 n0_29 n0_30 f7 z11 hp_n0_6 hp_f7) (cwV 1 hts gX11_arePeople_X11_isPerson rfl rfl rfl (by decide +kernel) ⟨Nat.le_of_ble_eq_true rfl, Nat.le_of_ble_eq_true rfl⟩) (ro_preV 11 0 hK (hP.sub [0, 1] rfl) rfl rfl) rfl rfl hl.1 rfl (lv_room (Nat.le_of_ble_eq_true rfl)) dX11_arePeople_12 ⟨Nat.zero_le _, Nat.zero_le _⟩) hS hP (fun r12 H locs wr12 hP hS => ?_)
    obtain ⟨p_7, p_8, -⟩ := wr12
    refine lv_if_eq (tgt := 22) hx hb dX11_arePeople_15 (by decide) (fun c15 => ?_) (fun c15 => ?_)
    · have h_9 : rg 0 0 r12 := r_eq_l_i (e := 0) (f := 0) c15 p_7 (rgn 0 (x := 0) (by decide)) (by decide)
      refine lv_iconst (v := 0) hx hb dX11_arePeople_22 (by decide) ?_
      exact W.zret (v := 0) (ty := .boolean) hx hb hr (rfl) (fun t ht hW => ⟨⟨0, (), rfl, ⟨(rg_w (c := 0) (d := 1) (rgn 0 (x := 0) (by decide)) (by decide)), (fun _ => h_6), (fun hq => absurd (req (rgn 0 (x := 0) (by decide)) (y := 0) (by decide)) hq), trivial⟩, trivial⟩, hS.F ht⟩) hS.2.2 dX11_arePeople_23
    · have h_10 : rg 1 1 r12 := r_ne_lo_i c15 p_7 (by decide) (by decide)
      have h_11 : rl 0 7 z11 := (p_8 (rne h_10 (y := 0) (c := 0) (by decide) (by decide)))
      have h_12 : rg 0 7 p1 := bk_li (a := 0) (b := 7) ez11 h_11 (rg_t p1) (by decide)
      refine lv_iconst (v := 1) hx hb dX11_arePeople_18 (by decide) ?_
      refine lv_goto (tgt := 23) hx hb dX11_arePeople_19 (by decide) ?_
      exact W.zret (v := 1) (ty := .boolean) hx hb hr (rfl) (fun t ht hW => ⟨⟨1, (), rfl, ⟨(rg_w (c := 0) (d := 1) (rgn 1 (x := 1) (by decide)) (by decide)), (fun _ => h_6), (fun _ => h_12), trivial⟩, trivial⟩, hS.F ht⟩) hS.2.2 dX11_arePeople_23

set_option maxHeartbeats 4000000 in
set_option maxRecDepth 100000 in
theorem a_X11_isSet (l : Launch) (G : va_G) (ct : Nat → ClassId) (a0 : Nat) (n0_0 : Int32) (a1 : Nat) (a2 : Nat) (a3 : Nat) (a4 : Nat) (a5 : Nat) (n0_6 : Int32) (n0_7 : Int32) (n0_8 : Int32) (n0_9 : Int32) (n0_10 : Int32) (l0_11 : Int64) (n0_12 : Int32) (n0_13 : Int32) (n0_14 : Int32) (n0_15 : Int32) (a6 : Nat) (a7 : Nat) (a8 : Nat) (a9 : Nat) (a10 : Nat) (a11 : Nat) (a12 : Nat) (a13 : Nat) (n0_24 : Int32) (n0_25 : Int32) (n0_26 : Int32) (n0_27 : Int32) (a14 : Nat) (n0_29 : Int32) (n0_30 : Int32) (f6 : Nat → Int32) (f7 : Nat → Int32) (p0 : Int32) (hp_n0_6 : rg 0 900 n0_6) (hp_f7 : hsI f7) : Met l yX11_isSet wsX11_isSet ({ frames := 1, cells := 0, slots := 0, locals := 25 }) (va_Pc [.ref a0, .int p0] (roP G ct [(a0, .inr (11, [.int n0_0, .ref a1, .ref a2, .ref a3, .ref a4, .ref a5, .int n0_6, .int n0_7, .int n0_8, .int n0_9, .int n0_10, .long l0_11, .int n0_12, .int n0_13, .int n0_14, .int n0_15, .ref a6, .ref a7, .ref a8, .ref a9, .ref a10, .ref a11, .ref a12, .ref a13, .int n0_24, .int n0_25, .int n0_26, .int n0_27, .ref a14, .int n0_29, .int n0_30])), (a6, .inl (ct 0, 5, .inl f6)), (a7, .inl (ct 0, 15, .inl f7))])) (roQ (fun r => rg 0 1 r ∧ (¬ r = 0 → rg 0 255 p0) ∧ True)) 0 0 no := by
  refine Met.ofW (cc := cX11_isSet) (maxL := 2) (ret := (some .boolean)) (by decide) rfl ?_
  intro p e s m args below meth c s₁ B hml hv
  obtain ⟨rfl, hP, hK⟩ := hv
  have hx := B.exec
  have hb := B.bytes
  have hr := B.returns
  have hts := atoms_spec (ws := wsX11_isSet) B.pre
  have hown : s.vm.findClass RX11 = some m.cls := findClass_of_methodNamed B.named
  have hlocks := B.notSynchronized
  have hS : va_S no s.heap s.heap [] := va_S.rf
  have hl := lv_entry ([.ref a0, .int p0]) (n := 2) (Nat.le_of_ble_eq_true rfl)
  rw [lg_entry_eq]
  generalize (lg_sl ([.ref a0, .int p0]) ++ List.replicate (2 - (lg_sl ([.ref a0, .int p0])).length) Slot.unset).toArray = ls at hl ⊢
  have hl : lv_has ls 2 [(0, .ref a0), (1, .int p0)] := hl
  refine lv_aload_n hx hb dX11_isSet_0 rfl (lv_at hl 0 rfl) ?_
  refine ro_calli (va_runV (As := []) (rest := []) ⟨hx, hb, hml, hown, hts⟩ (a_X11_isCity l G ct a0 n0_0 a1 a2 a3 a4 a5 n0_6 n0_7 n0_8 n0_9 n0_10 l0_11 n0_12 n0_13 n0_14 n0_15 a6 a7 a8 a9 a10 a11 a12 a13 n0_24 n0_25 n0_26 n0_27 a14 n0_29 n0_30 f6 hp_n0_6) (cwV 0 hts gX11_isSet_X11_isCity rfl rfl rfl (by decide +kernel) ⟨Nat.le_of_ble_eq_true rfl, Nat.le_of_ble_eq_true rfl⟩) (ro_preV 11 0 hK (hP.sub [0, 1] rfl) rfl rfl) rfl rfl hl.1 rfl (lv_room (Nat.le_of_ble_eq_true rfl)) dX11_isSet_1 ⟨Nat.zero_le _, Nat.zero_le _⟩) hS hP (fun r1 H locs wr1 hP hS => ?_)
  obtain ⟨p_1, -⟩ := wr1
  refine lv_if_eq (tgt := 31) hx hb dX11_isSet_4 (by decide) (fun c4 => ?_) (fun c4 => ?_)
  · have h_2 : rg 0 0 r1 := r_eq_l_i (e := 0) (f := 0) c4 p_1 (rgn 0 (x := 0) (by decide)) (by decide)
    refine lv_iconst (v := 0) hx hb dX11_isSet_31 (by decide) ?_
    exact W.zret (v := 0) (ty := .boolean) hx hb hr (rfl) (fun t ht hW => ⟨⟨0, (), rfl, ⟨(rg_w (c := 0) (d := 1) (rgn 0 (x := 0) (by decide)) (by decide)), (fun hq => absurd (req (rgn 0 (x := 0) (by decide)) (y := 0) (by decide)) hq), trivial⟩, trivial⟩, hS.F ht⟩) hS.2.2 dX11_isSet_32
  · have h_3 : rg 1 1 r1 := r_ne_lo_i c4 p_1 (by decide) (by decide)
    refine lv_iload_n hx hb dX11_isSet_7 rfl (lv_at hl 1 rfl) ?_
    refine lv_i2l hx hb dX11_isSet_8 rfl ?_
    refine nl_i2l (rg_t p0) (fun z8 hz8 ez8 => ?_)
    refine lv_lconst (v := 0) hx hb dX11_isSet_9 (by decide) ?_
    refine lv_iconst (v := 1) hx hb dX11_isSet_10 (by decide) ?_
    refine lv_aload_n hx hb dX11_isSet_11 rfl (lv_at hl 0 rfl) ?_
    refine va_get (D := G) (ci := 11) (v := .ref a7) (C := RX11) (T := TX11) (N := 31) hx hb hts (by decide +kernel) hown hK.1 hP 0 rfl rfl 17 (by decide) (hts (.fieldLink RX11 34 "CardHolderModel" "has" "[I") (by decide +kernel)) (fun _ h9 => h9) rfl dX11_isSet_12 ?_
    refine lv_iconst (v := 1) hx hb dX11_isSet_15 (by decide) ?_
    refine va_iald hx hb hK.1 hP 2 0 rfl rfl (in_lit (by decide)) dX11_isSet_16 ?_
    refine lv_topi (fun z16 gz16 => ?_)
    have hz16 : rg 0 8 z16 := by rw [gz16]; exact (hp_f7.1 0)
    refine lv_ishl hx hb dX11_isSet_17 ?_
    refine nm_shl (e1 := 1) (f := 256) hz16 (by decide) (fun z17 hz17 => ?_)
    refine lv_iconst (v := 1) hx hb dX11_isSet_18 (by decide) ?_
    refine lv_isub hx hb dX11_isSet_19 ?_
    refine nm_sub (e1 := 0) (f := 255) hz17 (rgn 1 (x := 1) (by decide)) (by decide) (fun z19 hz19 ez19 => ?_)
    replace ez19 := eqc_s ez19 (c := (-1)) (by decide)
    refine lv_i2l hx hb dX11_isSet_20 rfl ?_
    refine nl_i2l hz19 (fun z20 hz20 ez20 => ?_)
    refine ro_calli (va_runS (As := [.long z8, .long 0, .long z20]) (rest := []) ⟨hx, hb, hml, hown, hts⟩ (a_X11_in l G ct z8 (0 : Int64) z20) (va_cwS 3 hts gX11_isSet_X11_in rfl rfl rfl (by decide +kernel) ⟨Nat.le_of_ble_eq_true rfl, Nat.le_of_ble_eq_true rfl⟩) (ro_pre hK (hP.sub [] rfl)) rfl rfl hl.1 rfl (lv_room (Nat.le_of_ble_eq_true rfl)) dX11_isSet_21 ⟨Nat.zero_le _, Nat.zero_le _⟩) hS hP (fun r21 H locs wr21 hP hS => ?_)
    obtain ⟨p_4, p_5, -⟩ := wr21
    refine lv_if_eq (tgt := 31) hx hb dX11_isSet_24 (by decide) (fun c24 => ?_) (fun c24 => ?_)
    · have h_6 : rg 0 0 r21 := r_eq_l_i (e := 0) (f := 0) c24 p_4 (rgn 0 (x := 0) (by decide)) (by decide)
      refine lv_iconst (v := 0) hx hb dX11_isSet_31 (by decide) ?_
      exact W.zret (v := 0) (ty := .boolean) hx hb hr (rfl) (fun t ht hW => ⟨⟨0, (), rfl, ⟨(rg_w (c := 0) (d := 1) (rgn 0 (x := 0) (by decide)) (by decide)), (fun hq => absurd (req (rgn 0 (x := 0) (by decide)) (y := 0) (by decide)) hq), trivial⟩, trivial⟩, hS.F ht⟩) hS.2.2 dX11_isSet_32
    · have h_7 : rg 1 1 r21 := r_ne_lo_i c24 p_4 (by decide) (by decide)
      have h_8 : rl 0 255 z8 := ((fun hq => in_im (p_5 hq) (rln 0 (x := 0) (by decide)) hz20) (rne h_7 (y := 0) (c := 0) (by decide) (by decide)))
      have h_9 : rg 0 255 p0 := bk_li (a := 0) (b := 255) ez8 h_8 (rg_t p0) (by decide)
      refine lv_iconst (v := 1) hx hb dX11_isSet_27 (by decide) ?_
      refine lv_goto (tgt := 32) hx hb dX11_isSet_28 (by decide) ?_
      exact W.zret (v := 1) (ty := .boolean) hx hb hr (rfl) (fun t ht hW => ⟨⟨1, (), rfl, ⟨(rg_w (c := 0) (d := 1) (rgn 1 (x := 1) (by decide)) (by decide)), (fun _ => h_9), trivial⟩, trivial⟩, hS.F ht⟩) hS.2.2 dX11_isSet_32

set_option maxHeartbeats 4000000 in
set_option maxRecDepth 100000 in
theorem a_X11_isChain (l : Launch) (G : va_G) (ct : Nat → ClassId) (a0 : Nat) (n0_0 : Int32) (a1 : Nat) (a2 : Nat) (a3 : Nat) (a4 : Nat) (a5 : Nat) (n0_6 : Int32) (n0_7 : Int32) (n0_8 : Int32) (n0_9 : Int32) (n0_10 : Int32) (l0_11 : Int64) (n0_12 : Int32) (n0_13 : Int32) (n0_14 : Int32) (n0_15 : Int32) (a6 : Nat) (a7 : Nat) (a8 : Nat) (a9 : Nat) (a10 : Nat) (a11 : Nat) (a12 : Nat) (a13 : Nat) (n0_24 : Int32) (n0_25 : Int32) (n0_26 : Int32) (n0_27 : Int32) (a14 : Nat) (n0_29 : Int32) (n0_30 : Int32) (f7 : Nat → Int32) (p0 : Int32) (p1 : Int32) (hp_n0_6 : rg 0 900 n0_6) (hp_f7 : hsI f7) : Met l yX11_isChain wsX11_isChain ({ frames := 2, cells := 0, slots := 0, locals := 47 }) (va_Pc [.ref a0, .int p0, .int p1] (roP G ct [(a0, .inr (11, [.int n0_0, .ref a1, .ref a2, .ref a3, .ref a4, .ref a5, .int n0_6, .int n0_7, .int n0_8, .int n0_9, .int n0_10, .long l0_11, .int n0_12, .int n0_13, .int n0_14, .int n0_15, .ref a6, .ref a7, .ref a8, .ref a9, .ref a10, .ref a11, .ref a12, .ref a13, .int n0_24, .int n0_25, .int n0_26, .int n0_27, .ref a14, .int n0_29, .int n0_30])), (a7, .inl (ct 0, 15, .inl f7))])) (roQ (fun r => rg 0 1 r ∧ (¬ r = 0 → rg 0 7 p0) ∧ (¬ r = 0 → rg 0 5 p1) ∧ True)) 0 0 no := by
  refine Met.ofW (cc := cX11_isChain) (maxL := 3) (ret := (some .boolean)) (by decide) rfl ?_
  intro p e s m args below meth c s₁ B hml hv
  obtain ⟨rfl, hP, hK⟩ := hv
  have hx := B.exec
  have hb := B.bytes
  have hr := B.returns
  have hts := atoms_spec (ws := wsX11_isChain) B.pre
  have hown : s.vm.findClass RX11 = some m.cls := findClass_of_methodNamed B.named
  have hlocks := B.notSynchronized
  have hS : va_S no s.heap s.heap [] := va_S.rf
  have hl := lv_entry ([.ref a0, .int p0, .int p1]) (n := 3) (Nat.le_of_ble_eq_true rfl)
  rw [lg_entry_eq]
  generalize (lg_sl ([.ref a0, .int p0, .int p1]) ++ List.replicate (3 - (lg_sl ([.ref a0, .int p0, .int p1])).length) Slot.unset).toArray = ls at hl ⊢
  have hl : lv_has ls 3 [(0, .ref a0), (1, .int p0), (2, .int p1)] := hl
  refine lv_aload_n hx hb dX11_isChain_0 rfl (lv_at hl 0 rfl) ?_
  refine lv_iload_n hx hb dX11_isChain_1 rfl (lv_at hl 1 rfl) ?_
  refine lv_i2l hx hb dX11_isChain_2 rfl ?_
  refine nl_i2l (rg_t p0) (fun z2 hz2 ez2 => ?_)
  refine ro_calli (va_runV (As := [.long z2]) (rest := []) ⟨hx, hb, hml, hown, hts⟩ (a_X11_isPerson l G ct a0 n0_0 a1 a2 a3 a4 a5 n0_6 n0_7 n0_8 n0_9 n0_10 l0_11 n0_12 n0_13 n0_14 n0_15 a6 a7 a8 a9 a10 a11 a12 a13 n0_24 n0_25 n0_26 n0_27 a14 n0_29 n0_30 f7 z2 hp_n0_6 hp_f7) (cwV 1 hts gX11_isChain_X11_isPerson rfl rfl rfl (by decide +kernel) ⟨Nat.le_of_ble_eq_true rfl, Nat.le_of_ble_eq_true rfl⟩) (ro_preV 11 0 hK (hP.sub [0, 1] rfl) rfl rfl) rfl rfl hl.1 rfl (lv_room (Nat.le_of_ble_eq_true rfl)) dX11_isChain_3 ⟨Nat.zero_le _, Nat.zero_le _⟩) hS hP (fun r3 H locs wr3 hP hS => ?_)
  obtain ⟨p_1, p_2, -⟩ := wr3
  refine lv_if_eq (tgt := 21) hx hb dX11_isChain_6 (by decide) (fun c6 => ?_) (fun c6 => ?_)
  · have h_3 : rg 0 0 r3 := r_eq_l_i (e := 0) (f := 0) c6 p_1 (rgn 0 (x := 0) (by decide)) (by decide)
    refine lv_iconst (v := 0) hx hb dX11_isChain_21 (by decide) ?_
    exact W.zret (v := 0) (ty := .boolean) hx hb hr (rfl) (fun t ht hW => ⟨⟨0, (), rfl, ⟨(rg_w (c := 0) (d := 1) (rgn 0 (x := 0) (by decide)) (by decide)), (fun hq => absurd (req (rgn 0 (x := 0) (by decide)) (y := 0) (by decide)) hq), (fun hq => absurd (req (rgn 0 (x := 0) (by decide)) (y := 0) (by decide)) hq), trivial⟩, trivial⟩, hS.F ht⟩) hS.2.2 dX11_isChain_22
  · have h_4 : rg 1 1 r3 := r_ne_lo_i c6 p_1 (by decide) (by decide)
    have h_5 : rl 0 7 z2 := (p_2 (rne h_4 (y := 0) (c := 0) (by decide) (by decide)))
    have h_6 : rg 0 7 p0 := bk_li (a := 0) (b := 7) ez2 h_5 (rg_t p0) (by decide)
    refine lv_iload_n hx hb dX11_isChain_9 rfl (lv_at hl 2 rfl) ?_
    refine lv_i2l hx hb dX11_isChain_10 rfl ?_
    refine nl_i2l (rg_t p1) (fun z10 hz10 ez10 => ?_)
    refine ro_calli (va_runS (As := [.long z10]) (rest := []) ⟨hx, hb, hml, hown, hts⟩ (a_X11_isDeed l G ct z10) (va_cwS 1 hts gX11_isChain_X11_isDeed rfl rfl rfl (by decide +kernel) ⟨Nat.le_of_ble_eq_true rfl, Nat.le_of_ble_eq_true rfl⟩) (ro_pre hK (hP.sub [] rfl)) rfl rfl hl.1 rfl (lv_room (Nat.le_of_ble_eq_true rfl)) dX11_isChain_11 ⟨Nat.zero_le _, Nat.zero_le _⟩) hS hP (fun r11 H locs wr11 hP hS => ?_)
    obtain ⟨p_7, p_8, -⟩ := wr11
    refine lv_if_eq (tgt := 21) hx hb dX11_isChain_14 (by decide) (fun c14 => ?_) (fun c14 => ?_)
    · have h_9 : rg 0 0 r11 := r_eq_l_i (e := 0) (f := 0) c14 p_7 (rgn 0 (x := 0) (by decide)) (by decide)
      refine lv_iconst (v := 0) hx hb dX11_isChain_21 (by decide) ?_
      exact W.zret (v := 0) (ty := .boolean) hx hb hr (rfl) (fun t ht hW => ⟨⟨0, (), rfl, ⟨(rg_w (c := 0) (d := 1) (rgn 0 (x := 0) (by decide)) (by decide)), (fun _ => h_6), (fun hq => absurd (req (rgn 0 (x := 0) (by decide)) (y := 0) (by decide)) hq), trivial⟩, trivial⟩, hS.F ht⟩) hS.2.2 dX11_isChain_22
    · have h_10 : rg 1 1 r11 := r_ne_lo_i c14 p_7 (by decide) (by decide)
      have h_11 : rl 0 5 z10 := (p_8 (rne h_10 (y := 0) (c := 0) (by decide) (by decide)))
      have h_12 : rg 0 5 p1 := bk_li (a := 0) (b := 5) ez10 h_11 (rg_t p1) (by decide)
      refine lv_iconst (v := 1) hx hb dX11_isChain_17 (by decide) ?_
      refine lv_goto (tgt := 22) hx hb dX11_isChain_18 (by decide) ?_
      exact W.zret (v := 1) (ty := .boolean) hx hb hr (rfl) (fun t ht hW => ⟨⟨1, (), rfl, ⟨(rg_w (c := 0) (d := 1) (rgn 1 (x := 1) (by decide)) (by decide)), (fun _ => h_6), (fun _ => h_12), trivial⟩, trivial⟩, hS.F ht⟩) hS.2.2 dX11_isChain_22

set_option maxHeartbeats 4000000 in
set_option maxRecDepth 100000 in
theorem a_X11_areDeeds (l : Launch) (G : va_G) (ct : Nat → ClassId) (a0 : Nat) (n0_0 : Int32) (a1 : Nat) (a2 : Nat) (a3 : Nat) (a4 : Nat) (a5 : Nat) (n0_6 : Int32) (n0_7 : Int32) (n0_8 : Int32) (n0_9 : Int32) (n0_10 : Int32) (l0_11 : Int64) (n0_12 : Int32) (n0_13 : Int32) (n0_14 : Int32) (n0_15 : Int32) (a6 : Nat) (a7 : Nat) (a8 : Nat) (a9 : Nat) (a10 : Nat) (a11 : Nat) (a12 : Nat) (a13 : Nat) (n0_24 : Int32) (n0_25 : Int32) (n0_26 : Int32) (n0_27 : Int32) (a14 : Nat) (n0_29 : Int32) (n0_30 : Int32) (f6 : Nat → Int32) (p0 : Int32) (hp_n0_6 : rg 0 900 n0_6) : Met l yX11_areDeeds wsX11_areDeeds ({ frames := 1, cells := 0, slots := 0, locals := 25 }) (va_Pc [.ref a0, .int p0] (roP G ct [(a0, .inr (11, [.int n0_0, .ref a1, .ref a2, .ref a3, .ref a4, .ref a5, .int n0_6, .int n0_7, .int n0_8, .int n0_9, .int n0_10, .long l0_11, .int n0_12, .int n0_13, .int n0_14, .int n0_15, .ref a6, .ref a7, .ref a8, .ref a9, .ref a10, .ref a11, .ref a12, .ref a13, .int n0_24, .int n0_25, .int n0_26, .int n0_27, .ref a14, .int n0_29, .int n0_30])), (a6, .inl (ct 0, 5, .inl f6))])) (roQ (fun r => rg 0 1 r ∧ (¬ r = 0 → rg 0 63 p0) ∧ True)) 0 0 no := by
  refine Met.ofW (cc := cX11_areDeeds) (maxL := 2) (ret := (some .boolean)) (by decide) rfl ?_
  intro p e s m args below meth c s₁ B hml hv
  obtain ⟨rfl, hP, hK⟩ := hv
  have hx := B.exec
  have hb := B.bytes
  have hr := B.returns
  have hts := atoms_spec (ws := wsX11_areDeeds) B.pre
  have hown : s.vm.findClass RX11 = some m.cls := findClass_of_methodNamed B.named
  have hlocks := B.notSynchronized
  have hS : va_S no s.heap s.heap [] := va_S.rf
  have hl := lv_entry ([.ref a0, .int p0]) (n := 2) (Nat.le_of_ble_eq_true rfl)
  rw [lg_entry_eq]
  generalize (lg_sl ([.ref a0, .int p0]) ++ List.replicate (2 - (lg_sl ([.ref a0, .int p0])).length) Slot.unset).toArray = ls at hl ⊢
  have hl : lv_has ls 2 [(0, .ref a0), (1, .int p0)] := hl
  refine lv_aload_n hx hb dX11_areDeeds_0 rfl (lv_at hl 0 rfl) ?_
  refine ro_calli (va_runV (As := []) (rest := []) ⟨hx, hb, hml, hown, hts⟩ (a_X11_isCity l G ct a0 n0_0 a1 a2 a3 a4 a5 n0_6 n0_7 n0_8 n0_9 n0_10 l0_11 n0_12 n0_13 n0_14 n0_15 a6 a7 a8 a9 a10 a11 a12 a13 n0_24 n0_25 n0_26 n0_27 a14 n0_29 n0_30 f6 hp_n0_6) (cwV 0 hts gX11_areDeeds_X11_isCity rfl rfl rfl (by decide +kernel) ⟨Nat.le_of_ble_eq_true rfl, Nat.le_of_ble_eq_true rfl⟩) (ro_preV 11 0 hK (hP.sub [0, 1] rfl) rfl rfl) rfl rfl hl.1 rfl (lv_room (Nat.le_of_ble_eq_true rfl)) dX11_areDeeds_1 ⟨Nat.zero_le _, Nat.zero_le _⟩) hS hP (fun r1 H locs wr1 hP hS => ?_)
  obtain ⟨p_1, -⟩ := wr1
  refine lv_if_eq (tgt := 23) hx hb dX11_areDeeds_4 (by decide) (fun c4 => ?_) (fun c4 => ?_)
  · have h_2 : rg 0 0 r1 := r_eq_l_i (e := 0) (f := 0) c4 p_1 (rgn 0 (x := 0) (by decide)) (by decide)
    refine lv_iconst (v := 0) hx hb dX11_areDeeds_23 (by decide) ?_
    exact W.zret (v := 0) (ty := .boolean) hx hb hr (rfl) (fun t ht hW => ⟨⟨0, (), rfl, ⟨(rg_w (c := 0) (d := 1) (rgn 0 (x := 0) (by decide)) (by decide)), (fun hq => absurd (req (rgn 0 (x := 0) (by decide)) (y := 0) (by decide)) hq), trivial⟩, trivial⟩, hS.F ht⟩) hS.2.2 dX11_areDeeds_24
  · have h_3 : rg 1 1 r1 := r_ne_lo_i c4 p_1 (by decide) (by decide)
    refine lv_iload_n hx hb dX11_areDeeds_7 rfl (lv_at hl 1 rfl) ?_
    refine lv_i2l hx hb dX11_areDeeds_8 rfl ?_
    refine nl_i2l (rg_t p0) (fun z8 hz8 ez8 => ?_)
    refine lv_lconst (v := 0) hx hb dX11_areDeeds_9 (by decide) ?_
    refine lv_ldc2 (own := RX11) (v := 63) hx hb hown (hts (.constantLong RX11 309 (63)) (by decide +kernel)) dX11_areDeeds_10 ?_
    refine ro_calli (va_runS (As := [.long z8, .long 0, .long 63]) (rest := []) ⟨hx, hb, hml, hown, hts⟩ (a_X11_in l G ct z8 (0 : Int64) (63 : Int64)) (va_cwS 3 hts gX11_areDeeds_X11_in rfl rfl rfl (by decide +kernel) ⟨Nat.le_of_ble_eq_true rfl, Nat.le_of_ble_eq_true rfl⟩) (ro_pre hK (hP.sub [] rfl)) rfl rfl hl.1 rfl (lv_room (Nat.le_of_ble_eq_true rfl)) dX11_areDeeds_13 ⟨Nat.zero_le _, Nat.zero_le _⟩) hS hP (fun r13 H locs wr13 hP hS => ?_)
    obtain ⟨p_4, p_5, -⟩ := wr13
    refine lv_if_eq (tgt := 23) hx hb dX11_areDeeds_16 (by decide) (fun c16 => ?_) (fun c16 => ?_)
    · have h_6 : rg 0 0 r13 := r_eq_l_i (e := 0) (f := 0) c16 p_4 (rgn 0 (x := 0) (by decide)) (by decide)
      refine lv_iconst (v := 0) hx hb dX11_areDeeds_23 (by decide) ?_
      exact W.zret (v := 0) (ty := .boolean) hx hb hr (rfl) (fun t ht hW => ⟨⟨0, (), rfl, ⟨(rg_w (c := 0) (d := 1) (rgn 0 (x := 0) (by decide)) (by decide)), (fun hq => absurd (req (rgn 0 (x := 0) (by decide)) (y := 0) (by decide)) hq), trivial⟩, trivial⟩, hS.F ht⟩) hS.2.2 dX11_areDeeds_24
    · have h_7 : rg 1 1 r13 := r_ne_lo_i c16 p_4 (by decide) (by decide)
      have h_8 : rl 0 63 z8 := ((fun hq => in_im (p_5 hq) (rln 0 (x := 0) (by decide)) (rln 63 (x := 63) (by decide))) (rne h_7 (y := 0) (c := 0) (by decide) (by decide)))
      have h_9 : rg 0 63 p0 := bk_li (a := 0) (b := 63) ez8 h_8 (rg_t p0) (by decide)
      refine lv_iconst (v := 1) hx hb dX11_areDeeds_19 (by decide) ?_
      refine lv_goto (tgt := 24) hx hb dX11_areDeeds_20 (by decide) ?_
      exact W.zret (v := 1) (ty := .boolean) hx hb hr (rfl) (fun t ht hW => ⟨⟨1, (), rfl, ⟨(rg_w (c := 0) (d := 1) (rgn 1 (x := 1) (by decide)) (by decide)), (fun _ => h_9), trivial⟩, trivial⟩, hS.F ht⟩) hS.2.2 dX11_areDeeds_24

set_option maxHeartbeats 4000000 in
set_option maxRecDepth 100000 in
theorem a_X11_readable (l : Launch) (G : va_G) (ct : Nat → ClassId) (a0 : Nat) (n0_0 : Int32) (a1 : Nat) (a2 : Nat) (a3 : Nat) (a4 : Nat) (a5 : Nat) (n0_6 : Int32) (n0_7 : Int32) (n0_8 : Int32) (n0_9 : Int32) (n0_10 : Int32) (l0_11 : Int64) (n0_12 : Int32) (n0_13 : Int32) (n0_14 : Int32) (n0_15 : Int32) (a6 : Nat) (a7 : Nat) (a8 : Nat) (a9 : Nat) (a10 : Nat) (a11 : Nat) (a12 : Nat) (a13 : Nat) (n0_24 : Int32) (n0_25 : Int32) (n0_26 : Int32) (n0_27 : Int32) (a14 : Nat) (n0_29 : Int32) (n0_30 : Int32) (f7 : Nat → Int32) (f8 : Nat → Int32) (p0 : Int32) (hp_n0_6 : rg 0 900 n0_6) (hp_f7 : hsI f7) (hp_f8 : psI f8) (hp_p0 : rg 0 7 p0) : Met l yX11_readable wsX11_readable ({ frames := 1, cells := 0, slots := 0, locals := 22 }) (va_Pc [.ref a0, .int p0] (roP G ct [(a0, .inr (11, [.int n0_0, .ref a1, .ref a2, .ref a3, .ref a4, .ref a5, .int n0_6, .int n0_7, .int n0_8, .int n0_9, .int n0_10, .long l0_11, .int n0_12, .int n0_13, .int n0_14, .int n0_15, .ref a6, .ref a7, .ref a8, .ref a9, .ref a10, .ref a11, .ref a12, .ref a13, .int n0_24, .int n0_25, .int n0_26, .int n0_27, .ref a14, .int n0_29, .int n0_30])), (a7, .inl (ct 0, 15, .inl f7)), (a8, .inl (ct 0, 200, .inl f8))])) (roQ (fun r => True)) 0 0 no := by
  refine Met.ofW (cc := cX11_readable) (maxL := 2) (ret := (some .int)) (by decide) rfl ?_
  intro p e s m args below meth c s₁ B hml hv
  obtain ⟨rfl, hP, hK⟩ := hv
  have hx := B.exec
  have hb := B.bytes
  have hr := B.returns
  have hts := atoms_spec (ws := wsX11_readable) B.pre
  have hown : s.vm.findClass RX11 = some m.cls := findClass_of_methodNamed B.named
  have hlocks := B.notSynchronized
  have hS : va_S no s.heap s.heap [] := va_S.rf
  have hl := lv_entry ([.ref a0, .int p0]) (n := 2) (Nat.le_of_ble_eq_true rfl)
  rw [lg_entry_eq]
  generalize (lg_sl ([.ref a0, .int p0]) ++ List.replicate (2 - (lg_sl ([.ref a0, .int p0])).length) Slot.unset).toArray = ls at hl ⊢
  have hl : lv_has ls 2 [(0, .ref a0), (1, .int p0)] := hl
  refine lv_aload_n hx hb dX11_readable_0 rfl (lv_at hl 0 rfl) ?_
  refine lv_iload_n hx hb dX11_readable_1 rfl (lv_at hl 1 rfl) ?_
  refine lv_iconst (v := 4) hx hb dX11_readable_2 (by decide) ?_
  refine ro_calli (va_runV (As := [.int p0, .int 4]) (rest := []) ⟨hx, hb, hml, hown, hts⟩ (a_X11_of4 l G ct a0 n0_0 a1 a2 a3 a4 a5 n0_6 n0_7 n0_8 n0_9 n0_10 l0_11 n0_12 n0_13 n0_14 n0_15 a6 a7 a8 a9 a10 a11 a12 a13 n0_24 n0_25 n0_26 n0_27 a14 n0_29 n0_30 f8 p0 hp_n0_6 hp_f8 hp_p0) (cwV 2 hts gX11_readable_X11_of rfl rfl rfl (by decide +kernel) ⟨Nat.le_of_ble_eq_true rfl, Nat.le_of_ble_eq_true rfl⟩) (ro_preV 11 0 hK (hP.sub [0, 2] rfl) rfl rfl) rfl rfl hl.1 rfl (lv_room (Nat.le_of_ble_eq_true rfl)) dX11_readable_3 ⟨Nat.zero_le _, Nat.zero_le _⟩) hS hP (fun r3 H locs wr3 hP hS => ?_)
  refine lv_iconst (v := 1) hx hb dX11_readable_6 (by decide) ?_
  refine lv_icmp_ne (tgt := 14) hx hb dX11_readable_7 (by decide) (fun c7 => ?_) (fun c7 => ?_)
  · refine lv_aload_n hx hb dX11_readable_14 rfl (lv_at hl 0 rfl) ?_
    refine va_get (D := G) (ci := 11) (v := .ref a7) (C := RX11) (T := TX11) (N := 31) hx hb hts (by decide +kernel) hown hK.1 hP 0 rfl rfl 17 (by decide) (hts (.fieldLink RX11 34 "CardHolderModel" "has" "[I") (by decide +kernel)) (fun _ h9 => h9) rfl dX11_readable_15 ?_
    refine lv_iconst (v := 0) hx hb dX11_readable_18 (by decide) ?_
    refine va_iald hx hb hK.1 hP 1 0 rfl rfl (in_lit (by decide)) dX11_readable_19 ?_
    refine lv_topi (fun z19 gz19 => ?_)
    exact W.iret (v := z19) hx hb hr (fun t ht hW => ⟨⟨z19, (), rfl, trivial, trivial⟩, hS.F ht⟩) hS.2.2 dX11_readable_20
  · have h_1 : rg 1 1 r3 := r_eq_l_i (e := 1) (f := 1) c7 (rg_t r3) (rgn 1 (x := 1) (by decide)) (by decide)
    refine lv_iconst (v := 1) hx hb dX11_readable_10 (by decide) ?_
    refine lv_goto (tgt := 20) hx hb dX11_readable_11 (by decide) ?_
    exact W.iret (v := 1) hx hb hr (fun t ht hW => ⟨⟨1, (), rfl, trivial, trivial⟩, hS.F ht⟩) hS.2.2 dX11_readable_20

set_option maxHeartbeats 4000000 in
set_option maxRecDepth 100000 in
theorem a_X11_isAsked (l : Launch) (G : va_G) (ct : Nat → ClassId) (a0 : Nat) (n0_0 : Int32) (a1 : Nat) (a2 : Nat) (a3 : Nat) (a4 : Nat) (a5 : Nat) (n0_6 : Int32) (n0_7 : Int32) (n0_8 : Int32) (n0_9 : Int32) (n0_10 : Int32) (l0_11 : Int64) (n0_12 : Int32) (n0_13 : Int32) (n0_14 : Int32) (n0_15 : Int32) (a6 : Nat) (a7 : Nat) (a8 : Nat) (a9 : Nat) (a10 : Nat) (a11 : Nat) (a12 : Nat) (a13 : Nat) (n0_24 : Int32) (n0_25 : Int32) (n0_26 : Int32) (n0_27 : Int32) (a14 : Nat) (n0_29 : Int32) (n0_30 : Int32) (f7 : Nat → Int32) (f8 : Nat → Int32) (f11 : Nat → Int32) (f12 : Nat → Int32) (p0 : Int32) (hp_n0_6 : rg 0 900 n0_6) (hp_f7 : hsI f7) (hp_f8 : psI f8) (hp_f11 : ar (-1) 7 f11) (hp_p0 : rg 0 7 p0) : Met l yX11_isAsked wsX11_isAsked ({ frames := 2, cells := 0, slots := 0, locals := 43 }) (va_Pc [.ref a0, .int p0] (wrP G ct [(a0, .inr (11, [.int n0_0, .ref a1, .ref a2, .ref a3, .ref a4, .ref a5, .int n0_6, .int n0_7, .int n0_8, .int n0_9, .int n0_10, .long l0_11, .int n0_12, .int n0_13, .int n0_14, .int n0_15, .ref a6, .ref a7, .ref a8, .ref a9, .ref a10, .ref a11, .ref a12, .ref a13, .int n0_24, .int n0_25, .int n0_26, .int n0_27, .ref a14, .int n0_29, .int n0_30])), (a7, .inl (ct 0, 15, .inl f7)), (a8, .inl (ct 0, 200, .inl f8)), (a11, .inl (ct 0, 8, .inl f11)), (a12, .inl (ct 0, 8, .inl f12))])) (va_Qv (fun u : SU => ar (-1) 7 (u.2.1 0) ∧ True) (fun u t => va_P G vwCl ((fun u : SU => [(a0, .inr (11, [.int n0_0, .ref a1, .ref a2, .ref a3, .ref a4, .ref a5, .int n0_6, .int n0_7, .int n0_8, .int n0_9, .int n0_10, .long l0_11, .int n0_12, .int n0_13, .int n0_14, .int n0_15, .ref a6, .ref a7, .ref a8, .ref a9, .ref a10, .ref a11, .ref a12, .ref a13, .int (u.1 0), .int n0_25, .int n0_26, .int n0_27, .ref a14, .int n0_29, .int n0_30])), (a7, .inl (ct 0, 15, .inl f7)), (a8, .inl (ct 0, 200, .inl f8)), (a11, .inl (ct 0, 8, .inl (u.2.1 0))), (a12, .inl (ct 0, 8, .inl (u.2.1 1)))]) u) t.heap) (aset [(a0, .inr (11, [.int n0_0, .ref a1, .ref a2, .ref a3, .ref a4, .ref a5, .int n0_6, .int n0_7, .int n0_8, .int n0_9, .int n0_10, .long l0_11, .int n0_12, .int n0_13, .int n0_14, .int n0_15, .ref a6, .ref a7, .ref a8, .ref a9, .ref a10, .ref a11, .ref a12, .ref a13, .int n0_24, .int n0_25, .int n0_26, .int n0_27, .ref a14, .int n0_29, .int n0_30])), (a7, .inl (ct 0, 15, .inl f7)), (a8, .inl (ct 0, 200, .inl f8)), (a11, .inl (ct 0, 8, .inl f11)), (a12, .inl (ct 0, 8, .inl f12))])) 0 0 (aset [(a0, .inr (11, [.int n0_0, .ref a1, .ref a2, .ref a3, .ref a4, .ref a5, .int n0_6, .int n0_7, .int n0_8, .int n0_9, .int n0_10, .long l0_11, .int n0_12, .int n0_13, .int n0_14, .int n0_15, .ref a6, .ref a7, .ref a8, .ref a9, .ref a10, .ref a11, .ref a12, .ref a13, .int n0_24, .int n0_25, .int n0_26, .int n0_27, .ref a14, .int n0_29, .int n0_30])), (a7, .inl (ct 0, 15, .inl f7)), (a8, .inl (ct 0, 200, .inl f8)), (a11, .inl (ct 0, 8, .inl f11)), (a12, .inl (ct 0, 8, .inl f12))]) := by
  refine Met.ofW (cc := cX11_isAsked) (maxL := 2) (ret := none) (by decide) rfl ?_
  intro p e s m args below meth c s₁ B hml hv
  obtain ⟨rfl, hP, hK, hD0⟩ := hv
  have hx := B.exec
  have hb := B.bytes
  have hr := B.returns
  have hts := atoms_spec (ws := wsX11_isAsked) B.pre
  have hown : s.vm.findClass RX11 = some m.cls := findClass_of_methodNamed B.named
  have hlocks := B.notSynchronized
  have hD := hD0.aself
  generalize hAe : aset [(a0, .inr (11, [.int n0_0, .ref a1, .ref a2, .ref a3, .ref a4, .ref a5, .int n0_6, .int n0_7, .int n0_8, .int n0_9, .int n0_10, .long l0_11, .int n0_12, .int n0_13, .int n0_14, .int n0_15, .ref a6, .ref a7, .ref a8, .ref a9, .ref a10, .ref a11, .ref a12, .ref a13, .int n0_24, .int n0_25, .int n0_26, .int n0_27, .ref a14, .int n0_29, .int n0_30])), (a7, .inl (ct 0, 15, .inl f7)), (a8, .inl (ct 0, 200, .inl f8)), (a11, .inl (ct 0, 8, .inl f11)), (a12, .inl (ct 0, 8, .inl f12))] = A at hD ⊢
  have hS : va_S A s.heap s.heap [] := va_S.rf
  have hl := lv_entry ([.ref a0, .int p0]) (n := 2) (Nat.le_of_ble_eq_true rfl)
  rw [lg_entry_eq]
  generalize (lg_sl ([.ref a0, .int p0]) ++ List.replicate (2 - (lg_sl ([.ref a0, .int p0])).length) Slot.unset).toArray = ls at hl ⊢
  have hl : lv_has ls 2 [(0, .ref a0), (1, .int p0)] := hl
  refine lv_aload_n hx hb dX11_isAsked_0 rfl (lv_at hl 0 rfl) ?_
  refine lv_dup hx hb dX11_isAsked_1 rfl ?_
  refine va_get (D := G) (ci := 11) (v := .int n0_24) (C := RX11) (T := TX11) (N := 31) hx hb hts (by decide +kernel) hown hK.1 hP 0 rfl rfl 24 (by decide) (hts (.fieldLink RX11 217 "CardHolderModel" "asked" "I") (by decide +kernel)) (fun _ h9 => h9) rfl dX11_isAsked_2 ?_
  refine lv_iconst (v := 1) hx hb dX11_isAsked_5 (by decide) ?_
  refine lv_iload_n hx hb dX11_isAsked_6 rfl (lv_at hl 1 rfl) ?_
  refine lv_ishl hx hb dX11_isAsked_7 ?_
  refine nm_shl (e1 := 1) (f := 128) hp_p0 (by decide) (fun z7 hz7 => ?_)
  refine lv_ior hx hb dX11_isAsked_8 ?_
  refine nm_0 (fun z8 => ?_)
  refine va_put (D := G) (ci := 11) (v := .int z8) (ty := .int) (C := RX11) (T := TX11) (N := 31) hx hb hts (by decide +kernel) tyX11 tyX11_ok nmX11 hown hK.1 hP hD hS 0 rfl rfl 24 (by decide) (hts (.fieldLink RX11 217 "CardHolderModel" "asked" "I") (by decide +kernel)) (fun _ h9 => h9) rfl (by decide +kernel) rfl rfl (Nat.le_of_ble_eq_true rfl) dX11_isAsked_9 (fun H locs hP hD hS => ?_)
  refine lv_aload_n hx hb dX11_isAsked_12 rfl (lv_at hl 0 rfl) ?_
  refine va_get (D := G) (ci := 11) (v := .ref a12) (C := RX11) (T := TX11) (N := 31) hx hb hts (by decide +kernel) hown hK.1 hP 0 rfl rfl 22 (by decide) (hts (.fieldLink RX11 50 "CardHolderModel" "worn" "[I") (by decide +kernel)) (fun _ h9 => h9) rfl dX11_isAsked_13 ?_
  refine lv_iload_n hx hb dX11_isAsked_16 rfl (lv_at hl 1 rfl) ?_
  refine lv_dup2_11 hx hb dX11_isAsked_17 rfl rfl ?_
  refine va_iald hx hb hK.1 hP 4 0 rfl rfl (in_rg hp_p0 (by decide)) dX11_isAsked_18 ?_
  refine lv_topi (fun z18 gz18 => ?_)
  refine lv_iconst (v := 1) hx hb dX11_isAsked_19 (by decide) ?_
  refine lv_iadd hx hb dX11_isAsked_20 ?_
  refine nm_0 (fun z20 => ?_)
  refine va_iast hx hb hK.1 hP hD hS 4 0 rfl rfl (in_rg hp_p0 (by decide)) dX11_isAsked_21 (fun H locs hP hD hS => ?_)
  refine lv_aload_n hx hb dX11_isAsked_22 rfl (lv_at hl 0 rfl) ?_
  refine va_get (D := G) (ci := 11) (v := .ref a12) (C := RX11) (T := TX11) (N := 31) hx hb hts (by decide +kernel) hown hK.1 hP 0 rfl rfl 22 (by decide) (hts (.fieldLink RX11 50 "CardHolderModel" "worn" "[I") (by decide +kernel)) (fun _ h9 => h9) rfl dX11_isAsked_23 ?_
  refine lv_iload_n hx hb dX11_isAsked_26 rfl (lv_at hl 1 rfl) ?_
  refine va_iald hx hb hK.1 hP 4 0 rfl rfl (in_rg hp_p0 (by decide)) dX11_isAsked_27 ?_
  refine lv_topi (fun z27 gz27 => ?_)
  refine lv_aload_n hx hb dX11_isAsked_28 rfl (lv_at hl 0 rfl) ?_
  refine lv_iload_n hx hb dX11_isAsked_29 rfl (lv_at hl 1 rfl) ?_
  refine ro_calli (va_runV (As := [.int p0]) (rest := [.int z27]) ⟨hx, hb, hml, hown, hts⟩ (a_X11_readable l G ct a0 n0_0 a1 a2 a3 a4 a5 n0_6 n0_7 n0_8 n0_9 n0_10 l0_11 n0_12 n0_13 n0_14 n0_15 a6 a7 a8 a9 a10 a11 a12 a13 z8 n0_25 n0_26 n0_27 a14 n0_29 n0_30 f7 f8 p0 hp_n0_6 hp_f7 hp_f8 hp_p0) (cwV 1 hts gX11_isAsked_X11_readable rfl rfl rfl (by decide +kernel) ⟨Nat.le_of_ble_eq_true rfl, Nat.le_of_ble_eq_true rfl⟩) (ro_preV 11 0 hK (hP.sub [0, 1, 2] rfl) rfl rfl) rfl rfl hl.1 rfl (lv_room (Nat.le_of_ble_eq_true rfl)) dX11_isAsked_30 ⟨Nat.zero_le _, Nat.zero_le _⟩) hS hP (fun r30 H locs wr30 hP hS => ?_)
  refine lv_icmp_lt (tgt := 43) hx hb dX11_isAsked_33 (by decide) (fun c33 => ?_) (fun c33 => ?_)
  · have h_1 : rg (-2147483648) 2147483646 z27 := r_lt_l_i c33 (rg_t z27) (rg_t r30) (by decide)
    have h_2 : rg (-2147483647) 2147483647 r30 := r_lt_r_i c33 (rg_t z27) (rg_t r30) (by decide)
    exact W.vret hx hb hr (fun t ht hW => ⟨⟨(fun k => ([z8] : List Int32).getD k 0, fun k => ([f11, upd f12 p0.toNatClampNeg z20] : List (Nat → Int32)).getD k (fun _ => 0), fun k => ([] : List (Nat → Int64)).getD k (fun _ => 0)), rfl, ⟨hp_f11, trivial⟩, hp_at ht hP⟩, hS.F ht⟩) hS.2.2 dX11_isAsked_43
  · refine lv_aload_n hx hb dX11_isAsked_36 rfl (lv_at hl 0 rfl) ?_
    refine va_get (D := G) (ci := 11) (v := .ref a11) (C := RX11) (T := TX11) (N := 31) hx hb hts (by decide +kernel) hown hK.1 hP 0 rfl rfl 21 (by decide) (hts (.fieldLink RX11 47 "CardHolderModel" "holder" "[I") (by decide +kernel)) (fun _ h9 => h9) rfl dX11_isAsked_37 ?_
    refine lv_iload_n hx hb dX11_isAsked_40 rfl (lv_at hl 1 rfl) ?_
    refine lv_iconst (v := (-1)) hx hb dX11_isAsked_41 (by decide) ?_
    refine va_iast hx hb hK.1 hP hD hS 3 0 rfl rfl (in_rg hp_p0 (by decide)) dX11_isAsked_42 (fun H locs hP hD hS => ?_)
    have h_3 : ar (-1) 7 (upd f11 p0.toNatClampNeg (-1)) := ar_u hp_f11 (rg_w (c := (-1)) (d := 7) (rgn (-1) (x := (-1)) (by decide)) (by decide))
    exact W.vret hx hb hr (fun t ht hW => ⟨⟨(fun k => ([z8] : List Int32).getD k 0, fun k => ([upd f11 p0.toNatClampNeg (-1), upd f12 p0.toNatClampNeg z20] : List (Nat → Int32)).getD k (fun _ => 0), fun k => ([] : List (Nat → Int64)).getD k (fun _ => 0)), rfl, ⟨h_3, trivial⟩, hp_at ht hP⟩, hS.F ht⟩) hS.2.2 dX11_isAsked_43

set_option maxHeartbeats 4000000 in
set_option maxRecDepth 100000 in
theorem a_X11_dayEnds (l : Launch) (G : va_G) (ct : Nat → ClassId) (a0 : Nat) (n0_0 : Int32) (a1 : Nat) (a2 : Nat) (a3 : Nat) (a4 : Nat) (a5 : Nat) (n0_6 : Int32) (n0_7 : Int32) (n0_8 : Int32) (n0_9 : Int32) (n0_10 : Int32) (l0_11 : Int64) (n0_12 : Int32) (n0_13 : Int32) (n0_14 : Int32) (n0_15 : Int32) (a6 : Nat) (a7 : Nat) (a8 : Nat) (a9 : Nat) (a10 : Nat) (a11 : Nat) (a12 : Nat) (a13 : Nat) (n0_24 : Int32) (n0_25 : Int32) (n0_26 : Int32) (n0_27 : Int32) (a14 : Nat) (n0_29 : Int32) (n0_30 : Int32) (f7 : Nat → Int32) (f11 : Nat → Int32) (f13 : Nat → Int32) (hp_n0_6 : rg 0 900 n0_6) (hp_f7 : hsI f7) (hp_f11 : ar (-1) 7 f11) (hp_f13 : ar (-1) 7 f13) : Met l yX11_dayEnds wsX11_dayEnds ({ frames := 1, cells := 0, slots := 0, locals := 21 }) (va_Pc [.ref a0] (wrP G ct [(a0, .inr (11, [.int n0_0, .ref a1, .ref a2, .ref a3, .ref a4, .ref a5, .int n0_6, .int n0_7, .int n0_8, .int n0_9, .int n0_10, .long l0_11, .int n0_12, .int n0_13, .int n0_14, .int n0_15, .ref a6, .ref a7, .ref a8, .ref a9, .ref a10, .ref a11, .ref a12, .ref a13, .int n0_24, .int n0_25, .int n0_26, .int n0_27, .ref a14, .int n0_29, .int n0_30])), (a7, .inl (ct 0, 15, .inl f7)), (a11, .inl (ct 0, 8, .inl f11)), (a13, .inl (ct 0, 8, .inl f13))])) (va_Qv (fun u : SU => ar (-1) 7 (u.2.1 0) ∧ rg 0 0 (u.1 0) ∧ rg 0 0 (u.1 1) ∧ True) (fun u t => va_P G vwCl ((fun u : SU => [(a0, .inr (11, [.int n0_0, .ref a1, .ref a2, .ref a3, .ref a4, .ref a5, .int n0_6, .int n0_7, .int n0_8, .int n0_9, .int n0_10, .long l0_11, .int n0_12, .int n0_13, .int n0_14, .int n0_15, .ref a6, .ref a7, .ref a8, .ref a9, .ref a10, .ref a11, .ref a12, .ref a13, .int (u.1 0), .int (u.1 1), .int (u.1 2), .int n0_27, .ref a14, .int n0_29, .int n0_30])), (a7, .inl (ct 0, 15, .inl f7)), (a11, .inl (ct 0, 8, .inl (u.2.1 0))), (a13, .inl (ct 0, 8, .inl f13))]) u) t.heap) (aset [(a0, .inr (11, [.int n0_0, .ref a1, .ref a2, .ref a3, .ref a4, .ref a5, .int n0_6, .int n0_7, .int n0_8, .int n0_9, .int n0_10, .long l0_11, .int n0_12, .int n0_13, .int n0_14, .int n0_15, .ref a6, .ref a7, .ref a8, .ref a9, .ref a10, .ref a11, .ref a12, .ref a13, .int n0_24, .int n0_25, .int n0_26, .int n0_27, .ref a14, .int n0_29, .int n0_30])), (a7, .inl (ct 0, 15, .inl f7)), (a11, .inl (ct 0, 8, .inl f11)), (a13, .inl (ct 0, 8, .inl f13))])) 0 0 (aset [(a0, .inr (11, [.int n0_0, .ref a1, .ref a2, .ref a3, .ref a4, .ref a5, .int n0_6, .int n0_7, .int n0_8, .int n0_9, .int n0_10, .long l0_11, .int n0_12, .int n0_13, .int n0_14, .int n0_15, .ref a6, .ref a7, .ref a8, .ref a9, .ref a10, .ref a11, .ref a12, .ref a13, .int n0_24, .int n0_25, .int n0_26, .int n0_27, .ref a14, .int n0_29, .int n0_30])), (a7, .inl (ct 0, 15, .inl f7)), (a11, .inl (ct 0, 8, .inl f11)), (a13, .inl (ct 0, 8, .inl f13))]) := by
  refine Met.ofW (cc := cX11_dayEnds) (maxL := 2) (ret := none) (by decide) rfl ?_
  intro p e s m args below meth c s₁ B hml hv
  obtain ⟨rfl, hP, hK, hD0⟩ := hv
  have hx := B.exec
  have hb := B.bytes
  have hr := B.returns
  have hts := atoms_spec (ws := wsX11_dayEnds) B.pre
  have hown : s.vm.findClass RX11 = some m.cls := findClass_of_methodNamed B.named
  have hlocks := B.notSynchronized
  have hD := hD0.aself
  generalize hAe : aset [(a0, .inr (11, [.int n0_0, .ref a1, .ref a2, .ref a3, .ref a4, .ref a5, .int n0_6, .int n0_7, .int n0_8, .int n0_9, .int n0_10, .long l0_11, .int n0_12, .int n0_13, .int n0_14, .int n0_15, .ref a6, .ref a7, .ref a8, .ref a9, .ref a10, .ref a11, .ref a12, .ref a13, .int n0_24, .int n0_25, .int n0_26, .int n0_27, .ref a14, .int n0_29, .int n0_30])), (a7, .inl (ct 0, 15, .inl f7)), (a11, .inl (ct 0, 8, .inl f11)), (a13, .inl (ct 0, 8, .inl f13))] = A at hD ⊢
  have hS : va_S A s.heap s.heap [] := va_S.rf
  have hl := lv_entry ([.ref a0]) (n := 2) (Nat.le_of_ble_eq_true rfl)
  rw [lg_entry_eq]
  generalize (lg_sl ([.ref a0]) ++ List.replicate (2 - (lg_sl ([.ref a0])).length) Slot.unset).toArray = ls at hl ⊢
  have hl : lv_has ls 2 [(0, .ref a0)] := hl
  refine lv_iconst (v := 0) hx hb dX11_dayEnds_0 (by decide) ?_
  refine lv_istore_n (lv' := [(1, .int 0), (0, .ref a0)]) hx hb dX11_dayEnds_1 rfl hl (by decide) rfl (fun ls hl => ?_)
  have j2 : ∀ (n : Nat) (x2_1 : Int32) (f2_2 : Nat → Int32) (H : Heap) (locs : List Loc) (ls : Array Slot), 2147483648 ≤ x2_1.toInt + (n : Int) → rg 0 8 x2_1 → ar (-1) 7 f2_2 → va_P G vwCl [(a0, .inr (11, [.int n0_0, .ref a1, .ref a2, .ref a3, .ref a4, .ref a5, .int n0_6, .int n0_7, .int n0_8, .int n0_9, .int n0_10, .long l0_11, .int n0_12, .int n0_13, .int n0_14, .int n0_15, .ref a6, .ref a7, .ref a8, .ref a9, .ref a10, .ref a11, .ref a12, .ref a13, .int n0_24, .int n0_25, .int n0_26, .int n0_27, .ref a14, .int n0_29, .int n0_30])), (a7, .inl (ct 0, 15, .inl f7)), (a11, .inl (ct 0, 8, .inl f2_2)), (a13, .inl (ct 0, 8, .inl f13))] H → va_D A [(a0, .inr (11, [.int n0_0, .ref a1, .ref a2, .ref a3, .ref a4, .ref a5, .int n0_6, .int n0_7, .int n0_8, .int n0_9, .int n0_10, .long l0_11, .int n0_12, .int n0_13, .int n0_14, .int n0_15, .ref a6, .ref a7, .ref a8, .ref a9, .ref a10, .ref a11, .ref a12, .ref a13, .int n0_24, .int n0_25, .int n0_26, .int n0_27, .ref a14, .int n0_29, .int n0_30])), (a7, .inl (ct 0, 15, .inl f7)), (a11, .inl (ct 0, 8, .inl f2_2)), (a13, .inl (ct 0, 8, .inl f13))] → va_S A s.heap H locs → lv_has ls 2 [(0, .ref a0), (1, .int x2_1)] → W p l e (headSpec wsX11_dayEnds ({ frames := 1, cells := 0, slots := 0, locals := 21 })).room s m ([.ref a0] : List Value).toArray below meth c H locs 0 0 (MQ below (va_Qv (fun u : SU => ar (-1) 7 (u.2.1 0) ∧ rg 0 0 (u.1 0) ∧ rg 0 0 (u.1 1) ∧ True) (fun u t => va_P G vwCl ((fun u : SU => [(a0, .inr (11, [.int n0_0, .ref a1, .ref a2, .ref a3, .ref a4, .ref a5, .int n0_6, .int n0_7, .int n0_8, .int n0_9, .int n0_10, .long l0_11, .int n0_12, .int n0_13, .int n0_14, .int n0_15, .ref a6, .ref a7, .ref a8, .ref a9, .ref a10, .ref a11, .ref a12, .ref a13, .int (u.1 0), .int (u.1 1), .int (u.1 2), .int n0_27, .ref a14, .int n0_29, .int n0_30])), (a7, .inl (ct 0, 15, .inl f7)), (a11, .inl (ct 0, 8, .inl (u.2.1 0))), (a13, .inl (ct 0, 8, .inl f13))]) u) t.heap) A) ([.ref a0] : List Value).toArray s 0 0 A) (F0 m 2 ls []) := by
    intro n
    induction n with
    | zero => intro x2_1 f2_2 H locs ls hn2 hx2_1 hf2_2 hP hD hS hl; exact absurd hn2 (by have := Int32.toInt_lt x2_1; have := Int32.le_toInt x2_1; omega)
    | succ n ih2 =>
      intro x2_1 f2_2 H locs ls hn2 hx2_1 hf2_2 hP hD hS hl
      refine lv_iload_n hx hb dX11_dayEnds_2 rfl (lv_at hl 1 rfl) ?_
      refine lv_aload_n hx hb dX11_dayEnds_3 rfl (lv_at hl 0 rfl) ?_
      refine va_get (D := G) (ci := 11) (v := .ref a7) (C := RX11) (T := TX11) (N := 31) hx hb hts (by decide +kernel) hown hK.1 hP 0 rfl rfl 17 (by decide) (hts (.fieldLink RX11 34 "CardHolderModel" "has" "[I") (by decide +kernel)) (fun _ h9 => h9) rfl dX11_dayEnds_4 ?_
      refine lv_iconst (v := 1) hx hb dX11_dayEnds_7 (by decide) ?_
      refine va_iald hx hb hK.1 hP 1 0 rfl rfl (in_lit (by decide)) dX11_dayEnds_8 ?_
      refine lv_topi (fun z8 gz8 => ?_)
      have hz8 : rg 0 8 z8 := by rw [gz8]; exact (hp_f7.1 0)
      refine lv_icmp_ge (tgt := 51) hx hb dX11_dayEnds_9 (by decide) (fun c9 => ?_) (fun c9 => ?_)
      · refine lv_aload_n hx hb dX11_dayEnds_51 rfl (lv_at hl 0 rfl) ?_
        refine lv_iconst (v := 0) hx hb dX11_dayEnds_52 (by decide) ?_
        refine va_put (D := G) (ci := 11) (v := .int 0) (ty := .int) (C := RX11) (T := TX11) (N := 31) hx hb hts (by decide +kernel) tyX11 tyX11_ok nmX11 hown hK.1 hP hD hS 0 rfl rfl 25 (by decide) (hts (.fieldLink RX11 220 "CardHolderModel" "stolen" "I") (by decide +kernel)) (fun _ h9 => h9) rfl (by decide +kernel) rfl rfl (Nat.le_of_ble_eq_true rfl) dX11_dayEnds_53 (fun H locs hP hD hS => ?_)
        refine lv_aload_n hx hb dX11_dayEnds_56 rfl (lv_at hl 0 rfl) ?_
        refine lv_iconst (v := 0) hx hb dX11_dayEnds_57 (by decide) ?_
        refine va_put (D := G) (ci := 11) (v := .int 0) (ty := .int) (C := RX11) (T := TX11) (N := 31) hx hb hts (by decide +kernel) tyX11 tyX11_ok nmX11 hown hK.1 hP hD hS 0 rfl rfl 24 (by decide) (hts (.fieldLink RX11 217 "CardHolderModel" "asked" "I") (by decide +kernel)) (fun _ h9 => h9) rfl (by decide +kernel) rfl rfl (Nat.le_of_ble_eq_true rfl) dX11_dayEnds_58 (fun H locs hP hD hS => ?_)
        refine lv_aload_n hx hb dX11_dayEnds_61 rfl (lv_at hl 0 rfl) ?_
        refine lv_dup hx hb dX11_dayEnds_62 rfl ?_
        refine va_get (D := G) (ci := 11) (v := .int n0_26) (C := RX11) (T := TX11) (N := 31) hx hb hts (by decide +kernel) hown hK.1 hP 0 rfl rfl 26 (by decide) (hts (.fieldLink RX11 223 "CardHolderModel" "dayNow" "I") (by decide +kernel)) (fun _ h9 => h9) rfl dX11_dayEnds_63 ?_
        refine lv_iconst (v := 1) hx hb dX11_dayEnds_66 (by decide) ?_
        refine lv_iadd hx hb dX11_dayEnds_67 ?_
        refine nm_0 (fun z67 => ?_)
        refine va_put (D := G) (ci := 11) (v := .int z67) (ty := .int) (C := RX11) (T := TX11) (N := 31) hx hb hts (by decide +kernel) tyX11 tyX11_ok nmX11 hown hK.1 hP hD hS 0 rfl rfl 26 (by decide) (hts (.fieldLink RX11 223 "CardHolderModel" "dayNow" "I") (by decide +kernel)) (fun _ h9 => h9) rfl (by decide +kernel) rfl rfl (Nat.le_of_ble_eq_true rfl) dX11_dayEnds_68 (fun H locs hP hD hS => ?_)
        exact W.vret hx hb hr (fun t ht hW => ⟨⟨(fun k => ([0, 0, z67] : List Int32).getD k 0, fun k => ([f2_2] : List (Nat → Int32)).getD k (fun _ => 0), fun k => ([] : List (Nat → Int64)).getD k (fun _ => 0)), rfl, ⟨hf2_2, (rgn 0 (x := 0) (by decide)), (rgn 0 (x := 0) (by decide)), trivial⟩, hp_at ht hP⟩, hS.F ht⟩) hS.2.2 dX11_dayEnds_71
      · have h_1 : rg 0 7 x2_1 := r_lt_l_i (nle_i c9) hx2_1 hz8 (by decide)
        have h_2 : rg 1 8 z8 := r_lt_r_i (nle_i c9) hx2_1 hz8 (by decide)
        refine lv_aload_n hx hb dX11_dayEnds_12 rfl (lv_at hl 0 rfl) ?_
        refine va_get (D := G) (ci := 11) (v := .int n0_25) (C := RX11) (T := TX11) (N := 31) hx hb hts (by decide +kernel) hown hK.1 hP 0 rfl rfl 25 (by decide) (hts (.fieldLink RX11 220 "CardHolderModel" "stolen" "I") (by decide +kernel)) (fun _ h9 => h9) rfl dX11_dayEnds_13 ?_
        refine lv_iload_n hx hb dX11_dayEnds_16 rfl (lv_at hl 1 rfl) ?_
        refine ro_calli (va_runS (As := [.int n0_25, .int x2_1]) (rest := []) ⟨hx, hb, hml, hown, hts⟩ (a_X11_isBit l G ct n0_25 x2_1) (va_cwS 2 hts gX11_dayEnds_X11_isBit rfl rfl rfl (by decide +kernel) ⟨Nat.le_of_ble_eq_true rfl, Nat.le_of_ble_eq_true rfl⟩) (ro_pre hK (hP.sub [] rfl)) rfl rfl hl.1 rfl (lv_room (Nat.le_of_ble_eq_true rfl)) dX11_dayEnds_17 ⟨Nat.zero_le _, Nat.zero_le _⟩) hS hP (fun r17 H locs wr17 hP hS => ?_)
        obtain ⟨p_3, -⟩ := wr17
        have j45 : ∀ (f45_2 : Nat → Int32) (H : Heap) (locs : List Loc) (ls : Array Slot), ar (-1) 7 f45_2 → va_P G vwCl [(a0, .inr (11, [.int n0_0, .ref a1, .ref a2, .ref a3, .ref a4, .ref a5, .int n0_6, .int n0_7, .int n0_8, .int n0_9, .int n0_10, .long l0_11, .int n0_12, .int n0_13, .int n0_14, .int n0_15, .ref a6, .ref a7, .ref a8, .ref a9, .ref a10, .ref a11, .ref a12, .ref a13, .int n0_24, .int n0_25, .int n0_26, .int n0_27, .ref a14, .int n0_29, .int n0_30])), (a7, .inl (ct 0, 15, .inl f7)), (a11, .inl (ct 0, 8, .inl f45_2)), (a13, .inl (ct 0, 8, .inl f13))] H → va_D A [(a0, .inr (11, [.int n0_0, .ref a1, .ref a2, .ref a3, .ref a4, .ref a5, .int n0_6, .int n0_7, .int n0_8, .int n0_9, .int n0_10, .long l0_11, .int n0_12, .int n0_13, .int n0_14, .int n0_15, .ref a6, .ref a7, .ref a8, .ref a9, .ref a10, .ref a11, .ref a12, .ref a13, .int n0_24, .int n0_25, .int n0_26, .int n0_27, .ref a14, .int n0_29, .int n0_30])), (a7, .inl (ct 0, 15, .inl f7)), (a11, .inl (ct 0, 8, .inl f45_2)), (a13, .inl (ct 0, 8, .inl f13))] → va_S A s.heap H locs → lv_has ls 2 [(0, .ref a0), (1, .int x2_1)] → W p l e (headSpec wsX11_dayEnds ({ frames := 1, cells := 0, slots := 0, locals := 21 })).room s m ([.ref a0] : List Value).toArray below meth c H locs 0 0 (MQ below (va_Qv (fun u : SU => ar (-1) 7 (u.2.1 0) ∧ rg 0 0 (u.1 0) ∧ rg 0 0 (u.1 1) ∧ True) (fun u t => va_P G vwCl ((fun u : SU => [(a0, .inr (11, [.int n0_0, .ref a1, .ref a2, .ref a3, .ref a4, .ref a5, .int n0_6, .int n0_7, .int n0_8, .int n0_9, .int n0_10, .long l0_11, .int n0_12, .int n0_13, .int n0_14, .int n0_15, .ref a6, .ref a7, .ref a8, .ref a9, .ref a10, .ref a11, .ref a12, .ref a13, .int (u.1 0), .int (u.1 1), .int (u.1 2), .int n0_27, .ref a14, .int n0_29, .int n0_30])), (a7, .inl (ct 0, 15, .inl f7)), (a11, .inl (ct 0, 8, .inl (u.2.1 0))), (a13, .inl (ct 0, 8, .inl f13))]) u) t.heap) A) ([.ref a0] : List Value).toArray s 0 0 A) (F0 m 45 ls []) := by
          intro f45_2 H locs ls hf45_2 hP hD hS hl
          obtain ⟨z45, qz45⟩ : ∃ y : Int32, y = x2_1 + Int32.ofInt 1 := ⟨_, rfl⟩
          obtain ⟨hz45, ez45⟩ := inc_z (e := 1) (f := 8) h_1 qz45 (by decide)
          refine lv_iinc (v := z45) (lv' := [(1, .int z45), (0, .ref a0)]) hx hb dX11_dayEnds_45 hl (k := 1) rfl (qz45.symm) (by decide) rfl (fun ls hl => ?_)
          refine lv_goto (tgt := 2) hx hb dX11_dayEnds_48 (by decide) ?_
          exact ih2 z45 f45_2 _ _ ls (by have q := hn2; have := ez45; omega) (rg_w (c := 0) (d := 8) hz45 (by decide)) hf45_2 hP hD hS (lv_sub hl [1, 0] rfl)
        refine lv_if_eq (tgt := 45) hx hb dX11_dayEnds_20 (by decide) (fun c20 => ?_) (fun c20 => ?_)
        · have h_4 : rg 0 0 r17 := r_eq_l_i (e := 0) (f := 0) c20 p_3 (rgn 0 (x := 0) (by decide)) (by decide)
          exact j45 f2_2 _ _ ls hf2_2 hP hD hS (lv_sub hl [0, 1] rfl)
        · have h_5 : rg 1 1 r17 := r_ne_lo_i c20 p_3 (by decide) (by decide)
          refine lv_aload_n hx hb dX11_dayEnds_23 rfl (lv_at hl 0 rfl) ?_
          refine va_get (D := G) (ci := 11) (v := .ref a11) (C := RX11) (T := TX11) (N := 31) hx hb hts (by decide +kernel) hown hK.1 hP 0 rfl rfl 21 (by decide) (hts (.fieldLink RX11 47 "CardHolderModel" "holder" "[I") (by decide +kernel)) (fun _ h9 => h9) rfl dX11_dayEnds_24 ?_
          refine lv_iload_n hx hb dX11_dayEnds_27 rfl (lv_at hl 1 rfl) ?_
          refine va_iald hx hb hK.1 hP 2 0 rfl rfl (in_rg h_1 (by decide)) dX11_dayEnds_28 ?_
          refine lv_topi (fun z28 gz28 => ?_)
          have hz28 : rg (-1) 7 z28 := by rw [gz28]; exact hf2_2 _
          refine lv_iconst (v := (-1)) hx hb dX11_dayEnds_29 (by decide) ?_
          refine lv_icmp_eq (tgt := 45) hx hb dX11_dayEnds_30 (by decide) (fun c30 => ?_) (fun c30 => ?_)
          · have h_6 : rg (-1) (-1) z28 := r_eq_l_i (e := (-1)) (f := (-1)) c30 hz28 (rgn (-1) (x := (-1)) (by decide)) (by decide)
            exact j45 f2_2 _ _ ls hf2_2 hP hD hS (lv_sub hl [0, 1] rfl)
          · have h_7 : rg 0 7 z28 := r_ne_lo_i c30 hz28 (by decide) (by decide)
            refine lv_aload_n hx hb dX11_dayEnds_33 rfl (lv_at hl 0 rfl) ?_
            refine va_get (D := G) (ci := 11) (v := .ref a11) (C := RX11) (T := TX11) (N := 31) hx hb hts (by decide +kernel) hown hK.1 hP 0 rfl rfl 21 (by decide) (hts (.fieldLink RX11 47 "CardHolderModel" "holder" "[I") (by decide +kernel)) (fun _ h9 => h9) rfl dX11_dayEnds_34 ?_
            refine lv_iload_n hx hb dX11_dayEnds_37 rfl (lv_at hl 1 rfl) ?_
            refine lv_aload_n hx hb dX11_dayEnds_38 rfl (lv_at hl 0 rfl) ?_
            refine va_get (D := G) (ci := 11) (v := .ref a13) (C := RX11) (T := TX11) (N := 31) hx hb hts (by decide +kernel) hown hK.1 hP 0 rfl rfl 23 (by decide) (hts (.fieldLink RX11 53 "CardHolderModel" "had" "[I") (by decide +kernel)) (fun _ h9 => h9) rfl dX11_dayEnds_39 ?_
            refine lv_iload_n hx hb dX11_dayEnds_42 rfl (lv_at hl 1 rfl) ?_
            refine va_iald hx hb hK.1 hP 3 0 rfl rfl (in_rg h_1 (by decide)) dX11_dayEnds_43 ?_
            refine lv_topi (fun z43 gz43 => ?_)
            have hz43 : rg (-1) 7 z43 := by rw [gz43]; exact hp_f13 _
            refine va_iast hx hb hK.1 hP hD hS 2 0 rfl rfl (in_rg h_1 (by decide)) dX11_dayEnds_44 (fun H locs hP hD hS => ?_)
            have h_8 : ar (-1) 7 (upd f2_2 x2_1.toNatClampNeg z43) := ar_u hf2_2 hz43
            exact j45 (upd f2_2 x2_1.toNatClampNeg z43) _ _ ls h_8 hP hD hS (lv_sub hl [0, 1] rfl)
  exact j2 4294967296 (0 : Int32) f11 _ _ ls (ms_e (0 : Int32)) (rg_w (c := 0) (d := 8) (rgn 0 (x := 0) (by decide)) (by decide)) hp_f11 hP hD hS (lv_sub hl [1, 0] rfl)

set_option maxHeartbeats 4000000 in
set_option maxRecDepth 100000 in
theorem a_X11_start (l : Launch) (G : va_G) (ct : Nat → ClassId) (a0 : Nat) (n0_0 : Int32) (a1 : Nat) (a2 : Nat) (a3 : Nat) (a4 : Nat) (a5 : Nat) (n0_6 : Int32) (n0_7 : Int32) (n0_8 : Int32) (n0_9 : Int32) (n0_10 : Int32) (l0_11 : Int64) (n0_12 : Int32) (n0_13 : Int32) (n0_14 : Int32) (n0_15 : Int32) (a6 : Nat) (a7 : Nat) (a8 : Nat) (a9 : Nat) (a10 : Nat) (a11 : Nat) (a12 : Nat) (a13 : Nat) (n0_24 : Int32) (n0_25 : Int32) (n0_26 : Int32) (n0_27 : Int32) (a14 : Nat) (n0_29 : Int32) (n0_30 : Int32) (f7 : Nat → Int32) (f8 : Nat → Int32) (f11 : Nat → Int32) (f12 : Nat → Int32) (f13 : Nat → Int32) (hp_n0_6 : rg 0 900 n0_6) (hp_f7 : hsI f7) (hp_f8 : psI f8) (hp_f11 : ar (-1) 7 f11) (hp_f13 : ar (-1) 7 f13) : Met l yX11_start wsX11_start ({ frames := 1, cells := 0, slots := 0, locals := 22 }) (va_Pc [.ref a0] (wrP G ct [(a0, .inr (11, [.int n0_0, .ref a1, .ref a2, .ref a3, .ref a4, .ref a5, .int n0_6, .int n0_7, .int n0_8, .int n0_9, .int n0_10, .long l0_11, .int n0_12, .int n0_13, .int n0_14, .int n0_15, .ref a6, .ref a7, .ref a8, .ref a9, .ref a10, .ref a11, .ref a12, .ref a13, .int n0_24, .int n0_25, .int n0_26, .int n0_27, .ref a14, .int n0_29, .int n0_30])), (a7, .inl (ct 0, 15, .inl f7)), (a8, .inl (ct 0, 200, .inl f8)), (a11, .inl (ct 0, 8, .inl f11)), (a12, .inl (ct 0, 8, .inl f12)), (a13, .inl (ct 0, 8, .inl f13))])) (va_Qv (fun u : SU => ar (-1) 7 (u.2.1 0) ∧ ar (-1) 7 (u.2.1 2) ∧ rg 0 0 (u.1 0) ∧ rg 0 0 (u.1 1) ∧ rg 0 0 (u.1 2) ∧ rg 0 0 (u.1 3) ∧ True) (fun u t => va_P G vwCl ((fun u : SU => [(a0, .inr (11, [.int n0_0, .ref a1, .ref a2, .ref a3, .ref a4, .ref a5, .int n0_6, .int n0_7, .int n0_8, .int n0_9, .int n0_10, .long l0_11, .int n0_12, .int n0_13, .int n0_14, .int n0_15, .ref a6, .ref a7, .ref a8, .ref a9, .ref a10, .ref a11, .ref a12, .ref a13, .int (u.1 0), .int (u.1 1), .int (u.1 2), .int (u.1 3), .ref a14, .int n0_29, .int n0_30])), (a7, .inl (ct 0, 15, .inl f7)), (a8, .inl (ct 0, 200, .inl f8)), (a11, .inl (ct 0, 8, .inl (u.2.1 0))), (a12, .inl (ct 0, 8, .inl (u.2.1 1))), (a13, .inl (ct 0, 8, .inl (u.2.1 2)))]) u) t.heap) (aset [(a0, .inr (11, [.int n0_0, .ref a1, .ref a2, .ref a3, .ref a4, .ref a5, .int n0_6, .int n0_7, .int n0_8, .int n0_9, .int n0_10, .long l0_11, .int n0_12, .int n0_13, .int n0_14, .int n0_15, .ref a6, .ref a7, .ref a8, .ref a9, .ref a10, .ref a11, .ref a12, .ref a13, .int n0_24, .int n0_25, .int n0_26, .int n0_27, .ref a14, .int n0_29, .int n0_30])), (a7, .inl (ct 0, 15, .inl f7)), (a8, .inl (ct 0, 200, .inl f8)), (a11, .inl (ct 0, 8, .inl f11)), (a12, .inl (ct 0, 8, .inl f12)), (a13, .inl (ct 0, 8, .inl f13))])) 0 0 (aset [(a0, .inr (11, [.int n0_0, .ref a1, .ref a2, .ref a3, .ref a4, .ref a5, .int n0_6, .int n0_7, .int n0_8, .int n0_9, .int n0_10, .long l0_11, .int n0_12, .int n0_13, .int n0_14, .int n0_15, .ref a6, .ref a7, .ref a8, .ref a9, .ref a10, .ref a11, .ref a12, .ref a13, .int n0_24, .int n0_25, .int n0_26, .int n0_27, .ref a14, .int n0_29, .int n0_30])), (a7, .inl (ct 0, 15, .inl f7)), (a8, .inl (ct 0, 200, .inl f8)), (a11, .inl (ct 0, 8, .inl f11)), (a12, .inl (ct 0, 8, .inl f12)), (a13, .inl (ct 0, 8, .inl f13))]) := by
  refine Met.ofW (cc := cX11_start) (maxL := 2) (ret := none) (by decide) rfl ?_
  intro p e s m args below meth c s₁ B hml hv
  obtain ⟨rfl, hP, hK, hD0⟩ := hv
  have hx := B.exec
  have hb := B.bytes
  have hr := B.returns
  have hts := atoms_spec (ws := wsX11_start) B.pre
  have hown : s.vm.findClass RX11 = some m.cls := findClass_of_methodNamed B.named
  have hlocks := B.notSynchronized
  have hD := hD0.aself
  generalize hAe : aset [(a0, .inr (11, [.int n0_0, .ref a1, .ref a2, .ref a3, .ref a4, .ref a5, .int n0_6, .int n0_7, .int n0_8, .int n0_9, .int n0_10, .long l0_11, .int n0_12, .int n0_13, .int n0_14, .int n0_15, .ref a6, .ref a7, .ref a8, .ref a9, .ref a10, .ref a11, .ref a12, .ref a13, .int n0_24, .int n0_25, .int n0_26, .int n0_27, .ref a14, .int n0_29, .int n0_30])), (a7, .inl (ct 0, 15, .inl f7)), (a8, .inl (ct 0, 200, .inl f8)), (a11, .inl (ct 0, 8, .inl f11)), (a12, .inl (ct 0, 8, .inl f12)), (a13, .inl (ct 0, 8, .inl f13))] = A at hD ⊢
  have hS : va_S A s.heap s.heap [] := va_S.rf
  have hl := lv_entry ([.ref a0]) (n := 2) (Nat.le_of_ble_eq_true rfl)
  rw [lg_entry_eq]
  generalize (lg_sl ([.ref a0]) ++ List.replicate (2 - (lg_sl ([.ref a0])).length) Slot.unset).toArray = ls at hl ⊢
  have hl : lv_has ls 2 [(0, .ref a0)] := hl
  refine lv_iconst (v := 0) hx hb dX11_start_0 (by decide) ?_
  refine lv_istore_n (lv' := [(1, .int 0), (0, .ref a0)]) hx hb dX11_start_1 rfl hl (by decide) rfl (fun ls hl => ?_)
  have j2 : ∀ (n : Nat) (x2_1 : Int32) (f2_3 : Nat → Int32) (f2_4 : Nat → Int32) (f2_5 : Nat → Int32) (H : Heap) (locs : List Loc) (ls : Array Slot), 2147483648 ≤ x2_1.toInt + (n : Int) → rg 0 8 x2_1 → ar (-1) 7 f2_3 → ar (-1) 7 f2_5 → va_P G vwCl [(a0, .inr (11, [.int n0_0, .ref a1, .ref a2, .ref a3, .ref a4, .ref a5, .int n0_6, .int n0_7, .int n0_8, .int n0_9, .int n0_10, .long l0_11, .int n0_12, .int n0_13, .int n0_14, .int n0_15, .ref a6, .ref a7, .ref a8, .ref a9, .ref a10, .ref a11, .ref a12, .ref a13, .int n0_24, .int n0_25, .int n0_26, .int n0_27, .ref a14, .int n0_29, .int n0_30])), (a7, .inl (ct 0, 15, .inl f7)), (a8, .inl (ct 0, 200, .inl f8)), (a11, .inl (ct 0, 8, .inl f2_3)), (a12, .inl (ct 0, 8, .inl f2_4)), (a13, .inl (ct 0, 8, .inl f2_5))] H → va_D A [(a0, .inr (11, [.int n0_0, .ref a1, .ref a2, .ref a3, .ref a4, .ref a5, .int n0_6, .int n0_7, .int n0_8, .int n0_9, .int n0_10, .long l0_11, .int n0_12, .int n0_13, .int n0_14, .int n0_15, .ref a6, .ref a7, .ref a8, .ref a9, .ref a10, .ref a11, .ref a12, .ref a13, .int n0_24, .int n0_25, .int n0_26, .int n0_27, .ref a14, .int n0_29, .int n0_30])), (a7, .inl (ct 0, 15, .inl f7)), (a8, .inl (ct 0, 200, .inl f8)), (a11, .inl (ct 0, 8, .inl f2_3)), (a12, .inl (ct 0, 8, .inl f2_4)), (a13, .inl (ct 0, 8, .inl f2_5))] → va_S A s.heap H locs → lv_has ls 2 [(0, .ref a0), (1, .int x2_1)] → W p l e (headSpec wsX11_start ({ frames := 1, cells := 0, slots := 0, locals := 22 })).room s m ([.ref a0] : List Value).toArray below meth c H locs 0 0 (MQ below (va_Qv (fun u : SU => ar (-1) 7 (u.2.1 0) ∧ ar (-1) 7 (u.2.1 2) ∧ rg 0 0 (u.1 0) ∧ rg 0 0 (u.1 1) ∧ rg 0 0 (u.1 2) ∧ rg 0 0 (u.1 3) ∧ True) (fun u t => va_P G vwCl ((fun u : SU => [(a0, .inr (11, [.int n0_0, .ref a1, .ref a2, .ref a3, .ref a4, .ref a5, .int n0_6, .int n0_7, .int n0_8, .int n0_9, .int n0_10, .long l0_11, .int n0_12, .int n0_13, .int n0_14, .int n0_15, .ref a6, .ref a7, .ref a8, .ref a9, .ref a10, .ref a11, .ref a12, .ref a13, .int (u.1 0), .int (u.1 1), .int (u.1 2), .int (u.1 3), .ref a14, .int n0_29, .int n0_30])), (a7, .inl (ct 0, 15, .inl f7)), (a8, .inl (ct 0, 200, .inl f8)), (a11, .inl (ct 0, 8, .inl (u.2.1 0))), (a12, .inl (ct 0, 8, .inl (u.2.1 1))), (a13, .inl (ct 0, 8, .inl (u.2.1 2)))]) u) t.heap) A) ([.ref a0] : List Value).toArray s 0 0 A) (F0 m 2 ls []) := by
    intro n
    induction n with
    | zero => intro x2_1 f2_3 f2_4 f2_5 H locs ls hn2 hx2_1 hf2_3 hf2_5 hP hD hS hl; exact absurd hn2 (by have := Int32.toInt_lt x2_1; have := Int32.le_toInt x2_1; omega)
    | succ n ih2 =>
      intro x2_1 f2_3 f2_4 f2_5 H locs ls hn2 hx2_1 hf2_3 hf2_5 hP hD hS hl
      refine lv_iload_n hx hb dX11_start_2 rfl (lv_at hl 1 rfl) ?_
      refine lv_aload_n hx hb dX11_start_3 rfl (lv_at hl 0 rfl) ?_
      refine va_get (D := G) (ci := 11) (v := .ref a7) (C := RX11) (T := TX11) (N := 31) hx hb hts (by decide +kernel) hown hK.1 hP 0 rfl rfl 17 (by decide) (hts (.fieldLink RX11 34 "CardHolderModel" "has" "[I") (by decide +kernel)) (fun _ h9 => h9) rfl dX11_start_4 ?_
      refine lv_iconst (v := 1) hx hb dX11_start_7 (by decide) ?_
      refine va_iald hx hb hK.1 hP 1 0 rfl rfl (in_lit (by decide)) dX11_start_8 ?_
      refine lv_topi (fun z8 gz8 => ?_)
      have hz8 : rg 0 8 z8 := by rw [gz8]; exact (hp_f7.1 0)
      refine lv_icmp_ge (tgt := 44) hx hb dX11_start_9 (by decide) (fun c9 => ?_) (fun c9 => ?_)
      · refine lv_aload_n hx hb dX11_start_44 rfl (lv_at hl 0 rfl) ?_
        refine lv_iconst (v := 0) hx hb dX11_start_45 (by decide) ?_
        refine va_put (D := G) (ci := 11) (v := .int 0) (ty := .int) (C := RX11) (T := TX11) (N := 31) hx hb hts (by decide +kernel) tyX11 tyX11_ok nmX11 hown hK.1 hP hD hS 0 rfl rfl 24 (by decide) (hts (.fieldLink RX11 217 "CardHolderModel" "asked" "I") (by decide +kernel)) (fun _ h9 => h9) rfl (by decide +kernel) rfl rfl (Nat.le_of_ble_eq_true rfl) dX11_start_46 (fun H locs hP hD hS => ?_)
        refine lv_aload_n hx hb dX11_start_49 rfl (lv_at hl 0 rfl) ?_
        refine lv_iconst (v := 0) hx hb dX11_start_50 (by decide) ?_
        refine va_put (D := G) (ci := 11) (v := .int 0) (ty := .int) (C := RX11) (T := TX11) (N := 31) hx hb hts (by decide +kernel) tyX11 tyX11_ok nmX11 hown hK.1 hP hD hS 0 rfl rfl 25 (by decide) (hts (.fieldLink RX11 220 "CardHolderModel" "stolen" "I") (by decide +kernel)) (fun _ h9 => h9) rfl (by decide +kernel) rfl rfl (Nat.le_of_ble_eq_true rfl) dX11_start_51 (fun H locs hP hD hS => ?_)
        refine lv_aload_n hx hb dX11_start_54 rfl (lv_at hl 0 rfl) ?_
        refine lv_iconst (v := 0) hx hb dX11_start_55 (by decide) ?_
        refine va_put (D := G) (ci := 11) (v := .int 0) (ty := .int) (C := RX11) (T := TX11) (N := 31) hx hb hts (by decide +kernel) tyX11 tyX11_ok nmX11 hown hK.1 hP hD hS 0 rfl rfl 26 (by decide) (hts (.fieldLink RX11 223 "CardHolderModel" "dayNow" "I") (by decide +kernel)) (fun _ h9 => h9) rfl (by decide +kernel) rfl rfl (Nat.le_of_ble_eq_true rfl) dX11_start_56 (fun H locs hP hD hS => ?_)
        refine lv_aload_n hx hb dX11_start_59 rfl (lv_at hl 0 rfl) ?_
        refine lv_iconst (v := 0) hx hb dX11_start_60 (by decide) ?_
        refine va_put (D := G) (ci := 11) (v := .int 0) (ty := .int) (C := RX11) (T := TX11) (N := 31) hx hb hts (by decide +kernel) tyX11 tyX11_ok nmX11 hown hK.1 hP hD hS 0 rfl rfl 27 (by decide) (hts (.fieldLink RX11 226 "CardHolderModel" "done" "I") (by decide +kernel)) (fun _ h9 => h9) rfl (by decide +kernel) rfl rfl (Nat.le_of_ble_eq_true rfl) dX11_start_61 (fun H locs hP hD hS => ?_)
        exact W.vret hx hb hr (fun t ht hW => ⟨⟨(fun k => ([0, 0, 0, 0] : List Int32).getD k 0, fun k => ([f2_3, f2_4, f2_5] : List (Nat → Int32)).getD k (fun _ => 0), fun k => ([] : List (Nat → Int64)).getD k (fun _ => 0)), rfl, ⟨hf2_3, hf2_5, (rgn 0 (x := 0) (by decide)), (rgn 0 (x := 0) (by decide)), (rgn 0 (x := 0) (by decide)), (rgn 0 (x := 0) (by decide)), trivial⟩, hp_at ht hP⟩, hS.F ht⟩) hS.2.2 dX11_start_64
      · have h_1 : rg 0 7 x2_1 := r_lt_l_i (nle_i c9) hx2_1 hz8 (by decide)
        have h_2 : rg 1 8 z8 := r_lt_r_i (nle_i c9) hx2_1 hz8 (by decide)
        refine lv_aload_n hx hb dX11_start_12 rfl (lv_at hl 0 rfl) ?_
        refine va_get (D := G) (ci := 11) (v := .ref a11) (C := RX11) (T := TX11) (N := 31) hx hb hts (by decide +kernel) hown hK.1 hP 0 rfl rfl 21 (by decide) (hts (.fieldLink RX11 47 "CardHolderModel" "holder" "[I") (by decide +kernel)) (fun _ h9 => h9) rfl dX11_start_13 ?_
        refine lv_iload_n hx hb dX11_start_16 rfl (lv_at hl 1 rfl) ?_
        refine lv_aload_n hx hb dX11_start_17 rfl (lv_at hl 0 rfl) ?_
        refine lv_iload_n hx hb dX11_start_18 rfl (lv_at hl 1 rfl) ?_
        refine lv_iconst (v := 3) hx hb dX11_start_19 (by decide) ?_
        refine ro_calli (va_runV (As := [.int x2_1, .int 3]) (rest := [.int x2_1, .ref a11]) ⟨hx, hb, hml, hown, hts⟩ (a_X11_of3 l G ct a0 n0_0 a1 a2 a3 a4 a5 n0_6 n0_7 n0_8 n0_9 n0_10 l0_11 n0_12 n0_13 n0_14 n0_15 a6 a7 a8 a9 a10 a11 a12 a13 n0_24 n0_25 n0_26 n0_27 a14 n0_29 n0_30 f8 x2_1 hp_n0_6 hp_f8 h_1) (cwV 2 hts gX11_start_X11_of rfl rfl rfl (by decide +kernel) ⟨Nat.le_of_ble_eq_true rfl, Nat.le_of_ble_eq_true rfl⟩) (ro_preV 11 0 hK (hP.sub [0, 2] rfl) rfl rfl) rfl rfl hl.1 rfl (lv_room (Nat.le_of_ble_eq_true rfl)) dX11_start_20 ⟨Nat.zero_le _, Nat.zero_le _⟩) hS hP (fun r20 H locs wr20 hP hS => ?_)
        obtain ⟨p_3, -⟩ := wr20
        refine va_iast hx hb hK.1 hP hD hS 3 0 rfl rfl (in_rg h_1 (by decide)) dX11_start_23 (fun H locs hP hD hS => ?_)
        have h_4 : ar (-1) 7 (upd f2_3 x2_1.toNatClampNeg r20) := ar_u hf2_3 p_3
        refine lv_aload_n hx hb dX11_start_24 rfl (lv_at hl 0 rfl) ?_
        refine va_get (D := G) (ci := 11) (v := .ref a12) (C := RX11) (T := TX11) (N := 31) hx hb hts (by decide +kernel) hown hK.1 hP 0 rfl rfl 22 (by decide) (hts (.fieldLink RX11 50 "CardHolderModel" "worn" "[I") (by decide +kernel)) (fun _ h9 => h9) rfl dX11_start_25 ?_
        refine lv_iload_n hx hb dX11_start_28 rfl (lv_at hl 1 rfl) ?_
        refine lv_iconst (v := 0) hx hb dX11_start_29 (by decide) ?_
        refine va_iast hx hb hK.1 hP hD hS 4 0 rfl rfl (in_rg h_1 (by decide)) dX11_start_30 (fun H locs hP hD hS => ?_)
        refine lv_aload_n hx hb dX11_start_31 rfl (lv_at hl 0 rfl) ?_
        refine va_get (D := G) (ci := 11) (v := .ref a13) (C := RX11) (T := TX11) (N := 31) hx hb hts (by decide +kernel) hown hK.1 hP 0 rfl rfl 23 (by decide) (hts (.fieldLink RX11 53 "CardHolderModel" "had" "[I") (by decide +kernel)) (fun _ h9 => h9) rfl dX11_start_32 ?_
        refine lv_iload_n hx hb dX11_start_35 rfl (lv_at hl 1 rfl) ?_
        refine lv_iconst (v := (-1)) hx hb dX11_start_36 (by decide) ?_
        refine va_iast hx hb hK.1 hP hD hS 5 0 rfl rfl (in_rg h_1 (by decide)) dX11_start_37 (fun H locs hP hD hS => ?_)
        have h_5 : ar (-1) 7 (upd f2_5 x2_1.toNatClampNeg (-1)) := ar_u hf2_5 (rg_w (c := (-1)) (d := 7) (rgn (-1) (x := (-1)) (by decide)) (by decide))
        obtain ⟨z38, qz38⟩ : ∃ y : Int32, y = x2_1 + Int32.ofInt 1 := ⟨_, rfl⟩
        obtain ⟨hz38, ez38⟩ := inc_z (e := 1) (f := 8) h_1 qz38 (by decide)
        refine lv_iinc (v := z38) (lv' := [(1, .int z38), (0, .ref a0)]) hx hb dX11_start_38 hl (k := 1) rfl (qz38.symm) (by decide) rfl (fun ls hl => ?_)
        refine lv_goto (tgt := 2) hx hb dX11_start_41 (by decide) ?_
        exact ih2 z38 (upd f2_3 x2_1.toNatClampNeg r20) (upd f2_4 x2_1.toNatClampNeg 0) (upd f2_5 x2_1.toNatClampNeg (-1)) _ _ ls (by have q := hn2; have := ez38; omega) (rg_w (c := 0) (d := 8) hz38 (by decide)) h_4 h_5 hP hD hS (lv_sub hl [1, 0] rfl)
  exact j2 4294967296 (0 : Int32) f11 f12 f13 _ _ ls (ms_e (0 : Int32)) (rg_w (c := 0) (d := 8) (rgn 0 (x := 0) (by decide)) (by decide)) hp_f11 hp_f13 hP hD hS (lv_sub hl [1, 0] rfl)
