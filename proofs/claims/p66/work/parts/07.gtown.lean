theorem dX9_clear_0 : decode cX9_clear 0 = .ok (.aload_n 0, 1) := by decide +kernel
theorem dX9_clear_1 : decode cX9_clear 1 = .ok (.getfield 12, 3) := by decide +kernel
theorem dX9_clear_4 : decode cX9_clear 4 = .ok (.iconst 0, 1) := by decide +kernel
theorem dX9_clear_5 : decode cX9_clear 5 = .ok (.putfield 31, 3) := by decide +kernel
theorem dX9_clear_8 : decode cX9_clear 8 = .ok (.aload_n 0, 1) := by decide +kernel
theorem dX9_clear_9 : decode cX9_clear 9 = .ok (.iconst 0, 1) := by decide +kernel
theorem dX9_clear_10 : decode cX9_clear 10 = .ok (.putfield 35, 3) := by decide +kernel
theorem dX9_clear_13 : decode cX9_clear 13 = .ok (.aload_n 0, 1) := by decide +kernel
theorem dX9_clear_14 : decode cX9_clear 14 = .ok (.iconst 0, 1) := by decide +kernel
theorem dX9_clear_15 : decode cX9_clear 15 = .ok (.putfield 38, 3) := by decide +kernel
theorem dX9_clear_18 : decode cX9_clear 18 = .ok (.return_, 1) := by decide +kernel
theorem dX9_copyOf_0 : decode cX9_copyOf 0 = .ok (.aload_n 0, 1) := by decide +kernel
theorem dX9_copyOf_1 : decode cX9_copyOf 1 = .ok (.getfield 12, 3) := by decide +kernel
theorem dX9_copyOf_4 : decode cX9_copyOf 4 = .ok (.aload_n 1, 1) := by decide +kernel
theorem dX9_copyOf_5 : decode cX9_copyOf 5 = .ok (.getfield 12, 3) := by decide +kernel
set_option maxRecDepth 20000 in
theorem ggX9_copyOf_X0_copyOf : GoodIn wsX9_copyOf wsX0_copyOf := goodIn_r _ [16, 17, 18, 19, 4, 5, 6, 27, 28] (by rfl) (by decide +kernel)
set_option maxRecDepth 20000 in
theorem gX9_copyOf_X0_copyOf : GoodIn wsX9_copyOf (wsV RX9 41 RX0 yX0_copyOf wsX0_copyOf) := goodIn_app (goodIn_r _ [12, 13, 14, 15] (by rfl) (by decide +kernel)) ggX9_copyOf_X0_copyOf
theorem dX9_copyOf_8 : decode cX9_copyOf 8 = .ok (.invokevirtual 41, 3) := by decide +kernel
theorem dX9_copyOf_11 : decode cX9_copyOf 11 = .ok (.aload_n 1, 1) := by decide +kernel
theorem dX9_copyOf_12 : decode cX9_copyOf 12 = .ok (.getfield 18, 3) := by decide +kernel
theorem dX9_copyOf_15 : decode cX9_copyOf 15 = .ok (.iconst 0, 1) := by decide +kernel
theorem dX9_copyOf_16 : decode cX9_copyOf 16 = .ok (.aload_n 0, 1) := by decide +kernel
theorem dX9_copyOf_17 : decode cX9_copyOf 17 = .ok (.getfield 18, 3) := by decide +kernel
theorem dX9_copyOf_20 : decode cX9_copyOf 20 = .ok (.iconst 0, 1) := by decide +kernel
theorem dX9_copyOf_21 : decode cX9_copyOf 21 = .ok (.bipush 8, 2) := by decide +kernel
theorem dX9_copyOf_23 : decode cX9_copyOf 23 = .ok (.invokestatic 45, 3) := by decide +kernel
theorem dX9_copyOf_26 : decode cX9_copyOf 26 = .ok (.aload_n 1, 1) := by decide +kernel
theorem dX9_copyOf_27 : decode cX9_copyOf 27 = .ok (.getfield 22, 3) := by decide +kernel
theorem dX9_copyOf_30 : decode cX9_copyOf 30 = .ok (.iconst 0, 1) := by decide +kernel
theorem dX9_copyOf_31 : decode cX9_copyOf 31 = .ok (.aload_n 0, 1) := by decide +kernel
theorem dX9_copyOf_32 : decode cX9_copyOf 32 = .ok (.getfield 22, 3) := by decide +kernel
theorem dX9_copyOf_35 : decode cX9_copyOf 35 = .ok (.iconst 0, 1) := by decide +kernel
theorem dX9_copyOf_36 : decode cX9_copyOf 36 = .ok (.bipush 8, 2) := by decide +kernel
theorem dX9_copyOf_38 : decode cX9_copyOf 38 = .ok (.invokestatic 45, 3) := by decide +kernel
theorem dX9_copyOf_41 : decode cX9_copyOf 41 = .ok (.aload_n 1, 1) := by decide +kernel
theorem dX9_copyOf_42 : decode cX9_copyOf 42 = .ok (.getfield 25, 3) := by decide +kernel
theorem dX9_copyOf_45 : decode cX9_copyOf 45 = .ok (.iconst 0, 1) := by decide +kernel
theorem dX9_copyOf_46 : decode cX9_copyOf 46 = .ok (.aload_n 0, 1) := by decide +kernel
theorem dX9_copyOf_47 : decode cX9_copyOf 47 = .ok (.getfield 25, 3) := by decide +kernel
theorem dX9_copyOf_50 : decode cX9_copyOf 50 = .ok (.iconst 0, 1) := by decide +kernel
theorem dX9_copyOf_51 : decode cX9_copyOf 51 = .ok (.bipush 8, 2) := by decide +kernel
theorem dX9_copyOf_53 : decode cX9_copyOf 53 = .ok (.invokestatic 45, 3) := by decide +kernel
theorem dX9_copyOf_56 : decode cX9_copyOf 56 = .ok (.aload_n 1, 1) := by decide +kernel
theorem dX9_copyOf_57 : decode cX9_copyOf 57 = .ok (.getfield 28, 3) := by decide +kernel
theorem dX9_copyOf_60 : decode cX9_copyOf 60 = .ok (.iconst 0, 1) := by decide +kernel
theorem dX9_copyOf_61 : decode cX9_copyOf 61 = .ok (.aload_n 0, 1) := by decide +kernel
theorem dX9_copyOf_62 : decode cX9_copyOf 62 = .ok (.getfield 28, 3) := by decide +kernel
theorem dX9_copyOf_65 : decode cX9_copyOf 65 = .ok (.iconst 0, 1) := by decide +kernel
theorem dX9_copyOf_66 : decode cX9_copyOf 66 = .ok (.bipush 8, 2) := by decide +kernel
theorem dX9_copyOf_68 : decode cX9_copyOf 68 = .ok (.invokestatic 45, 3) := by decide +kernel
theorem dX9_copyOf_71 : decode cX9_copyOf 71 = .ok (.aload_n 0, 1) := by decide +kernel
theorem dX9_copyOf_72 : decode cX9_copyOf 72 = .ok (.aload_n 1, 1) := by decide +kernel
theorem dX9_copyOf_73 : decode cX9_copyOf 73 = .ok (.getfield 35, 3) := by decide +kernel
theorem dX9_copyOf_76 : decode cX9_copyOf 76 = .ok (.putfield 35, 3) := by decide +kernel
theorem dX9_copyOf_79 : decode cX9_copyOf 79 = .ok (.aload_n 0, 1) := by decide +kernel
theorem dX9_copyOf_80 : decode cX9_copyOf 80 = .ok (.aload_n 1, 1) := by decide +kernel
theorem dX9_copyOf_81 : decode cX9_copyOf 81 = .ok (.getfield 38, 3) := by decide +kernel
theorem dX9_copyOf_84 : decode cX9_copyOf 84 = .ok (.putfield 38, 3) := by decide +kernel
theorem dX9_copyOf_87 : decode cX9_copyOf 87 = .ok (.return_, 1) := by decide +kernel
theorem dX9_addPerson_0 : decode cX9_addPerson 0 = .ok (.aload_n 0, 1) := by decide +kernel
theorem dX9_addPerson_1 : decode cX9_addPerson 1 = .ok (.getfield 12, 3) := by decide +kernel
theorem dX9_addPerson_4 : decode cX9_addPerson 4 = .ok (.getfield 31, 3) := by decide +kernel
theorem dX9_addPerson_7 : decode cX9_addPerson 7 = .ok (.istore 4, 2) := by decide +kernel
theorem dX9_addPerson_9 : decode cX9_addPerson 9 = .ok (.iload 4, 2) := by decide +kernel
theorem dX9_addPerson_11 : decode cX9_addPerson 11 = .ok (.bipush 8, 2) := by decide +kernel
theorem dX9_addPerson_13 : decode cX9_addPerson 13 = .ok (.if_icmp .lt 4, 3) := by decide +kernel
theorem dX9_addPerson_17 : decode cX9_addPerson 17 = .ok (.aload_n 0, 1) := by decide +kernel
theorem dX9_addPerson_18 : decode cX9_addPerson 18 = .ok (.getfield 12, 3) := by decide +kernel
theorem dX9_addPerson_21 : decode cX9_addPerson 21 = .ok (.dup, 1) := by decide +kernel
theorem dX9_addPerson_22 : decode cX9_addPerson 22 = .ok (.getfield 31, 3) := by decide +kernel
theorem dX9_addPerson_25 : decode cX9_addPerson 25 = .ok (.iconst 1, 1) := by decide +kernel
theorem dX9_addPerson_26 : decode cX9_addPerson 26 = .ok (.iadd, 1) := by decide +kernel
theorem dX9_addPerson_27 : decode cX9_addPerson 27 = .ok (.putfield 31, 3) := by decide +kernel
theorem dX9_addPerson_30 : decode cX9_addPerson 30 = .ok (.aload_n 0, 1) := by decide +kernel
theorem dX9_addPerson_31 : decode cX9_addPerson 31 = .ok (.getfield 12, 3) := by decide +kernel
theorem dX9_addPerson_34 : decode cX9_addPerson 34 = .ok (.iload 4, 2) := by decide +kernel
theorem dX9_addPerson_36 : decode cX9_addPerson 36 = .ok (.iconst (-1), 1) := by decide +kernel
set_option maxRecDepth 20000 in
theorem ggX9_addPerson_X0_put : GoodIn wsX9_addPerson wsX0_put := goodIn_r _ [11, 12, 13, 14, 15, 10, 16, 17, 25, 26] (by rfl) (by decide +kernel)
set_option maxRecDepth 20000 in
theorem gX9_addPerson_X0_put : GoodIn wsX9_addPerson (wsV RX9 51 RX0 yX0_put wsX0_put) := goodIn_app (goodIn_r _ [7, 8, 9, 10] (by rfl) (by decide +kernel)) ggX9_addPerson_X0_put
theorem dX9_addPerson_37 : decode cX9_addPerson 37 = .ok (.invokevirtual 51, 3) := by decide +kernel
theorem dX9_addPerson_40 : decode cX9_addPerson 40 = .ok (.aload_n 0, 1) := by decide +kernel
theorem dX9_addPerson_41 : decode cX9_addPerson 41 = .ok (.getfield 18, 3) := by decide +kernel
theorem dX9_addPerson_44 : decode cX9_addPerson 44 = .ok (.iload 4, 2) := by decide +kernel
theorem dX9_addPerson_46 : decode cX9_addPerson 46 = .ok (.iload_n 1, 1) := by decide +kernel
theorem dX9_addPerson_47 : decode cX9_addPerson 47 = .ok (.iastore, 1) := by decide +kernel
theorem dX9_addPerson_48 : decode cX9_addPerson 48 = .ok (.aload_n 0, 1) := by decide +kernel
theorem dX9_addPerson_49 : decode cX9_addPerson 49 = .ok (.getfield 22, 3) := by decide +kernel
theorem dX9_addPerson_52 : decode cX9_addPerson 52 = .ok (.iload 4, 2) := by decide +kernel
theorem dX9_addPerson_54 : decode cX9_addPerson 54 = .ok (.iload_n 2, 1) := by decide +kernel
theorem dX9_addPerson_55 : decode cX9_addPerson 55 = .ok (.iastore, 1) := by decide +kernel
theorem dX9_addPerson_56 : decode cX9_addPerson 56 = .ok (.aload_n 0, 1) := by decide +kernel
theorem dX9_addPerson_57 : decode cX9_addPerson 57 = .ok (.getfield 25, 3) := by decide +kernel
theorem dX9_addPerson_60 : decode cX9_addPerson 60 = .ok (.iload 4, 2) := by decide +kernel
theorem dX9_addPerson_62 : decode cX9_addPerson 62 = .ok (.iload_n 3, 1) := by decide +kernel
theorem dX9_addPerson_63 : decode cX9_addPerson 63 = .ok (.iastore, 1) := by decide +kernel
theorem dX9_addPerson_64 : decode cX9_addPerson 64 = .ok (.aload_n 0, 1) := by decide +kernel
theorem dX9_addPerson_65 : decode cX9_addPerson 65 = .ok (.getfield 28, 3) := by decide +kernel
theorem dX9_addPerson_68 : decode cX9_addPerson 68 = .ok (.iload 4, 2) := by decide +kernel
theorem dX9_addPerson_70 : decode cX9_addPerson 70 = .ok (.iconst 0, 1) := by decide +kernel
theorem dX9_addPerson_71 : decode cX9_addPerson 71 = .ok (.iastore, 1) := by decide +kernel
theorem dX9_addPerson_72 : decode cX9_addPerson 72 = .ok (.return_, 1) := by decide +kernel
theorem dX9_addPerson_16 : decode cX9_addPerson 16 = .ok (.return_, 1) := by decide +kernel
theorem dX9_worthOf_0 : decode cX9_worthOf 0 = .ok (.aload_n 0, 1) := by decide +kernel
theorem dX9_worthOf_1 : decode cX9_worthOf 1 = .ok (.getfield 12, 3) := by decide +kernel
theorem dX9_worthOf_4 : decode cX9_worthOf 4 = .ok (.iload_n 1, 1) := by decide +kernel
set_option maxRecDepth 20000 in
theorem ggX9_worthOf_X0_has : GoodIn wsX9_worthOf wsX0_has := goodIn_r _ [7, 8, 16, 17] (by rfl) (by decide +kernel)
set_option maxRecDepth 20000 in
theorem gX9_worthOf_X0_has : GoodIn wsX9_worthOf (wsV RX9 55 RX0 yX0_has wsX0_has) := goodIn_app (goodIn_r _ [3, 4, 5, 6] (by rfl) (by decide +kernel)) ggX9_worthOf_X0_has
theorem dX9_worthOf_5 : decode cX9_worthOf 5 = .ok (.invokevirtual 55, 3) := by decide +kernel
theorem dX9_worthOf_8 : decode cX9_worthOf 8 = .ok (.ifCond .eq 12, 3) := by decide +kernel
theorem dX9_worthOf_20 : decode cX9_worthOf 20 = .ok (.iconst 0, 1) := by decide +kernel
theorem dX9_worthOf_21 : decode cX9_worthOf 21 = .ok (.ireturn, 1) := by decide +kernel
theorem dX9_worthOf_11 : decode cX9_worthOf 11 = .ok (.aload_n 0, 1) := by decide +kernel
theorem dX9_worthOf_12 : decode cX9_worthOf 12 = .ok (.getfield 18, 3) := by decide +kernel
theorem dX9_worthOf_15 : decode cX9_worthOf 15 = .ok (.iload_n 1, 1) := by decide +kernel
theorem dX9_worthOf_16 : decode cX9_worthOf 16 = .ok (.iaload, 1) := by decide +kernel
theorem dX9_worthOf_17 : decode cX9_worthOf 17 = .ok (.goto 4, 3) := by decide +kernel
theorem dX9_deedsOf_0 : decode cX9_deedsOf 0 = .ok (.aload_n 0, 1) := by decide +kernel
theorem dX9_deedsOf_1 : decode cX9_deedsOf 1 = .ok (.getfield 12, 3) := by decide +kernel
theorem dX9_deedsOf_4 : decode cX9_deedsOf 4 = .ok (.iload_n 1, 1) := by decide +kernel
set_option maxRecDepth 20000 in
theorem ggX9_deedsOf_X0_has : GoodIn wsX9_deedsOf wsX0_has := goodIn_r _ [7, 8, 16, 17] (by rfl) (by decide +kernel)
set_option maxRecDepth 20000 in
theorem gX9_deedsOf_X0_has : GoodIn wsX9_deedsOf (wsV RX9 55 RX0 yX0_has wsX0_has) := goodIn_app (goodIn_r _ [3, 4, 5, 6] (by rfl) (by decide +kernel)) ggX9_deedsOf_X0_has
theorem dX9_deedsOf_5 : decode cX9_deedsOf 5 = .ok (.invokevirtual 55, 3) := by decide +kernel
theorem dX9_deedsOf_8 : decode cX9_deedsOf 8 = .ok (.ifCond .eq 12, 3) := by decide +kernel
theorem dX9_deedsOf_20 : decode cX9_deedsOf 20 = .ok (.iconst 0, 1) := by decide +kernel
theorem dX9_deedsOf_21 : decode cX9_deedsOf 21 = .ok (.ireturn, 1) := by decide +kernel
theorem dX9_deedsOf_11 : decode cX9_deedsOf 11 = .ok (.aload_n 0, 1) := by decide +kernel
theorem dX9_deedsOf_12 : decode cX9_deedsOf 12 = .ok (.getfield 22, 3) := by decide +kernel
theorem dX9_deedsOf_15 : decode cX9_deedsOf 15 = .ok (.iload_n 1, 1) := by decide +kernel
theorem dX9_deedsOf_16 : decode cX9_deedsOf 16 = .ok (.iaload, 1) := by decide +kernel
theorem dX9_deedsOf_17 : decode cX9_deedsOf 17 = .ok (.goto 4, 3) := by decide +kernel
theorem dX9_wishesOf_0 : decode cX9_wishesOf 0 = .ok (.aload_n 0, 1) := by decide +kernel
theorem dX9_wishesOf_1 : decode cX9_wishesOf 1 = .ok (.getfield 12, 3) := by decide +kernel
theorem dX9_wishesOf_4 : decode cX9_wishesOf 4 = .ok (.iload_n 1, 1) := by decide +kernel
set_option maxRecDepth 20000 in
theorem ggX9_wishesOf_X0_has : GoodIn wsX9_wishesOf wsX0_has := goodIn_r _ [7, 8, 16, 17] (by rfl) (by decide +kernel)
set_option maxRecDepth 20000 in
theorem gX9_wishesOf_X0_has : GoodIn wsX9_wishesOf (wsV RX9 55 RX0 yX0_has wsX0_has) := goodIn_app (goodIn_r _ [3, 4, 5, 6] (by rfl) (by decide +kernel)) ggX9_wishesOf_X0_has
theorem dX9_wishesOf_5 : decode cX9_wishesOf 5 = .ok (.invokevirtual 55, 3) := by decide +kernel
theorem dX9_wishesOf_8 : decode cX9_wishesOf 8 = .ok (.ifCond .eq 12, 3) := by decide +kernel
theorem dX9_wishesOf_20 : decode cX9_wishesOf 20 = .ok (.iconst 0, 1) := by decide +kernel
theorem dX9_wishesOf_21 : decode cX9_wishesOf 21 = .ok (.ireturn, 1) := by decide +kernel
theorem dX9_wishesOf_11 : decode cX9_wishesOf 11 = .ok (.aload_n 0, 1) := by decide +kernel
theorem dX9_wishesOf_12 : decode cX9_wishesOf 12 = .ok (.getfield 25, 3) := by decide +kernel
theorem dX9_wishesOf_15 : decode cX9_wishesOf 15 = .ok (.iload_n 1, 1) := by decide +kernel
theorem dX9_wishesOf_16 : decode cX9_wishesOf 16 = .ok (.iaload, 1) := by decide +kernel
theorem dX9_wishesOf_17 : decode cX9_wishesOf 17 = .ok (.goto 4, 3) := by decide +kernel
theorem dX9_forgedOf_0 : decode cX9_forgedOf 0 = .ok (.aload_n 0, 1) := by decide +kernel
theorem dX9_forgedOf_1 : decode cX9_forgedOf 1 = .ok (.getfield 12, 3) := by decide +kernel
theorem dX9_forgedOf_4 : decode cX9_forgedOf 4 = .ok (.iload_n 1, 1) := by decide +kernel
set_option maxRecDepth 20000 in
theorem ggX9_forgedOf_X0_has : GoodIn wsX9_forgedOf wsX0_has := goodIn_r _ [7, 8, 16, 17] (by rfl) (by decide +kernel)
set_option maxRecDepth 20000 in
theorem gX9_forgedOf_X0_has : GoodIn wsX9_forgedOf (wsV RX9 55 RX0 yX0_has wsX0_has) := goodIn_app (goodIn_r _ [3, 4, 5, 6] (by rfl) (by decide +kernel)) ggX9_forgedOf_X0_has
theorem dX9_forgedOf_5 : decode cX9_forgedOf 5 = .ok (.invokevirtual 55, 3) := by decide +kernel
theorem dX9_forgedOf_8 : decode cX9_forgedOf 8 = .ok (.ifCond .eq 12, 3) := by decide +kernel
theorem dX9_forgedOf_20 : decode cX9_forgedOf 20 = .ok (.iconst 0, 1) := by decide +kernel
theorem dX9_forgedOf_21 : decode cX9_forgedOf 21 = .ok (.ireturn, 1) := by decide +kernel
theorem dX9_forgedOf_11 : decode cX9_forgedOf 11 = .ok (.aload_n 0, 1) := by decide +kernel
theorem dX9_forgedOf_12 : decode cX9_forgedOf 12 = .ok (.getfield 28, 3) := by decide +kernel
theorem dX9_forgedOf_15 : decode cX9_forgedOf 15 = .ok (.iload_n 1, 1) := by decide +kernel
theorem dX9_forgedOf_16 : decode cX9_forgedOf 16 = .ok (.iaload, 1) := by decide +kernel
theorem dX9_forgedOf_17 : decode cX9_forgedOf 17 = .ok (.goto 4, 3) := by decide +kernel
theorem dX9_limitOf_0 : decode cX9_limitOf 0 = .ok (.aload_n 0, 1) := by decide +kernel
theorem dX9_limitOf_1 : decode cX9_limitOf 1 = .ok (.getfield 12, 3) := by decide +kernel
theorem dX9_limitOf_4 : decode cX9_limitOf 4 = .ok (.iload_n 1, 1) := by decide +kernel
set_option maxRecDepth 20000 in
theorem ggX9_limitOf_X0_has : GoodIn wsX9_limitOf wsX0_has := goodIn_r _ [8, 9, 17, 18] (by rfl) (by decide +kernel)
set_option maxRecDepth 20000 in
theorem gX9_limitOf_X0_has : GoodIn wsX9_limitOf (wsV RX9 55 RX0 yX0_has wsX0_has) := goodIn_app (goodIn_r _ [4, 5, 6, 7] (by rfl) (by decide +kernel)) ggX9_limitOf_X0_has
theorem dX9_limitOf_5 : decode cX9_limitOf 5 = .ok (.invokevirtual 55, 3) := by decide +kernel
theorem dX9_limitOf_8 : decode cX9_limitOf 8 = .ok (.ifCond .eq 19, 3) := by decide +kernel
theorem dX9_limitOf_27 : decode cX9_limitOf 27 = .ok (.iconst 1, 1) := by decide +kernel
theorem dX9_limitOf_28 : decode cX9_limitOf 28 = .ok (.ireturn, 1) := by decide +kernel
theorem dX9_limitOf_11 : decode cX9_limitOf 11 = .ok (.aload_n 0, 1) := by decide +kernel
theorem dX9_limitOf_12 : decode cX9_limitOf 12 = .ok (.getfield 28, 3) := by decide +kernel
theorem dX9_limitOf_15 : decode cX9_limitOf 15 = .ok (.iload_n 1, 1) := by decide +kernel
theorem dX9_limitOf_16 : decode cX9_limitOf 16 = .ok (.iaload, 1) := by decide +kernel
theorem dX9_limitOf_17 : decode cX9_limitOf 17 = .ok (.ifCond .ne 10, 3) := by decide +kernel
theorem dX9_limitOf_20 : decode cX9_limitOf 20 = .ok (.aload_n 0, 1) := by decide +kernel
theorem dX9_limitOf_21 : decode cX9_limitOf 21 = .ok (.getfield 38, 3) := by decide +kernel
theorem dX9_limitOf_24 : decode cX9_limitOf 24 = .ok (.goto 4, 3) := by decide +kernel
theorem dX9_forgedCards_0 : decode cX9_forgedCards 0 = .ok (.iconst 0, 1) := by decide +kernel
theorem dX9_forgedCards_1 : decode cX9_forgedCards 1 = .ok (.istore_n 1, 1) := by decide +kernel
theorem dX9_forgedCards_2 : decode cX9_forgedCards 2 = .ok (.iconst 0, 1) := by decide +kernel
theorem dX9_forgedCards_3 : decode cX9_forgedCards 3 = .ok (.istore_n 2, 1) := by decide +kernel
theorem dX9_forgedCards_4 : decode cX9_forgedCards 4 = .ok (.iload_n 2, 1) := by decide +kernel
theorem dX9_forgedCards_5 : decode cX9_forgedCards 5 = .ok (.aload_n 0, 1) := by decide +kernel
theorem dX9_forgedCards_6 : decode cX9_forgedCards 6 = .ok (.getfield 12, 3) := by decide +kernel
theorem dX9_forgedCards_9 : decode cX9_forgedCards 9 = .ok (.getfield 31, 3) := by decide +kernel
theorem dX9_forgedCards_12 : decode cX9_forgedCards 12 = .ok (.if_icmp .ge 17, 3) := by decide +kernel
theorem dX9_forgedCards_29 : decode cX9_forgedCards 29 = .ok (.iload_n 1, 1) := by decide +kernel
theorem dX9_forgedCards_30 : decode cX9_forgedCards 30 = .ok (.ireturn, 1) := by decide +kernel
theorem dX9_forgedCards_15 : decode cX9_forgedCards 15 = .ok (.iload_n 1, 1) := by decide +kernel
theorem dX9_forgedCards_16 : decode cX9_forgedCards 16 = .ok (.aload_n 0, 1) := by decide +kernel
theorem dX9_forgedCards_17 : decode cX9_forgedCards 17 = .ok (.iload_n 2, 1) := by decide +kernel
set_option maxRecDepth 20000 in
theorem ggX9_forgedCards_X9_forgedOf : GoodIn wsX9_forgedCards wsX9_forgedOf := goodIn_r _ [7, 1, 8, 9, 10, 11, 12, 13, 14, 15, 16, 17, 18, 19, 20, 21, 22, 23] (by rfl) (by decide +kernel)
set_option maxRecDepth 20000 in
theorem gX9_forgedCards_X9_forgedOf : GoodIn wsX9_forgedCards (wsV RX9 59 RX9 yX9_forgedOf wsX9_forgedOf) := goodIn_app (goodIn_r _ [3, 4, 5, 6] (by rfl) (by decide +kernel)) ggX9_forgedCards_X9_forgedOf
theorem dX9_forgedCards_18 : decode cX9_forgedCards 18 = .ok (.invokevirtual 59, 3) := by decide +kernel
theorem dX9_forgedCards_21 : decode cX9_forgedCards 21 = .ok (.iadd, 1) := by decide +kernel
theorem dX9_forgedCards_22 : decode cX9_forgedCards 22 = .ok (.istore_n 1, 1) := by decide +kernel
theorem dX9_forgedCards_23 : decode cX9_forgedCards 23 = .ok (.iinc 2 1, 3) := by decide +kernel
theorem dX9_forgedCards_26 : decode cX9_forgedCards 26 = .ok (.goto (-22), 3) := by decide +kernel
theorem dX9_deedsOfAll_0 : decode cX9_deedsOfAll 0 = .ok (.iconst 0, 1) := by decide +kernel
theorem dX9_deedsOfAll_1 : decode cX9_deedsOfAll 1 = .ok (.istore_n 2, 1) := by decide +kernel
theorem dX9_deedsOfAll_2 : decode cX9_deedsOfAll 2 = .ok (.iconst 0, 1) := by decide +kernel
theorem dX9_deedsOfAll_3 : decode cX9_deedsOfAll 3 = .ok (.istore_n 3, 1) := by decide +kernel
theorem dX9_deedsOfAll_4 : decode cX9_deedsOfAll 4 = .ok (.iload_n 3, 1) := by decide +kernel
theorem dX9_deedsOfAll_5 : decode cX9_deedsOfAll 5 = .ok (.aload_n 0, 1) := by decide +kernel
theorem dX9_deedsOfAll_6 : decode cX9_deedsOfAll 6 = .ok (.getfield 12, 3) := by decide +kernel
theorem dX9_deedsOfAll_9 : decode cX9_deedsOfAll 9 = .ok (.getfield 31, 3) := by decide +kernel
theorem dX9_deedsOfAll_12 : decode cX9_deedsOfAll 12 = .ok (.if_icmp .ge 26, 3) := by decide +kernel
theorem dX9_deedsOfAll_38 : decode cX9_deedsOfAll 38 = .ok (.iload_n 2, 1) := by decide +kernel
theorem dX9_deedsOfAll_39 : decode cX9_deedsOfAll 39 = .ok (.ireturn, 1) := by decide +kernel
theorem dX9_deedsOfAll_15 : decode cX9_deedsOfAll 15 = .ok (.iload_n 1, 1) := by decide +kernel
theorem dX9_deedsOfAll_16 : decode cX9_deedsOfAll 16 = .ok (.iload_n 3, 1) := by decide +kernel
set_option maxRecDepth 20000 in
theorem ggX9_deedsOfAll_X10_bitOf : GoodIn wsX9_deedsOfAll wsX10_bitOf := goodIn_r _ [5] (by rfl) (by decide +kernel)
set_option maxRecDepth 20000 in
theorem gX9_deedsOfAll_X10_bitOf_n63 : GoodIn wsX9_deedsOfAll (wsX10_bitOf) := ggX9_deedsOfAll_X10_bitOf
theorem dX9_deedsOfAll_17 : decode cX9_deedsOfAll 17 = .ok (.invokestatic 63, 3) := by decide +kernel
theorem dX9_deedsOfAll_20 : decode cX9_deedsOfAll 20 = .ok (.iconst 1, 1) := by decide +kernel
theorem dX9_deedsOfAll_32 : decode cX9_deedsOfAll 32 = .ok (.iinc 3 1, 3) := by decide +kernel
theorem dX9_deedsOfAll_35 : decode cX9_deedsOfAll 35 = .ok (.goto (-31), 3) := by decide +kernel
theorem dX9_deedsOfAll_21 : decode cX9_deedsOfAll 21 = .ok (.if_icmp .ne 11, 3) := by decide +kernel
theorem dX9_deedsOfAll_24 : decode cX9_deedsOfAll 24 = .ok (.iload_n 2, 1) := by decide +kernel
theorem dX9_deedsOfAll_25 : decode cX9_deedsOfAll 25 = .ok (.aload_n 0, 1) := by decide +kernel
theorem dX9_deedsOfAll_26 : decode cX9_deedsOfAll 26 = .ok (.iload_n 3, 1) := by decide +kernel
set_option maxRecDepth 20000 in
theorem ggX9_deedsOfAll_X9_deedsOf : GoodIn wsX9_deedsOfAll wsX9_deedsOf := goodIn_r _ [10, 1, 11, 12, 13, 14, 15, 16, 17, 18, 19, 20, 21, 22, 23, 24, 25, 26] (by rfl) (by decide +kernel)
set_option maxRecDepth 20000 in
theorem gX9_deedsOfAll_X9_deedsOf : GoodIn wsX9_deedsOfAll (wsV RX9 67 RX9 yX9_deedsOf wsX9_deedsOf) := goodIn_app (goodIn_r _ [6, 7, 8, 9] (by rfl) (by decide +kernel)) ggX9_deedsOfAll_X9_deedsOf
theorem dX9_deedsOfAll_27 : decode cX9_deedsOfAll 27 = .ok (.invokevirtual 67, 3) := by decide +kernel
theorem dX9_deedsOfAll_30 : decode cX9_deedsOfAll 30 = .ok (.ior, 1) := by decide +kernel
theorem dX9_deedsOfAll_31 : decode cX9_deedsOfAll 31 = .ok (.istore_n 2, 1) := by decide +kernel
theorem dX9_worthOfAll_0 : decode cX9_worthOfAll 0 = .ok (.iconst 0, 1) := by decide +kernel
theorem dX9_worthOfAll_1 : decode cX9_worthOfAll 1 = .ok (.istore_n 2, 1) := by decide +kernel
theorem dX9_worthOfAll_2 : decode cX9_worthOfAll 2 = .ok (.iconst 0, 1) := by decide +kernel
theorem dX9_worthOfAll_3 : decode cX9_worthOfAll 3 = .ok (.istore_n 3, 1) := by decide +kernel
theorem dX9_worthOfAll_4 : decode cX9_worthOfAll 4 = .ok (.iload_n 3, 1) := by decide +kernel
theorem dX9_worthOfAll_5 : decode cX9_worthOfAll 5 = .ok (.aload_n 0, 1) := by decide +kernel
theorem dX9_worthOfAll_6 : decode cX9_worthOfAll 6 = .ok (.getfield 12, 3) := by decide +kernel
theorem dX9_worthOfAll_9 : decode cX9_worthOfAll 9 = .ok (.getfield 31, 3) := by decide +kernel
theorem dX9_worthOfAll_12 : decode cX9_worthOfAll 12 = .ok (.if_icmp .ge 26, 3) := by decide +kernel
theorem dX9_worthOfAll_38 : decode cX9_worthOfAll 38 = .ok (.iload_n 2, 1) := by decide +kernel
theorem dX9_worthOfAll_39 : decode cX9_worthOfAll 39 = .ok (.ireturn, 1) := by decide +kernel
theorem dX9_worthOfAll_15 : decode cX9_worthOfAll 15 = .ok (.iload_n 1, 1) := by decide +kernel
theorem dX9_worthOfAll_16 : decode cX9_worthOfAll 16 = .ok (.iload_n 3, 1) := by decide +kernel
set_option maxRecDepth 20000 in
theorem ggX9_worthOfAll_X10_bitOf : GoodIn wsX9_worthOfAll wsX10_bitOf := goodIn_r _ [5] (by rfl) (by decide +kernel)
set_option maxRecDepth 20000 in
theorem gX9_worthOfAll_X10_bitOf_n63 : GoodIn wsX9_worthOfAll (wsX10_bitOf) := ggX9_worthOfAll_X10_bitOf
theorem dX9_worthOfAll_17 : decode cX9_worthOfAll 17 = .ok (.invokestatic 63, 3) := by decide +kernel
theorem dX9_worthOfAll_20 : decode cX9_worthOfAll 20 = .ok (.iconst 1, 1) := by decide +kernel
theorem dX9_worthOfAll_32 : decode cX9_worthOfAll 32 = .ok (.iinc 3 1, 3) := by decide +kernel
theorem dX9_worthOfAll_35 : decode cX9_worthOfAll 35 = .ok (.goto (-31), 3) := by decide +kernel
theorem dX9_worthOfAll_21 : decode cX9_worthOfAll 21 = .ok (.if_icmp .ne 11, 3) := by decide +kernel
theorem dX9_worthOfAll_24 : decode cX9_worthOfAll 24 = .ok (.iload_n 2, 1) := by decide +kernel
theorem dX9_worthOfAll_25 : decode cX9_worthOfAll 25 = .ok (.aload_n 0, 1) := by decide +kernel
theorem dX9_worthOfAll_26 : decode cX9_worthOfAll 26 = .ok (.iload_n 3, 1) := by decide +kernel
set_option maxRecDepth 20000 in
theorem ggX9_worthOfAll_X9_worthOf : GoodIn wsX9_worthOfAll wsX9_worthOf := goodIn_r _ [10, 1, 11, 12, 13, 14, 15, 16, 17, 18, 19, 20, 21, 22, 23, 24, 25, 26] (by rfl) (by decide +kernel)
set_option maxRecDepth 20000 in
theorem gX9_worthOfAll_X9_worthOf : GoodIn wsX9_worthOfAll (wsV RX9 70 RX9 yX9_worthOf wsX9_worthOf) := goodIn_app (goodIn_r _ [6, 7, 8, 9] (by rfl) (by decide +kernel)) ggX9_worthOfAll_X9_worthOf
theorem dX9_worthOfAll_27 : decode cX9_worthOfAll 27 = .ok (.invokevirtual 70, 3) := by decide +kernel
theorem dX9_worthOfAll_30 : decode cX9_worthOfAll 30 = .ok (.iadd, 1) := by decide +kernel
theorem dX9_worthOfAll_31 : decode cX9_worthOfAll 31 = .ok (.istore_n 2, 1) := by decide +kernel
theorem dX9_powerIn_0 : decode cX9_powerIn 0 = .ok (.aload_n 0, 1) := by decide +kernel
theorem dX9_powerIn_1 : decode cX9_powerIn 1 = .ok (.aload_n 1, 1) := by decide +kernel
theorem dX9_powerIn_2 : decode cX9_powerIn 2 = .ok (.iload_n 2, 1) := by decide +kernel
set_option maxRecDepth 20000 in
theorem ggX9_powerIn_X0_below : GoodIn wsX9_powerIn wsX0_below := goodIn_r _ [5, 6, 7, 8, 9, 4, 10, 11, 12, 13, 14, 15, 16, 17, 18, 19, 43, 44] (by rfl) (by decide +kernel)
set_option maxRecDepth 20000 in
theorem gX9_powerIn_X0_below : GoodIn wsX9_powerIn (wsV RX9 73 RX0 yX0_below wsX0_below) := goodIn_app (goodIn_r _ [1, 2, 3, 4] (by rfl) (by decide +kernel)) ggX9_powerIn_X0_below
theorem dX9_powerIn_3 : decode cX9_powerIn 3 = .ok (.invokevirtual 73, 3) := by decide +kernel
set_option maxRecDepth 20000 in
theorem ggX9_powerIn_X9_deedsOfAll : GoodIn wsX9_powerIn wsX9_deedsOfAll := goodIn_r _ [24, 25, 26, 27, 28, 29, 30, 31, 32, 23, 33, 34, 35, 17, 18, 4, 19, 6, 45, 46, 47, 48, 49, 50, 51, 43, 44] (by rfl) (by decide +kernel)
set_option maxRecDepth 20000 in
theorem gX9_powerIn_X9_deedsOfAll : GoodIn wsX9_powerIn (wsV RX9 76 RX9 yX9_deedsOfAll wsX9_deedsOfAll) := goodIn_app (goodIn_r _ [20, 21, 22, 23] (by rfl) (by decide +kernel)) ggX9_powerIn_X9_deedsOfAll
theorem dX9_powerIn_6 : decode cX9_powerIn 6 = .ok (.invokevirtual 76, 3) := by decide +kernel
set_option maxRecDepth 20000 in
theorem ggX9_powerIn_J6_bitCount_0f7a4 : GoodIn wsX9_powerIn wsJ6_bitCount_0f7a4 := goodIn_r _ [39, 40, 41, 42] (by rfl) (by decide +kernel)
set_option maxRecDepth 20000 in
theorem gX9_powerIn_J6_bitCount_0f7a4 : GoodIn wsX9_powerIn (va_wsS RX9 79 yJ6_bitCount_0f7a4 wsJ6_bitCount_0f7a4) := goodIn_app (goodIn_r _ [36, 37, 38] (by rfl) (by decide +kernel)) ggX9_powerIn_J6_bitCount_0f7a4
theorem dX9_powerIn_9 : decode cX9_powerIn 9 = .ok (.invokestatic 79, 3) := by decide +kernel
theorem dX9_powerIn_12 : decode cX9_powerIn 12 = .ok (.ireturn, 1) := by decide +kernel
theorem dX9_wishersOf_0 : decode cX9_wishersOf 0 = .ok (.iconst 0, 1) := by decide +kernel
theorem dX9_wishersOf_1 : decode cX9_wishersOf 1 = .ok (.istore_n 2, 1) := by decide +kernel
theorem dX9_wishersOf_2 : decode cX9_wishersOf 2 = .ok (.iconst 0, 1) := by decide +kernel
theorem dX9_wishersOf_3 : decode cX9_wishersOf 3 = .ok (.istore_n 3, 1) := by decide +kernel
theorem dX9_wishersOf_4 : decode cX9_wishersOf 4 = .ok (.iload_n 3, 1) := by decide +kernel
theorem dX9_wishersOf_5 : decode cX9_wishersOf 5 = .ok (.aload_n 0, 1) := by decide +kernel
theorem dX9_wishersOf_6 : decode cX9_wishersOf 6 = .ok (.getfield 12, 3) := by decide +kernel
theorem dX9_wishersOf_9 : decode cX9_wishersOf 9 = .ok (.getfield 31, 3) := by decide +kernel
theorem dX9_wishersOf_12 : decode cX9_wishersOf 12 = .ok (.if_icmp .ge 27, 3) := by decide +kernel
theorem dX9_wishersOf_39 : decode cX9_wishersOf 39 = .ok (.iload_n 2, 1) := by decide +kernel
theorem dX9_wishersOf_40 : decode cX9_wishersOf 40 = .ok (.ireturn, 1) := by decide +kernel
theorem dX9_wishersOf_15 : decode cX9_wishersOf 15 = .ok (.iload_n 1, 1) := by decide +kernel
theorem dX9_wishersOf_16 : decode cX9_wishersOf 16 = .ok (.aload_n 0, 1) := by decide +kernel
theorem dX9_wishersOf_17 : decode cX9_wishersOf 17 = .ok (.iload_n 3, 1) := by decide +kernel
set_option maxRecDepth 20000 in
theorem ggX9_wishersOf_X9_wishesOf : GoodIn wsX9_wishersOf wsX9_wishesOf := goodIn_r _ [7, 1, 8, 9, 10, 11, 12, 13, 14, 15, 16, 17, 18, 19, 20, 21, 22, 23] (by rfl) (by decide +kernel)
set_option maxRecDepth 20000 in
theorem gX9_wishersOf_X9_wishesOf : GoodIn wsX9_wishersOf (wsV RX9 84 RX9 yX9_wishesOf wsX9_wishesOf) := goodIn_app (goodIn_r _ [3, 4, 5, 6] (by rfl) (by decide +kernel)) ggX9_wishersOf_X9_wishesOf
theorem dX9_wishersOf_18 : decode cX9_wishersOf 18 = .ok (.invokevirtual 84, 3) := by decide +kernel
theorem dX9_wishersOf_21 : decode cX9_wishersOf 21 = .ok (.iconst (-1), 1) := by decide +kernel
theorem dX9_wishersOf_22 : decode cX9_wishersOf 22 = .ok (.ixor, 1) := by decide +kernel
theorem dX9_wishersOf_23 : decode cX9_wishersOf 23 = .ok (.iand, 1) := by decide +kernel
theorem dX9_wishersOf_33 : decode cX9_wishersOf 33 = .ok (.iinc 3 1, 3) := by decide +kernel
theorem dX9_wishersOf_36 : decode cX9_wishersOf 36 = .ok (.goto (-32), 3) := by decide +kernel
theorem dX9_wishersOf_24 : decode cX9_wishersOf 24 = .ok (.ifCond .ne 9, 3) := by decide +kernel
theorem dX9_wishersOf_27 : decode cX9_wishersOf 27 = .ok (.iload_n 2, 1) := by decide +kernel
theorem dX9_wishersOf_28 : decode cX9_wishersOf 28 = .ok (.iconst 1, 1) := by decide +kernel
theorem dX9_wishersOf_29 : decode cX9_wishersOf 29 = .ok (.iload_n 3, 1) := by decide +kernel
theorem dX9_wishersOf_30 : decode cX9_wishersOf 30 = .ok (.ishl, 1) := by decide +kernel
theorem dX9_wishersOf_31 : decode cX9_wishersOf 31 = .ok (.ior, 1) := by decide +kernel
theorem dX9_wishersOf_32 : decode cX9_wishersOf 32 = .ok (.istore_n 2, 1) := by decide +kernel
theorem dX9_worstOf_0 : decode cX9_worstOf 0 = .ok (.iload_n 1, 1) := by decide +kernel
theorem dX9_worstOf_1 : decode cX9_worstOf 1 = .ok (.aload_n 0, 1) := by decide +kernel
theorem dX9_worstOf_2 : decode cX9_worstOf 2 = .ok (.iconst 1, 1) := by decide +kernel
theorem dX9_worstOf_3 : decode cX9_worstOf 3 = .ok (.iload_n 2, 1) := by decide +kernel
theorem dX9_worstOf_4 : decode cX9_worstOf 4 = .ok (.ishl, 1) := by decide +kernel
set_option maxRecDepth 20000 in
theorem ggX9_worstOf_X9_wishersOf : GoodIn wsX9_worstOf wsX9_wishersOf := goodIn_r _ [9, 10, 11, 12, 13, 14, 8, 15, 16, 17, 18, 19, 20, 21, 22, 30, 31, 32, 33, 34, 35, 36, 37, 38] (by rfl) (by decide +kernel)
set_option maxRecDepth 20000 in
theorem gX9_worstOf_X9_wishersOf : GoodIn wsX9_worstOf (wsV RX9 87 RX9 yX9_wishersOf wsX9_wishersOf) := goodIn_app (goodIn_r _ [5, 6, 7, 8] (by rfl) (by decide +kernel)) ggX9_worstOf_X9_wishersOf
theorem dX9_worstOf_5 : decode cX9_worstOf 5 = .ok (.invokevirtual 87, 3) := by decide +kernel
theorem dX9_worstOf_8 : decode cX9_worstOf 8 = .ok (.iand, 1) := by decide +kernel
set_option maxRecDepth 20000 in
theorem ggX9_worstOf_J6_bitCount_0f7a4 : GoodIn wsX9_worstOf wsJ6_bitCount_0f7a4 := goodIn_r _ [26, 27, 28, 29] (by rfl) (by decide +kernel)
set_option maxRecDepth 20000 in
theorem gX9_worstOf_J6_bitCount_0f7a4 : GoodIn wsX9_worstOf (va_wsS RX9 79 yJ6_bitCount_0f7a4 wsJ6_bitCount_0f7a4) := goodIn_app (goodIn_r _ [23, 24, 25] (by rfl) (by decide +kernel)) ggX9_worstOf_J6_bitCount_0f7a4
theorem dX9_worstOf_9 : decode cX9_worstOf 9 = .ok (.invokestatic 79, 3) := by decide +kernel
theorem dX9_worstOf_12 : decode cX9_worstOf 12 = .ok (.istore_n 3, 1) := by decide +kernel
theorem dX9_worstOf_13 : decode cX9_worstOf 13 = .ok (.iload_n 3, 1) := by decide +kernel
theorem dX9_worstOf_14 : decode cX9_worstOf 14 = .ok (.iload_n 1, 1) := by decide +kernel
theorem dX9_worstOf_15 : decode cX9_worstOf 15 = .ok (.invokestatic 79, 3) := by decide +kernel
theorem dX9_worstOf_18 : decode cX9_worstOf 18 = .ok (.iload_n 3, 1) := by decide +kernel
theorem dX9_worstOf_19 : decode cX9_worstOf 19 = .ok (.isub, 1) := by decide +kernel
theorem dX9_worstOf_20 : decode cX9_worstOf 20 = .ok (.invokestatic 90, 3) := by decide +kernel
theorem dX9_worstOf_23 : decode cX9_worstOf 23 = .ok (.ireturn, 1) := by decide +kernel
theorem dX9_tellingDeed_0 : decode cX9_tellingDeed 0 = .ok (.iconst (-1), 1) := by decide +kernel
theorem dX9_tellingDeed_1 : decode cX9_tellingDeed 1 = .ok (.istore_n 2, 1) := by decide +kernel
theorem dX9_tellingDeed_2 : decode cX9_tellingDeed 2 = .ok (.iload_n 1, 1) := by decide +kernel
set_option maxRecDepth 20000 in
theorem ggX9_tellingDeed_J6_bitCount_0f7a4 : GoodIn wsX9_tellingDeed wsJ6_bitCount_0f7a4 := goodIn_r _ [4, 5, 6, 7] (by rfl) (by decide +kernel)
set_option maxRecDepth 20000 in
theorem gX9_tellingDeed_J6_bitCount_0f7a4 : GoodIn wsX9_tellingDeed (va_wsS RX9 79 yJ6_bitCount_0f7a4 wsJ6_bitCount_0f7a4) := goodIn_app (goodIn_r _ [1, 2, 3] (by rfl) (by decide +kernel)) ggX9_tellingDeed_J6_bitCount_0f7a4
theorem dX9_tellingDeed_3 : decode cX9_tellingDeed 3 = .ok (.invokestatic 79, 3) := by decide +kernel
theorem dX9_tellingDeed_6 : decode cX9_tellingDeed 6 = .ok (.istore_n 3, 1) := by decide +kernel
theorem dX9_tellingDeed_7 : decode cX9_tellingDeed 7 = .ok (.iconst 0, 1) := by decide +kernel
theorem dX9_tellingDeed_8 : decode cX9_tellingDeed 8 = .ok (.istore 4, 2) := by decide +kernel
theorem dX9_tellingDeed_10 : decode cX9_tellingDeed 10 = .ok (.iload 4, 2) := by decide +kernel
theorem dX9_tellingDeed_12 : decode cX9_tellingDeed 12 = .ok (.bipush 6, 2) := by decide +kernel
theorem dX9_tellingDeed_14 : decode cX9_tellingDeed 14 = .ok (.if_icmp .ge 30, 3) := by decide +kernel
theorem dX9_tellingDeed_44 : decode cX9_tellingDeed 44 = .ok (.iload_n 2, 1) := by decide +kernel
theorem dX9_tellingDeed_45 : decode cX9_tellingDeed 45 = .ok (.ireturn, 1) := by decide +kernel
theorem dX9_tellingDeed_17 : decode cX9_tellingDeed 17 = .ok (.aload_n 0, 1) := by decide +kernel
theorem dX9_tellingDeed_18 : decode cX9_tellingDeed 18 = .ok (.iload_n 1, 1) := by decide +kernel
theorem dX9_tellingDeed_19 : decode cX9_tellingDeed 19 = .ok (.iload 4, 2) := by decide +kernel
set_option maxRecDepth 20000 in
theorem ggX9_tellingDeed_X9_worstOf : GoodIn wsX9_tellingDeed wsX9_worstOf := goodIn_r _ [12, 13, 14, 15, 16, 17, 18, 19, 11, 20, 21, 22, 23, 24, 25, 26, 27, 28, 29, 30, 31, 32, 33, 1, 2, 3, 4, 5, 6, 7, 34, 35, 36, 37, 38, 39, 40, 41, 42] (by rfl) (by decide +kernel)
set_option maxRecDepth 20000 in
theorem gX9_tellingDeed_X9_worstOf : GoodIn wsX9_tellingDeed (wsV RX9 95 RX9 yX9_worstOf wsX9_worstOf) := goodIn_app (goodIn_r _ [8, 9, 10, 11] (by rfl) (by decide +kernel)) ggX9_tellingDeed_X9_worstOf
theorem dX9_tellingDeed_21 : decode cX9_tellingDeed 21 = .ok (.invokevirtual 95, 3) := by decide +kernel
theorem dX9_tellingDeed_24 : decode cX9_tellingDeed 24 = .ok (.istore 5, 2) := by decide +kernel
theorem dX9_tellingDeed_26 : decode cX9_tellingDeed 26 = .ok (.iload 5, 2) := by decide +kernel
theorem dX9_tellingDeed_28 : decode cX9_tellingDeed 28 = .ok (.iload_n 3, 1) := by decide +kernel
theorem dX9_tellingDeed_38 : decode cX9_tellingDeed 38 = .ok (.iinc 4 1, 3) := by decide +kernel
theorem dX9_tellingDeed_41 : decode cX9_tellingDeed 41 = .ok (.goto (-31), 3) := by decide +kernel
theorem dX9_tellingDeed_29 : decode cX9_tellingDeed 29 = .ok (.if_icmp .ge 9, 3) := by decide +kernel
theorem dX9_tellingDeed_32 : decode cX9_tellingDeed 32 = .ok (.iload 4, 2) := by decide +kernel
theorem dX9_tellingDeed_34 : decode cX9_tellingDeed 34 = .ok (.istore_n 2, 1) := by decide +kernel
theorem dX9_tellingDeed_35 : decode cX9_tellingDeed 35 = .ok (.iload 5, 2) := by decide +kernel
theorem dX9_tellingDeed_37 : decode cX9_tellingDeed 37 = .ok (.istore_n 3, 1) := by decide +kernel
theorem dX9_pairsAbove_0 : decode cX9_pairsAbove 0 = .ok (.iconst 0, 1) := by decide +kernel
theorem dX9_pairsAbove_1 : decode cX9_pairsAbove 1 = .ok (.istore_n 3, 1) := by decide +kernel
theorem dX9_pairsAbove_2 : decode cX9_pairsAbove 2 = .ok (.iconst 0, 1) := by decide +kernel
theorem dX9_pairsAbove_3 : decode cX9_pairsAbove 3 = .ok (.istore 4, 2) := by decide +kernel
theorem dX9_pairsAbove_5 : decode cX9_pairsAbove 5 = .ok (.iload 4, 2) := by decide +kernel
theorem dX9_pairsAbove_7 : decode cX9_pairsAbove 7 = .ok (.aload_n 0, 1) := by decide +kernel
theorem dX9_pairsAbove_8 : decode cX9_pairsAbove 8 = .ok (.getfield 12, 3) := by decide +kernel
theorem dX9_pairsAbove_11 : decode cX9_pairsAbove 11 = .ok (.getfield 31, 3) := by decide +kernel
theorem dX9_pairsAbove_14 : decode cX9_pairsAbove 14 = .ok (.if_icmp .ge 80, 3) := by decide +kernel
theorem dX9_pairsAbove_94 : decode cX9_pairsAbove 94 = .ok (.iload_n 3, 1) := by decide +kernel
theorem dX9_pairsAbove_95 : decode cX9_pairsAbove 95 = .ok (.ireturn, 1) := by decide +kernel
theorem dX9_pairsAbove_17 : decode cX9_pairsAbove 17 = .ok (.iconst 0, 1) := by decide +kernel
theorem dX9_pairsAbove_18 : decode cX9_pairsAbove 18 = .ok (.istore 5, 2) := by decide +kernel
theorem dX9_pairsAbove_20 : decode cX9_pairsAbove 20 = .ok (.iload 5, 2) := by decide +kernel
theorem dX9_pairsAbove_22 : decode cX9_pairsAbove 22 = .ok (.aload_n 0, 1) := by decide +kernel
theorem dX9_pairsAbove_23 : decode cX9_pairsAbove 23 = .ok (.getfield 12, 3) := by decide +kernel
theorem dX9_pairsAbove_26 : decode cX9_pairsAbove 26 = .ok (.getfield 31, 3) := by decide +kernel
theorem dX9_pairsAbove_29 : decode cX9_pairsAbove 29 = .ok (.if_icmp .ge 59, 3) := by decide +kernel
theorem dX9_pairsAbove_88 : decode cX9_pairsAbove 88 = .ok (.iinc 4 1, 3) := by decide +kernel
theorem dX9_pairsAbove_91 : decode cX9_pairsAbove 91 = .ok (.goto (-86), 3) := by decide +kernel
theorem dX9_pairsAbove_32 : decode cX9_pairsAbove 32 = .ok (.iload_n 1, 1) := by decide +kernel
theorem dX9_pairsAbove_33 : decode cX9_pairsAbove 33 = .ok (.iload 4, 2) := by decide +kernel
set_option maxRecDepth 20000 in
theorem ggX9_pairsAbove_X10_bitOf : GoodIn wsX9_pairsAbove wsX10_bitOf := goodIn_r _ [5] (by rfl) (by decide +kernel)
set_option maxRecDepth 20000 in
theorem gX9_pairsAbove_X10_bitOf_n63 : GoodIn wsX9_pairsAbove (wsX10_bitOf) := ggX9_pairsAbove_X10_bitOf
theorem dX9_pairsAbove_35 : decode cX9_pairsAbove 35 = .ok (.invokestatic 63, 3) := by decide +kernel
theorem dX9_pairsAbove_38 : decode cX9_pairsAbove 38 = .ok (.iconst 1, 1) := by decide +kernel
theorem dX9_pairsAbove_57 : decode cX9_pairsAbove 57 = .ok (.istore 6, 2) := by decide +kernel
theorem dX9_pairsAbove_59 : decode cX9_pairsAbove 59 = .ok (.iload 6, 2) := by decide +kernel
theorem dX9_pairsAbove_82 : decode cX9_pairsAbove 82 = .ok (.iinc 5 1, 3) := by decide +kernel
theorem dX9_pairsAbove_85 : decode cX9_pairsAbove 85 = .ok (.goto (-65), 3) := by decide +kernel
theorem dX9_pairsAbove_61 : decode cX9_pairsAbove 61 = .ok (.ifCond .eq 21, 3) := by decide +kernel
theorem dX9_pairsAbove_64 : decode cX9_pairsAbove 64 = .ok (.aload_n 0, 1) := by decide +kernel
theorem dX9_pairsAbove_65 : decode cX9_pairsAbove 65 = .ok (.iload 4, 2) := by decide +kernel
set_option maxRecDepth 20000 in
theorem ggX9_pairsAbove_X9_worthOf : GoodIn wsX9_pairsAbove wsX9_worthOf := goodIn_r _ [10, 1, 11, 12, 13, 14, 15, 16, 17, 18, 19, 20, 21, 22, 23, 24, 25, 26] (by rfl) (by decide +kernel)
set_option maxRecDepth 20000 in
theorem gX9_pairsAbove_X9_worthOf : GoodIn wsX9_pairsAbove (wsV RX9 70 RX9 yX9_worthOf wsX9_worthOf) := goodIn_app (goodIn_r _ [6, 7, 8, 9] (by rfl) (by decide +kernel)) ggX9_pairsAbove_X9_worthOf
theorem dX9_pairsAbove_67 : decode cX9_pairsAbove 67 = .ok (.invokevirtual 70, 3) := by decide +kernel
theorem dX9_pairsAbove_70 : decode cX9_pairsAbove 70 = .ok (.aload_n 0, 1) := by decide +kernel
theorem dX9_pairsAbove_71 : decode cX9_pairsAbove 71 = .ok (.iload 5, 2) := by decide +kernel
theorem dX9_pairsAbove_73 : decode cX9_pairsAbove 73 = .ok (.invokevirtual 70, 3) := by decide +kernel
theorem dX9_pairsAbove_76 : decode cX9_pairsAbove 76 = .ok (.if_icmp .le 6, 3) := by decide +kernel
theorem dX9_pairsAbove_79 : decode cX9_pairsAbove 79 = .ok (.iinc 3 1, 3) := by decide +kernel
theorem dX9_pairsAbove_56 : decode cX9_pairsAbove 56 = .ok (.iconst 0, 1) := by decide +kernel
theorem dX9_pairsAbove_39 : decode cX9_pairsAbove 39 = .ok (.if_icmp .ne 17, 3) := by decide +kernel
theorem dX9_pairsAbove_42 : decode cX9_pairsAbove 42 = .ok (.iload_n 2, 1) := by decide +kernel
theorem dX9_pairsAbove_43 : decode cX9_pairsAbove 43 = .ok (.iload 5, 2) := by decide +kernel
theorem dX9_pairsAbove_45 : decode cX9_pairsAbove 45 = .ok (.invokestatic 63, 3) := by decide +kernel
theorem dX9_pairsAbove_48 : decode cX9_pairsAbove 48 = .ok (.iconst 1, 1) := by decide +kernel
theorem dX9_pairsAbove_49 : decode cX9_pairsAbove 49 = .ok (.if_icmp .ne 7, 3) := by decide +kernel
theorem dX9_pairsAbove_52 : decode cX9_pairsAbove 52 = .ok (.iconst 1, 1) := by decide +kernel
theorem dX9_pairsAbove_53 : decode cX9_pairsAbove 53 = .ok (.goto 4, 3) := by decide +kernel
theorem dX9_wonBy_0 : decode cX9_wonBy 0 = .ok (.aload_n 0, 1) := by decide +kernel
theorem dX9_wonBy_1 : decode cX9_wonBy 1 = .ok (.iload_n 1, 1) := by decide +kernel
set_option maxRecDepth 20000 in
theorem ggX9_wonBy_X9_worthOf : GoodIn wsX9_wonBy wsX9_worthOf := goodIn_r _ [5, 6, 7, 8, 9, 10, 11, 12, 13, 14, 15, 16, 17, 18, 19, 20, 21, 22] (by rfl) (by decide +kernel)
set_option maxRecDepth 20000 in
theorem gX9_wonBy_X9_worthOf : GoodIn wsX9_wonBy (wsV RX9 70 RX9 yX9_worthOf wsX9_worthOf) := goodIn_app (goodIn_r _ [1, 2, 3, 4] (by rfl) (by decide +kernel)) ggX9_wonBy_X9_worthOf
theorem dX9_wonBy_2 : decode cX9_wonBy 2 = .ok (.invokevirtual 70, 3) := by decide +kernel
theorem dX9_wonBy_5 : decode cX9_wonBy 5 = .ok (.aload_n 0, 1) := by decide +kernel
theorem dX9_wonBy_6 : decode cX9_wonBy 6 = .ok (.iload_n 2, 1) := by decide +kernel
theorem dX9_wonBy_7 : decode cX9_wonBy 7 = .ok (.invokevirtual 70, 3) := by decide +kernel
theorem dX9_wonBy_10 : decode cX9_wonBy 10 = .ok (.if_icmp .ne 5, 3) := by decide +kernel
theorem dX9_wonBy_15 : decode cX9_wonBy 15 = .ok (.aload_n 0, 1) := by decide +kernel
theorem dX9_wonBy_16 : decode cX9_wonBy 16 = .ok (.iload_n 1, 1) := by decide +kernel
theorem dX9_wonBy_17 : decode cX9_wonBy 17 = .ok (.invokevirtual 70, 3) := by decide +kernel
theorem dX9_wonBy_20 : decode cX9_wonBy 20 = .ok (.aload_n 0, 1) := by decide +kernel
theorem dX9_wonBy_21 : decode cX9_wonBy 21 = .ok (.iload_n 2, 1) := by decide +kernel
theorem dX9_wonBy_22 : decode cX9_wonBy 22 = .ok (.invokevirtual 70, 3) := by decide +kernel
theorem dX9_wonBy_25 : decode cX9_wonBy 25 = .ok (.if_icmp .le 11, 3) := by decide +kernel
theorem dX9_wonBy_36 : decode cX9_wonBy 36 = .ok (.aload_n 0, 1) := by decide +kernel
theorem dX9_wonBy_37 : decode cX9_wonBy 37 = .ok (.iload_n 1, 1) := by decide +kernel
theorem dX9_wonBy_38 : decode cX9_wonBy 38 = .ok (.invokevirtual 70, 3) := by decide +kernel
theorem dX9_wonBy_41 : decode cX9_wonBy 41 = .ok (.ineg, 1) := by decide +kernel
theorem dX9_wonBy_42 : decode cX9_wonBy 42 = .ok (.ireturn, 1) := by decide +kernel
theorem dX9_wonBy_28 : decode cX9_wonBy 28 = .ok (.aload_n 0, 1) := by decide +kernel
theorem dX9_wonBy_29 : decode cX9_wonBy 29 = .ok (.iload_n 2, 1) := by decide +kernel
theorem dX9_wonBy_30 : decode cX9_wonBy 30 = .ok (.invokevirtual 70, 3) := by decide +kernel
theorem dX9_wonBy_33 : decode cX9_wonBy 33 = .ok (.goto 9, 3) := by decide +kernel
theorem dX9_wonBy_13 : decode cX9_wonBy 13 = .ok (.iconst 0, 1) := by decide +kernel
theorem dX9_wonBy_14 : decode cX9_wonBy 14 = .ok (.ireturn, 1) := by decide +kernel
theorem dX9_sureOf_0 : decode cX9_sureOf 0 = .ok (.sipush 999, 3) := by decide +kernel
theorem dX9_sureOf_3 : decode cX9_sureOf 3 = .ok (.istore_n 3, 1) := by decide +kernel
theorem dX9_sureOf_4 : decode cX9_sureOf 4 = .ok (.iconst 0, 1) := by decide +kernel
theorem dX9_sureOf_5 : decode cX9_sureOf 5 = .ok (.istore 4, 2) := by decide +kernel
theorem dX9_sureOf_7 : decode cX9_sureOf 7 = .ok (.iload 4, 2) := by decide +kernel
theorem dX9_sureOf_9 : decode cX9_sureOf 9 = .ok (.aload_n 0, 1) := by decide +kernel
theorem dX9_sureOf_10 : decode cX9_sureOf 10 = .ok (.getfield 12, 3) := by decide +kernel
theorem dX9_sureOf_13 : decode cX9_sureOf 13 = .ok (.getfield 31, 3) := by decide +kernel
theorem dX9_sureOf_16 : decode cX9_sureOf 16 = .ok (.if_icmp .ge 31, 3) := by decide +kernel
theorem dX9_sureOf_47 : decode cX9_sureOf 47 = .ok (.iload_n 3, 1) := by decide +kernel
theorem dX9_sureOf_48 : decode cX9_sureOf 48 = .ok (.ireturn, 1) := by decide +kernel
theorem dX9_sureOf_19 : decode cX9_sureOf 19 = .ok (.iload_n 2, 1) := by decide +kernel
theorem dX9_sureOf_20 : decode cX9_sureOf 20 = .ok (.iload 4, 2) := by decide +kernel
set_option maxRecDepth 20000 in
theorem ggX9_sureOf_X10_bitOf : GoodIn wsX9_sureOf wsX10_bitOf := goodIn_r _ [9] (by rfl) (by decide +kernel)
set_option maxRecDepth 20000 in
theorem gX9_sureOf_X10_bitOf_n63 : GoodIn wsX9_sureOf (wsX10_bitOf) := ggX9_sureOf_X10_bitOf
theorem dX9_sureOf_22 : decode cX9_sureOf 22 = .ok (.invokestatic 63, 3) := by decide +kernel
theorem dX9_sureOf_25 : decode cX9_sureOf 25 = .ok (.iconst 1, 1) := by decide +kernel
theorem dX9_sureOf_41 : decode cX9_sureOf 41 = .ok (.iinc 4 1, 3) := by decide +kernel
theorem dX9_sureOf_44 : decode cX9_sureOf 44 = .ok (.goto (-37), 3) := by decide +kernel
theorem dX9_sureOf_26 : decode cX9_sureOf 26 = .ok (.if_icmp .ne 15, 3) := by decide +kernel
theorem dX9_sureOf_29 : decode cX9_sureOf 29 = .ok (.iload_n 3, 1) := by decide +kernel
theorem dX9_sureOf_30 : decode cX9_sureOf 30 = .ok (.aload_n 0, 1) := by decide +kernel
theorem dX9_sureOf_31 : decode cX9_sureOf 31 = .ok (.iload_n 1, 1) := by decide +kernel
theorem dX9_sureOf_32 : decode cX9_sureOf 32 = .ok (.iload 4, 2) := by decide +kernel
set_option maxRecDepth 20000 in
theorem ggX9_sureOf_X9_wonBy : GoodIn wsX9_sureOf wsX9_wonBy := goodIn_r _ [14, 15, 16, 17, 13, 18, 1, 19, 20, 21, 22, 23, 24, 25, 26, 27, 28, 29, 30, 31, 32, 33, 34] (by rfl) (by decide +kernel)
set_option maxRecDepth 20000 in
theorem gX9_sureOf_X9_wonBy : GoodIn wsX9_sureOf (wsV RX9 98 RX9 yX9_wonBy wsX9_wonBy) := goodIn_app (goodIn_r _ [10, 11, 12, 13] (by rfl) (by decide +kernel)) ggX9_sureOf_X9_wonBy
theorem dX9_sureOf_34 : decode cX9_sureOf 34 = .ok (.invokevirtual 98, 3) := by decide +kernel
theorem dX9_sureOf_37 : decode cX9_sureOf 37 = .ok (.invokestatic 101, 3) := by decide +kernel
theorem dX9_sureOf_40 : decode cX9_sureOf 40 = .ok (.istore_n 3, 1) := by decide +kernel
theorem dX9_hardestAgainst_0 : decode cX9_hardestAgainst 0 = .ok (.aload_n 0, 1) := by decide +kernel
theorem dX9_hardestAgainst_1 : decode cX9_hardestAgainst 1 = .ok (.iload_n 1, 1) := by decide +kernel
theorem dX9_hardestAgainst_2 : decode cX9_hardestAgainst 2 = .ok (.iload_n 2, 1) := by decide +kernel
set_option maxRecDepth 20000 in
theorem ggX9_hardestAgainst_X9_sureOf : GoodIn wsX9_hardestAgainst wsX9_sureOf := goodIn_r _ [7, 1, 2, 8, 9, 10, 11, 12, 13, 14, 15, 16, 17, 6, 18, 19, 20, 21, 22, 23, 24, 25, 26, 27, 28, 29, 30, 31, 32, 33, 34, 35, 36, 37, 38] (by rfl) (by decide +kernel)
set_option maxRecDepth 20000 in
theorem gX9_hardestAgainst_X9_sureOf : GoodIn wsX9_hardestAgainst (wsV RX9 104 RX9 yX9_sureOf wsX9_sureOf) := goodIn_app (goodIn_r _ [3, 4, 5, 6] (by rfl) (by decide +kernel)) ggX9_hardestAgainst_X9_sureOf
theorem dX9_hardestAgainst_3 : decode cX9_hardestAgainst 3 = .ok (.invokevirtual 104, 3) := by decide +kernel
theorem dX9_hardestAgainst_6 : decode cX9_hardestAgainst 6 = .ok (.istore_n 3, 1) := by decide +kernel
theorem dX9_hardestAgainst_7 : decode cX9_hardestAgainst 7 = .ok (.iconst 0, 1) := by decide +kernel
theorem dX9_hardestAgainst_8 : decode cX9_hardestAgainst 8 = .ok (.istore 4, 2) := by decide +kernel
theorem dX9_hardestAgainst_10 : decode cX9_hardestAgainst 10 = .ok (.iload 4, 2) := by decide +kernel
theorem dX9_hardestAgainst_12 : decode cX9_hardestAgainst 12 = .ok (.aload_n 0, 1) := by decide +kernel
theorem dX9_hardestAgainst_13 : decode cX9_hardestAgainst 13 = .ok (.getfield 12, 3) := by decide +kernel
theorem dX9_hardestAgainst_16 : decode cX9_hardestAgainst 16 = .ok (.getfield 31, 3) := by decide +kernel
theorem dX9_hardestAgainst_19 : decode cX9_hardestAgainst 19 = .ok (.if_icmp .ge 33, 3) := by decide +kernel
theorem dX9_hardestAgainst_52 : decode cX9_hardestAgainst 52 = .ok (.iconst (-1), 1) := by decide +kernel
theorem dX9_hardestAgainst_53 : decode cX9_hardestAgainst 53 = .ok (.ireturn, 1) := by decide +kernel
theorem dX9_hardestAgainst_22 : decode cX9_hardestAgainst 22 = .ok (.iload_n 2, 1) := by decide +kernel
theorem dX9_hardestAgainst_23 : decode cX9_hardestAgainst 23 = .ok (.iload 4, 2) := by decide +kernel
set_option maxRecDepth 20000 in
theorem ggX9_hardestAgainst_X10_bitOf : GoodIn wsX9_hardestAgainst wsX10_bitOf := goodIn_r _ [14] (by rfl) (by decide +kernel)
set_option maxRecDepth 20000 in
theorem gX9_hardestAgainst_X10_bitOf_n63 : GoodIn wsX9_hardestAgainst (wsX10_bitOf) := ggX9_hardestAgainst_X10_bitOf
theorem dX9_hardestAgainst_25 : decode cX9_hardestAgainst 25 = .ok (.invokestatic 63, 3) := by decide +kernel
theorem dX9_hardestAgainst_28 : decode cX9_hardestAgainst 28 = .ok (.iconst 1, 1) := by decide +kernel
theorem dX9_hardestAgainst_46 : decode cX9_hardestAgainst 46 = .ok (.iinc 4 1, 3) := by decide +kernel
theorem dX9_hardestAgainst_49 : decode cX9_hardestAgainst 49 = .ok (.goto (-39), 3) := by decide +kernel
theorem dX9_hardestAgainst_29 : decode cX9_hardestAgainst 29 = .ok (.if_icmp .ne 17, 3) := by decide +kernel
theorem dX9_hardestAgainst_32 : decode cX9_hardestAgainst 32 = .ok (.aload_n 0, 1) := by decide +kernel
theorem dX9_hardestAgainst_33 : decode cX9_hardestAgainst 33 = .ok (.iload_n 1, 1) := by decide +kernel
theorem dX9_hardestAgainst_34 : decode cX9_hardestAgainst 34 = .ok (.iload 4, 2) := by decide +kernel
set_option maxRecDepth 20000 in
theorem ggX9_hardestAgainst_X9_wonBy : GoodIn wsX9_hardestAgainst wsX9_wonBy := goodIn_r _ [18, 19, 20, 21, 6, 22, 1, 23, 24, 25, 26, 27, 28, 29, 30, 31, 32, 33, 34, 35, 36, 37, 38] (by rfl) (by decide +kernel)
set_option maxRecDepth 20000 in
theorem gX9_hardestAgainst_X9_wonBy : GoodIn wsX9_hardestAgainst (wsV RX9 98 RX9 yX9_wonBy wsX9_wonBy) := goodIn_app (goodIn_r _ [15, 16, 17, 6] (by rfl) (by decide +kernel)) ggX9_hardestAgainst_X9_wonBy
theorem dX9_hardestAgainst_36 : decode cX9_hardestAgainst 36 = .ok (.invokevirtual 98, 3) := by decide +kernel
theorem dX9_hardestAgainst_39 : decode cX9_hardestAgainst 39 = .ok (.iload_n 3, 1) := by decide +kernel
theorem dX9_hardestAgainst_40 : decode cX9_hardestAgainst 40 = .ok (.if_icmp .ne 6, 3) := by decide +kernel
theorem dX9_hardestAgainst_43 : decode cX9_hardestAgainst 43 = .ok (.iload 4, 2) := by decide +kernel
theorem dX9_hardestAgainst_45 : decode cX9_hardestAgainst 45 = .ok (.ireturn, 1) := by decide +kernel
theorem dX9_surestCard_0 : decode cX9_surestCard 0 = .ok (.iconst (-1), 1) := by decide +kernel
theorem dX9_surestCard_1 : decode cX9_surestCard 1 = .ok (.istore_n 3, 1) := by decide +kernel
theorem dX9_surestCard_2 : decode cX9_surestCard 2 = .ok (.iconst 0, 1) := by decide +kernel
theorem dX9_surestCard_3 : decode cX9_surestCard 3 = .ok (.istore 4, 2) := by decide +kernel
theorem dX9_surestCard_5 : decode cX9_surestCard 5 = .ok (.iconst 0, 1) := by decide +kernel
theorem dX9_surestCard_6 : decode cX9_surestCard 6 = .ok (.istore 5, 2) := by decide +kernel
theorem dX9_surestCard_8 : decode cX9_surestCard 8 = .ok (.iload 5, 2) := by decide +kernel
theorem dX9_surestCard_10 : decode cX9_surestCard 10 = .ok (.aload_n 0, 1) := by decide +kernel
theorem dX9_surestCard_11 : decode cX9_surestCard 11 = .ok (.getfield 12, 3) := by decide +kernel
theorem dX9_surestCard_14 : decode cX9_surestCard 14 = .ok (.getfield 31, 3) := by decide +kernel
theorem dX9_surestCard_17 : decode cX9_surestCard 17 = .ok (.if_icmp .ge 47, 3) := by decide +kernel
theorem dX9_surestCard_64 : decode cX9_surestCard 64 = .ok (.iload_n 3, 1) := by decide +kernel
theorem dX9_surestCard_65 : decode cX9_surestCard 65 = .ok (.ireturn, 1) := by decide +kernel
theorem dX9_surestCard_20 : decode cX9_surestCard 20 = .ok (.iload_n 1, 1) := by decide +kernel
theorem dX9_surestCard_21 : decode cX9_surestCard 21 = .ok (.iload 5, 2) := by decide +kernel
set_option maxRecDepth 20000 in
theorem ggX9_surestCard_X10_bitOf : GoodIn wsX9_surestCard wsX10_bitOf := goodIn_r _ [5] (by rfl) (by decide +kernel)
set_option maxRecDepth 20000 in
theorem gX9_surestCard_X10_bitOf_n63 : GoodIn wsX9_surestCard (wsX10_bitOf) := ggX9_surestCard_X10_bitOf
theorem dX9_surestCard_23 : decode cX9_surestCard 23 = .ok (.invokestatic 63, 3) := by decide +kernel
theorem dX9_surestCard_26 : decode cX9_surestCard 26 = .ok (.iconst 1, 1) := by decide +kernel
theorem dX9_surestCard_58 : decode cX9_surestCard 58 = .ok (.iinc 5 1, 3) := by decide +kernel
theorem dX9_surestCard_61 : decode cX9_surestCard 61 = .ok (.goto (-53), 3) := by decide +kernel
theorem dX9_surestCard_27 : decode cX9_surestCard 27 = .ok (.if_icmp .ne 31, 3) := by decide +kernel
theorem dX9_surestCard_30 : decode cX9_surestCard 30 = .ok (.aload_n 0, 1) := by decide +kernel
theorem dX9_surestCard_31 : decode cX9_surestCard 31 = .ok (.iload 5, 2) := by decide +kernel
theorem dX9_surestCard_33 : decode cX9_surestCard 33 = .ok (.iload_n 2, 1) := by decide +kernel
set_option maxRecDepth 20000 in
theorem ggX9_surestCard_X9_sureOf : GoodIn wsX9_surestCard wsX9_sureOf := goodIn_r _ [10, 1, 2, 11, 12, 13, 14, 3, 4, 5, 15, 16, 17, 9, 18, 19, 20, 21, 22, 23, 24, 25, 26, 27, 28, 29, 30, 31, 32, 33, 34, 35, 36, 37, 38] (by rfl) (by decide +kernel)
set_option maxRecDepth 20000 in
theorem gX9_surestCard_X9_sureOf : GoodIn wsX9_surestCard (wsV RX9 104 RX9 yX9_sureOf wsX9_sureOf) := goodIn_app (goodIn_r _ [6, 7, 8, 9] (by rfl) (by decide +kernel)) ggX9_surestCard_X9_sureOf
theorem dX9_surestCard_34 : decode cX9_surestCard 34 = .ok (.invokevirtual 104, 3) := by decide +kernel
theorem dX9_surestCard_37 : decode cX9_surestCard 37 = .ok (.istore 6, 2) := by decide +kernel
theorem dX9_surestCard_39 : decode cX9_surestCard 39 = .ok (.iload_n 3, 1) := by decide +kernel
theorem dX9_surestCard_40 : decode cX9_surestCard 40 = .ok (.iconst (-1), 1) := by decide +kernel
theorem dX9_surestCard_51 : decode cX9_surestCard 51 = .ok (.iload 5, 2) := by decide +kernel
theorem dX9_surestCard_53 : decode cX9_surestCard 53 = .ok (.istore_n 3, 1) := by decide +kernel
theorem dX9_surestCard_54 : decode cX9_surestCard 54 = .ok (.iload 6, 2) := by decide +kernel
theorem dX9_surestCard_56 : decode cX9_surestCard 56 = .ok (.istore 4, 2) := by decide +kernel
theorem dX9_surestCard_41 : decode cX9_surestCard 41 = .ok (.if_icmp .eq 10, 3) := by decide +kernel
theorem dX9_surestCard_44 : decode cX9_surestCard 44 = .ok (.iload 6, 2) := by decide +kernel
theorem dX9_surestCard_46 : decode cX9_surestCard 46 = .ok (.iload 4, 2) := by decide +kernel
theorem dX9_surestCard_48 : decode cX9_surestCard 48 = .ok (.if_icmp .le 10, 3) := by decide +kernel
set_option maxHeartbeats 4000000 in
set_option maxRecDepth 100000 in
theorem a_X9_clear (l : Launch) (G : va_G) (ct : Nat → ClassId) (a0 : Nat) (a1 : Nat) (a3 : Nat) (a4 : Nat) (a5 : Nat) (a6 : Nat) (n0_5 : Int32) (n0_6 : Int32) (a2 : Nat) (n1_1 : Int32) (hp_n1_1 : rg 0 8 n1_1) : Met l yX9_clear wsX9_clear ({ frames := 0, cells := 0, slots := 0, locals := 0 }) (va_Pc [.ref a0] (wrP G ct [(a0, .inr (9, [.ref a1, .ref a3, .ref a4, .ref a5, .ref a6, .int n0_5, .int n0_6])), (a1, .inr (0, [.ref a2, .int n1_1]))])) (va_Qv (fun u : SU => rg 0 0 (u.1 0) ∧ rg 0 0 (u.1 1) ∧ rg 0 0 (u.1 2) ∧ True) (fun u t => va_P G vwCl ((fun u : SU => [(a0, .inr (9, [.ref a1, .ref a3, .ref a4, .ref a5, .ref a6, .int (u.1 0), .int (u.1 1)])), (a1, .inr (0, [.ref a2, .int (u.1 2)]))]) u) t.heap) (aset [(a0, .inr (9, [.ref a1, .ref a3, .ref a4, .ref a5, .ref a6, .int n0_5, .int n0_6])), (a1, .inr (0, [.ref a2, .int n1_1]))])) 0 0 (aset [(a0, .inr (9, [.ref a1, .ref a3, .ref a4, .ref a5, .ref a6, .int n0_5, .int n0_6])), (a1, .inr (0, [.ref a2, .int n1_1]))]) := by
  refine Met.ofW (cc := cX9_clear) (maxL := 1) (ret := none) (by decide) rfl ?_
  intro p e s m args below meth c s₁ B hml hv
  obtain ⟨rfl, hP, hK, hD0⟩ := hv
  have hx := B.exec
  have hb := B.bytes
  have hr := B.returns
  have hts := atoms_spec (ws := wsX9_clear) B.pre
  have hown : s.vm.findClass RX9 = some m.cls := findClass_of_methodNamed B.named
  have hlocks := B.notSynchronized
  have hD := hD0.aself
  generalize hAe : aset [(a0, .inr (9, [.ref a1, .ref a3, .ref a4, .ref a5, .ref a6, .int n0_5, .int n0_6])), (a1, .inr (0, [.ref a2, .int n1_1]))] = A at hD ⊢
  have hS : va_S A s.heap s.heap [] := va_S.rf
  have hl := lv_entry ([.ref a0]) (n := 1) (Nat.le_of_ble_eq_true rfl)
  rw [lg_entry_eq]
  generalize (lg_sl ([.ref a0]) ++ List.replicate (1 - (lg_sl ([.ref a0])).length) Slot.unset).toArray = ls at hl ⊢
  have hl : lv_has ls 1 [(0, .ref a0)] := hl
  refine lv_aload_n hx hb dX9_clear_0 rfl (lv_at hl 0 rfl) ?_
  refine va_get (D := G) (ci := 9) (v := .ref a1) (C := RX9) (T := TX9) (N := 7) hx hb hts (by decide +kernel) hown hK.1 hP 0 rfl rfl 0 (by decide) (hts (.fieldLink RX9 12 "CardHolder$Town" "bonds" "LCardHolder$Bonds;") (by decide +kernel)) (fun _ h9 => h9) rfl dX9_clear_1 ?_
  refine lv_iconst (v := 0) hx hb dX9_clear_4 (by decide) ?_
  refine va_put (D := G) (ci := 0) (v := .int 0) (ty := .int) (C := RX0) (T := TX0) (N := 2) hx hb hts (by decide +kernel) tyX0 tyX0_ok nmX0 hown hK.1 hP hD hS 1 rfl rfl 1 (by decide) (hts (.fieldLink RX9 31 "CardHolder$Bonds" "persons" "I") (by decide +kernel)) (fun _ h9 => h9) rfl (by decide +kernel) rfl rfl (Nat.le_of_ble_eq_true rfl) dX9_clear_5 (fun H locs hP hD hS => ?_)
  refine lv_aload_n hx hb dX9_clear_8 rfl (lv_at hl 0 rfl) ?_
  refine lv_iconst (v := 0) hx hb dX9_clear_9 (by decide) ?_
  refine va_put (D := G) (ci := 9) (v := .int 0) (ty := .int) (C := RX9) (T := TX9) (N := 7) hx hb hts (by decide +kernel) tyX9 tyX9_ok nmX9 hown hK.1 hP hD hS 0 rfl rfl 5 (by decide) (hts (.fieldLink RX9 35 "CardHolder$Town" "lines" "I") (by decide +kernel)) (fun _ h9 => h9) rfl (by decide +kernel) rfl rfl (Nat.le_of_ble_eq_true rfl) dX9_clear_10 (fun H locs hP hD hS => ?_)
  refine lv_aload_n hx hb dX9_clear_13 rfl (lv_at hl 0 rfl) ?_
  refine lv_iconst (v := 0) hx hb dX9_clear_14 (by decide) ?_
  refine va_put (D := G) (ci := 9) (v := .int 0) (ty := .int) (C := RX9) (T := TX9) (N := 7) hx hb hts (by decide +kernel) tyX9 tyX9_ok nmX9 hown hK.1 hP hD hS 0 rfl rfl 6 (by decide) (hts (.fieldLink RX9 38 "CardHolder$Town" "wear" "I") (by decide +kernel)) (fun _ h9 => h9) rfl (by decide +kernel) rfl rfl (Nat.le_of_ble_eq_true rfl) dX9_clear_15 (fun H locs hP hD hS => ?_)
  exact W.vret hx hb hr (fun t ht hW => ⟨⟨(fun k => ([0, 0, 0] : List Int32).getD k 0, fun k => ([] : List (Nat → Int32)).getD k (fun _ => 0), fun k => ([] : List (Nat → Int64)).getD k (fun _ => 0)), rfl, ⟨(rgn 0 (x := 0) (by decide)), (rgn 0 (x := 0) (by decide)), (rgn 0 (x := 0) (by decide)), trivial⟩, hp_at ht hP⟩, hS.F ht⟩) hS.2.2 dX9_clear_18

set_option maxHeartbeats 4000000 in
set_option maxRecDepth 100000 in
theorem a_X9_copyOf (l : Launch) (G : va_G) (ct : Nat → ClassId) (a0 : Nat) (a1 : Nat) (a3 : Nat) (a4 : Nat) (a5 : Nat) (a6 : Nat) (n0_5 : Int32) (n0_6 : Int32) (a2 : Nat) (n1_1 : Int32) (f2 : Nat → Int32) (f3 : Nat → Int32) (f4 : Nat → Int32) (f5 : Nat → Int32) (f6 : Nat → Int32) (a7 : Nat) (a8 : Nat) (a10 : Nat) (a11 : Nat) (a12 : Nat) (a13 : Nat) (n7_5 : Int32) (n7_6 : Int32) (a9 : Nat) (n8_1 : Int32) (f9 : Nat → Int32) (f10 : Nat → Int32) (f11 : Nat → Int32) (f12 : Nat → Int32) (f13 : Nat → Int32) (hp_n1_1 : rg 0 8 n1_1) (hp_n8_1 : rg 0 8 n8_1) : Met l yX9_copyOf wsX9_copyOf ({ frames := 2, cells := 0, slots := 0, locals := 81 }) (va_Pc [.ref a0, .ref a7] (wrP G ct [(a0, .inr (9, [.ref a1, .ref a3, .ref a4, .ref a5, .ref a6, .int n0_5, .int n0_6])), (a1, .inr (0, [.ref a2, .int n1_1])), (a2, .inl (ct 0, 8, .inl f2)), (a3, .inl (ct 0, 8, .inl f3)), (a4, .inl (ct 0, 8, .inl f4)), (a5, .inl (ct 0, 8, .inl f5)), (a6, .inl (ct 0, 8, .inl f6)), (a7, .inr (9, [.ref a8, .ref a10, .ref a11, .ref a12, .ref a13, .int n7_5, .int n7_6])), (a8, .inr (0, [.ref a9, .int n8_1])), (a9, .inl (ct 0, 8, .inl f9)), (a10, .inl (ct 0, 8, .inl f10)), (a11, .inl (ct 0, 8, .inl f11)), (a12, .inl (ct 0, 8, .inl f12)), (a13, .inl (ct 0, 8, .inl f13))])) (va_Qv (fun u : SU => rg 0 8 (u.1 2) ∧ True) (fun u t => va_P G vwCl ((fun u : SU => [(a0, .inr (9, [.ref a1, .ref a3, .ref a4, .ref a5, .ref a6, .int (u.1 0), .int (u.1 1)])), (a1, .inr (0, [.ref a2, .int (u.1 2)])), (a2, .inl (ct 0, 8, .inl (u.2.1 0))), (a3, .inl (ct 0, 8, .inl (u.2.1 1))), (a4, .inl (ct 0, 8, .inl (u.2.1 2))), (a5, .inl (ct 0, 8, .inl (u.2.1 3))), (a6, .inl (ct 0, 8, .inl (u.2.1 4))), (a7, .inr (9, [.ref a8, .ref a10, .ref a11, .ref a12, .ref a13, .int n7_5, .int n7_6])), (a8, .inr (0, [.ref a9, .int n8_1])), (a9, .inl (ct 0, 8, .inl f9)), (a10, .inl (ct 0, 8, .inl f10)), (a11, .inl (ct 0, 8, .inl f11)), (a12, .inl (ct 0, 8, .inl f12)), (a13, .inl (ct 0, 8, .inl f13))]) u) t.heap) (aset [(a0, .inr (9, [.ref a1, .ref a3, .ref a4, .ref a5, .ref a6, .int n0_5, .int n0_6])), (a1, .inr (0, [.ref a2, .int n1_1])), (a2, .inl (ct 0, 8, .inl f2)), (a3, .inl (ct 0, 8, .inl f3)), (a4, .inl (ct 0, 8, .inl f4)), (a5, .inl (ct 0, 8, .inl f5)), (a6, .inl (ct 0, 8, .inl f6)), (a7, .inr (9, [.ref a8, .ref a10, .ref a11, .ref a12, .ref a13, .int n7_5, .int n7_6])), (a8, .inr (0, [.ref a9, .int n8_1])), (a9, .inl (ct 0, 8, .inl f9)), (a10, .inl (ct 0, 8, .inl f10)), (a11, .inl (ct 0, 8, .inl f11)), (a12, .inl (ct 0, 8, .inl f12)), (a13, .inl (ct 0, 8, .inl f13))])) 0 0 (aset [(a0, .inr (9, [.ref a1, .ref a3, .ref a4, .ref a5, .ref a6, .int n0_5, .int n0_6])), (a1, .inr (0, [.ref a2, .int n1_1])), (a2, .inl (ct 0, 8, .inl f2)), (a3, .inl (ct 0, 8, .inl f3)), (a4, .inl (ct 0, 8, .inl f4)), (a5, .inl (ct 0, 8, .inl f5)), (a6, .inl (ct 0, 8, .inl f6)), (a7, .inr (9, [.ref a8, .ref a10, .ref a11, .ref a12, .ref a13, .int n7_5, .int n7_6])), (a8, .inr (0, [.ref a9, .int n8_1])), (a9, .inl (ct 0, 8, .inl f9)), (a10, .inl (ct 0, 8, .inl f10)), (a11, .inl (ct 0, 8, .inl f11)), (a12, .inl (ct 0, 8, .inl f12)), (a13, .inl (ct 0, 8, .inl f13))]) := by
  refine Met.ofW (cc := cX9_copyOf) (maxL := 2) (ret := none) (by decide) rfl ?_
  intro p e s m args below meth c s₁ B hml hv
  obtain ⟨rfl, hP, hK, hD0⟩ := hv
  have hx := B.exec
  have hb := B.bytes
  have hr := B.returns
  have hts := atoms_spec (ws := wsX9_copyOf) B.pre
  have hown : s.vm.findClass RX9 = some m.cls := findClass_of_methodNamed B.named
  have hlocks := B.notSynchronized
  have hD := hD0.aself
  generalize hAe : aset [(a0, .inr (9, [.ref a1, .ref a3, .ref a4, .ref a5, .ref a6, .int n0_5, .int n0_6])), (a1, .inr (0, [.ref a2, .int n1_1])), (a2, .inl (ct 0, 8, .inl f2)), (a3, .inl (ct 0, 8, .inl f3)), (a4, .inl (ct 0, 8, .inl f4)), (a5, .inl (ct 0, 8, .inl f5)), (a6, .inl (ct 0, 8, .inl f6)), (a7, .inr (9, [.ref a8, .ref a10, .ref a11, .ref a12, .ref a13, .int n7_5, .int n7_6])), (a8, .inr (0, [.ref a9, .int n8_1])), (a9, .inl (ct 0, 8, .inl f9)), (a10, .inl (ct 0, 8, .inl f10)), (a11, .inl (ct 0, 8, .inl f11)), (a12, .inl (ct 0, 8, .inl f12)), (a13, .inl (ct 0, 8, .inl f13))] = A at hD ⊢
  have hS : va_S A s.heap s.heap [] := va_S.rf
  have hl := lv_entry ([.ref a0, .ref a7]) (n := 2) (Nat.le_of_ble_eq_true rfl)
  rw [lg_entry_eq]
  generalize (lg_sl ([.ref a0, .ref a7]) ++ List.replicate (2 - (lg_sl ([.ref a0, .ref a7])).length) Slot.unset).toArray = ls at hl ⊢
  have hl : lv_has ls 2 [(0, .ref a0), (1, .ref a7)] := hl
  refine lv_aload_n hx hb dX9_copyOf_0 rfl (lv_at hl 0 rfl) ?_
  refine va_get (D := G) (ci := 9) (v := .ref a1) (C := RX9) (T := TX9) (N := 7) hx hb hts (by decide +kernel) hown hK.1 hP 0 rfl rfl 0 (by decide) (hts (.fieldLink RX9 12 "CardHolder$Town" "bonds" "LCardHolder$Bonds;") (by decide +kernel)) (fun _ h9 => h9) rfl dX9_copyOf_1 ?_
  refine lv_aload_n hx hb dX9_copyOf_4 rfl (lv_at hl 1 rfl) ?_
  refine va_get (D := G) (ci := 9) (v := .ref a8) (C := RX9) (T := TX9) (N := 7) hx hb hts (by decide +kernel) hown hK.1 hP 7 rfl rfl 0 (by decide) (hts (.fieldLink RX9 12 "CardHolder$Town" "bonds" "LCardHolder$Bonds;") (by decide +kernel)) (fun _ h9 => h9) rfl dX9_copyOf_5 ?_
  refine wj_callv (wr := [(a0, .inr (9, [.ref a1, .ref a3, .ref a4, .ref a5, .ref a6, .int n0_5, .int n0_6])), (a3, .inl (ct 0, 8, .inl f3)), (a4, .inl (ct 0, 8, .inl f4)), (a5, .inl (ct 0, 8, .inl f5)), (a6, .inl (ct 0, 8, .inl f6)), (a7, .inr (9, [.ref a8, .ref a10, .ref a11, .ref a12, .ref a13, .int n7_5, .int n7_6])), (a10, .inl (ct 0, 8, .inl f10)), (a11, .inl (ct 0, 8, .inl f11)), (a12, .inl (ct 0, 8, .inl f12)), (a13, .inl (ct 0, 8, .inl f13))]) (w1 := (fun u : SU => [(a1, .inr (0, [.ref a2, .int (u.1 0)])), (a2, .inl (ct 0, 8, .inl (u.2.1 0))), (a8, .inr (0, [.ref a9, .int n8_1])), (a9, .inl (ct 0, 8, .inl f9))])) (va_runV (As := [.ref a8]) (rest := []) ⟨hx, hb, hml, hown, hts⟩ (a_X0_copyOf l G ct a1 a2 n1_1 f2 a8 a9 n8_1 f9 hp_n1_1 hp_n8_1) (cwV 1 hts gX9_copyOf_X0_copyOf rfl rfl rfl (by decide +kernel) ⟨Nat.le_of_ble_eq_true rfl, Nat.le_of_ble_eq_true rfl⟩) (wr_preV 0 0 hK (hP.sub [1, 2, 8, 9] rfl) (hD.sub [1, 2, 8, 9] (by decide) rfl) rfl rfl) rfl rfl hl.1 rfl (lv_room (Nat.le_of_ble_eq_true rfl)) dX9_copyOf_8 ⟨Nat.zero_le _, Nat.zero_le _⟩) hS hP hD [1, 2, 8, 9] [0, 3, 4, 5, 6, 7, 10, 11, 12, 13] rfl rfl (by decide) (fun _ => rfl) (fun ur8 H locs wr8 hP hD hS => ?_)
  have hP : va_P G vwCl [(a0, .inr (9, [.ref a1, .ref a3, .ref a4, .ref a5, .ref a6, .int n0_5, .int n0_6])), (a1, .inr (0, [.ref a2, .int (ur8.1 0)])), (a2, .inl (ct 0, 8, .inl (ur8.2.1 0))), (a3, .inl (ct 0, 8, .inl f3)), (a4, .inl (ct 0, 8, .inl f4)), (a5, .inl (ct 0, 8, .inl f5)), (a6, .inl (ct 0, 8, .inl f6)), (a7, .inr (9, [.ref a8, .ref a10, .ref a11, .ref a12, .ref a13, .int n7_5, .int n7_6])), (a8, .inr (0, [.ref a9, .int n8_1])), (a9, .inl (ct 0, 8, .inl f9)), (a10, .inl (ct 0, 8, .inl f10)), (a11, .inl (ct 0, 8, .inl f11)), (a12, .inl (ct 0, 8, .inl f12)), (a13, .inl (ct 0, 8, .inl f13))] H := hP.sub [0, 10, 11, 1, 2, 3, 4, 5, 12, 13, 6, 7, 8, 9] rfl
  have hD : va_D A [(a0, .inr (9, [.ref a1, .ref a3, .ref a4, .ref a5, .ref a6, .int n0_5, .int n0_6])), (a1, .inr (0, [.ref a2, .int (ur8.1 0)])), (a2, .inl (ct 0, 8, .inl (ur8.2.1 0))), (a3, .inl (ct 0, 8, .inl f3)), (a4, .inl (ct 0, 8, .inl f4)), (a5, .inl (ct 0, 8, .inl f5)), (a6, .inl (ct 0, 8, .inl f6)), (a7, .inr (9, [.ref a8, .ref a10, .ref a11, .ref a12, .ref a13, .int n7_5, .int n7_6])), (a8, .inr (0, [.ref a9, .int n8_1])), (a9, .inl (ct 0, 8, .inl f9)), (a10, .inl (ct 0, 8, .inl f10)), (a11, .inl (ct 0, 8, .inl f11)), (a12, .inl (ct 0, 8, .inl f12)), (a13, .inl (ct 0, 8, .inl f13))] := hD.sub [0, 10, 11, 1, 2, 3, 4, 5, 12, 13, 6, 7, 8, 9] (by decide) rfl
  obtain ⟨p_1, -⟩ := wr8
  refine lv_aload_n hx hb dX9_copyOf_11 rfl (lv_at hl 1 rfl) ?_
  refine va_get (D := G) (ci := 9) (v := .ref a10) (C := RX9) (T := TX9) (N := 7) hx hb hts (by decide +kernel) hown hK.1 hP 7 rfl rfl 1 (by decide) (hts (.fieldLink RX9 18 "CardHolder$Town" "worths" "[I") (by decide +kernel)) (fun _ h9 => h9) rfl dX9_copyOf_12 ?_
  refine lv_iconst (v := 0) hx hb dX9_copyOf_15 (by decide) ?_
  refine lv_aload_n hx hb dX9_copyOf_16 rfl (lv_at hl 0 rfl) ?_
  refine va_get (D := G) (ci := 9) (v := .ref a3) (C := RX9) (T := TX9) (N := 7) hx hb hts (by decide +kernel) hown hK.1 hP 0 rfl rfl 1 (by decide) (hts (.fieldLink RX9 18 "CardHolder$Town" "worths" "[I") (by decide +kernel)) (fun _ h9 => h9) rfl dX9_copyOf_17 ?_
  refine lv_iconst (v := 0) hx hb dX9_copyOf_20 (by decide) ?_
  refine lv_bipush (v := 8) hx hb dX9_copyOf_21 (by decide) ?_
  refine va_copyi (ty := .int) hx hb (hml.trans hl.1.symm) hown (hts (.methodLink RX9 45 arraycopyName) (by decide +kernel)) (hts (.native arraycopyName) (by decide +kernel)) (hts (.static arraycopyName) (by decide +kernel)) (hts (.initialized "java/lang/System") (by decide +kernel)) hK.1 hP hD hS 10 3 0 0 rfl rfl rfl rfl rfl (by decide) (by decide) (by decide) (by decide) (by decide) (fun _ _ => rfl) (Nat.le_of_ble_eq_true rfl) (Nat.le_of_ble_eq_true rfl) dX9_copyOf_23 (fun H locs hP hD hS => ?_)
  refine lv_aload_n hx hb dX9_copyOf_26 rfl (lv_at hl 1 rfl) ?_
  refine va_get (D := G) (ci := 9) (v := .ref a11) (C := RX9) (T := TX9) (N := 7) hx hb hts (by decide +kernel) hown hK.1 hP 7 rfl rfl 2 (by decide) (hts (.fieldLink RX9 22 "CardHolder$Town" "does" "[I") (by decide +kernel)) (fun _ h9 => h9) rfl dX9_copyOf_27 ?_
  refine lv_iconst (v := 0) hx hb dX9_copyOf_30 (by decide) ?_
  refine lv_aload_n hx hb dX9_copyOf_31 rfl (lv_at hl 0 rfl) ?_
  refine va_get (D := G) (ci := 9) (v := .ref a4) (C := RX9) (T := TX9) (N := 7) hx hb hts (by decide +kernel) hown hK.1 hP 0 rfl rfl 2 (by decide) (hts (.fieldLink RX9 22 "CardHolder$Town" "does" "[I") (by decide +kernel)) (fun _ h9 => h9) rfl dX9_copyOf_32 ?_
  refine lv_iconst (v := 0) hx hb dX9_copyOf_35 (by decide) ?_
  refine lv_bipush (v := 8) hx hb dX9_copyOf_36 (by decide) ?_
  refine va_copyi (ty := .int) hx hb (hml.trans hl.1.symm) hown (hts (.methodLink RX9 45 arraycopyName) (by decide +kernel)) (hts (.native arraycopyName) (by decide +kernel)) (hts (.static arraycopyName) (by decide +kernel)) (hts (.initialized "java/lang/System") (by decide +kernel)) hK.1 hP hD hS 11 4 0 0 rfl rfl rfl rfl rfl (by decide) (by decide) (by decide) (by decide) (by decide) (fun _ _ => rfl) (Nat.le_of_ble_eq_true rfl) (Nat.le_of_ble_eq_true rfl) dX9_copyOf_38 (fun H locs hP hD hS => ?_)
  refine lv_aload_n hx hb dX9_copyOf_41 rfl (lv_at hl 1 rfl) ?_
  refine va_get (D := G) (ci := 9) (v := .ref a12) (C := RX9) (T := TX9) (N := 7) hx hb hts (by decide +kernel) hown hK.1 hP 7 rfl rfl 3 (by decide) (hts (.fieldLink RX9 25 "CardHolder$Town" "wishes" "[I") (by decide +kernel)) (fun _ h9 => h9) rfl dX9_copyOf_42 ?_
  refine lv_iconst (v := 0) hx hb dX9_copyOf_45 (by decide) ?_
  refine lv_aload_n hx hb dX9_copyOf_46 rfl (lv_at hl 0 rfl) ?_
  refine va_get (D := G) (ci := 9) (v := .ref a5) (C := RX9) (T := TX9) (N := 7) hx hb hts (by decide +kernel) hown hK.1 hP 0 rfl rfl 3 (by decide) (hts (.fieldLink RX9 25 "CardHolder$Town" "wishes" "[I") (by decide +kernel)) (fun _ h9 => h9) rfl dX9_copyOf_47 ?_
  refine lv_iconst (v := 0) hx hb dX9_copyOf_50 (by decide) ?_
  refine lv_bipush (v := 8) hx hb dX9_copyOf_51 (by decide) ?_
  refine va_copyi (ty := .int) hx hb (hml.trans hl.1.symm) hown (hts (.methodLink RX9 45 arraycopyName) (by decide +kernel)) (hts (.native arraycopyName) (by decide +kernel)) (hts (.static arraycopyName) (by decide +kernel)) (hts (.initialized "java/lang/System") (by decide +kernel)) hK.1 hP hD hS 12 5 0 0 rfl rfl rfl rfl rfl (by decide) (by decide) (by decide) (by decide) (by decide) (fun _ _ => rfl) (Nat.le_of_ble_eq_true rfl) (Nat.le_of_ble_eq_true rfl) dX9_copyOf_53 (fun H locs hP hD hS => ?_)
  refine lv_aload_n hx hb dX9_copyOf_56 rfl (lv_at hl 1 rfl) ?_
  refine va_get (D := G) (ci := 9) (v := .ref a13) (C := RX9) (T := TX9) (N := 7) hx hb hts (by decide +kernel) hown hK.1 hP 7 rfl rfl 4 (by decide) (hts (.fieldLink RX9 28 "CardHolder$Town" "forged" "[I") (by decide +kernel)) (fun _ h9 => h9) rfl dX9_copyOf_57 ?_
  refine lv_iconst (v := 0) hx hb dX9_copyOf_60 (by decide) ?_
  refine lv_aload_n hx hb dX9_copyOf_61 rfl (lv_at hl 0 rfl) ?_
  refine va_get (D := G) (ci := 9) (v := .ref a6) (C := RX9) (T := TX9) (N := 7) hx hb hts (by decide +kernel) hown hK.1 hP 0 rfl rfl 4 (by decide) (hts (.fieldLink RX9 28 "CardHolder$Town" "forged" "[I") (by decide +kernel)) (fun _ h9 => h9) rfl dX9_copyOf_62 ?_
  refine lv_iconst (v := 0) hx hb dX9_copyOf_65 (by decide) ?_
  refine lv_bipush (v := 8) hx hb dX9_copyOf_66 (by decide) ?_
  refine va_copyi (ty := .int) hx hb (hml.trans hl.1.symm) hown (hts (.methodLink RX9 45 arraycopyName) (by decide +kernel)) (hts (.native arraycopyName) (by decide +kernel)) (hts (.static arraycopyName) (by decide +kernel)) (hts (.initialized "java/lang/System") (by decide +kernel)) hK.1 hP hD hS 13 6 0 0 rfl rfl rfl rfl rfl (by decide) (by decide) (by decide) (by decide) (by decide) (fun _ _ => rfl) (Nat.le_of_ble_eq_true rfl) (Nat.le_of_ble_eq_true rfl) dX9_copyOf_68 (fun H locs hP hD hS => ?_)
  refine lv_aload_n hx hb dX9_copyOf_71 rfl (lv_at hl 0 rfl) ?_
  refine lv_aload_n hx hb dX9_copyOf_72 rfl (lv_at hl 1 rfl) ?_
  refine va_get (D := G) (ci := 9) (v := .int n7_5) (C := RX9) (T := TX9) (N := 7) hx hb hts (by decide +kernel) hown hK.1 hP 7 rfl rfl 5 (by decide) (hts (.fieldLink RX9 35 "CardHolder$Town" "lines" "I") (by decide +kernel)) (fun _ h9 => h9) rfl dX9_copyOf_73 ?_
  refine va_put (D := G) (ci := 9) (v := .int n7_5) (ty := .int) (C := RX9) (T := TX9) (N := 7) hx hb hts (by decide +kernel) tyX9 tyX9_ok nmX9 hown hK.1 hP hD hS 0 rfl rfl 5 (by decide) (hts (.fieldLink RX9 35 "CardHolder$Town" "lines" "I") (by decide +kernel)) (fun _ h9 => h9) rfl (by decide +kernel) rfl rfl (Nat.le_of_ble_eq_true rfl) dX9_copyOf_76 (fun H locs hP hD hS => ?_)
  refine lv_aload_n hx hb dX9_copyOf_79 rfl (lv_at hl 0 rfl) ?_
  refine lv_aload_n hx hb dX9_copyOf_80 rfl (lv_at hl 1 rfl) ?_
  refine va_get (D := G) (ci := 9) (v := .int n7_6) (C := RX9) (T := TX9) (N := 7) hx hb hts (by decide +kernel) hown hK.1 hP 7 rfl rfl 6 (by decide) (hts (.fieldLink RX9 38 "CardHolder$Town" "wear" "I") (by decide +kernel)) (fun _ h9 => h9) rfl dX9_copyOf_81 ?_
  refine va_put (D := G) (ci := 9) (v := .int n7_6) (ty := .int) (C := RX9) (T := TX9) (N := 7) hx hb hts (by decide +kernel) tyX9 tyX9_ok nmX9 hown hK.1 hP hD hS 0 rfl rfl 6 (by decide) (hts (.fieldLink RX9 38 "CardHolder$Town" "wear" "I") (by decide +kernel)) (fun _ h9 => h9) rfl (by decide +kernel) rfl rfl (Nat.le_of_ble_eq_true rfl) dX9_copyOf_84 (fun H locs hP hD hS => ?_)
  exact W.vret hx hb hr (fun t ht hW => ⟨⟨(fun k => ([n7_5, n7_6, ur8.1 0] : List Int32).getD k 0, fun k => ([ur8.2.1 0, va_cpy f10 f3 (0 : Int32).toNatClampNeg (0 : Int32).toNatClampNeg (8 : Int32).toNatClampNeg, va_cpy f11 f4 (0 : Int32).toNatClampNeg (0 : Int32).toNatClampNeg (8 : Int32).toNatClampNeg, va_cpy f12 f5 (0 : Int32).toNatClampNeg (0 : Int32).toNatClampNeg (8 : Int32).toNatClampNeg, va_cpy f13 f6 (0 : Int32).toNatClampNeg (0 : Int32).toNatClampNeg (8 : Int32).toNatClampNeg] : List (Nat → Int32)).getD k (fun _ => 0), fun k => ([] : List (Nat → Int64)).getD k (fun _ => 0)), rfl, ⟨p_1, trivial⟩, hp_at ht hP⟩, hS.F ht⟩) hS.2.2 dX9_copyOf_87

set_option maxHeartbeats 4000000 in
set_option maxRecDepth 100000 in
theorem a_X9_addPerson (l : Launch) (G : va_G) (ct : Nat → ClassId) (a0 : Nat) (a1 : Nat) (a3 : Nat) (a4 : Nat) (a5 : Nat) (a6 : Nat) (n0_5 : Int32) (n0_6 : Int32) (a2 : Nat) (n1_1 : Int32) (f2 : Nat → Int32) (f3 : Nat → Int32) (f4 : Nat → Int32) (f5 : Nat → Int32) (f6 : Nat → Int32) (p0 : Int32) (p1 : Int32) (p2 : Int32) (hp_n1_1 : rg 0 8 n1_1) : Met l yX9_addPerson wsX9_addPerson ({ frames := 2, cells := 0, slots := 0, locals := 43 }) (va_Pc [.ref a0, .int p0, .int p1, .int p2] (wrP G ct [(a0, .inr (9, [.ref a1, .ref a3, .ref a4, .ref a5, .ref a6, .int n0_5, .int n0_6])), (a1, .inr (0, [.ref a2, .int n1_1])), (a2, .inl (ct 0, 8, .inl f2)), (a3, .inl (ct 0, 8, .inl f3)), (a4, .inl (ct 0, 8, .inl f4)), (a5, .inl (ct 0, 8, .inl f5)), (a6, .inl (ct 0, 8, .inl f6))])) (va_Qv (fun u : SU => rg 1 8 (u.1 0) ∧ True) (fun u t => va_P G vwCl ((fun u : SU => [(a0, .inr (9, [.ref a1, .ref a3, .ref a4, .ref a5, .ref a6, .int n0_5, .int n0_6])), (a1, .inr (0, [.ref a2, .int (u.1 0)])), (a2, .inl (ct 0, 8, .inl (u.2.1 0))), (a3, .inl (ct 0, 8, .inl (u.2.1 1))), (a4, .inl (ct 0, 8, .inl (u.2.1 2))), (a5, .inl (ct 0, 8, .inl (u.2.1 3))), (a6, .inl (ct 0, 8, .inl (u.2.1 4)))]) u) t.heap) (aset [(a0, .inr (9, [.ref a1, .ref a3, .ref a4, .ref a5, .ref a6, .int n0_5, .int n0_6])), (a1, .inr (0, [.ref a2, .int n1_1])), (a2, .inl (ct 0, 8, .inl f2)), (a3, .inl (ct 0, 8, .inl f3)), (a4, .inl (ct 0, 8, .inl f4)), (a5, .inl (ct 0, 8, .inl f5)), (a6, .inl (ct 0, 8, .inl f6))])) 0 0 (aset [(a0, .inr (9, [.ref a1, .ref a3, .ref a4, .ref a5, .ref a6, .int n0_5, .int n0_6])), (a1, .inr (0, [.ref a2, .int n1_1])), (a2, .inl (ct 0, 8, .inl f2)), (a3, .inl (ct 0, 8, .inl f3)), (a4, .inl (ct 0, 8, .inl f4)), (a5, .inl (ct 0, 8, .inl f5)), (a6, .inl (ct 0, 8, .inl f6))]) := by
  refine Met.ofW (cc := cX9_addPerson) (maxL := 5) (ret := none) (by decide) rfl ?_
  intro p e s m args below meth c s₁ B hml hv
  obtain ⟨rfl, hP, hK, hD0⟩ := hv
  have hx := B.exec
  have hb := B.bytes
  have hr := B.returns
  have hts := atoms_spec (ws := wsX9_addPerson) B.pre
  have hown : s.vm.findClass RX9 = some m.cls := findClass_of_methodNamed B.named
  have hlocks := B.notSynchronized
  have hD := hD0.aself
  generalize hAe : aset [(a0, .inr (9, [.ref a1, .ref a3, .ref a4, .ref a5, .ref a6, .int n0_5, .int n0_6])), (a1, .inr (0, [.ref a2, .int n1_1])), (a2, .inl (ct 0, 8, .inl f2)), (a3, .inl (ct 0, 8, .inl f3)), (a4, .inl (ct 0, 8, .inl f4)), (a5, .inl (ct 0, 8, .inl f5)), (a6, .inl (ct 0, 8, .inl f6))] = A at hD ⊢
  have hS : va_S A s.heap s.heap [] := va_S.rf
  have hl := lv_entry ([.ref a0, .int p0, .int p1, .int p2]) (n := 5) (Nat.le_of_ble_eq_true rfl)
  rw [lg_entry_eq]
  generalize (lg_sl ([.ref a0, .int p0, .int p1, .int p2]) ++ List.replicate (5 - (lg_sl ([.ref a0, .int p0, .int p1, .int p2])).length) Slot.unset).toArray = ls at hl ⊢
  have hl : lv_has ls 5 [(0, .ref a0), (1, .int p0), (2, .int p1), (3, .int p2)] := hl
  refine lv_aload_n hx hb dX9_addPerson_0 rfl (lv_at hl 0 rfl) ?_
  refine va_get (D := G) (ci := 9) (v := .ref a1) (C := RX9) (T := TX9) (N := 7) hx hb hts (by decide +kernel) hown hK.1 hP 0 rfl rfl 0 (by decide) (hts (.fieldLink RX9 12 "CardHolder$Town" "bonds" "LCardHolder$Bonds;") (by decide +kernel)) (fun _ h9 => h9) rfl dX9_addPerson_1 ?_
  refine va_get (D := G) (ci := 0) (v := .int n1_1) (C := RX0) (T := TX0) (N := 2) hx hb hts (by decide +kernel) hown hK.1 hP 1 rfl rfl 1 (by decide) (hts (.fieldLink RX9 31 "CardHolder$Bonds" "persons" "I") (by decide +kernel)) (fun _ h9 => h9) rfl dX9_addPerson_4 ?_
  refine lv_istore (lv' := [(4, .int n1_1), (0, .ref a0), (1, .int p0), (2, .int p1), (3, .int p2)]) hx hb dX9_addPerson_7 hl (by decide) rfl (fun ls hl => ?_)
  refine lv_iload hx hb dX9_addPerson_9 (lv_at hl 0 rfl) ?_
  refine lv_bipush (v := 8) hx hb dX9_addPerson_11 (by decide) ?_
  refine lv_icmp_lt (tgt := 17) hx hb dX9_addPerson_13 (by decide) (fun c13 => ?_) (fun c13 => ?_)
  · have h_1 : rg 0 7 n1_1 := r_lt_l_i c13 hp_n1_1 (rgn 8 (x := 8) (by decide)) (by decide)
    refine lv_aload_n hx hb dX9_addPerson_17 rfl (lv_at hl 1 rfl) ?_
    refine va_get (D := G) (ci := 9) (v := .ref a1) (C := RX9) (T := TX9) (N := 7) hx hb hts (by decide +kernel) hown hK.1 hP 0 rfl rfl 0 (by decide) (hts (.fieldLink RX9 12 "CardHolder$Town" "bonds" "LCardHolder$Bonds;") (by decide +kernel)) (fun _ h9 => h9) rfl dX9_addPerson_18 ?_
    refine lv_dup hx hb dX9_addPerson_21 rfl ?_
    refine va_get (D := G) (ci := 0) (v := .int n1_1) (C := RX0) (T := TX0) (N := 2) hx hb hts (by decide +kernel) hown hK.1 hP 1 rfl rfl 1 (by decide) (hts (.fieldLink RX9 31 "CardHolder$Bonds" "persons" "I") (by decide +kernel)) (fun _ h9 => h9) rfl dX9_addPerson_22 ?_
    refine lv_iconst (v := 1) hx hb dX9_addPerson_25 (by decide) ?_
    refine lv_iadd hx hb dX9_addPerson_26 ?_
    refine nm_add (e1 := 1) (f := 8) h_1 (rgn 1 (x := 1) (by decide)) (by decide) (fun z26 hz26 ez26 => ?_)
    replace ez26 := eqc_r ez26 (c := 1) (by decide)
    refine va_put (D := G) (ci := 0) (v := .int z26) (ty := .int) (C := RX0) (T := TX0) (N := 2) hx hb hts (by decide +kernel) tyX0 tyX0_ok nmX0 hown hK.1 hP hD hS 1 rfl rfl 1 (by decide) (hts (.fieldLink RX9 31 "CardHolder$Bonds" "persons" "I") (by decide +kernel)) (fun _ h9 => h9) rfl (by decide +kernel) rfl rfl (Nat.le_of_ble_eq_true rfl) dX9_addPerson_27 (fun H locs hP hD hS => ?_)
    refine lv_aload_n hx hb dX9_addPerson_30 rfl (lv_at hl 1 rfl) ?_
    refine va_get (D := G) (ci := 9) (v := .ref a1) (C := RX9) (T := TX9) (N := 7) hx hb hts (by decide +kernel) hown hK.1 hP 0 rfl rfl 0 (by decide) (hts (.fieldLink RX9 12 "CardHolder$Town" "bonds" "LCardHolder$Bonds;") (by decide +kernel)) (fun _ h9 => h9) rfl dX9_addPerson_31 ?_
    refine lv_iload hx hb dX9_addPerson_34 (lv_at hl 0 rfl) ?_
    refine lv_iconst (v := (-1)) hx hb dX9_addPerson_36 (by decide) ?_
    refine wj_callv (wr := [(a0, .inr (9, [.ref a1, .ref a3, .ref a4, .ref a5, .ref a6, .int n0_5, .int n0_6])), (a3, .inl (ct 0, 8, .inl f3)), (a4, .inl (ct 0, 8, .inl f4)), (a5, .inl (ct 0, 8, .inl f5)), (a6, .inl (ct 0, 8, .inl f6))]) (w1 := (fun u : SU => [(a1, .inr (0, [.ref a2, .int z26])), (a2, .inl (ct 0, 8, .inl (u.2.1 0)))])) (va_runV (As := [.int n1_1, .int (-1)]) (rest := []) ⟨hx, hb, hml, hown, hts⟩ (a_X0_put l G ct a1 a2 z26 f2 n1_1 ((-1) : Int32) (rg_w (c := 0) (d := 8) hz26 (by decide))) (cwV 2 hts gX9_addPerson_X0_put rfl rfl rfl (by decide +kernel) ⟨Nat.le_of_ble_eq_true rfl, Nat.le_of_ble_eq_true rfl⟩) (wr_preV 0 0 hK (hP.sub [1, 2] rfl) (hD.sub [1, 2] (by decide) rfl) rfl rfl) rfl rfl hl.1 rfl (lv_room (Nat.le_of_ble_eq_true rfl)) dX9_addPerson_37 ⟨Nat.zero_le _, Nat.zero_le _⟩) hS hP hD [1, 2] [0, 3, 4, 5, 6] rfl rfl (by decide) (fun _ => rfl) (fun ur37 H locs wr37 hP hD hS => ?_)
    have hP : va_P G vwCl [(a0, .inr (9, [.ref a1, .ref a3, .ref a4, .ref a5, .ref a6, .int n0_5, .int n0_6])), (a1, .inr (0, [.ref a2, .int z26])), (a2, .inl (ct 0, 8, .inl (ur37.2.1 0))), (a3, .inl (ct 0, 8, .inl f3)), (a4, .inl (ct 0, 8, .inl f4)), (a5, .inl (ct 0, 8, .inl f5)), (a6, .inl (ct 0, 8, .inl f6))] H := hP.sub [0, 5, 6, 1, 2, 3, 4] rfl
    have hD : va_D A [(a0, .inr (9, [.ref a1, .ref a3, .ref a4, .ref a5, .ref a6, .int n0_5, .int n0_6])), (a1, .inr (0, [.ref a2, .int z26])), (a2, .inl (ct 0, 8, .inl (ur37.2.1 0))), (a3, .inl (ct 0, 8, .inl f3)), (a4, .inl (ct 0, 8, .inl f4)), (a5, .inl (ct 0, 8, .inl f5)), (a6, .inl (ct 0, 8, .inl f6))] := hD.sub [0, 5, 6, 1, 2, 3, 4] (by decide) rfl
    refine lv_aload_n hx hb dX9_addPerson_40 rfl (lv_at hl 1 rfl) ?_
    refine va_get (D := G) (ci := 9) (v := .ref a3) (C := RX9) (T := TX9) (N := 7) hx hb hts (by decide +kernel) hown hK.1 hP 0 rfl rfl 1 (by decide) (hts (.fieldLink RX9 18 "CardHolder$Town" "worths" "[I") (by decide +kernel)) (fun _ h9 => h9) rfl dX9_addPerson_41 ?_
    refine lv_iload hx hb dX9_addPerson_44 (lv_at hl 0 rfl) ?_
    refine lv_iload_n hx hb dX9_addPerson_46 rfl (lv_at hl 2 rfl) ?_
    refine va_iast hx hb hK.1 hP hD hS 3 0 rfl rfl (in_rg h_1 (by decide)) dX9_addPerson_47 (fun H locs hP hD hS => ?_)
    refine lv_aload_n hx hb dX9_addPerson_48 rfl (lv_at hl 1 rfl) ?_
    refine va_get (D := G) (ci := 9) (v := .ref a4) (C := RX9) (T := TX9) (N := 7) hx hb hts (by decide +kernel) hown hK.1 hP 0 rfl rfl 2 (by decide) (hts (.fieldLink RX9 22 "CardHolder$Town" "does" "[I") (by decide +kernel)) (fun _ h9 => h9) rfl dX9_addPerson_49 ?_
    refine lv_iload hx hb dX9_addPerson_52 (lv_at hl 0 rfl) ?_
    refine lv_iload_n hx hb dX9_addPerson_54 rfl (lv_at hl 3 rfl) ?_
    refine va_iast hx hb hK.1 hP hD hS 4 0 rfl rfl (in_rg h_1 (by decide)) dX9_addPerson_55 (fun H locs hP hD hS => ?_)
    refine lv_aload_n hx hb dX9_addPerson_56 rfl (lv_at hl 1 rfl) ?_
    refine va_get (D := G) (ci := 9) (v := .ref a5) (C := RX9) (T := TX9) (N := 7) hx hb hts (by decide +kernel) hown hK.1 hP 0 rfl rfl 3 (by decide) (hts (.fieldLink RX9 25 "CardHolder$Town" "wishes" "[I") (by decide +kernel)) (fun _ h9 => h9) rfl dX9_addPerson_57 ?_
    refine lv_iload hx hb dX9_addPerson_60 (lv_at hl 0 rfl) ?_
    refine lv_iload_n hx hb dX9_addPerson_62 rfl (lv_at hl 4 rfl) ?_
    refine va_iast hx hb hK.1 hP hD hS 5 0 rfl rfl (in_rg h_1 (by decide)) dX9_addPerson_63 (fun H locs hP hD hS => ?_)
    refine lv_aload_n hx hb dX9_addPerson_64 rfl (lv_at hl 1 rfl) ?_
    refine va_get (D := G) (ci := 9) (v := .ref a6) (C := RX9) (T := TX9) (N := 7) hx hb hts (by decide +kernel) hown hK.1 hP 0 rfl rfl 4 (by decide) (hts (.fieldLink RX9 28 "CardHolder$Town" "forged" "[I") (by decide +kernel)) (fun _ h9 => h9) rfl dX9_addPerson_65 ?_
    refine lv_iload hx hb dX9_addPerson_68 (lv_at hl 0 rfl) ?_
    refine lv_iconst (v := 0) hx hb dX9_addPerson_70 (by decide) ?_
    refine va_iast hx hb hK.1 hP hD hS 6 0 rfl rfl (in_rg h_1 (by decide)) dX9_addPerson_71 (fun H locs hP hD hS => ?_)
    exact W.vret hx hb hr (fun t ht hW => ⟨⟨(fun k => ([z26] : List Int32).getD k 0, fun k => ([ur37.2.1 0, upd f3 n1_1.toNatClampNeg p0, upd f4 n1_1.toNatClampNeg p1, upd f5 n1_1.toNatClampNeg p2, upd f6 n1_1.toNatClampNeg 0] : List (Nat → Int32)).getD k (fun _ => 0), fun k => ([] : List (Nat → Int64)).getD k (fun _ => 0)), rfl, ⟨hz26, trivial⟩, hp_at ht hP⟩, hS.F ht⟩) hS.2.2 dX9_addPerson_72
  · have h_2 : rg 8 8 n1_1 := r_le_r_i (nlt_i c13) (rgn 8 (x := 8) (by decide)) hp_n1_1
    exact W.vret hx hb hr (fun t ht hW => ⟨⟨(fun k => ([n1_1] : List Int32).getD k 0, fun k => ([f2, f3, f4, f5, f6] : List (Nat → Int32)).getD k (fun _ => 0), fun k => ([] : List (Nat → Int64)).getD k (fun _ => 0)), rfl, ⟨(rg_w (c := 1) (d := 8) h_2 (by decide)), trivial⟩, hp_at ht hP⟩, hS.F ht⟩) hS.2.2 dX9_addPerson_16

set_option maxHeartbeats 4000000 in
set_option maxRecDepth 100000 in
theorem a_X9_worthOf (l : Launch) (G : va_G) (ct : Nat → ClassId) (a0 : Nat) (a1 : Nat) (a3 : Nat) (a4 : Nat) (a5 : Nat) (a6 : Nat) (n0_5 : Int32) (n0_6 : Int32) (a2 : Nat) (n1_1 : Int32) (f3 : Nat → Int32) (p0 : Int32) (hp_n1_1 : rg 0 8 n1_1) : Met l yX9_worthOf wsX9_worthOf ({ frames := 1, cells := 0, slots := 0, locals := 21 }) (va_Pc [.ref a0, .int p0] (roP G ct [(a0, .inr (9, [.ref a1, .ref a3, .ref a4, .ref a5, .ref a6, .int n0_5, .int n0_6])), (a1, .inr (0, [.ref a2, .int n1_1])), (a3, .inl (ct 0, 8, .inl f3))])) (roQ (fun r => (¬ r = 0 → rg 0 7 p0) ∧ (r = (-1) → rg 0 7 p0) ∧ (¬ r = 0 → rg 1 8 n1_1) ∧ (r = (-1) → rg 1 8 n1_1) ∧ True)) 0 0 no := by
  refine Met.ofW (cc := cX9_worthOf) (maxL := 2) (ret := (some .int)) (by decide) rfl ?_
  intro p e s m args below meth c s₁ B hml hv
  obtain ⟨rfl, hP, hK⟩ := hv
  have hx := B.exec
  have hb := B.bytes
  have hr := B.returns
  have hts := atoms_spec (ws := wsX9_worthOf) B.pre
  have hown : s.vm.findClass RX9 = some m.cls := findClass_of_methodNamed B.named
  have hlocks := B.notSynchronized
  have hS : va_S no s.heap s.heap [] := va_S.rf
  have hl := lv_entry ([.ref a0, .int p0]) (n := 2) (Nat.le_of_ble_eq_true rfl)
  rw [lg_entry_eq]
  generalize (lg_sl ([.ref a0, .int p0]) ++ List.replicate (2 - (lg_sl ([.ref a0, .int p0])).length) Slot.unset).toArray = ls at hl ⊢
  have hl : lv_has ls 2 [(0, .ref a0), (1, .int p0)] := hl
  refine lv_aload_n hx hb dX9_worthOf_0 rfl (lv_at hl 0 rfl) ?_
  refine va_get (D := G) (ci := 9) (v := .ref a1) (C := RX9) (T := TX9) (N := 7) hx hb hts (by decide +kernel) hown hK.1 hP 0 rfl rfl 0 (by decide) (hts (.fieldLink RX9 12 "CardHolder$Town" "bonds" "LCardHolder$Bonds;") (by decide +kernel)) (fun _ h9 => h9) rfl dX9_worthOf_1 ?_
  refine lv_iload_n hx hb dX9_worthOf_4 rfl (lv_at hl 1 rfl) ?_
  refine ro_calli (va_runV (As := [.int p0]) (rest := []) ⟨hx, hb, hml, hown, hts⟩ (a_X0_has l G ct a1 a2 n1_1 p0 hp_n1_1) (cwV 1 hts gX9_worthOf_X0_has rfl rfl rfl (by decide +kernel) ⟨Nat.le_of_ble_eq_true rfl, Nat.le_of_ble_eq_true rfl⟩) (ro_preV 0 0 hK (hP.sub [1] rfl) rfl rfl) rfl rfl hl.1 rfl (lv_room (Nat.le_of_ble_eq_true rfl)) dX9_worthOf_5 ⟨Nat.zero_le _, Nat.zero_le _⟩) hS hP (fun r5 H locs wr5 hP hS => ?_)
  obtain ⟨p_1, p_2, p_3, -⟩ := wr5
  refine lv_if_eq (tgt := 20) hx hb dX9_worthOf_8 (by decide) (fun c8 => ?_) (fun c8 => ?_)
  · have h_4 : rg 0 0 r5 := r_eq_l_i (e := 0) (f := 0) c8 p_1 (rgn 0 (x := 0) (by decide)) (by decide)
    refine lv_iconst (v := 0) hx hb dX9_worthOf_20 (by decide) ?_
    exact W.iret (v := 0) hx hb hr (fun t ht hW => ⟨⟨0, (), rfl, ⟨(fun hq => absurd (req (rgn 0 (x := 0) (by decide)) (y := 0) (by decide)) hq), (fun hq => absurd hq (rne (rgn 0 (x := 0) (by decide)) (y := (-1)) (c := (-1)) (by decide) (by decide))), (fun hq => absurd (req (rgn 0 (x := 0) (by decide)) (y := 0) (by decide)) hq), (fun hq => absurd hq (rne (rgn 0 (x := 0) (by decide)) (y := (-1)) (c := (-1)) (by decide) (by decide))), trivial⟩, trivial⟩, hS.F ht⟩) hS.2.2 dX9_worthOf_21
  · have h_5 : rg 1 1 r5 := r_ne_lo_i c8 p_1 (by decide) (by decide)
    have h_6 : rg 0 7 p0 := (p_2 (rne h_5 (y := 0) (c := 0) (by decide) (by decide)))
    have h_7 : rg 1 8 n1_1 := (p_3 (rne h_5 (y := 0) (c := 0) (by decide) (by decide)))
    refine lv_aload_n hx hb dX9_worthOf_11 rfl (lv_at hl 0 rfl) ?_
    refine va_get (D := G) (ci := 9) (v := .ref a3) (C := RX9) (T := TX9) (N := 7) hx hb hts (by decide +kernel) hown hK.1 hP 0 rfl rfl 1 (by decide) (hts (.fieldLink RX9 18 "CardHolder$Town" "worths" "[I") (by decide +kernel)) (fun _ h9 => h9) rfl dX9_worthOf_12 ?_
    refine lv_iload_n hx hb dX9_worthOf_15 rfl (lv_at hl 1 rfl) ?_
    refine va_iald hx hb hK.1 hP 2 0 rfl rfl (in_rg h_6 (by decide)) dX9_worthOf_16 ?_
    refine lv_topi (fun z16 gz16 => ?_)
    refine lv_goto (tgt := 21) hx hb dX9_worthOf_17 (by decide) ?_
    exact W.iret (v := z16) hx hb hr (fun t ht hW => ⟨⟨z16, (), rfl, ⟨(fun _ => h_6), (fun _ => h_6), (fun _ => h_7), (fun _ => h_7), trivial⟩, trivial⟩, hS.F ht⟩) hS.2.2 dX9_worthOf_21

set_option maxHeartbeats 4000000 in
set_option maxRecDepth 100000 in
theorem a_X9_deedsOf (l : Launch) (G : va_G) (ct : Nat → ClassId) (a0 : Nat) (a1 : Nat) (a3 : Nat) (a4 : Nat) (a5 : Nat) (a6 : Nat) (n0_5 : Int32) (n0_6 : Int32) (a2 : Nat) (n1_1 : Int32) (f4 : Nat → Int32) (p0 : Int32) (hp_n1_1 : rg 0 8 n1_1) : Met l yX9_deedsOf wsX9_deedsOf ({ frames := 1, cells := 0, slots := 0, locals := 21 }) (va_Pc [.ref a0, .int p0] (roP G ct [(a0, .inr (9, [.ref a1, .ref a3, .ref a4, .ref a5, .ref a6, .int n0_5, .int n0_6])), (a1, .inr (0, [.ref a2, .int n1_1])), (a4, .inl (ct 0, 8, .inl f4))])) (roQ (fun r => (¬ r = 0 → rg 0 7 p0) ∧ (r = (-1) → rg 0 7 p0) ∧ (¬ r = 0 → rg 1 8 n1_1) ∧ (r = (-1) → rg 1 8 n1_1) ∧ True)) 0 0 no := by
  refine Met.ofW (cc := cX9_deedsOf) (maxL := 2) (ret := (some .int)) (by decide) rfl ?_
  intro p e s m args below meth c s₁ B hml hv
  obtain ⟨rfl, hP, hK⟩ := hv
  have hx := B.exec
  have hb := B.bytes
  have hr := B.returns
  have hts := atoms_spec (ws := wsX9_deedsOf) B.pre
  have hown : s.vm.findClass RX9 = some m.cls := findClass_of_methodNamed B.named
  have hlocks := B.notSynchronized
  have hS : va_S no s.heap s.heap [] := va_S.rf
  have hl := lv_entry ([.ref a0, .int p0]) (n := 2) (Nat.le_of_ble_eq_true rfl)
  rw [lg_entry_eq]
  generalize (lg_sl ([.ref a0, .int p0]) ++ List.replicate (2 - (lg_sl ([.ref a0, .int p0])).length) Slot.unset).toArray = ls at hl ⊢
  have hl : lv_has ls 2 [(0, .ref a0), (1, .int p0)] := hl
  refine lv_aload_n hx hb dX9_deedsOf_0 rfl (lv_at hl 0 rfl) ?_
  refine va_get (D := G) (ci := 9) (v := .ref a1) (C := RX9) (T := TX9) (N := 7) hx hb hts (by decide +kernel) hown hK.1 hP 0 rfl rfl 0 (by decide) (hts (.fieldLink RX9 12 "CardHolder$Town" "bonds" "LCardHolder$Bonds;") (by decide +kernel)) (fun _ h9 => h9) rfl dX9_deedsOf_1 ?_
  refine lv_iload_n hx hb dX9_deedsOf_4 rfl (lv_at hl 1 rfl) ?_
  refine ro_calli (va_runV (As := [.int p0]) (rest := []) ⟨hx, hb, hml, hown, hts⟩ (a_X0_has l G ct a1 a2 n1_1 p0 hp_n1_1) (cwV 1 hts gX9_deedsOf_X0_has rfl rfl rfl (by decide +kernel) ⟨Nat.le_of_ble_eq_true rfl, Nat.le_of_ble_eq_true rfl⟩) (ro_preV 0 0 hK (hP.sub [1] rfl) rfl rfl) rfl rfl hl.1 rfl (lv_room (Nat.le_of_ble_eq_true rfl)) dX9_deedsOf_5 ⟨Nat.zero_le _, Nat.zero_le _⟩) hS hP (fun r5 H locs wr5 hP hS => ?_)
  obtain ⟨p_1, p_2, p_3, -⟩ := wr5
  refine lv_if_eq (tgt := 20) hx hb dX9_deedsOf_8 (by decide) (fun c8 => ?_) (fun c8 => ?_)
  · have h_4 : rg 0 0 r5 := r_eq_l_i (e := 0) (f := 0) c8 p_1 (rgn 0 (x := 0) (by decide)) (by decide)
    refine lv_iconst (v := 0) hx hb dX9_deedsOf_20 (by decide) ?_
    exact W.iret (v := 0) hx hb hr (fun t ht hW => ⟨⟨0, (), rfl, ⟨(fun hq => absurd (req (rgn 0 (x := 0) (by decide)) (y := 0) (by decide)) hq), (fun hq => absurd hq (rne (rgn 0 (x := 0) (by decide)) (y := (-1)) (c := (-1)) (by decide) (by decide))), (fun hq => absurd (req (rgn 0 (x := 0) (by decide)) (y := 0) (by decide)) hq), (fun hq => absurd hq (rne (rgn 0 (x := 0) (by decide)) (y := (-1)) (c := (-1)) (by decide) (by decide))), trivial⟩, trivial⟩, hS.F ht⟩) hS.2.2 dX9_deedsOf_21
  · have h_5 : rg 1 1 r5 := r_ne_lo_i c8 p_1 (by decide) (by decide)
    have h_6 : rg 0 7 p0 := (p_2 (rne h_5 (y := 0) (c := 0) (by decide) (by decide)))
    have h_7 : rg 1 8 n1_1 := (p_3 (rne h_5 (y := 0) (c := 0) (by decide) (by decide)))
    refine lv_aload_n hx hb dX9_deedsOf_11 rfl (lv_at hl 0 rfl) ?_
    refine va_get (D := G) (ci := 9) (v := .ref a4) (C := RX9) (T := TX9) (N := 7) hx hb hts (by decide +kernel) hown hK.1 hP 0 rfl rfl 2 (by decide) (hts (.fieldLink RX9 22 "CardHolder$Town" "does" "[I") (by decide +kernel)) (fun _ h9 => h9) rfl dX9_deedsOf_12 ?_
    refine lv_iload_n hx hb dX9_deedsOf_15 rfl (lv_at hl 1 rfl) ?_
    refine va_iald hx hb hK.1 hP 2 0 rfl rfl (in_rg h_6 (by decide)) dX9_deedsOf_16 ?_
    refine lv_topi (fun z16 gz16 => ?_)
    refine lv_goto (tgt := 21) hx hb dX9_deedsOf_17 (by decide) ?_
    exact W.iret (v := z16) hx hb hr (fun t ht hW => ⟨⟨z16, (), rfl, ⟨(fun _ => h_6), (fun _ => h_6), (fun _ => h_7), (fun _ => h_7), trivial⟩, trivial⟩, hS.F ht⟩) hS.2.2 dX9_deedsOf_21

set_option maxHeartbeats 4000000 in
set_option maxRecDepth 100000 in
theorem a_X9_wishesOf (l : Launch) (G : va_G) (ct : Nat → ClassId) (a0 : Nat) (a1 : Nat) (a3 : Nat) (a4 : Nat) (a5 : Nat) (a6 : Nat) (n0_5 : Int32) (n0_6 : Int32) (a2 : Nat) (n1_1 : Int32) (f5 : Nat → Int32) (p0 : Int32) (hp_n1_1 : rg 0 8 n1_1) : Met l yX9_wishesOf wsX9_wishesOf ({ frames := 1, cells := 0, slots := 0, locals := 21 }) (va_Pc [.ref a0, .int p0] (roP G ct [(a0, .inr (9, [.ref a1, .ref a3, .ref a4, .ref a5, .ref a6, .int n0_5, .int n0_6])), (a1, .inr (0, [.ref a2, .int n1_1])), (a5, .inl (ct 0, 8, .inl f5))])) (roQ (fun r => (¬ r = 0 → rg 0 7 p0) ∧ (r = (-1) → rg 0 7 p0) ∧ (¬ r = 0 → rg 1 8 n1_1) ∧ (r = (-1) → rg 1 8 n1_1) ∧ True)) 0 0 no := by
  refine Met.ofW (cc := cX9_wishesOf) (maxL := 2) (ret := (some .int)) (by decide) rfl ?_
  intro p e s m args below meth c s₁ B hml hv
  obtain ⟨rfl, hP, hK⟩ := hv
  have hx := B.exec
  have hb := B.bytes
  have hr := B.returns
  have hts := atoms_spec (ws := wsX9_wishesOf) B.pre
  have hown : s.vm.findClass RX9 = some m.cls := findClass_of_methodNamed B.named
  have hlocks := B.notSynchronized
  have hS : va_S no s.heap s.heap [] := va_S.rf
  have hl := lv_entry ([.ref a0, .int p0]) (n := 2) (Nat.le_of_ble_eq_true rfl)
  rw [lg_entry_eq]
  generalize (lg_sl ([.ref a0, .int p0]) ++ List.replicate (2 - (lg_sl ([.ref a0, .int p0])).length) Slot.unset).toArray = ls at hl ⊢
  have hl : lv_has ls 2 [(0, .ref a0), (1, .int p0)] := hl
  refine lv_aload_n hx hb dX9_wishesOf_0 rfl (lv_at hl 0 rfl) ?_
  refine va_get (D := G) (ci := 9) (v := .ref a1) (C := RX9) (T := TX9) (N := 7) hx hb hts (by decide +kernel) hown hK.1 hP 0 rfl rfl 0 (by decide) (hts (.fieldLink RX9 12 "CardHolder$Town" "bonds" "LCardHolder$Bonds;") (by decide +kernel)) (fun _ h9 => h9) rfl dX9_wishesOf_1 ?_
  refine lv_iload_n hx hb dX9_wishesOf_4 rfl (lv_at hl 1 rfl) ?_
  refine ro_calli (va_runV (As := [.int p0]) (rest := []) ⟨hx, hb, hml, hown, hts⟩ (a_X0_has l G ct a1 a2 n1_1 p0 hp_n1_1) (cwV 1 hts gX9_wishesOf_X0_has rfl rfl rfl (by decide +kernel) ⟨Nat.le_of_ble_eq_true rfl, Nat.le_of_ble_eq_true rfl⟩) (ro_preV 0 0 hK (hP.sub [1] rfl) rfl rfl) rfl rfl hl.1 rfl (lv_room (Nat.le_of_ble_eq_true rfl)) dX9_wishesOf_5 ⟨Nat.zero_le _, Nat.zero_le _⟩) hS hP (fun r5 H locs wr5 hP hS => ?_)
  obtain ⟨p_1, p_2, p_3, -⟩ := wr5
  refine lv_if_eq (tgt := 20) hx hb dX9_wishesOf_8 (by decide) (fun c8 => ?_) (fun c8 => ?_)
  · have h_4 : rg 0 0 r5 := r_eq_l_i (e := 0) (f := 0) c8 p_1 (rgn 0 (x := 0) (by decide)) (by decide)
    refine lv_iconst (v := 0) hx hb dX9_wishesOf_20 (by decide) ?_
    exact W.iret (v := 0) hx hb hr (fun t ht hW => ⟨⟨0, (), rfl, ⟨(fun hq => absurd (req (rgn 0 (x := 0) (by decide)) (y := 0) (by decide)) hq), (fun hq => absurd hq (rne (rgn 0 (x := 0) (by decide)) (y := (-1)) (c := (-1)) (by decide) (by decide))), (fun hq => absurd (req (rgn 0 (x := 0) (by decide)) (y := 0) (by decide)) hq), (fun hq => absurd hq (rne (rgn 0 (x := 0) (by decide)) (y := (-1)) (c := (-1)) (by decide) (by decide))), trivial⟩, trivial⟩, hS.F ht⟩) hS.2.2 dX9_wishesOf_21
  · have h_5 : rg 1 1 r5 := r_ne_lo_i c8 p_1 (by decide) (by decide)
    have h_6 : rg 0 7 p0 := (p_2 (rne h_5 (y := 0) (c := 0) (by decide) (by decide)))
    have h_7 : rg 1 8 n1_1 := (p_3 (rne h_5 (y := 0) (c := 0) (by decide) (by decide)))
    refine lv_aload_n hx hb dX9_wishesOf_11 rfl (lv_at hl 0 rfl) ?_
    refine va_get (D := G) (ci := 9) (v := .ref a5) (C := RX9) (T := TX9) (N := 7) hx hb hts (by decide +kernel) hown hK.1 hP 0 rfl rfl 3 (by decide) (hts (.fieldLink RX9 25 "CardHolder$Town" "wishes" "[I") (by decide +kernel)) (fun _ h9 => h9) rfl dX9_wishesOf_12 ?_
    refine lv_iload_n hx hb dX9_wishesOf_15 rfl (lv_at hl 1 rfl) ?_
    refine va_iald hx hb hK.1 hP 2 0 rfl rfl (in_rg h_6 (by decide)) dX9_wishesOf_16 ?_
    refine lv_topi (fun z16 gz16 => ?_)
    refine lv_goto (tgt := 21) hx hb dX9_wishesOf_17 (by decide) ?_
    exact W.iret (v := z16) hx hb hr (fun t ht hW => ⟨⟨z16, (), rfl, ⟨(fun _ => h_6), (fun _ => h_6), (fun _ => h_7), (fun _ => h_7), trivial⟩, trivial⟩, hS.F ht⟩) hS.2.2 dX9_wishesOf_21

set_option maxHeartbeats 4000000 in
set_option maxRecDepth 100000 in
theorem a_X9_forgedOf (l : Launch) (G : va_G) (ct : Nat → ClassId) (a0 : Nat) (a1 : Nat) (a3 : Nat) (a4 : Nat) (a5 : Nat) (a6 : Nat) (n0_5 : Int32) (n0_6 : Int32) (a2 : Nat) (n1_1 : Int32) (f6 : Nat → Int32) (p0 : Int32) (hp_n1_1 : rg 0 8 n1_1) : Met l yX9_forgedOf wsX9_forgedOf ({ frames := 1, cells := 0, slots := 0, locals := 21 }) (va_Pc [.ref a0, .int p0] (roP G ct [(a0, .inr (9, [.ref a1, .ref a3, .ref a4, .ref a5, .ref a6, .int n0_5, .int n0_6])), (a1, .inr (0, [.ref a2, .int n1_1])), (a6, .inl (ct 0, 8, .inl f6))])) (roQ (fun r => (¬ r = 0 → rg 0 7 p0) ∧ (r = (-1) → rg 0 7 p0) ∧ (¬ r = 0 → rg 1 8 n1_1) ∧ (r = (-1) → rg 1 8 n1_1) ∧ True)) 0 0 no := by
  refine Met.ofW (cc := cX9_forgedOf) (maxL := 2) (ret := (some .int)) (by decide) rfl ?_
  intro p e s m args below meth c s₁ B hml hv
  obtain ⟨rfl, hP, hK⟩ := hv
  have hx := B.exec
  have hb := B.bytes
  have hr := B.returns
  have hts := atoms_spec (ws := wsX9_forgedOf) B.pre
  have hown : s.vm.findClass RX9 = some m.cls := findClass_of_methodNamed B.named
  have hlocks := B.notSynchronized
  have hS : va_S no s.heap s.heap [] := va_S.rf
  have hl := lv_entry ([.ref a0, .int p0]) (n := 2) (Nat.le_of_ble_eq_true rfl)
  rw [lg_entry_eq]
  generalize (lg_sl ([.ref a0, .int p0]) ++ List.replicate (2 - (lg_sl ([.ref a0, .int p0])).length) Slot.unset).toArray = ls at hl ⊢
  have hl : lv_has ls 2 [(0, .ref a0), (1, .int p0)] := hl
  refine lv_aload_n hx hb dX9_forgedOf_0 rfl (lv_at hl 0 rfl) ?_
  refine va_get (D := G) (ci := 9) (v := .ref a1) (C := RX9) (T := TX9) (N := 7) hx hb hts (by decide +kernel) hown hK.1 hP 0 rfl rfl 0 (by decide) (hts (.fieldLink RX9 12 "CardHolder$Town" "bonds" "LCardHolder$Bonds;") (by decide +kernel)) (fun _ h9 => h9) rfl dX9_forgedOf_1 ?_
  refine lv_iload_n hx hb dX9_forgedOf_4 rfl (lv_at hl 1 rfl) ?_
  refine ro_calli (va_runV (As := [.int p0]) (rest := []) ⟨hx, hb, hml, hown, hts⟩ (a_X0_has l G ct a1 a2 n1_1 p0 hp_n1_1) (cwV 1 hts gX9_forgedOf_X0_has rfl rfl rfl (by decide +kernel) ⟨Nat.le_of_ble_eq_true rfl, Nat.le_of_ble_eq_true rfl⟩) (ro_preV 0 0 hK (hP.sub [1] rfl) rfl rfl) rfl rfl hl.1 rfl (lv_room (Nat.le_of_ble_eq_true rfl)) dX9_forgedOf_5 ⟨Nat.zero_le _, Nat.zero_le _⟩) hS hP (fun r5 H locs wr5 hP hS => ?_)
  obtain ⟨p_1, p_2, p_3, -⟩ := wr5
  refine lv_if_eq (tgt := 20) hx hb dX9_forgedOf_8 (by decide) (fun c8 => ?_) (fun c8 => ?_)
  · have h_4 : rg 0 0 r5 := r_eq_l_i (e := 0) (f := 0) c8 p_1 (rgn 0 (x := 0) (by decide)) (by decide)
    refine lv_iconst (v := 0) hx hb dX9_forgedOf_20 (by decide) ?_
    exact W.iret (v := 0) hx hb hr (fun t ht hW => ⟨⟨0, (), rfl, ⟨(fun hq => absurd (req (rgn 0 (x := 0) (by decide)) (y := 0) (by decide)) hq), (fun hq => absurd hq (rne (rgn 0 (x := 0) (by decide)) (y := (-1)) (c := (-1)) (by decide) (by decide))), (fun hq => absurd (req (rgn 0 (x := 0) (by decide)) (y := 0) (by decide)) hq), (fun hq => absurd hq (rne (rgn 0 (x := 0) (by decide)) (y := (-1)) (c := (-1)) (by decide) (by decide))), trivial⟩, trivial⟩, hS.F ht⟩) hS.2.2 dX9_forgedOf_21
  · have h_5 : rg 1 1 r5 := r_ne_lo_i c8 p_1 (by decide) (by decide)
    have h_6 : rg 0 7 p0 := (p_2 (rne h_5 (y := 0) (c := 0) (by decide) (by decide)))
    have h_7 : rg 1 8 n1_1 := (p_3 (rne h_5 (y := 0) (c := 0) (by decide) (by decide)))
    refine lv_aload_n hx hb dX9_forgedOf_11 rfl (lv_at hl 0 rfl) ?_
    refine va_get (D := G) (ci := 9) (v := .ref a6) (C := RX9) (T := TX9) (N := 7) hx hb hts (by decide +kernel) hown hK.1 hP 0 rfl rfl 4 (by decide) (hts (.fieldLink RX9 28 "CardHolder$Town" "forged" "[I") (by decide +kernel)) (fun _ h9 => h9) rfl dX9_forgedOf_12 ?_
    refine lv_iload_n hx hb dX9_forgedOf_15 rfl (lv_at hl 1 rfl) ?_
    refine va_iald hx hb hK.1 hP 2 0 rfl rfl (in_rg h_6 (by decide)) dX9_forgedOf_16 ?_
    refine lv_topi (fun z16 gz16 => ?_)
    refine lv_goto (tgt := 21) hx hb dX9_forgedOf_17 (by decide) ?_
    exact W.iret (v := z16) hx hb hr (fun t ht hW => ⟨⟨z16, (), rfl, ⟨(fun _ => h_6), (fun _ => h_6), (fun _ => h_7), (fun _ => h_7), trivial⟩, trivial⟩, hS.F ht⟩) hS.2.2 dX9_forgedOf_21

set_option maxHeartbeats 4000000 in
set_option maxRecDepth 100000 in
theorem a_X9_limitOf (l : Launch) (G : va_G) (ct : Nat → ClassId) (a0 : Nat) (a1 : Nat) (a3 : Nat) (a4 : Nat) (a5 : Nat) (a6 : Nat) (n0_5 : Int32) (n0_6 : Int32) (a2 : Nat) (n1_1 : Int32) (f6 : Nat → Int32) (p0 : Int32) (hp_n1_1 : rg 0 8 n1_1) : Met l yX9_limitOf wsX9_limitOf ({ frames := 1, cells := 0, slots := 0, locals := 21 }) (va_Pc [.ref a0, .int p0] (roP G ct [(a0, .inr (9, [.ref a1, .ref a3, .ref a4, .ref a5, .ref a6, .int n0_5, .int n0_6])), (a1, .inr (0, [.ref a2, .int n1_1])), (a6, .inl (ct 0, 8, .inl f6))])) (roQ (fun r => (r = 0 → rg 0 7 p0) ∧ (r = (-1) → rg 0 7 p0) ∧ (r = 0 → rg 1 8 n1_1) ∧ (r = (-1) → rg 1 8 n1_1) ∧ True)) 0 0 no := by
  refine Met.ofW (cc := cX9_limitOf) (maxL := 2) (ret := (some .int)) (by decide) rfl ?_
  intro p e s m args below meth c s₁ B hml hv
  obtain ⟨rfl, hP, hK⟩ := hv
  have hx := B.exec
  have hb := B.bytes
  have hr := B.returns
  have hts := atoms_spec (ws := wsX9_limitOf) B.pre
  have hown : s.vm.findClass RX9 = some m.cls := findClass_of_methodNamed B.named
  have hlocks := B.notSynchronized
  have hS : va_S no s.heap s.heap [] := va_S.rf
  have hl := lv_entry ([.ref a0, .int p0]) (n := 2) (Nat.le_of_ble_eq_true rfl)
  rw [lg_entry_eq]
  generalize (lg_sl ([.ref a0, .int p0]) ++ List.replicate (2 - (lg_sl ([.ref a0, .int p0])).length) Slot.unset).toArray = ls at hl ⊢
  have hl : lv_has ls 2 [(0, .ref a0), (1, .int p0)] := hl
  refine lv_aload_n hx hb dX9_limitOf_0 rfl (lv_at hl 0 rfl) ?_
  refine va_get (D := G) (ci := 9) (v := .ref a1) (C := RX9) (T := TX9) (N := 7) hx hb hts (by decide +kernel) hown hK.1 hP 0 rfl rfl 0 (by decide) (hts (.fieldLink RX9 12 "CardHolder$Town" "bonds" "LCardHolder$Bonds;") (by decide +kernel)) (fun _ h9 => h9) rfl dX9_limitOf_1 ?_
  refine lv_iload_n hx hb dX9_limitOf_4 rfl (lv_at hl 1 rfl) ?_
  refine ro_calli (va_runV (As := [.int p0]) (rest := []) ⟨hx, hb, hml, hown, hts⟩ (a_X0_has l G ct a1 a2 n1_1 p0 hp_n1_1) (cwV 1 hts gX9_limitOf_X0_has rfl rfl rfl (by decide +kernel) ⟨Nat.le_of_ble_eq_true rfl, Nat.le_of_ble_eq_true rfl⟩) (ro_preV 0 0 hK (hP.sub [1] rfl) rfl rfl) rfl rfl hl.1 rfl (lv_room (Nat.le_of_ble_eq_true rfl)) dX9_limitOf_5 ⟨Nat.zero_le _, Nat.zero_le _⟩) hS hP (fun r5 H locs wr5 hP hS => ?_)
  obtain ⟨p_1, p_2, p_3, -⟩ := wr5
  refine lv_if_eq (tgt := 27) hx hb dX9_limitOf_8 (by decide) (fun c8 => ?_) (fun c8 => ?_)
  · have h_4 : rg 0 0 r5 := r_eq_l_i (e := 0) (f := 0) c8 p_1 (rgn 0 (x := 0) (by decide)) (by decide)
    refine lv_iconst (v := 1) hx hb dX9_limitOf_27 (by decide) ?_
    exact W.iret (v := 1) hx hb hr (fun t ht hW => ⟨⟨1, (), rfl, ⟨(fun hq => absurd hq (rne (rgn 1 (x := 1) (by decide)) (y := 0) (c := 0) (by decide) (by decide))), (fun hq => absurd hq (rne (rgn 1 (x := 1) (by decide)) (y := (-1)) (c := (-1)) (by decide) (by decide))), (fun hq => absurd hq (rne (rgn 1 (x := 1) (by decide)) (y := 0) (c := 0) (by decide) (by decide))), (fun hq => absurd hq (rne (rgn 1 (x := 1) (by decide)) (y := (-1)) (c := (-1)) (by decide) (by decide))), trivial⟩, trivial⟩, hS.F ht⟩) hS.2.2 dX9_limitOf_28
  · have h_5 : rg 1 1 r5 := r_ne_lo_i c8 p_1 (by decide) (by decide)
    have h_6 : rg 0 7 p0 := (p_2 (rne h_5 (y := 0) (c := 0) (by decide) (by decide)))
    have h_7 : rg 1 8 n1_1 := (p_3 (rne h_5 (y := 0) (c := 0) (by decide) (by decide)))
    refine lv_aload_n hx hb dX9_limitOf_11 rfl (lv_at hl 0 rfl) ?_
    refine va_get (D := G) (ci := 9) (v := .ref a6) (C := RX9) (T := TX9) (N := 7) hx hb hts (by decide +kernel) hown hK.1 hP 0 rfl rfl 4 (by decide) (hts (.fieldLink RX9 28 "CardHolder$Town" "forged" "[I") (by decide +kernel)) (fun _ h9 => h9) rfl dX9_limitOf_12 ?_
    refine lv_iload_n hx hb dX9_limitOf_15 rfl (lv_at hl 1 rfl) ?_
    refine va_iald hx hb hK.1 hP 2 0 rfl rfl (in_rg h_6 (by decide)) dX9_limitOf_16 ?_
    refine lv_topi (fun z16 gz16 => ?_)
    refine lv_if_ne (tgt := 27) hx hb dX9_limitOf_17 (by decide) (fun c17 => ?_) (fun c17 => ?_)
    · refine lv_iconst (v := 1) hx hb dX9_limitOf_27 (by decide) ?_
      exact W.iret (v := 1) hx hb hr (fun t ht hW => ⟨⟨1, (), rfl, ⟨(fun _ => h_6), (fun _ => h_6), (fun _ => h_7), (fun _ => h_7), trivial⟩, trivial⟩, hS.F ht⟩) hS.2.2 dX9_limitOf_28
    · have h_8 : rg 0 0 z16 := r_eq_l_i (e := 0) (f := 0) c17 (rg_t z16) (rgn 0 (x := 0) (by decide)) (by decide)
      refine lv_aload_n hx hb dX9_limitOf_20 rfl (lv_at hl 0 rfl) ?_
      refine va_get (D := G) (ci := 9) (v := .int n0_6) (C := RX9) (T := TX9) (N := 7) hx hb hts (by decide +kernel) hown hK.1 hP 0 rfl rfl 6 (by decide) (hts (.fieldLink RX9 38 "CardHolder$Town" "wear" "I") (by decide +kernel)) (fun _ h9 => h9) rfl dX9_limitOf_21 ?_
      refine lv_goto (tgt := 28) hx hb dX9_limitOf_24 (by decide) ?_
      exact W.iret (v := n0_6) hx hb hr (fun t ht hW => ⟨⟨n0_6, (), rfl, ⟨(fun _ => h_6), (fun _ => h_6), (fun _ => h_7), (fun _ => h_7), trivial⟩, trivial⟩, hS.F ht⟩) hS.2.2 dX9_limitOf_28

set_option maxHeartbeats 4000000 in
set_option maxRecDepth 100000 in
theorem a_X9_forgedCards (l : Launch) (G : va_G) (ct : Nat → ClassId) (a0 : Nat) (a1 : Nat) (a3 : Nat) (a4 : Nat) (a5 : Nat) (a6 : Nat) (n0_5 : Int32) (n0_6 : Int32) (a2 : Nat) (n1_1 : Int32) (f6 : Nat → Int32) (hp_n1_1 : rg 0 8 n1_1) : Met l yX9_forgedCards wsX9_forgedCards ({ frames := 2, cells := 0, slots := 0, locals := 42 }) (va_Pc [.ref a0] (roP G ct [(a0, .inr (9, [.ref a1, .ref a3, .ref a4, .ref a5, .ref a6, .int n0_5, .int n0_6])), (a1, .inr (0, [.ref a2, .int n1_1])), (a6, .inl (ct 0, 8, .inl f6))])) (roQ (fun r => True)) 0 0 no := by
  refine Met.ofW (cc := cX9_forgedCards) (maxL := 3) (ret := (some .int)) (by decide) rfl ?_
  intro p e s m args below meth c s₁ B hml hv
  obtain ⟨rfl, hP, hK⟩ := hv
  have hx := B.exec
  have hb := B.bytes
  have hr := B.returns
  have hts := atoms_spec (ws := wsX9_forgedCards) B.pre
  have hown : s.vm.findClass RX9 = some m.cls := findClass_of_methodNamed B.named
  have hlocks := B.notSynchronized
  have hS : va_S no s.heap s.heap [] := va_S.rf
  have hl := lv_entry ([.ref a0]) (n := 3) (Nat.le_of_ble_eq_true rfl)
  rw [lg_entry_eq]
  generalize (lg_sl ([.ref a0]) ++ List.replicate (3 - (lg_sl ([.ref a0])).length) Slot.unset).toArray = ls at hl ⊢
  have hl : lv_has ls 3 [(0, .ref a0)] := hl
  refine lv_iconst (v := 0) hx hb dX9_forgedCards_0 (by decide) ?_
  refine lv_istore_n (lv' := [(1, .int 0), (0, .ref a0)]) hx hb dX9_forgedCards_1 rfl hl (by decide) rfl (fun ls hl => ?_)
  refine lv_iconst (v := 0) hx hb dX9_forgedCards_2 (by decide) ?_
  refine lv_istore_n (lv' := [(2, .int 0), (1, .int 0), (0, .ref a0)]) hx hb dX9_forgedCards_3 rfl hl (by decide) rfl (fun ls hl => ?_)
  have j4 : ∀ (n : Nat) (x4_1 : Int32) (x4_2 : Int32) (H : Heap) (locs : List Loc) (ls : Array Slot), 2147483648 ≤ x4_2.toInt + (n : Int) → rg 0 8 x4_2 → va_P G vwCl [(a0, .inr (9, [.ref a1, .ref a3, .ref a4, .ref a5, .ref a6, .int n0_5, .int n0_6])), (a1, .inr (0, [.ref a2, .int n1_1])), (a6, .inl (ct 0, 8, .inl f6))] H → va_S no s.heap H locs → lv_has ls 3 [(0, .ref a0), (1, .int x4_1), (2, .int x4_2)] → W p l e (headSpec wsX9_forgedCards ({ frames := 2, cells := 0, slots := 0, locals := 42 })).room s m ([.ref a0] : List Value).toArray below meth c H locs 0 0 (MQ below (roQ (fun r => True)) ([.ref a0] : List Value).toArray s 0 0 no) (F0 m 4 ls []) := by
    intro n
    induction n with
    | zero => intro x4_1 x4_2 H locs ls hn4 hx4_2 hP hS hl; exact absurd hn4 (by have := Int32.toInt_lt x4_2; have := Int32.le_toInt x4_2; omega)
    | succ n ih4 =>
      intro x4_1 x4_2 H locs ls hn4 hx4_2 hP hS hl
      refine lv_iload_n hx hb dX9_forgedCards_4 rfl (lv_at hl 2 rfl) ?_
      refine lv_aload_n hx hb dX9_forgedCards_5 rfl (lv_at hl 0 rfl) ?_
      refine va_get (D := G) (ci := 9) (v := .ref a1) (C := RX9) (T := TX9) (N := 7) hx hb hts (by decide +kernel) hown hK.1 hP 0 rfl rfl 0 (by decide) (hts (.fieldLink RX9 12 "CardHolder$Town" "bonds" "LCardHolder$Bonds;") (by decide +kernel)) (fun _ h9 => h9) rfl dX9_forgedCards_6 ?_
      refine va_get (D := G) (ci := 0) (v := .int n1_1) (C := RX0) (T := TX0) (N := 2) hx hb hts (by decide +kernel) hown hK.1 hP 1 rfl rfl 1 (by decide) (hts (.fieldLink RX9 31 "CardHolder$Bonds" "persons" "I") (by decide +kernel)) (fun _ h9 => h9) rfl dX9_forgedCards_9 ?_
      refine lv_icmp_ge (tgt := 29) hx hb dX9_forgedCards_12 (by decide) (fun c12 => ?_) (fun c12 => ?_)
      · refine lv_iload_n hx hb dX9_forgedCards_29 rfl (lv_at hl 1 rfl) ?_
        exact W.iret (v := x4_1) hx hb hr (fun t ht hW => ⟨⟨x4_1, (), rfl, trivial, trivial⟩, hS.F ht⟩) hS.2.2 dX9_forgedCards_30
      · have h_1 : rg 0 7 x4_2 := r_lt_l_i (nle_i c12) hx4_2 hp_n1_1 (by decide)
        have h_2 : rg 1 8 n1_1 := r_lt_r_i (nle_i c12) hx4_2 hp_n1_1 (by decide)
        refine lv_iload_n hx hb dX9_forgedCards_15 rfl (lv_at hl 1 rfl) ?_
        refine lv_aload_n hx hb dX9_forgedCards_16 rfl (lv_at hl 0 rfl) ?_
        refine lv_iload_n hx hb dX9_forgedCards_17 rfl (lv_at hl 2 rfl) ?_
        refine ro_calli (va_runV (As := [.int x4_2]) (rest := [.int x4_1]) ⟨hx, hb, hml, hown, hts⟩ (a_X9_forgedOf l G ct a0 a1 a3 a4 a5 a6 n0_5 n0_6 a2 n1_1 f6 x4_2 (rg_w (c := 0) (d := 8) h_2 (by decide))) (cwV 1 hts gX9_forgedCards_X9_forgedOf rfl rfl rfl (by decide +kernel) ⟨Nat.le_of_ble_eq_true rfl, Nat.le_of_ble_eq_true rfl⟩) (ro_preV 9 0 hK (hP.sub [0, 1, 2] rfl) rfl rfl) rfl rfl hl.1 rfl (lv_room (Nat.le_of_ble_eq_true rfl)) dX9_forgedCards_18 ⟨Nat.zero_le _, Nat.zero_le _⟩) hS hP (fun r18 H locs wr18 hP hS => ?_)
        obtain ⟨p_3, p_4, p_5, p_6, -⟩ := wr18
        refine lv_iadd hx hb dX9_forgedCards_21 ?_
        refine nm_0 (fun z21 => ?_)
        refine lv_istore_n (lv' := [(1, .int z21), (0, .ref a0), (2, .int x4_2)]) hx hb dX9_forgedCards_22 rfl hl (by decide) rfl (fun ls hl => ?_)
        obtain ⟨z23, qz23⟩ : ∃ y : Int32, y = x4_2 + Int32.ofInt 1 := ⟨_, rfl⟩
        obtain ⟨hz23, ez23⟩ := inc_z (e := 1) (f := 8) h_1 qz23 (by decide)
        refine lv_iinc (v := z23) (lv' := [(2, .int z23), (1, .int z21), (0, .ref a0)]) hx hb dX9_forgedCards_23 hl (k := 2) rfl (qz23.symm) (by decide) rfl (fun ls hl => ?_)
        refine lv_goto (tgt := 4) hx hb dX9_forgedCards_26 (by decide) ?_
        exact ih4 z21 z23 _ _ ls (by have q := hn4; have := ez23; omega) (rg_w (c := 0) (d := 8) hz23 (by decide)) hP hS (lv_sub hl [2, 1, 0] rfl)
  exact j4 4294967296 (0 : Int32) (0 : Int32) _ _ ls (ms_e (0 : Int32)) (rg_w (c := 0) (d := 8) (rgn 0 (x := 0) (by decide)) (by decide)) hP hS (lv_sub hl [2, 1, 0] rfl)

set_option maxHeartbeats 4000000 in
set_option maxRecDepth 100000 in
theorem a_X9_deedsOfAll (l : Launch) (G : va_G) (ct : Nat → ClassId) (a0 : Nat) (a1 : Nat) (a3 : Nat) (a4 : Nat) (a5 : Nat) (a6 : Nat) (n0_5 : Int32) (n0_6 : Int32) (a2 : Nat) (n1_1 : Int32) (f4 : Nat → Int32) (p0 : Int32) (hp_n1_1 : rg 0 8 n1_1) : Met l yX9_deedsOfAll wsX9_deedsOfAll ({ frames := 2, cells := 0, slots := 0, locals := 42 }) (va_Pc [.ref a0, .int p0] (roP G ct [(a0, .inr (9, [.ref a1, .ref a3, .ref a4, .ref a5, .ref a6, .int n0_5, .int n0_6])), (a1, .inr (0, [.ref a2, .int n1_1])), (a4, .inl (ct 0, 8, .inl f4))])) (roQ (fun r => True)) 0 0 no := by
  refine Met.ofW (cc := cX9_deedsOfAll) (maxL := 4) (ret := (some .int)) (by decide) rfl ?_
  intro p e s m args below meth c s₁ B hml hv
  obtain ⟨rfl, hP, hK⟩ := hv
  have hx := B.exec
  have hb := B.bytes
  have hr := B.returns
  have hts := atoms_spec (ws := wsX9_deedsOfAll) B.pre
  have hown : s.vm.findClass RX9 = some m.cls := findClass_of_methodNamed B.named
  have hlocks := B.notSynchronized
  have hS : va_S no s.heap s.heap [] := va_S.rf
  have hl := lv_entry ([.ref a0, .int p0]) (n := 4) (Nat.le_of_ble_eq_true rfl)
  rw [lg_entry_eq]
  generalize (lg_sl ([.ref a0, .int p0]) ++ List.replicate (4 - (lg_sl ([.ref a0, .int p0])).length) Slot.unset).toArray = ls at hl ⊢
  have hl : lv_has ls 4 [(0, .ref a0), (1, .int p0)] := hl
  refine lv_iconst (v := 0) hx hb dX9_deedsOfAll_0 (by decide) ?_
  refine lv_istore_n (lv' := [(2, .int 0), (0, .ref a0), (1, .int p0)]) hx hb dX9_deedsOfAll_1 rfl hl (by decide) rfl (fun ls hl => ?_)
  refine lv_iconst (v := 0) hx hb dX9_deedsOfAll_2 (by decide) ?_
  refine lv_istore_n (lv' := [(3, .int 0), (2, .int 0), (0, .ref a0), (1, .int p0)]) hx hb dX9_deedsOfAll_3 rfl hl (by decide) rfl (fun ls hl => ?_)
  have j4 : ∀ (n : Nat) (x4_2 : Int32) (x4_3 : Int32) (H : Heap) (locs : List Loc) (ls : Array Slot), 2147483648 ≤ x4_3.toInt + (n : Int) → rg 0 8 x4_3 → va_P G vwCl [(a0, .inr (9, [.ref a1, .ref a3, .ref a4, .ref a5, .ref a6, .int n0_5, .int n0_6])), (a1, .inr (0, [.ref a2, .int n1_1])), (a4, .inl (ct 0, 8, .inl f4))] H → va_S no s.heap H locs → lv_has ls 4 [(0, .ref a0), (1, .int p0), (2, .int x4_2), (3, .int x4_3)] → W p l e (headSpec wsX9_deedsOfAll ({ frames := 2, cells := 0, slots := 0, locals := 42 })).room s m ([.ref a0, .int p0] : List Value).toArray below meth c H locs 0 0 (MQ below (roQ (fun r => True)) ([.ref a0, .int p0] : List Value).toArray s 0 0 no) (F0 m 4 ls []) := by
    intro n
    induction n with
    | zero => intro x4_2 x4_3 H locs ls hn4 hx4_3 hP hS hl; exact absurd hn4 (by have := Int32.toInt_lt x4_3; have := Int32.le_toInt x4_3; omega)
    | succ n ih4 =>
      intro x4_2 x4_3 H locs ls hn4 hx4_3 hP hS hl
      refine lv_iload_n hx hb dX9_deedsOfAll_4 rfl (lv_at hl 3 rfl) ?_
      refine lv_aload_n hx hb dX9_deedsOfAll_5 rfl (lv_at hl 0 rfl) ?_
      refine va_get (D := G) (ci := 9) (v := .ref a1) (C := RX9) (T := TX9) (N := 7) hx hb hts (by decide +kernel) hown hK.1 hP 0 rfl rfl 0 (by decide) (hts (.fieldLink RX9 12 "CardHolder$Town" "bonds" "LCardHolder$Bonds;") (by decide +kernel)) (fun _ h9 => h9) rfl dX9_deedsOfAll_6 ?_
      refine va_get (D := G) (ci := 0) (v := .int n1_1) (C := RX0) (T := TX0) (N := 2) hx hb hts (by decide +kernel) hown hK.1 hP 1 rfl rfl 1 (by decide) (hts (.fieldLink RX9 31 "CardHolder$Bonds" "persons" "I") (by decide +kernel)) (fun _ h9 => h9) rfl dX9_deedsOfAll_9 ?_
      refine lv_icmp_ge (tgt := 38) hx hb dX9_deedsOfAll_12 (by decide) (fun c12 => ?_) (fun c12 => ?_)
      · refine lv_iload_n hx hb dX9_deedsOfAll_38 rfl (lv_at hl 2 rfl) ?_
        exact W.iret (v := x4_2) hx hb hr (fun t ht hW => ⟨⟨x4_2, (), rfl, trivial, trivial⟩, hS.F ht⟩) hS.2.2 dX9_deedsOfAll_39
      · have h_1 : rg 0 7 x4_3 := r_lt_l_i (nle_i c12) hx4_3 hp_n1_1 (by decide)
        have h_2 : rg 1 8 n1_1 := r_lt_r_i (nle_i c12) hx4_3 hp_n1_1 (by decide)
        refine lv_iload_n hx hb dX9_deedsOfAll_15 rfl (lv_at hl 1 rfl) ?_
        refine lv_iload_n hx hb dX9_deedsOfAll_16 rfl (lv_at hl 3 rfl) ?_
        refine ro_calli (va_runSN (As := [.int p0, .int x4_3]) (rest := []) ⟨hx, hb, hml, hown, hts⟩ (a_X10_bitOf l G ct p0 x4_3) ⟨va_cnB 2 hts gX9_deedsOfAll_X10_bitOf_n63 rfl rfl rfl (hK.2.1 (RX9, 63, yX10_bitOf, "CardHolder") (by decide +kernel)) (hts (.initialized RX10) (by decide +kernel)) (by decide +kernel) ⟨Nat.le_of_ble_eq_true rfl, Nat.le_of_ble_eq_true rfl⟩, hts (.static yX10_bitOf) (by decide +kernel), trivial⟩ (ro_pre hK (hP.sub [] rfl)) rfl rfl hl.1 rfl (lv_room (Nat.le_of_ble_eq_true rfl)) dX9_deedsOfAll_17 ⟨Nat.zero_le _, Nat.zero_le _⟩) hS hP (fun r17 H locs wr17 hP hS => ?_)
        obtain ⟨p_3, -⟩ := wr17
        refine lv_iconst (v := 1) hx hb dX9_deedsOfAll_20 (by decide) ?_
        have j32 : ∀ (x32_2 : Int32) (H : Heap) (locs : List Loc) (ls : Array Slot), va_P G vwCl [(a0, .inr (9, [.ref a1, .ref a3, .ref a4, .ref a5, .ref a6, .int n0_5, .int n0_6])), (a1, .inr (0, [.ref a2, .int n1_1])), (a4, .inl (ct 0, 8, .inl f4))] H → va_S no s.heap H locs → lv_has ls 4 [(0, .ref a0), (1, .int p0), (2, .int x32_2), (3, .int x4_3)] → W p l e (headSpec wsX9_deedsOfAll ({ frames := 2, cells := 0, slots := 0, locals := 42 })).room s m ([.ref a0, .int p0] : List Value).toArray below meth c H locs 0 0 (MQ below (roQ (fun r => True)) ([.ref a0, .int p0] : List Value).toArray s 0 0 no) (F0 m 32 ls []) := by
          intro x32_2 H locs ls  hP hS hl
          obtain ⟨z32, qz32⟩ : ∃ y : Int32, y = x4_3 + Int32.ofInt 1 := ⟨_, rfl⟩
          obtain ⟨hz32, ez32⟩ := inc_z (e := 1) (f := 8) h_1 qz32 (by decide)
          refine lv_iinc (v := z32) (lv' := [(3, .int z32), (0, .ref a0), (1, .int p0), (2, .int x32_2)]) hx hb dX9_deedsOfAll_32 hl (k := 3) rfl (qz32.symm) (by decide) rfl (fun ls hl => ?_)
          refine lv_goto (tgt := 4) hx hb dX9_deedsOfAll_35 (by decide) ?_
          exact ih4 x32_2 z32 _ _ ls (by have q := hn4; have := ez32; omega) (rg_w (c := 0) (d := 8) hz32 (by decide)) hP hS (lv_sub hl [1, 2, 3, 0] rfl)
        refine lv_icmp_ne (tgt := 32) hx hb dX9_deedsOfAll_21 (by decide) (fun c21 => ?_) (fun c21 => ?_)
        · have h_4 : rg 0 0 r17 := r_ne_hi_i c21 p_3 (by decide) (by decide)
          exact j32 x4_2 _ _ ls hP hS (lv_sub hl [0, 1, 2, 3] rfl)
        · have h_5 : rg 1 1 r17 := r_eq_l_i (e := 1) (f := 1) c21 p_3 (rgn 1 (x := 1) (by decide)) (by decide)
          refine lv_iload_n hx hb dX9_deedsOfAll_24 rfl (lv_at hl 2 rfl) ?_
          refine lv_aload_n hx hb dX9_deedsOfAll_25 rfl (lv_at hl 0 rfl) ?_
          refine lv_iload_n hx hb dX9_deedsOfAll_26 rfl (lv_at hl 3 rfl) ?_
          refine ro_calli (va_runV (As := [.int x4_3]) (rest := [.int x4_2]) ⟨hx, hb, hml, hown, hts⟩ (a_X9_deedsOf l G ct a0 a1 a3 a4 a5 a6 n0_5 n0_6 a2 n1_1 f4 x4_3 (rg_w (c := 0) (d := 8) h_2 (by decide))) (cwV 1 hts gX9_deedsOfAll_X9_deedsOf rfl rfl rfl (by decide +kernel) ⟨Nat.le_of_ble_eq_true rfl, Nat.le_of_ble_eq_true rfl⟩) (ro_preV 9 0 hK (hP.sub [0, 1, 2] rfl) rfl rfl) rfl rfl hl.1 rfl (lv_room (Nat.le_of_ble_eq_true rfl)) dX9_deedsOfAll_27 ⟨Nat.zero_le _, Nat.zero_le _⟩) hS hP (fun r27 H locs wr27 hP hS => ?_)
          obtain ⟨p_6, p_7, p_8, p_9, -⟩ := wr27
          refine lv_ior hx hb dX9_deedsOfAll_30 ?_
          refine nm_0 (fun z30 => ?_)
          refine lv_istore_n (lv' := [(2, .int z30), (0, .ref a0), (1, .int p0), (3, .int x4_3)]) hx hb dX9_deedsOfAll_31 rfl hl (by decide) rfl (fun ls hl => ?_)
          exact j32 z30 _ _ ls hP hS (lv_sub hl [1, 2, 0, 3] rfl)
  exact j4 4294967296 (0 : Int32) (0 : Int32) _ _ ls (ms_e (0 : Int32)) (rg_w (c := 0) (d := 8) (rgn 0 (x := 0) (by decide)) (by decide)) hP hS (lv_sub hl [2, 3, 1, 0] rfl)

set_option maxHeartbeats 4000000 in
set_option maxRecDepth 100000 in
theorem a_X9_worthOfAll (l : Launch) (G : va_G) (ct : Nat → ClassId) (a0 : Nat) (a1 : Nat) (a3 : Nat) (a4 : Nat) (a5 : Nat) (a6 : Nat) (n0_5 : Int32) (n0_6 : Int32) (a2 : Nat) (n1_1 : Int32) (f3 : Nat → Int32) (p0 : Int32) (hp_n1_1 : rg 0 8 n1_1) : Met l yX9_worthOfAll wsX9_worthOfAll ({ frames := 2, cells := 0, slots := 0, locals := 42 }) (va_Pc [.ref a0, .int p0] (roP G ct [(a0, .inr (9, [.ref a1, .ref a3, .ref a4, .ref a5, .ref a6, .int n0_5, .int n0_6])), (a1, .inr (0, [.ref a2, .int n1_1])), (a3, .inl (ct 0, 8, .inl f3))])) (roQ (fun r => True)) 0 0 no := by
  refine Met.ofW (cc := cX9_worthOfAll) (maxL := 4) (ret := (some .int)) (by decide) rfl ?_
  intro p e s m args below meth c s₁ B hml hv
  obtain ⟨rfl, hP, hK⟩ := hv
  have hx := B.exec
  have hb := B.bytes
  have hr := B.returns
  have hts := atoms_spec (ws := wsX9_worthOfAll) B.pre
  have hown : s.vm.findClass RX9 = some m.cls := findClass_of_methodNamed B.named
  have hlocks := B.notSynchronized
  have hS : va_S no s.heap s.heap [] := va_S.rf
  have hl := lv_entry ([.ref a0, .int p0]) (n := 4) (Nat.le_of_ble_eq_true rfl)
  rw [lg_entry_eq]
  generalize (lg_sl ([.ref a0, .int p0]) ++ List.replicate (4 - (lg_sl ([.ref a0, .int p0])).length) Slot.unset).toArray = ls at hl ⊢
  have hl : lv_has ls 4 [(0, .ref a0), (1, .int p0)] := hl
  refine lv_iconst (v := 0) hx hb dX9_worthOfAll_0 (by decide) ?_
  refine lv_istore_n (lv' := [(2, .int 0), (0, .ref a0), (1, .int p0)]) hx hb dX9_worthOfAll_1 rfl hl (by decide) rfl (fun ls hl => ?_)
  refine lv_iconst (v := 0) hx hb dX9_worthOfAll_2 (by decide) ?_
  refine lv_istore_n (lv' := [(3, .int 0), (2, .int 0), (0, .ref a0), (1, .int p0)]) hx hb dX9_worthOfAll_3 rfl hl (by decide) rfl (fun ls hl => ?_)
  have j4 : ∀ (n : Nat) (x4_2 : Int32) (x4_3 : Int32) (H : Heap) (locs : List Loc) (ls : Array Slot), 2147483648 ≤ x4_3.toInt + (n : Int) → rg 0 8 x4_3 → va_P G vwCl [(a0, .inr (9, [.ref a1, .ref a3, .ref a4, .ref a5, .ref a6, .int n0_5, .int n0_6])), (a1, .inr (0, [.ref a2, .int n1_1])), (a3, .inl (ct 0, 8, .inl f3))] H → va_S no s.heap H locs → lv_has ls 4 [(0, .ref a0), (1, .int p0), (2, .int x4_2), (3, .int x4_3)] → W p l e (headSpec wsX9_worthOfAll ({ frames := 2, cells := 0, slots := 0, locals := 42 })).room s m ([.ref a0, .int p0] : List Value).toArray below meth c H locs 0 0 (MQ below (roQ (fun r => True)) ([.ref a0, .int p0] : List Value).toArray s 0 0 no) (F0 m 4 ls []) := by
    intro n
    induction n with
    | zero => intro x4_2 x4_3 H locs ls hn4 hx4_3 hP hS hl; exact absurd hn4 (by have := Int32.toInt_lt x4_3; have := Int32.le_toInt x4_3; omega)
    | succ n ih4 =>
      intro x4_2 x4_3 H locs ls hn4 hx4_3 hP hS hl
      refine lv_iload_n hx hb dX9_worthOfAll_4 rfl (lv_at hl 3 rfl) ?_
      refine lv_aload_n hx hb dX9_worthOfAll_5 rfl (lv_at hl 0 rfl) ?_
      refine va_get (D := G) (ci := 9) (v := .ref a1) (C := RX9) (T := TX9) (N := 7) hx hb hts (by decide +kernel) hown hK.1 hP 0 rfl rfl 0 (by decide) (hts (.fieldLink RX9 12 "CardHolder$Town" "bonds" "LCardHolder$Bonds;") (by decide +kernel)) (fun _ h9 => h9) rfl dX9_worthOfAll_6 ?_
      refine va_get (D := G) (ci := 0) (v := .int n1_1) (C := RX0) (T := TX0) (N := 2) hx hb hts (by decide +kernel) hown hK.1 hP 1 rfl rfl 1 (by decide) (hts (.fieldLink RX9 31 "CardHolder$Bonds" "persons" "I") (by decide +kernel)) (fun _ h9 => h9) rfl dX9_worthOfAll_9 ?_
      refine lv_icmp_ge (tgt := 38) hx hb dX9_worthOfAll_12 (by decide) (fun c12 => ?_) (fun c12 => ?_)
      · refine lv_iload_n hx hb dX9_worthOfAll_38 rfl (lv_at hl 2 rfl) ?_
        exact W.iret (v := x4_2) hx hb hr (fun t ht hW => ⟨⟨x4_2, (), rfl, trivial, trivial⟩, hS.F ht⟩) hS.2.2 dX9_worthOfAll_39
      · have h_1 : rg 0 7 x4_3 := r_lt_l_i (nle_i c12) hx4_3 hp_n1_1 (by decide)
        have h_2 : rg 1 8 n1_1 := r_lt_r_i (nle_i c12) hx4_3 hp_n1_1 (by decide)
        refine lv_iload_n hx hb dX9_worthOfAll_15 rfl (lv_at hl 1 rfl) ?_
        refine lv_iload_n hx hb dX9_worthOfAll_16 rfl (lv_at hl 3 rfl) ?_
        refine ro_calli (va_runSN (As := [.int p0, .int x4_3]) (rest := []) ⟨hx, hb, hml, hown, hts⟩ (a_X10_bitOf l G ct p0 x4_3) ⟨va_cnB 2 hts gX9_worthOfAll_X10_bitOf_n63 rfl rfl rfl (hK.2.1 (RX9, 63, yX10_bitOf, "CardHolder") (by decide +kernel)) (hts (.initialized RX10) (by decide +kernel)) (by decide +kernel) ⟨Nat.le_of_ble_eq_true rfl, Nat.le_of_ble_eq_true rfl⟩, hts (.static yX10_bitOf) (by decide +kernel), trivial⟩ (ro_pre hK (hP.sub [] rfl)) rfl rfl hl.1 rfl (lv_room (Nat.le_of_ble_eq_true rfl)) dX9_worthOfAll_17 ⟨Nat.zero_le _, Nat.zero_le _⟩) hS hP (fun r17 H locs wr17 hP hS => ?_)
        obtain ⟨p_3, -⟩ := wr17
        refine lv_iconst (v := 1) hx hb dX9_worthOfAll_20 (by decide) ?_
        have j32 : ∀ (x32_2 : Int32) (H : Heap) (locs : List Loc) (ls : Array Slot), va_P G vwCl [(a0, .inr (9, [.ref a1, .ref a3, .ref a4, .ref a5, .ref a6, .int n0_5, .int n0_6])), (a1, .inr (0, [.ref a2, .int n1_1])), (a3, .inl (ct 0, 8, .inl f3))] H → va_S no s.heap H locs → lv_has ls 4 [(0, .ref a0), (1, .int p0), (2, .int x32_2), (3, .int x4_3)] → W p l e (headSpec wsX9_worthOfAll ({ frames := 2, cells := 0, slots := 0, locals := 42 })).room s m ([.ref a0, .int p0] : List Value).toArray below meth c H locs 0 0 (MQ below (roQ (fun r => True)) ([.ref a0, .int p0] : List Value).toArray s 0 0 no) (F0 m 32 ls []) := by
          intro x32_2 H locs ls  hP hS hl
          obtain ⟨z32, qz32⟩ : ∃ y : Int32, y = x4_3 + Int32.ofInt 1 := ⟨_, rfl⟩
          obtain ⟨hz32, ez32⟩ := inc_z (e := 1) (f := 8) h_1 qz32 (by decide)
          refine lv_iinc (v := z32) (lv' := [(3, .int z32), (0, .ref a0), (1, .int p0), (2, .int x32_2)]) hx hb dX9_worthOfAll_32 hl (k := 3) rfl (qz32.symm) (by decide) rfl (fun ls hl => ?_)
          refine lv_goto (tgt := 4) hx hb dX9_worthOfAll_35 (by decide) ?_
          exact ih4 x32_2 z32 _ _ ls (by have q := hn4; have := ez32; omega) (rg_w (c := 0) (d := 8) hz32 (by decide)) hP hS (lv_sub hl [1, 2, 3, 0] rfl)
        refine lv_icmp_ne (tgt := 32) hx hb dX9_worthOfAll_21 (by decide) (fun c21 => ?_) (fun c21 => ?_)
        · have h_4 : rg 0 0 r17 := r_ne_hi_i c21 p_3 (by decide) (by decide)
          exact j32 x4_2 _ _ ls hP hS (lv_sub hl [0, 1, 2, 3] rfl)
        · have h_5 : rg 1 1 r17 := r_eq_l_i (e := 1) (f := 1) c21 p_3 (rgn 1 (x := 1) (by decide)) (by decide)
          refine lv_iload_n hx hb dX9_worthOfAll_24 rfl (lv_at hl 2 rfl) ?_
          refine lv_aload_n hx hb dX9_worthOfAll_25 rfl (lv_at hl 0 rfl) ?_
          refine lv_iload_n hx hb dX9_worthOfAll_26 rfl (lv_at hl 3 rfl) ?_
          refine ro_calli (va_runV (As := [.int x4_3]) (rest := [.int x4_2]) ⟨hx, hb, hml, hown, hts⟩ (a_X9_worthOf l G ct a0 a1 a3 a4 a5 a6 n0_5 n0_6 a2 n1_1 f3 x4_3 (rg_w (c := 0) (d := 8) h_2 (by decide))) (cwV 1 hts gX9_worthOfAll_X9_worthOf rfl rfl rfl (by decide +kernel) ⟨Nat.le_of_ble_eq_true rfl, Nat.le_of_ble_eq_true rfl⟩) (ro_preV 9 0 hK (hP.sub [0, 1, 2] rfl) rfl rfl) rfl rfl hl.1 rfl (lv_room (Nat.le_of_ble_eq_true rfl)) dX9_worthOfAll_27 ⟨Nat.zero_le _, Nat.zero_le _⟩) hS hP (fun r27 H locs wr27 hP hS => ?_)
          obtain ⟨p_6, p_7, p_8, p_9, -⟩ := wr27
          refine lv_iadd hx hb dX9_worthOfAll_30 ?_
          refine nm_0 (fun z30 => ?_)
          refine lv_istore_n (lv' := [(2, .int z30), (0, .ref a0), (1, .int p0), (3, .int x4_3)]) hx hb dX9_worthOfAll_31 rfl hl (by decide) rfl (fun ls hl => ?_)
          exact j32 z30 _ _ ls hP hS (lv_sub hl [1, 2, 0, 3] rfl)
  exact j4 4294967296 (0 : Int32) (0 : Int32) _ _ ls (ms_e (0 : Int32)) (rg_w (c := 0) (d := 8) (rgn 0 (x := 0) (by decide)) (by decide)) hP hS (lv_sub hl [2, 3, 1, 0] rfl)

set_option maxHeartbeats 4000000 in
set_option maxRecDepth 100000 in
theorem a_X9_powerIn (l : Launch) (G : va_G) (ct : Nat → ClassId) (a0 : Nat) (a1 : Nat) (a3 : Nat) (a4 : Nat) (a5 : Nat) (a6 : Nat) (n0_5 : Int32) (n0_6 : Int32) (a2 : Nat) (n1_1 : Int32) (f4 : Nat → Int32) (a7 : Nat) (a8 : Nat) (n7_1 : Int32) (f8 : Nat → Int32) (p1 : Int32) (hp_n1_1 : rg 0 8 n1_1) (hp_n7_1 : rg 0 8 n7_1) : Met l yX9_powerIn wsX9_powerIn ({ frames := 4, cells := 0, slots := 0, locals := 89 }) (va_Pc [.ref a0, .ref a7, .int p1] (roP G ct [(a0, .inr (9, [.ref a1, .ref a3, .ref a4, .ref a5, .ref a6, .int n0_5, .int n0_6])), (a1, .inr (0, [.ref a2, .int n1_1])), (a4, .inl (ct 0, 8, .inl f4)), (a7, .inr (0, [.ref a8, .int n7_1])), (a8, .inl (ct 0, 8, .inl f8))])) (roQ (fun r => rg 0 63 r ∧ True)) 0 0 no := by
  refine Met.ofW (cc := cX9_powerIn) (maxL := 3) (ret := (some .int)) (by decide) rfl ?_
  intro p e s m args below meth c s₁ B hml hv
  obtain ⟨rfl, hP, hK⟩ := hv
  have hx := B.exec
  have hb := B.bytes
  have hr := B.returns
  have hts := atoms_spec (ws := wsX9_powerIn) B.pre
  have hown : s.vm.findClass RX9 = some m.cls := findClass_of_methodNamed B.named
  have hlocks := B.notSynchronized
  have hS : va_S no s.heap s.heap [] := va_S.rf
  have hl := lv_entry ([.ref a0, .ref a7, .int p1]) (n := 3) (Nat.le_of_ble_eq_true rfl)
  rw [lg_entry_eq]
  generalize (lg_sl ([.ref a0, .ref a7, .int p1]) ++ List.replicate (3 - (lg_sl ([.ref a0, .ref a7, .int p1])).length) Slot.unset).toArray = ls at hl ⊢
  have hl : lv_has ls 3 [(0, .ref a0), (1, .ref a7), (2, .int p1)] := hl
  refine lv_aload_n hx hb dX9_powerIn_0 rfl (lv_at hl 0 rfl) ?_
  refine lv_aload_n hx hb dX9_powerIn_1 rfl (lv_at hl 1 rfl) ?_
  refine lv_iload_n hx hb dX9_powerIn_2 rfl (lv_at hl 2 rfl) ?_
  refine ro_calli (va_runV (As := [.int p1]) (rest := [.ref a0]) ⟨hx, hb, hml, hown, hts⟩ (a_X0_below l G ct a7 a8 n7_1 f8 p1 hp_n7_1) (cwV 1 hts gX9_powerIn_X0_below rfl rfl rfl (by decide +kernel) ⟨Nat.le_of_ble_eq_true rfl, Nat.le_of_ble_eq_true rfl⟩) (ro_preV 0 0 hK (hP.sub [3, 4] rfl) rfl rfl) rfl rfl hl.1 rfl (lv_room (Nat.le_of_ble_eq_true rfl)) dX9_powerIn_3 ⟨Nat.zero_le _, Nat.zero_le _⟩) hS hP (fun r3 H locs wr3 hP hS => ?_)
  obtain ⟨p_1, -⟩ := wr3
  refine ro_calli (va_runV (As := [.int r3]) (rest := []) ⟨hx, hb, hml, hown, hts⟩ (a_X9_deedsOfAll l G ct a0 a1 a3 a4 a5 a6 n0_5 n0_6 a2 n1_1 f4 r3 hp_n1_1) (cwV 1 hts gX9_powerIn_X9_deedsOfAll rfl rfl rfl (by decide +kernel) ⟨Nat.le_of_ble_eq_true rfl, Nat.le_of_ble_eq_true rfl⟩) (ro_preV 9 0 hK (hP.sub [0, 1, 2] rfl) rfl rfl) rfl rfl hl.1 rfl (lv_room (Nat.le_of_ble_eq_true rfl)) dX9_powerIn_6 ⟨Nat.zero_le _, Nat.zero_le _⟩) hS hP (fun r6 H locs wr6 hP hS => ?_)
  refine ro_calli (va_runS (As := [.int r6]) (rest := []) ⟨hx, hb, hml, hown, hts⟩ (a_J6_bitCount_0f7a4 l G ct r6) (va_cwS 1 hts gX9_powerIn_J6_bitCount_0f7a4 rfl rfl rfl (by decide +kernel) ⟨Nat.le_of_ble_eq_true rfl, Nat.le_of_ble_eq_true rfl⟩) (ro_pre hK (hP.sub [] rfl)) rfl rfl hl.1 rfl (lv_room (Nat.le_of_ble_eq_true rfl)) dX9_powerIn_9 ⟨Nat.zero_le _, Nat.zero_le _⟩) hS hP (fun r9 H locs wr9 hP hS => ?_)
  obtain ⟨p_2, -⟩ := wr9
  exact W.iret (v := r9) hx hb hr (fun t ht hW => ⟨⟨r9, (), rfl, ⟨p_2, trivial⟩, trivial⟩, hS.F ht⟩) hS.2.2 dX9_powerIn_12

set_option maxHeartbeats 4000000 in
set_option maxRecDepth 100000 in
theorem a_X9_wishersOf (l : Launch) (G : va_G) (ct : Nat → ClassId) (a0 : Nat) (a1 : Nat) (a3 : Nat) (a4 : Nat) (a5 : Nat) (a6 : Nat) (n0_5 : Int32) (n0_6 : Int32) (a2 : Nat) (n1_1 : Int32) (f5 : Nat → Int32) (p0 : Int32) (hp_n1_1 : rg 0 8 n1_1) : Met l yX9_wishersOf wsX9_wishersOf ({ frames := 2, cells := 0, slots := 0, locals := 42 }) (va_Pc [.ref a0, .int p0] (roP G ct [(a0, .inr (9, [.ref a1, .ref a3, .ref a4, .ref a5, .ref a6, .int n0_5, .int n0_6])), (a1, .inr (0, [.ref a2, .int n1_1])), (a5, .inl (ct 0, 8, .inl f5))])) (roQ (fun r => rg 0 255 r ∧ True)) 0 0 no := by
  refine Met.ofW (cc := cX9_wishersOf) (maxL := 4) (ret := (some .int)) (by decide) rfl ?_
  intro p e s m args below meth c s₁ B hml hv
  obtain ⟨rfl, hP, hK⟩ := hv
  have hx := B.exec
  have hb := B.bytes
  have hr := B.returns
  have hts := atoms_spec (ws := wsX9_wishersOf) B.pre
  have hown : s.vm.findClass RX9 = some m.cls := findClass_of_methodNamed B.named
  have hlocks := B.notSynchronized
  have hS : va_S no s.heap s.heap [] := va_S.rf
  have hl := lv_entry ([.ref a0, .int p0]) (n := 4) (Nat.le_of_ble_eq_true rfl)
  rw [lg_entry_eq]
  generalize (lg_sl ([.ref a0, .int p0]) ++ List.replicate (4 - (lg_sl ([.ref a0, .int p0])).length) Slot.unset).toArray = ls at hl ⊢
  have hl : lv_has ls 4 [(0, .ref a0), (1, .int p0)] := hl
  refine lv_iconst (v := 0) hx hb dX9_wishersOf_0 (by decide) ?_
  refine lv_istore_n (lv' := [(2, .int 0), (0, .ref a0), (1, .int p0)]) hx hb dX9_wishersOf_1 rfl hl (by decide) rfl (fun ls hl => ?_)
  refine lv_iconst (v := 0) hx hb dX9_wishersOf_2 (by decide) ?_
  refine lv_istore_n (lv' := [(3, .int 0), (2, .int 0), (0, .ref a0), (1, .int p0)]) hx hb dX9_wishersOf_3 rfl hl (by decide) rfl (fun ls hl => ?_)
  have j4 : ∀ (n : Nat) (x4_2 : Int32) (x4_3 : Int32) (H : Heap) (locs : List Loc) (ls : Array Slot), 2147483648 ≤ x4_3.toInt + (n : Int) → rg 0 255 x4_2 → rg 0 8 x4_3 → va_P G vwCl [(a0, .inr (9, [.ref a1, .ref a3, .ref a4, .ref a5, .ref a6, .int n0_5, .int n0_6])), (a1, .inr (0, [.ref a2, .int n1_1])), (a5, .inl (ct 0, 8, .inl f5))] H → va_S no s.heap H locs → lv_has ls 4 [(0, .ref a0), (1, .int p0), (2, .int x4_2), (3, .int x4_3)] → W p l e (headSpec wsX9_wishersOf ({ frames := 2, cells := 0, slots := 0, locals := 42 })).room s m ([.ref a0, .int p0] : List Value).toArray below meth c H locs 0 0 (MQ below (roQ (fun r => rg 0 255 r ∧ True)) ([.ref a0, .int p0] : List Value).toArray s 0 0 no) (F0 m 4 ls []) := by
    intro n
    induction n with
    | zero => intro x4_2 x4_3 H locs ls hn4 hx4_2 hx4_3 hP hS hl; exact absurd hn4 (by have := Int32.toInt_lt x4_3; have := Int32.le_toInt x4_3; omega)
    | succ n ih4 =>
      intro x4_2 x4_3 H locs ls hn4 hx4_2 hx4_3 hP hS hl
      refine lv_iload_n hx hb dX9_wishersOf_4 rfl (lv_at hl 3 rfl) ?_
      refine lv_aload_n hx hb dX9_wishersOf_5 rfl (lv_at hl 0 rfl) ?_
      refine va_get (D := G) (ci := 9) (v := .ref a1) (C := RX9) (T := TX9) (N := 7) hx hb hts (by decide +kernel) hown hK.1 hP 0 rfl rfl 0 (by decide) (hts (.fieldLink RX9 12 "CardHolder$Town" "bonds" "LCardHolder$Bonds;") (by decide +kernel)) (fun _ h9 => h9) rfl dX9_wishersOf_6 ?_
      refine va_get (D := G) (ci := 0) (v := .int n1_1) (C := RX0) (T := TX0) (N := 2) hx hb hts (by decide +kernel) hown hK.1 hP 1 rfl rfl 1 (by decide) (hts (.fieldLink RX9 31 "CardHolder$Bonds" "persons" "I") (by decide +kernel)) (fun _ h9 => h9) rfl dX9_wishersOf_9 ?_
      refine lv_icmp_ge (tgt := 39) hx hb dX9_wishersOf_12 (by decide) (fun c12 => ?_) (fun c12 => ?_)
      · refine lv_iload_n hx hb dX9_wishersOf_39 rfl (lv_at hl 2 rfl) ?_
        exact W.iret (v := x4_2) hx hb hr (fun t ht hW => ⟨⟨x4_2, (), rfl, ⟨hx4_2, trivial⟩, trivial⟩, hS.F ht⟩) hS.2.2 dX9_wishersOf_40
      · have h_1 : rg 0 7 x4_3 := r_lt_l_i (nle_i c12) hx4_3 hp_n1_1 (by decide)
        have h_2 : rg 1 8 n1_1 := r_lt_r_i (nle_i c12) hx4_3 hp_n1_1 (by decide)
        refine lv_iload_n hx hb dX9_wishersOf_15 rfl (lv_at hl 1 rfl) ?_
        refine lv_aload_n hx hb dX9_wishersOf_16 rfl (lv_at hl 0 rfl) ?_
        refine lv_iload_n hx hb dX9_wishersOf_17 rfl (lv_at hl 3 rfl) ?_
        refine ro_calli (va_runV (As := [.int x4_3]) (rest := [.int p0]) ⟨hx, hb, hml, hown, hts⟩ (a_X9_wishesOf l G ct a0 a1 a3 a4 a5 a6 n0_5 n0_6 a2 n1_1 f5 x4_3 (rg_w (c := 0) (d := 8) h_2 (by decide))) (cwV 1 hts gX9_wishersOf_X9_wishesOf rfl rfl rfl (by decide +kernel) ⟨Nat.le_of_ble_eq_true rfl, Nat.le_of_ble_eq_true rfl⟩) (ro_preV 9 0 hK (hP.sub [0, 1, 2] rfl) rfl rfl) rfl rfl hl.1 rfl (lv_room (Nat.le_of_ble_eq_true rfl)) dX9_wishersOf_18 ⟨Nat.zero_le _, Nat.zero_le _⟩) hS hP (fun r18 H locs wr18 hP hS => ?_)
        obtain ⟨p_3, p_4, p_5, p_6, -⟩ := wr18
        refine lv_iconst (v := (-1)) hx hb dX9_wishersOf_21 (by decide) ?_
        refine lv_ixor hx hb dX9_wishersOf_22 ?_
        refine nm_0 (fun z22 => ?_)
        refine lv_iand hx hb dX9_wishersOf_23 ?_
        refine nm_0 (fun z23 => ?_)
        have j33 : ∀ (x33_2 : Int32) (H : Heap) (locs : List Loc) (ls : Array Slot), rg 0 255 x33_2 → va_P G vwCl [(a0, .inr (9, [.ref a1, .ref a3, .ref a4, .ref a5, .ref a6, .int n0_5, .int n0_6])), (a1, .inr (0, [.ref a2, .int n1_1])), (a5, .inl (ct 0, 8, .inl f5))] H → va_S no s.heap H locs → lv_has ls 4 [(0, .ref a0), (1, .int p0), (2, .int x33_2), (3, .int x4_3)] → W p l e (headSpec wsX9_wishersOf ({ frames := 2, cells := 0, slots := 0, locals := 42 })).room s m ([.ref a0, .int p0] : List Value).toArray below meth c H locs 0 0 (MQ below (roQ (fun r => rg 0 255 r ∧ True)) ([.ref a0, .int p0] : List Value).toArray s 0 0 no) (F0 m 33 ls []) := by
          intro x33_2 H locs ls hx33_2 hP hS hl
          obtain ⟨z33, qz33⟩ : ∃ y : Int32, y = x4_3 + Int32.ofInt 1 := ⟨_, rfl⟩
          obtain ⟨hz33, ez33⟩ := inc_z (e := 1) (f := 8) h_1 qz33 (by decide)
          refine lv_iinc (v := z33) (lv' := [(3, .int z33), (0, .ref a0), (1, .int p0), (2, .int x33_2)]) hx hb dX9_wishersOf_33 hl (k := 3) rfl (qz33.symm) (by decide) rfl (fun ls hl => ?_)
          refine lv_goto (tgt := 4) hx hb dX9_wishersOf_36 (by decide) ?_
          exact ih4 x33_2 z33 _ _ ls (by have q := hn4; have := ez33; omega) hx33_2 (rg_w (c := 0) (d := 8) hz33 (by decide)) hP hS (lv_sub hl [1, 2, 3, 0] rfl)
        refine lv_if_ne (tgt := 33) hx hb dX9_wishersOf_24 (by decide) (fun c24 => ?_) (fun c24 => ?_)
        · exact j33 x4_2 _ _ ls hx4_2 hP hS (lv_sub hl [0, 1, 2, 3] rfl)
        · have h_7 : rg 0 0 z23 := r_eq_l_i (e := 0) (f := 0) c24 (rg_t z23) (rgn 0 (x := 0) (by decide)) (by decide)
          refine lv_iload_n hx hb dX9_wishersOf_27 rfl (lv_at hl 2 rfl) ?_
          refine lv_iconst (v := 1) hx hb dX9_wishersOf_28 (by decide) ?_
          refine lv_iload_n hx hb dX9_wishersOf_29 rfl (lv_at hl 3 rfl) ?_
          refine lv_ishl hx hb dX9_wishersOf_30 ?_
          refine nm_shl (e1 := 1) (f := 128) h_1 (by decide) (fun z30 hz30 => ?_)
          refine lv_ior hx hb dX9_wishersOf_31 ?_
          refine nm_or (k := 8) (e1 := 1) (f := 255) hx4_2 hz30 (by decide) (fun z31 hz31 => ?_)
          refine lv_istore_n (lv' := [(2, .int z31), (0, .ref a0), (1, .int p0), (3, .int x4_3)]) hx hb dX9_wishersOf_32 rfl hl (by decide) rfl (fun ls hl => ?_)
          exact j33 z31 _ _ ls (rg_w (c := 0) (d := 255) hz31 (by decide)) hP hS (lv_sub hl [1, 2, 0, 3] rfl)
  exact j4 4294967296 (0 : Int32) (0 : Int32) _ _ ls (ms_e (0 : Int32)) (rg_w (c := 0) (d := 255) (rgn 0 (x := 0) (by decide)) (by decide)) (rg_w (c := 0) (d := 8) (rgn 0 (x := 0) (by decide)) (by decide)) hP hS (lv_sub hl [2, 3, 1, 0] rfl)

set_option maxHeartbeats 4000000 in
set_option maxRecDepth 100000 in
theorem a_X9_worstOf (l : Launch) (G : va_G) (ct : Nat → ClassId) (a0 : Nat) (a1 : Nat) (a3 : Nat) (a4 : Nat) (a5 : Nat) (a6 : Nat) (n0_5 : Int32) (n0_6 : Int32) (a2 : Nat) (n1_1 : Int32) (f5 : Nat → Int32) (p0 : Int32) (p1 : Int32) (hp_n1_1 : rg 0 8 n1_1) : Met l yX9_worstOf wsX9_worstOf ({ frames := 3, cells := 0, slots := 0, locals := 65 }) (va_Pc [.ref a0, .int p0, .int p1] (roP G ct [(a0, .inr (9, [.ref a1, .ref a3, .ref a4, .ref a5, .ref a6, .int n0_5, .int n0_6])), (a1, .inr (0, [.ref a2, .int n1_1])), (a5, .inl (ct 0, 8, .inl f5))])) (roQ (fun r => rg 0 63 r ∧ True)) 0 0 no := by
  refine Met.ofW (cc := cX9_worstOf) (maxL := 4) (ret := (some .int)) (by decide) rfl ?_
  intro p e s m args below meth c s₁ B hml hv
  obtain ⟨rfl, hP, hK⟩ := hv
  have hx := B.exec
  have hb := B.bytes
  have hr := B.returns
  have hts := atoms_spec (ws := wsX9_worstOf) B.pre
  have hown : s.vm.findClass RX9 = some m.cls := findClass_of_methodNamed B.named
  have hlocks := B.notSynchronized
  have hS : va_S no s.heap s.heap [] := va_S.rf
  have hl := lv_entry ([.ref a0, .int p0, .int p1]) (n := 4) (Nat.le_of_ble_eq_true rfl)
  rw [lg_entry_eq]
  generalize (lg_sl ([.ref a0, .int p0, .int p1]) ++ List.replicate (4 - (lg_sl ([.ref a0, .int p0, .int p1])).length) Slot.unset).toArray = ls at hl ⊢
  have hl : lv_has ls 4 [(0, .ref a0), (1, .int p0), (2, .int p1)] := hl
  refine lv_iload_n hx hb dX9_worstOf_0 rfl (lv_at hl 1 rfl) ?_
  refine lv_aload_n hx hb dX9_worstOf_1 rfl (lv_at hl 0 rfl) ?_
  refine lv_iconst (v := 1) hx hb dX9_worstOf_2 (by decide) ?_
  refine lv_iload_n hx hb dX9_worstOf_3 rfl (lv_at hl 2 rfl) ?_
  refine lv_ishl hx hb dX9_worstOf_4 ?_
  refine nm_0 (fun z4 => ?_)
  refine ro_calli (va_runV (As := [.int z4]) (rest := [.int p0]) ⟨hx, hb, hml, hown, hts⟩ (a_X9_wishersOf l G ct a0 a1 a3 a4 a5 a6 n0_5 n0_6 a2 n1_1 f5 z4 hp_n1_1) (cwV 1 hts gX9_worstOf_X9_wishersOf rfl rfl rfl (by decide +kernel) ⟨Nat.le_of_ble_eq_true rfl, Nat.le_of_ble_eq_true rfl⟩) (ro_preV 9 0 hK (hP.sub [0, 1, 2] rfl) rfl rfl) rfl rfl hl.1 rfl (lv_room (Nat.le_of_ble_eq_true rfl)) dX9_worstOf_5 ⟨Nat.zero_le _, Nat.zero_le _⟩) hS hP (fun r5 H locs wr5 hP hS => ?_)
  obtain ⟨p_1, -⟩ := wr5
  refine lv_iand hx hb dX9_worstOf_8 ?_
  refine nm_andr p_1 (by decide) (fun z8 hz8 => ?_)
  refine ro_calli (va_runS (As := [.int z8]) (rest := []) ⟨hx, hb, hml, hown, hts⟩ (a_J6_bitCount_0f7a4 l G ct z8) (va_cwS 1 hts gX9_worstOf_J6_bitCount_0f7a4 rfl rfl rfl (by decide +kernel) ⟨Nat.le_of_ble_eq_true rfl, Nat.le_of_ble_eq_true rfl⟩) (ro_pre hK (hP.sub [] rfl)) rfl rfl hl.1 rfl (lv_room (Nat.le_of_ble_eq_true rfl)) dX9_worstOf_9 ⟨Nat.zero_le _, Nat.zero_le _⟩) hS hP (fun r9 H locs wr9 hP hS => ?_)
  obtain ⟨p_2, -⟩ := wr9
  refine lv_istore_n (lv' := [(3, .int r9), (0, .ref a0), (1, .int p0), (2, .int p1)]) hx hb dX9_worstOf_12 rfl hl (by decide) rfl (fun ls hl => ?_)
  refine lv_iload_n hx hb dX9_worstOf_13 rfl (lv_at hl 0 rfl) ?_
  refine lv_iload_n hx hb dX9_worstOf_14 rfl (lv_at hl 2 rfl) ?_
  refine ro_calli (va_runS (As := [.int p0]) (rest := [.int r9]) ⟨hx, hb, hml, hown, hts⟩ (a_J6_bitCount_0f7a4 l G ct p0) (va_cwS 1 hts gX9_worstOf_J6_bitCount_0f7a4 rfl rfl rfl (by decide +kernel) ⟨Nat.le_of_ble_eq_true rfl, Nat.le_of_ble_eq_true rfl⟩) (ro_pre hK (hP.sub [] rfl)) rfl rfl hl.1 rfl (lv_room (Nat.le_of_ble_eq_true rfl)) dX9_worstOf_15 ⟨Nat.zero_le _, Nat.zero_le _⟩) hS hP (fun r15 H locs wr15 hP hS => ?_)
  obtain ⟨p_3, -⟩ := wr15
  refine lv_iload_n hx hb dX9_worstOf_18 rfl (lv_at hl 0 rfl) ?_
  refine lv_isub hx hb dX9_worstOf_19 ?_
  refine nm_sub (e1 := (-63)) (f := 63) p_3 p_2 (by decide) (fun z19 hz19 ez19 => ?_)
  refine va_mmax hx hb (hml.trans hl.1.symm) hown (hts (.methodLink RX9 90 Lib.Math.max.name) (by decide +kernel)) (hts (.static Lib.Math.max.name) (by decide +kernel)) (hts (.initialized "java/lang/Math") (by decide +kernel)) (hts (.code Lib.Math.max.name Lib.Math.max.code 2 (some .int)) (List.mem_of_getElem? (i := 4) rfl)) (Nat.le_of_ble_eq_true rfl) (Nat.le_of_ble_eq_true rfl) (Nat.zero_le _) (Nat.zero_le _) dX9_worstOf_20 ?_
  refine nm_max (e1 := 0) (f := 63) p_2 hz19 (by decide) (fun z20 hz20 => ?_)
  exact W.iret (v := z20) hx hb hr (fun t ht hW => ⟨⟨z20, (), rfl, ⟨hz20, trivial⟩, trivial⟩, hS.F ht⟩) hS.2.2 dX9_worstOf_23

set_option maxHeartbeats 4000000 in
set_option maxRecDepth 100000 in
theorem a_X9_tellingDeed (l : Launch) (G : va_G) (ct : Nat → ClassId) (a0 : Nat) (a1 : Nat) (a3 : Nat) (a4 : Nat) (a5 : Nat) (a6 : Nat) (n0_5 : Int32) (n0_6 : Int32) (a2 : Nat) (n1_1 : Int32) (f5 : Nat → Int32) (p0 : Int32) (hp_n1_1 : rg 0 8 n1_1) : Met l yX9_tellingDeed wsX9_tellingDeed ({ frames := 4, cells := 0, slots := 0, locals := 88 }) (va_Pc [.ref a0, .int p0] (roP G ct [(a0, .inr (9, [.ref a1, .ref a3, .ref a4, .ref a5, .ref a6, .int n0_5, .int n0_6])), (a1, .inr (0, [.ref a2, .int n1_1])), (a5, .inl (ct 0, 8, .inl f5))])) (roQ (fun r => rg (-1) 5 r ∧ True)) 0 0 no := by
  refine Met.ofW (cc := cX9_tellingDeed) (maxL := 6) (ret := (some .int)) (by decide) rfl ?_
  intro p e s m args below meth c s₁ B hml hv
  obtain ⟨rfl, hP, hK⟩ := hv
  have hx := B.exec
  have hb := B.bytes
  have hr := B.returns
  have hts := atoms_spec (ws := wsX9_tellingDeed) B.pre
  have hown : s.vm.findClass RX9 = some m.cls := findClass_of_methodNamed B.named
  have hlocks := B.notSynchronized
  have hS : va_S no s.heap s.heap [] := va_S.rf
  have hl := lv_entry ([.ref a0, .int p0]) (n := 6) (Nat.le_of_ble_eq_true rfl)
  rw [lg_entry_eq]
  generalize (lg_sl ([.ref a0, .int p0]) ++ List.replicate (6 - (lg_sl ([.ref a0, .int p0])).length) Slot.unset).toArray = ls at hl ⊢
  have hl : lv_has ls 6 [(0, .ref a0), (1, .int p0)] := hl
  refine lv_iconst (v := (-1)) hx hb dX9_tellingDeed_0 (by decide) ?_
  refine lv_istore_n (lv' := [(2, .int (-1)), (0, .ref a0), (1, .int p0)]) hx hb dX9_tellingDeed_1 rfl hl (by decide) rfl (fun ls hl => ?_)
  refine lv_iload_n hx hb dX9_tellingDeed_2 rfl (lv_at hl 2 rfl) ?_
  refine ro_calli (va_runS (As := [.int p0]) (rest := []) ⟨hx, hb, hml, hown, hts⟩ (a_J6_bitCount_0f7a4 l G ct p0) (va_cwS 1 hts gX9_tellingDeed_J6_bitCount_0f7a4 rfl rfl rfl (by decide +kernel) ⟨Nat.le_of_ble_eq_true rfl, Nat.le_of_ble_eq_true rfl⟩) (ro_pre hK (hP.sub [] rfl)) rfl rfl hl.1 rfl (lv_room (Nat.le_of_ble_eq_true rfl)) dX9_tellingDeed_3 ⟨Nat.zero_le _, Nat.zero_le _⟩) hS hP (fun r3 H locs wr3 hP hS => ?_)
  obtain ⟨p_1, -⟩ := wr3
  refine lv_istore_n (lv' := [(3, .int r3), (2, .int (-1)), (0, .ref a0), (1, .int p0)]) hx hb dX9_tellingDeed_6 rfl hl (by decide) rfl (fun ls hl => ?_)
  refine lv_iconst (v := 0) hx hb dX9_tellingDeed_7 (by decide) ?_
  refine lv_istore (lv' := [(4, .int 0), (3, .int r3), (2, .int (-1)), (0, .ref a0), (1, .int p0)]) hx hb dX9_tellingDeed_8 hl (by decide) rfl (fun ls hl => ?_)
  have j10 : ∀ (n : Nat) (x10_2 : Int32) (x10_3 : Int32) (x10_4 : Int32) (H : Heap) (locs : List Loc) (ls : Array Slot), 2147483648 ≤ x10_4.toInt + (n : Int) → rg (-1) 5 x10_2 → rg 0 63 x10_3 → rg 0 6 x10_4 → va_P G vwCl [(a0, .inr (9, [.ref a1, .ref a3, .ref a4, .ref a5, .ref a6, .int n0_5, .int n0_6])), (a1, .inr (0, [.ref a2, .int n1_1])), (a5, .inl (ct 0, 8, .inl f5))] H → va_S no s.heap H locs → lv_has ls 6 [(0, .ref a0), (1, .int p0), (2, .int x10_2), (3, .int x10_3), (4, .int x10_4)] → W p l e (headSpec wsX9_tellingDeed ({ frames := 4, cells := 0, slots := 0, locals := 88 })).room s m ([.ref a0, .int p0] : List Value).toArray below meth c H locs 0 0 (MQ below (roQ (fun r => rg (-1) 5 r ∧ True)) ([.ref a0, .int p0] : List Value).toArray s 0 0 no) (F0 m 10 ls []) := by
    intro n
    induction n with
    | zero => intro x10_2 x10_3 x10_4 H locs ls hn10 hx10_2 hx10_3 hx10_4 hP hS hl; exact absurd hn10 (by have := Int32.toInt_lt x10_4; have := Int32.le_toInt x10_4; omega)
    | succ n ih10 =>
      intro x10_2 x10_3 x10_4 H locs ls hn10 hx10_2 hx10_3 hx10_4 hP hS hl
      refine lv_iload hx hb dX9_tellingDeed_10 (lv_at hl 4 rfl) ?_
      refine lv_bipush (v := 6) hx hb dX9_tellingDeed_12 (by decide) ?_
      refine lv_icmp_ge (tgt := 44) hx hb dX9_tellingDeed_14 (by decide) (fun c14 => ?_) (fun c14 => ?_)
      · have h_2 : rg 6 6 x10_4 := r_le_r_i c14 (rgn 6 (x := 6) (by decide)) hx10_4
        refine lv_iload_n hx hb dX9_tellingDeed_44 rfl (lv_at hl 2 rfl) ?_
        exact W.iret (v := x10_2) hx hb hr (fun t ht hW => ⟨⟨x10_2, (), rfl, ⟨hx10_2, trivial⟩, trivial⟩, hS.F ht⟩) hS.2.2 dX9_tellingDeed_45
      · have h_3 : rg 0 5 x10_4 := r_lt_l_i (nle_i c14) hx10_4 (rgn 6 (x := 6) (by decide)) (by decide)
        refine lv_aload_n hx hb dX9_tellingDeed_17 rfl (lv_at hl 0 rfl) ?_
        refine lv_iload_n hx hb dX9_tellingDeed_18 rfl (lv_at hl 1 rfl) ?_
        refine lv_iload hx hb dX9_tellingDeed_19 (lv_at hl 4 rfl) ?_
        refine ro_calli (va_runV (As := [.int p0, .int x10_4]) (rest := []) ⟨hx, hb, hml, hown, hts⟩ (a_X9_worstOf l G ct a0 a1 a3 a4 a5 a6 n0_5 n0_6 a2 n1_1 f5 p0 x10_4 hp_n1_1) (cwV 2 hts gX9_tellingDeed_X9_worstOf rfl rfl rfl (by decide +kernel) ⟨Nat.le_of_ble_eq_true rfl, Nat.le_of_ble_eq_true rfl⟩) (ro_preV 9 0 hK (hP.sub [0, 1, 2] rfl) rfl rfl) rfl rfl hl.1 rfl (lv_room (Nat.le_of_ble_eq_true rfl)) dX9_tellingDeed_21 ⟨Nat.zero_le _, Nat.zero_le _⟩) hS hP (fun r21 H locs wr21 hP hS => ?_)
        obtain ⟨p_4, -⟩ := wr21
        refine lv_istore (lv' := [(5, .int r21), (0, .ref a0), (1, .int p0), (2, .int x10_2), (3, .int x10_3), (4, .int x10_4)]) hx hb dX9_tellingDeed_24 hl (by decide) rfl (fun ls hl => ?_)
        refine lv_iload hx hb dX9_tellingDeed_26 (lv_at hl 0 rfl) ?_
        refine lv_iload_n hx hb dX9_tellingDeed_28 rfl (lv_at hl 4 rfl) ?_
        have j38 : ∀ (x38_2 : Int32) (x38_3 : Int32) (H : Heap) (locs : List Loc) (ls : Array Slot), rg (-1) 5 x38_2 → rg 0 63 x38_3 → va_P G vwCl [(a0, .inr (9, [.ref a1, .ref a3, .ref a4, .ref a5, .ref a6, .int n0_5, .int n0_6])), (a1, .inr (0, [.ref a2, .int n1_1])), (a5, .inl (ct 0, 8, .inl f5))] H → va_S no s.heap H locs → lv_has ls 6 [(0, .ref a0), (1, .int p0), (2, .int x38_2), (3, .int x38_3), (4, .int x10_4), (5, .int r21)] → W p l e (headSpec wsX9_tellingDeed ({ frames := 4, cells := 0, slots := 0, locals := 88 })).room s m ([.ref a0, .int p0] : List Value).toArray below meth c H locs 0 0 (MQ below (roQ (fun r => rg (-1) 5 r ∧ True)) ([.ref a0, .int p0] : List Value).toArray s 0 0 no) (F0 m 38 ls []) := by
          intro x38_2 x38_3 H locs ls hx38_2 hx38_3 hP hS hl
          obtain ⟨z38, qz38⟩ : ∃ y : Int32, y = x10_4 + Int32.ofInt 1 := ⟨_, rfl⟩
          obtain ⟨hz38, ez38⟩ := inc_z (e := 1) (f := 6) h_3 qz38 (by decide)
          refine lv_iinc (v := z38) (lv' := [(4, .int z38), (0, .ref a0), (1, .int p0), (2, .int x38_2), (3, .int x38_3), (5, .int r21)]) hx hb dX9_tellingDeed_38 hl (k := 4) rfl (qz38.symm) (by decide) rfl (fun ls hl => ?_)
          refine lv_goto (tgt := 10) hx hb dX9_tellingDeed_41 (by decide) ?_
          exact ih10 x38_2 x38_3 z38 _ _ ls (by have q := hn10; have := ez38; omega) hx38_2 hx38_3 (rg_w (c := 0) (d := 6) hz38 (by decide)) hP hS (lv_sub hl [1, 2, 3, 4, 0] rfl)
        refine lv_icmp_ge (tgt := 38) hx hb dX9_tellingDeed_29 (by decide) (fun c29 => ?_) (fun c29 => ?_)
        · exact j38 x10_2 x10_3 _ _ ls hx10_2 hx10_3 hP hS (lv_sub hl [1, 2, 3, 4, 5, 0] rfl)
        · have h_5 : rg 0 62 r21 := r_lt_l_i (nle_i c29) p_4 hx10_3 (by decide)
          have h_6 : rg 1 63 x10_3 := r_lt_r_i (nle_i c29) p_4 hx10_3 (by decide)
          refine lv_iload hx hb dX9_tellingDeed_32 (lv_at hl 5 rfl) ?_
          refine lv_istore_n (lv' := [(2, .int x10_4), (5, .int r21), (0, .ref a0), (1, .int p0), (3, .int x10_3), (4, .int x10_4)]) hx hb dX9_tellingDeed_34 rfl hl (by decide) rfl (fun ls hl => ?_)
          refine lv_iload hx hb dX9_tellingDeed_35 (lv_at hl 1 rfl) ?_
          refine lv_istore_n (lv' := [(3, .int r21), (2, .int x10_4), (5, .int r21), (0, .ref a0), (1, .int p0), (4, .int x10_4)]) hx hb dX9_tellingDeed_37 rfl hl (by decide) rfl (fun ls hl => ?_)
          exact j38 x10_4 r21 _ _ ls (rg_w (c := (-1)) (d := 5) h_3 (by decide)) (rg_w (c := 0) (d := 63) h_5 (by decide)) hP hS (lv_sub hl [3, 4, 1, 0, 5, 2] rfl)
  exact j10 4294967296 ((-1) : Int32) r3 (0 : Int32) _ _ ls (ms_e (0 : Int32)) (rg_w (c := (-1)) (d := 5) (rgn (-1) (x := (-1)) (by decide)) (by decide)) p_1 (rg_w (c := 0) (d := 6) (rgn 0 (x := 0) (by decide)) (by decide)) hP hS (lv_sub hl [3, 4, 2, 1, 0] rfl)

set_option maxHeartbeats 4000000 in
set_option maxRecDepth 100000 in
theorem a_X9_pairsAbove (l : Launch) (G : va_G) (ct : Nat → ClassId) (a0 : Nat) (a1 : Nat) (a3 : Nat) (a4 : Nat) (a5 : Nat) (a6 : Nat) (n0_5 : Int32) (n0_6 : Int32) (a2 : Nat) (n1_1 : Int32) (f3 : Nat → Int32) (p0 : Int32) (p1 : Int32) (hp_n1_1 : rg 0 8 n1_1) : Met l yX9_pairsAbove wsX9_pairsAbove ({ frames := 2, cells := 0, slots := 0, locals := 42 }) (va_Pc [.ref a0, .int p0, .int p1] (roP G ct [(a0, .inr (9, [.ref a1, .ref a3, .ref a4, .ref a5, .ref a6, .int n0_5, .int n0_6])), (a1, .inr (0, [.ref a2, .int n1_1])), (a3, .inl (ct 0, 8, .inl f3))])) (roQ (fun r => True)) 0 0 no := by
  refine Met.ofW (cc := cX9_pairsAbove) (maxL := 7) (ret := (some .int)) (by decide) rfl ?_
  intro p e s m args below meth c s₁ B hml hv
  obtain ⟨rfl, hP, hK⟩ := hv
  have hx := B.exec
  have hb := B.bytes
  have hr := B.returns
  have hts := atoms_spec (ws := wsX9_pairsAbove) B.pre
  have hown : s.vm.findClass RX9 = some m.cls := findClass_of_methodNamed B.named
  have hlocks := B.notSynchronized
  have hS : va_S no s.heap s.heap [] := va_S.rf
  have hl := lv_entry ([.ref a0, .int p0, .int p1]) (n := 7) (Nat.le_of_ble_eq_true rfl)
  rw [lg_entry_eq]
  generalize (lg_sl ([.ref a0, .int p0, .int p1]) ++ List.replicate (7 - (lg_sl ([.ref a0, .int p0, .int p1])).length) Slot.unset).toArray = ls at hl ⊢
  have hl : lv_has ls 7 [(0, .ref a0), (1, .int p0), (2, .int p1)] := hl
  refine lv_iconst (v := 0) hx hb dX9_pairsAbove_0 (by decide) ?_
  refine lv_istore_n (lv' := [(3, .int 0), (0, .ref a0), (1, .int p0), (2, .int p1)]) hx hb dX9_pairsAbove_1 rfl hl (by decide) rfl (fun ls hl => ?_)
  refine lv_iconst (v := 0) hx hb dX9_pairsAbove_2 (by decide) ?_
  refine lv_istore (lv' := [(4, .int 0), (3, .int 0), (0, .ref a0), (1, .int p0), (2, .int p1)]) hx hb dX9_pairsAbove_3 hl (by decide) rfl (fun ls hl => ?_)
  have j5 : ∀ (n : Nat) (x5_3 : Int32) (x5_4 : Int32) (H : Heap) (locs : List Loc) (ls : Array Slot), 2147483648 ≤ x5_4.toInt + (n : Int) → rg 0 8 x5_4 → va_P G vwCl [(a0, .inr (9, [.ref a1, .ref a3, .ref a4, .ref a5, .ref a6, .int n0_5, .int n0_6])), (a1, .inr (0, [.ref a2, .int n1_1])), (a3, .inl (ct 0, 8, .inl f3))] H → va_S no s.heap H locs → lv_has ls 7 [(0, .ref a0), (1, .int p0), (2, .int p1), (3, .int x5_3), (4, .int x5_4)] → W p l e (headSpec wsX9_pairsAbove ({ frames := 2, cells := 0, slots := 0, locals := 42 })).room s m ([.ref a0, .int p0, .int p1] : List Value).toArray below meth c H locs 0 0 (MQ below (roQ (fun r => True)) ([.ref a0, .int p0, .int p1] : List Value).toArray s 0 0 no) (F0 m 5 ls []) := by
    intro n
    induction n with
    | zero => intro x5_3 x5_4 H locs ls hn5 hx5_4 hP hS hl; exact absurd hn5 (by have := Int32.toInt_lt x5_4; have := Int32.le_toInt x5_4; omega)
    | succ n ih5 =>
      intro x5_3 x5_4 H locs ls hn5 hx5_4 hP hS hl
      refine lv_iload hx hb dX9_pairsAbove_5 (lv_at hl 4 rfl) ?_
      refine lv_aload_n hx hb dX9_pairsAbove_7 rfl (lv_at hl 0 rfl) ?_
      refine va_get (D := G) (ci := 9) (v := .ref a1) (C := RX9) (T := TX9) (N := 7) hx hb hts (by decide +kernel) hown hK.1 hP 0 rfl rfl 0 (by decide) (hts (.fieldLink RX9 12 "CardHolder$Town" "bonds" "LCardHolder$Bonds;") (by decide +kernel)) (fun _ h9 => h9) rfl dX9_pairsAbove_8 ?_
      refine va_get (D := G) (ci := 0) (v := .int n1_1) (C := RX0) (T := TX0) (N := 2) hx hb hts (by decide +kernel) hown hK.1 hP 1 rfl rfl 1 (by decide) (hts (.fieldLink RX9 31 "CardHolder$Bonds" "persons" "I") (by decide +kernel)) (fun _ h9 => h9) rfl dX9_pairsAbove_11 ?_
      refine lv_icmp_ge (tgt := 94) hx hb dX9_pairsAbove_14 (by decide) (fun c14 => ?_) (fun c14 => ?_)
      · refine lv_iload_n hx hb dX9_pairsAbove_94 rfl (lv_at hl 3 rfl) ?_
        exact W.iret (v := x5_3) hx hb hr (fun t ht hW => ⟨⟨x5_3, (), rfl, trivial, trivial⟩, hS.F ht⟩) hS.2.2 dX9_pairsAbove_95
      · have h_1 : rg 0 7 x5_4 := r_lt_l_i (nle_i c14) hx5_4 hp_n1_1 (by decide)
        have h_2 : rg 1 8 n1_1 := r_lt_r_i (nle_i c14) hx5_4 hp_n1_1 (by decide)
        refine lv_iconst (v := 0) hx hb dX9_pairsAbove_17 (by decide) ?_
        refine lv_istore (lv' := [(5, .int 0), (0, .ref a0), (1, .int p0), (2, .int p1), (3, .int x5_3), (4, .int x5_4)]) hx hb dX9_pairsAbove_18 hl (by decide) rfl (fun ls hl => ?_)
        have j20 : ∀ (n : Nat) (x20_3 : Int32) (x20_5 : Int32) (H : Heap) (locs : List Loc) (ls : Array Slot), 2147483648 ≤ x20_5.toInt + (n : Int) → rg 0 8 x20_5 → va_P G vwCl [(a0, .inr (9, [.ref a1, .ref a3, .ref a4, .ref a5, .ref a6, .int n0_5, .int n0_6])), (a1, .inr (0, [.ref a2, .int n1_1])), (a3, .inl (ct 0, 8, .inl f3))] H → va_S no s.heap H locs → lv_has ls 7 [(0, .ref a0), (1, .int p0), (2, .int p1), (3, .int x20_3), (4, .int x5_4), (5, .int x20_5)] → W p l e (headSpec wsX9_pairsAbove ({ frames := 2, cells := 0, slots := 0, locals := 42 })).room s m ([.ref a0, .int p0, .int p1] : List Value).toArray below meth c H locs 0 0 (MQ below (roQ (fun r => True)) ([.ref a0, .int p0, .int p1] : List Value).toArray s 0 0 no) (F0 m 20 ls []) := by
          intro n
          induction n with
          | zero => intro x20_3 x20_5 H locs ls hn20 hx20_5 hP hS hl; exact absurd hn20 (by have := Int32.toInt_lt x20_5; have := Int32.le_toInt x20_5; omega)
          | succ n ih20 =>
            intro x20_3 x20_5 H locs ls hn20 hx20_5 hP hS hl
            refine lv_iload hx hb dX9_pairsAbove_20 (lv_at hl 5 rfl) ?_
            refine lv_aload_n hx hb dX9_pairsAbove_22 rfl (lv_at hl 0 rfl) ?_
            refine va_get (D := G) (ci := 9) (v := .ref a1) (C := RX9) (T := TX9) (N := 7) hx hb hts (by decide +kernel) hown hK.1 hP 0 rfl rfl 0 (by decide) (hts (.fieldLink RX9 12 "CardHolder$Town" "bonds" "LCardHolder$Bonds;") (by decide +kernel)) (fun _ h9 => h9) rfl dX9_pairsAbove_23 ?_
            refine va_get (D := G) (ci := 0) (v := .int n1_1) (C := RX0) (T := TX0) (N := 2) hx hb hts (by decide +kernel) hown hK.1 hP 1 rfl rfl 1 (by decide) (hts (.fieldLink RX9 31 "CardHolder$Bonds" "persons" "I") (by decide +kernel)) (fun _ h9 => h9) rfl dX9_pairsAbove_26 ?_
            refine lv_icmp_ge (tgt := 88) hx hb dX9_pairsAbove_29 (by decide) (fun c29 => ?_) (fun c29 => ?_)
            · have h_3 : rg 1 8 x20_5 := r_le_r_i c29 h_2 hx20_5
              obtain ⟨z88, qz88⟩ : ∃ y : Int32, y = x5_4 + Int32.ofInt 1 := ⟨_, rfl⟩
              obtain ⟨hz88, ez88⟩ := inc_z (e := 1) (f := 8) h_1 qz88 (by decide)
              refine lv_iinc (v := z88) (lv' := [(4, .int z88), (0, .ref a0), (1, .int p0), (2, .int p1), (3, .int x20_3), (5, .int x20_5)]) hx hb dX9_pairsAbove_88 hl (k := 4) rfl (qz88.symm) (by decide) rfl (fun ls hl => ?_)
              refine lv_goto (tgt := 5) hx hb dX9_pairsAbove_91 (by decide) ?_
              exact ih5 x20_3 z88 _ _ ls (by have q := hn5; have := ez88; omega) (rg_w (c := 0) (d := 8) hz88 (by decide)) hP hS (lv_sub hl [1, 2, 3, 4, 0] rfl)
            · have h_4 : rg 0 7 x20_5 := r_lt_l_i (nle_i c29) hx20_5 h_2 (by decide)
              refine lv_iload_n hx hb dX9_pairsAbove_32 rfl (lv_at hl 1 rfl) ?_
              refine lv_iload hx hb dX9_pairsAbove_33 (lv_at hl 4 rfl) ?_
              refine ro_calli (va_runSN (As := [.int p0, .int x5_4]) (rest := []) ⟨hx, hb, hml, hown, hts⟩ (a_X10_bitOf l G ct p0 x5_4) ⟨va_cnB 2 hts gX9_pairsAbove_X10_bitOf_n63 rfl rfl rfl (hK.2.1 (RX9, 63, yX10_bitOf, "CardHolder") (by decide +kernel)) (hts (.initialized RX10) (by decide +kernel)) (by decide +kernel) ⟨Nat.le_of_ble_eq_true rfl, Nat.le_of_ble_eq_true rfl⟩, hts (.static yX10_bitOf) (by decide +kernel), trivial⟩ (ro_pre hK (hP.sub [] rfl)) rfl rfl hl.1 rfl (lv_room (Nat.le_of_ble_eq_true rfl)) dX9_pairsAbove_35 ⟨Nat.zero_le _, Nat.zero_le _⟩) hS hP (fun r35 H locs wr35 hP hS => ?_)
              obtain ⟨p_5, -⟩ := wr35
              refine lv_iconst (v := 1) hx hb dX9_pairsAbove_38 (by decide) ?_
              have j57 : ∀ (y57_0 : Int32) (H : Heap) (locs : List Loc) (ls : Array Slot), rg 0 1 y57_0 → va_P G vwCl [(a0, .inr (9, [.ref a1, .ref a3, .ref a4, .ref a5, .ref a6, .int n0_5, .int n0_6])), (a1, .inr (0, [.ref a2, .int n1_1])), (a3, .inl (ct 0, 8, .inl f3))] H → va_S no s.heap H locs → lv_has ls 7 [(0, .ref a0), (1, .int p0), (2, .int p1), (3, .int x20_3), (4, .int x5_4), (5, .int x20_5)] → W p l e (headSpec wsX9_pairsAbove ({ frames := 2, cells := 0, slots := 0, locals := 42 })).room s m ([.ref a0, .int p0, .int p1] : List Value).toArray below meth c H locs 0 0 (MQ below (roQ (fun r => True)) ([.ref a0, .int p0, .int p1] : List Value).toArray s 0 0 no) (F0 m 57 ls [.int y57_0]) := by
                intro y57_0 H locs ls hy57_0 hP hS hl
                refine lv_istore (lv' := [(6, .int y57_0), (0, .ref a0), (1, .int p0), (2, .int p1), (3, .int x20_3), (4, .int x5_4), (5, .int x20_5)]) hx hb dX9_pairsAbove_57 hl (by decide) rfl (fun ls hl => ?_)
                refine lv_iload hx hb dX9_pairsAbove_59 (lv_at hl 0 rfl) ?_
                have j82 : ∀ (x82_3 : Int32) (H : Heap) (locs : List Loc) (ls : Array Slot), va_P G vwCl [(a0, .inr (9, [.ref a1, .ref a3, .ref a4, .ref a5, .ref a6, .int n0_5, .int n0_6])), (a1, .inr (0, [.ref a2, .int n1_1])), (a3, .inl (ct 0, 8, .inl f3))] H → va_S no s.heap H locs → lv_has ls 7 [(0, .ref a0), (1, .int p0), (2, .int p1), (3, .int x82_3), (4, .int x5_4), (5, .int x20_5), (6, .int y57_0)] → W p l e (headSpec wsX9_pairsAbove ({ frames := 2, cells := 0, slots := 0, locals := 42 })).room s m ([.ref a0, .int p0, .int p1] : List Value).toArray below meth c H locs 0 0 (MQ below (roQ (fun r => True)) ([.ref a0, .int p0, .int p1] : List Value).toArray s 0 0 no) (F0 m 82 ls []) := by
                  intro x82_3 H locs ls  hP hS hl
                  obtain ⟨z82, qz82⟩ : ∃ y : Int32, y = x20_5 + Int32.ofInt 1 := ⟨_, rfl⟩
                  obtain ⟨hz82, ez82⟩ := inc_z (e := 1) (f := 8) h_4 qz82 (by decide)
                  refine lv_iinc (v := z82) (lv' := [(5, .int z82), (0, .ref a0), (1, .int p0), (2, .int p1), (3, .int x82_3), (4, .int x5_4), (6, .int y57_0)]) hx hb dX9_pairsAbove_82 hl (k := 5) rfl (qz82.symm) (by decide) rfl (fun ls hl => ?_)
                  refine lv_goto (tgt := 20) hx hb dX9_pairsAbove_85 (by decide) ?_
                  exact ih20 x82_3 z82 _ _ ls (by have q := hn20; have := ez82; omega) (rg_w (c := 0) (d := 8) hz82 (by decide)) hP hS (lv_sub hl [1, 2, 3, 4, 5, 0] rfl)
                refine lv_if_eq (tgt := 82) hx hb dX9_pairsAbove_61 (by decide) (fun c61 => ?_) (fun c61 => ?_)
                · have h_6 : rg 0 0 y57_0 := r_eq_l_i (e := 0) (f := 0) c61 hy57_0 (rgn 0 (x := 0) (by decide)) (by decide)
                  exact j82 x20_3 _ _ ls hP hS (lv_sub hl [1, 2, 3, 4, 5, 6, 0] rfl)
                · have h_7 : rg 1 1 y57_0 := r_ne_lo_i c61 hy57_0 (by decide) (by decide)
                  refine lv_aload_n hx hb dX9_pairsAbove_64 rfl (lv_at hl 1 rfl) ?_
                  refine lv_iload hx hb dX9_pairsAbove_65 (lv_at hl 5 rfl) ?_
                  refine ro_calli (va_runV (As := [.int x5_4]) (rest := []) ⟨hx, hb, hml, hown, hts⟩ (a_X9_worthOf l G ct a0 a1 a3 a4 a5 a6 n0_5 n0_6 a2 n1_1 f3 x5_4 (rg_w (c := 0) (d := 8) h_2 (by decide))) (cwV 1 hts gX9_pairsAbove_X9_worthOf rfl rfl rfl (by decide +kernel) ⟨Nat.le_of_ble_eq_true rfl, Nat.le_of_ble_eq_true rfl⟩) (ro_preV 9 0 hK (hP.sub [0, 1, 2] rfl) rfl rfl) rfl rfl hl.1 rfl (lv_room (Nat.le_of_ble_eq_true rfl)) dX9_pairsAbove_67 ⟨Nat.zero_le _, Nat.zero_le _⟩) hS hP (fun r67 H locs wr67 hP hS => ?_)
                  obtain ⟨p_8, p_9, p_10, p_11, -⟩ := wr67
                  refine lv_aload_n hx hb dX9_pairsAbove_70 rfl (lv_at hl 1 rfl) ?_
                  refine lv_iload hx hb dX9_pairsAbove_71 (lv_at hl 6 rfl) ?_
                  refine ro_calli (va_runV (As := [.int x20_5]) (rest := [.int r67]) ⟨hx, hb, hml, hown, hts⟩ (a_X9_worthOf l G ct a0 a1 a3 a4 a5 a6 n0_5 n0_6 a2 n1_1 f3 x20_5 (rg_w (c := 0) (d := 8) h_2 (by decide))) (cwV 1 hts gX9_pairsAbove_X9_worthOf rfl rfl rfl (by decide +kernel) ⟨Nat.le_of_ble_eq_true rfl, Nat.le_of_ble_eq_true rfl⟩) (ro_preV 9 0 hK (hP.sub [0, 1, 2] rfl) rfl rfl) rfl rfl hl.1 rfl (lv_room (Nat.le_of_ble_eq_true rfl)) dX9_pairsAbove_73 ⟨Nat.zero_le _, Nat.zero_le _⟩) hS hP (fun r73 H locs wr73 hP hS => ?_)
                  obtain ⟨p_12, p_13, p_14, p_15, -⟩ := wr73
                  refine lv_icmp_le (tgt := 82) hx hb dX9_pairsAbove_76 (by decide) (fun c76 => ?_) (fun c76 => ?_)
                  · exact j82 x20_3 _ _ ls hP hS (lv_sub hl [1, 2, 3, 4, 5, 6, 0] rfl)
                  · have h_16 : rg (-2147483648) 2147483646 r73 := r_lt_l_i (nle_i c76) (rg_t r73) (rg_t r67) (by decide)
                    have h_17 : rg (-2147483647) 2147483647 r67 := r_lt_r_i (nle_i c76) (rg_t r73) (rg_t r67) (by decide)
                    obtain ⟨z79, qz79⟩ : ∃ y : Int32, y = x20_3 + Int32.ofInt 1 := ⟨_, rfl⟩
                    refine lv_iinc (v := z79) (lv' := [(3, .int z79), (6, .int y57_0), (0, .ref a0), (1, .int p0), (2, .int p1), (4, .int x5_4), (5, .int x20_5)]) hx hb dX9_pairsAbove_79 hl (k := 4) rfl (qz79.symm) (by decide) rfl (fun ls hl => ?_)
                    exact j82 z79 _ _ ls hP hS (lv_sub hl [2, 3, 4, 0, 5, 6, 1] rfl)
              have j56 : ∀ (H : Heap) (locs : List Loc) (ls : Array Slot), va_P G vwCl [(a0, .inr (9, [.ref a1, .ref a3, .ref a4, .ref a5, .ref a6, .int n0_5, .int n0_6])), (a1, .inr (0, [.ref a2, .int n1_1])), (a3, .inl (ct 0, 8, .inl f3))] H → va_S no s.heap H locs → lv_has ls 7 [(0, .ref a0), (1, .int p0), (2, .int p1), (3, .int x20_3), (4, .int x5_4), (5, .int x20_5)] → W p l e (headSpec wsX9_pairsAbove ({ frames := 2, cells := 0, slots := 0, locals := 42 })).room s m ([.ref a0, .int p0, .int p1] : List Value).toArray below meth c H locs 0 0 (MQ below (roQ (fun r => True)) ([.ref a0, .int p0, .int p1] : List Value).toArray s 0 0 no) (F0 m 56 ls []) := by
                intro  H locs ls  hP hS hl
                refine lv_iconst (v := 0) hx hb dX9_pairsAbove_56 (by decide) ?_
                exact j57 (0 : Int32) _ _ ls (rg_w (c := 0) (d := 1) (rgn 0 (x := 0) (by decide)) (by decide)) hP hS (lv_sub hl [0, 1, 2, 3, 4, 5] rfl)
              refine lv_icmp_ne (tgt := 56) hx hb dX9_pairsAbove_39 (by decide) (fun c39 => ?_) (fun c39 => ?_)
              · have h_18 : rg 0 0 r35 := r_ne_hi_i c39 p_5 (by decide) (by decide)
                exact j56 _ _ ls hP hS (lv_sub hl [0, 1, 2, 3, 4, 5] rfl)
              · have h_19 : rg 1 1 r35 := r_eq_l_i (e := 1) (f := 1) c39 p_5 (rgn 1 (x := 1) (by decide)) (by decide)
                refine lv_iload_n hx hb dX9_pairsAbove_42 rfl (lv_at hl 2 rfl) ?_
                refine lv_iload hx hb dX9_pairsAbove_43 (lv_at hl 5 rfl) ?_
                refine ro_calli (va_runSN (As := [.int p1, .int x20_5]) (rest := []) ⟨hx, hb, hml, hown, hts⟩ (a_X10_bitOf l G ct p1 x20_5) ⟨va_cnB 2 hts gX9_pairsAbove_X10_bitOf_n63 rfl rfl rfl (hK.2.1 (RX9, 63, yX10_bitOf, "CardHolder") (by decide +kernel)) (hts (.initialized RX10) (by decide +kernel)) (by decide +kernel) ⟨Nat.le_of_ble_eq_true rfl, Nat.le_of_ble_eq_true rfl⟩, hts (.static yX10_bitOf) (by decide +kernel), trivial⟩ (ro_pre hK (hP.sub [] rfl)) rfl rfl hl.1 rfl (lv_room (Nat.le_of_ble_eq_true rfl)) dX9_pairsAbove_45 ⟨Nat.zero_le _, Nat.zero_le _⟩) hS hP (fun r45 H locs wr45 hP hS => ?_)
                obtain ⟨p_20, -⟩ := wr45
                refine lv_iconst (v := 1) hx hb dX9_pairsAbove_48 (by decide) ?_
                refine lv_icmp_ne (tgt := 56) hx hb dX9_pairsAbove_49 (by decide) (fun c49 => ?_) (fun c49 => ?_)
                · have h_21 : rg 0 0 r45 := r_ne_hi_i c49 p_20 (by decide) (by decide)
                  exact j56 _ _ ls hP hS (lv_sub hl [0, 1, 2, 3, 4, 5] rfl)
                · have h_22 : rg 1 1 r45 := r_eq_l_i (e := 1) (f := 1) c49 p_20 (rgn 1 (x := 1) (by decide)) (by decide)
                  refine lv_iconst (v := 1) hx hb dX9_pairsAbove_52 (by decide) ?_
                  refine lv_goto (tgt := 57) hx hb dX9_pairsAbove_53 (by decide) ?_
                  exact j57 (1 : Int32) _ _ ls (rg_w (c := 0) (d := 1) (rgn 1 (x := 1) (by decide)) (by decide)) hP hS (lv_sub hl [0, 1, 2, 3, 4, 5] rfl)
        exact j20 4294967296 x5_3 (0 : Int32) _ _ ls (ms_e (0 : Int32)) (rg_w (c := 0) (d := 8) (rgn 0 (x := 0) (by decide)) (by decide)) hP hS (lv_sub hl [1, 2, 3, 4, 5, 0] rfl)
  exact j5 4294967296 (0 : Int32) (0 : Int32) _ _ ls (ms_e (0 : Int32)) (rg_w (c := 0) (d := 8) (rgn 0 (x := 0) (by decide)) (by decide)) hP hS (lv_sub hl [2, 3, 4, 1, 0] rfl)

set_option maxHeartbeats 4000000 in
set_option maxRecDepth 100000 in
theorem a_X9_wonBy (l : Launch) (G : va_G) (ct : Nat → ClassId) (a0 : Nat) (a1 : Nat) (a3 : Nat) (a4 : Nat) (a5 : Nat) (a6 : Nat) (n0_5 : Int32) (n0_6 : Int32) (a2 : Nat) (n1_1 : Int32) (f3 : Nat → Int32) (p0 : Int32) (p1 : Int32) (hp_n1_1 : rg 0 8 n1_1) : Met l yX9_wonBy wsX9_wonBy ({ frames := 2, cells := 0, slots := 0, locals := 42 }) (va_Pc [.ref a0, .int p0, .int p1] (roP G ct [(a0, .inr (9, [.ref a1, .ref a3, .ref a4, .ref a5, .ref a6, .int n0_5, .int n0_6])), (a1, .inr (0, [.ref a2, .int n1_1])), (a3, .inl (ct 0, 8, .inl f3))])) (roQ (fun r => True)) 0 0 no := by
  refine Met.ofW (cc := cX9_wonBy) (maxL := 3) (ret := (some .int)) (by decide) rfl ?_
  intro p e s m args below meth c s₁ B hml hv
  obtain ⟨rfl, hP, hK⟩ := hv
  have hx := B.exec
  have hb := B.bytes
  have hr := B.returns
  have hts := atoms_spec (ws := wsX9_wonBy) B.pre
  have hown : s.vm.findClass RX9 = some m.cls := findClass_of_methodNamed B.named
  have hlocks := B.notSynchronized
  have hS : va_S no s.heap s.heap [] := va_S.rf
  have hl := lv_entry ([.ref a0, .int p0, .int p1]) (n := 3) (Nat.le_of_ble_eq_true rfl)
  rw [lg_entry_eq]
  generalize (lg_sl ([.ref a0, .int p0, .int p1]) ++ List.replicate (3 - (lg_sl ([.ref a0, .int p0, .int p1])).length) Slot.unset).toArray = ls at hl ⊢
  have hl : lv_has ls 3 [(0, .ref a0), (1, .int p0), (2, .int p1)] := hl
  refine lv_aload_n hx hb dX9_wonBy_0 rfl (lv_at hl 0 rfl) ?_
  refine lv_iload_n hx hb dX9_wonBy_1 rfl (lv_at hl 1 rfl) ?_
  refine ro_calli (va_runV (As := [.int p0]) (rest := []) ⟨hx, hb, hml, hown, hts⟩ (a_X9_worthOf l G ct a0 a1 a3 a4 a5 a6 n0_5 n0_6 a2 n1_1 f3 p0 hp_n1_1) (cwV 1 hts gX9_wonBy_X9_worthOf rfl rfl rfl (by decide +kernel) ⟨Nat.le_of_ble_eq_true rfl, Nat.le_of_ble_eq_true rfl⟩) (ro_preV 9 0 hK (hP.sub [0, 1, 2] rfl) rfl rfl) rfl rfl hl.1 rfl (lv_room (Nat.le_of_ble_eq_true rfl)) dX9_wonBy_2 ⟨Nat.zero_le _, Nat.zero_le _⟩) hS hP (fun r2 H locs wr2 hP hS => ?_)
  obtain ⟨p_1, p_2, p_3, p_4, -⟩ := wr2
  refine lv_aload_n hx hb dX9_wonBy_5 rfl (lv_at hl 0 rfl) ?_
  refine lv_iload_n hx hb dX9_wonBy_6 rfl (lv_at hl 2 rfl) ?_
  refine ro_calli (va_runV (As := [.int p1]) (rest := [.int r2]) ⟨hx, hb, hml, hown, hts⟩ (a_X9_worthOf l G ct a0 a1 a3 a4 a5 a6 n0_5 n0_6 a2 n1_1 f3 p1 hp_n1_1) (cwV 1 hts gX9_wonBy_X9_worthOf rfl rfl rfl (by decide +kernel) ⟨Nat.le_of_ble_eq_true rfl, Nat.le_of_ble_eq_true rfl⟩) (ro_preV 9 0 hK (hP.sub [0, 1, 2] rfl) rfl rfl) rfl rfl hl.1 rfl (lv_room (Nat.le_of_ble_eq_true rfl)) dX9_wonBy_7 ⟨Nat.zero_le _, Nat.zero_le _⟩) hS hP (fun r7 H locs wr7 hP hS => ?_)
  obtain ⟨p_5, p_6, p_7, p_8, -⟩ := wr7
  refine lv_icmp_ne (tgt := 15) hx hb dX9_wonBy_10 (by decide) (fun c10 => ?_) (fun c10 => ?_)
  · refine lv_aload_n hx hb dX9_wonBy_15 rfl (lv_at hl 0 rfl) ?_
    refine lv_iload_n hx hb dX9_wonBy_16 rfl (lv_at hl 1 rfl) ?_
    refine ro_calli (va_runV (As := [.int p0]) (rest := []) ⟨hx, hb, hml, hown, hts⟩ (a_X9_worthOf l G ct a0 a1 a3 a4 a5 a6 n0_5 n0_6 a2 n1_1 f3 p0 hp_n1_1) (cwV 1 hts gX9_wonBy_X9_worthOf rfl rfl rfl (by decide +kernel) ⟨Nat.le_of_ble_eq_true rfl, Nat.le_of_ble_eq_true rfl⟩) (ro_preV 9 0 hK (hP.sub [0, 1, 2] rfl) rfl rfl) rfl rfl hl.1 rfl (lv_room (Nat.le_of_ble_eq_true rfl)) dX9_wonBy_17 ⟨Nat.zero_le _, Nat.zero_le _⟩) hS hP (fun r17 H locs wr17 hP hS => ?_)
    obtain ⟨p_9, p_10, p_11, p_12, -⟩ := wr17
    refine lv_aload_n hx hb dX9_wonBy_20 rfl (lv_at hl 0 rfl) ?_
    refine lv_iload_n hx hb dX9_wonBy_21 rfl (lv_at hl 2 rfl) ?_
    refine ro_calli (va_runV (As := [.int p1]) (rest := [.int r17]) ⟨hx, hb, hml, hown, hts⟩ (a_X9_worthOf l G ct a0 a1 a3 a4 a5 a6 n0_5 n0_6 a2 n1_1 f3 p1 hp_n1_1) (cwV 1 hts gX9_wonBy_X9_worthOf rfl rfl rfl (by decide +kernel) ⟨Nat.le_of_ble_eq_true rfl, Nat.le_of_ble_eq_true rfl⟩) (ro_preV 9 0 hK (hP.sub [0, 1, 2] rfl) rfl rfl) rfl rfl hl.1 rfl (lv_room (Nat.le_of_ble_eq_true rfl)) dX9_wonBy_22 ⟨Nat.zero_le _, Nat.zero_le _⟩) hS hP (fun r22 H locs wr22 hP hS => ?_)
    obtain ⟨p_13, p_14, p_15, p_16, -⟩ := wr22
    refine lv_icmp_le (tgt := 36) hx hb dX9_wonBy_25 (by decide) (fun c25 => ?_) (fun c25 => ?_)
    · refine lv_aload_n hx hb dX9_wonBy_36 rfl (lv_at hl 0 rfl) ?_
      refine lv_iload_n hx hb dX9_wonBy_37 rfl (lv_at hl 1 rfl) ?_
      refine ro_calli (va_runV (As := [.int p0]) (rest := []) ⟨hx, hb, hml, hown, hts⟩ (a_X9_worthOf l G ct a0 a1 a3 a4 a5 a6 n0_5 n0_6 a2 n1_1 f3 p0 hp_n1_1) (cwV 1 hts gX9_wonBy_X9_worthOf rfl rfl rfl (by decide +kernel) ⟨Nat.le_of_ble_eq_true rfl, Nat.le_of_ble_eq_true rfl⟩) (ro_preV 9 0 hK (hP.sub [0, 1, 2] rfl) rfl rfl) rfl rfl hl.1 rfl (lv_room (Nat.le_of_ble_eq_true rfl)) dX9_wonBy_38 ⟨Nat.zero_le _, Nat.zero_le _⟩) hS hP (fun r38 H locs wr38 hP hS => ?_)
      obtain ⟨p_17, p_18, p_19, p_20, -⟩ := wr38
      refine lv_ineg hx hb dX9_wonBy_41 ?_
      refine nm_0 (fun z41 => ?_)
      exact W.iret (v := z41) hx hb hr (fun t ht hW => ⟨⟨z41, (), rfl, trivial, trivial⟩, hS.F ht⟩) hS.2.2 dX9_wonBy_42
    · have h_21 : rg (-2147483648) 2147483646 r22 := r_lt_l_i (nle_i c25) (rg_t r22) (rg_t r17) (by decide)
      have h_22 : rg (-2147483647) 2147483647 r17 := r_lt_r_i (nle_i c25) (rg_t r22) (rg_t r17) (by decide)
      refine lv_aload_n hx hb dX9_wonBy_28 rfl (lv_at hl 0 rfl) ?_
      refine lv_iload_n hx hb dX9_wonBy_29 rfl (lv_at hl 2 rfl) ?_
      refine ro_calli (va_runV (As := [.int p1]) (rest := []) ⟨hx, hb, hml, hown, hts⟩ (a_X9_worthOf l G ct a0 a1 a3 a4 a5 a6 n0_5 n0_6 a2 n1_1 f3 p1 hp_n1_1) (cwV 1 hts gX9_wonBy_X9_worthOf rfl rfl rfl (by decide +kernel) ⟨Nat.le_of_ble_eq_true rfl, Nat.le_of_ble_eq_true rfl⟩) (ro_preV 9 0 hK (hP.sub [0, 1, 2] rfl) rfl rfl) rfl rfl hl.1 rfl (lv_room (Nat.le_of_ble_eq_true rfl)) dX9_wonBy_30 ⟨Nat.zero_le _, Nat.zero_le _⟩) hS hP (fun r30 H locs wr30 hP hS => ?_)
      obtain ⟨p_23, p_24, p_25, p_26, -⟩ := wr30
      refine lv_goto (tgt := 42) hx hb dX9_wonBy_33 (by decide) ?_
      exact W.iret (v := r30) hx hb hr (fun t ht hW => ⟨⟨r30, (), rfl, trivial, trivial⟩, hS.F ht⟩) hS.2.2 dX9_wonBy_42
  · refine lv_iconst (v := 0) hx hb dX9_wonBy_13 (by decide) ?_
    exact W.iret (v := 0) hx hb hr (fun t ht hW => ⟨⟨0, (), rfl, trivial, trivial⟩, hS.F ht⟩) hS.2.2 dX9_wonBy_14

set_option maxHeartbeats 4000000 in
set_option maxRecDepth 100000 in
theorem a_X9_sureOf (l : Launch) (G : va_G) (ct : Nat → ClassId) (a0 : Nat) (a1 : Nat) (a3 : Nat) (a4 : Nat) (a5 : Nat) (a6 : Nat) (n0_5 : Int32) (n0_6 : Int32) (a2 : Nat) (n1_1 : Int32) (f3 : Nat → Int32) (p0 : Int32) (p1 : Int32) (hp_n1_1 : rg 0 8 n1_1) : Met l yX9_sureOf wsX9_sureOf ({ frames := 3, cells := 0, slots := 0, locals := 64 }) (va_Pc [.ref a0, .int p0, .int p1] (roP G ct [(a0, .inr (9, [.ref a1, .ref a3, .ref a4, .ref a5, .ref a6, .int n0_5, .int n0_6])), (a1, .inr (0, [.ref a2, .int n1_1])), (a3, .inl (ct 0, 8, .inl f3))])) (roQ (fun r => rg (-2147483648) 999 r ∧ True)) 0 0 no := by
  refine Met.ofW (cc := cX9_sureOf) (maxL := 5) (ret := (some .int)) (by decide) rfl ?_
  intro p e s m args below meth c s₁ B hml hv
  obtain ⟨rfl, hP, hK⟩ := hv
  have hx := B.exec
  have hb := B.bytes
  have hr := B.returns
  have hts := atoms_spec (ws := wsX9_sureOf) B.pre
  have hown : s.vm.findClass RX9 = some m.cls := findClass_of_methodNamed B.named
  have hlocks := B.notSynchronized
  have hS : va_S no s.heap s.heap [] := va_S.rf
  have hl := lv_entry ([.ref a0, .int p0, .int p1]) (n := 5) (Nat.le_of_ble_eq_true rfl)
  rw [lg_entry_eq]
  generalize (lg_sl ([.ref a0, .int p0, .int p1]) ++ List.replicate (5 - (lg_sl ([.ref a0, .int p0, .int p1])).length) Slot.unset).toArray = ls at hl ⊢
  have hl : lv_has ls 5 [(0, .ref a0), (1, .int p0), (2, .int p1)] := hl
  refine lv_sipush (v := 999) hx hb dX9_sureOf_0 (by decide) ?_
  refine lv_istore_n (lv' := [(3, .int 999), (0, .ref a0), (1, .int p0), (2, .int p1)]) hx hb dX9_sureOf_3 rfl hl (by decide) rfl (fun ls hl => ?_)
  refine lv_iconst (v := 0) hx hb dX9_sureOf_4 (by decide) ?_
  refine lv_istore (lv' := [(4, .int 0), (3, .int 999), (0, .ref a0), (1, .int p0), (2, .int p1)]) hx hb dX9_sureOf_5 hl (by decide) rfl (fun ls hl => ?_)
  have j7 : ∀ (n : Nat) (x7_3 : Int32) (x7_4 : Int32) (H : Heap) (locs : List Loc) (ls : Array Slot), 2147483648 ≤ x7_4.toInt + (n : Int) → rg (-2147483648) 999 x7_3 → rg 0 8 x7_4 → va_P G vwCl [(a0, .inr (9, [.ref a1, .ref a3, .ref a4, .ref a5, .ref a6, .int n0_5, .int n0_6])), (a1, .inr (0, [.ref a2, .int n1_1])), (a3, .inl (ct 0, 8, .inl f3))] H → va_S no s.heap H locs → lv_has ls 5 [(0, .ref a0), (1, .int p0), (2, .int p1), (3, .int x7_3), (4, .int x7_4)] → W p l e (headSpec wsX9_sureOf ({ frames := 3, cells := 0, slots := 0, locals := 64 })).room s m ([.ref a0, .int p0, .int p1] : List Value).toArray below meth c H locs 0 0 (MQ below (roQ (fun r => rg (-2147483648) 999 r ∧ True)) ([.ref a0, .int p0, .int p1] : List Value).toArray s 0 0 no) (F0 m 7 ls []) := by
    intro n
    induction n with
    | zero => intro x7_3 x7_4 H locs ls hn7 hx7_3 hx7_4 hP hS hl; exact absurd hn7 (by have := Int32.toInt_lt x7_4; have := Int32.le_toInt x7_4; omega)
    | succ n ih7 =>
      intro x7_3 x7_4 H locs ls hn7 hx7_3 hx7_4 hP hS hl
      refine lv_iload hx hb dX9_sureOf_7 (lv_at hl 4 rfl) ?_
      refine lv_aload_n hx hb dX9_sureOf_9 rfl (lv_at hl 0 rfl) ?_
      refine va_get (D := G) (ci := 9) (v := .ref a1) (C := RX9) (T := TX9) (N := 7) hx hb hts (by decide +kernel) hown hK.1 hP 0 rfl rfl 0 (by decide) (hts (.fieldLink RX9 12 "CardHolder$Town" "bonds" "LCardHolder$Bonds;") (by decide +kernel)) (fun _ h9 => h9) rfl dX9_sureOf_10 ?_
      refine va_get (D := G) (ci := 0) (v := .int n1_1) (C := RX0) (T := TX0) (N := 2) hx hb hts (by decide +kernel) hown hK.1 hP 1 rfl rfl 1 (by decide) (hts (.fieldLink RX9 31 "CardHolder$Bonds" "persons" "I") (by decide +kernel)) (fun _ h9 => h9) rfl dX9_sureOf_13 ?_
      refine lv_icmp_ge (tgt := 47) hx hb dX9_sureOf_16 (by decide) (fun c16 => ?_) (fun c16 => ?_)
      · refine lv_iload_n hx hb dX9_sureOf_47 rfl (lv_at hl 3 rfl) ?_
        exact W.iret (v := x7_3) hx hb hr (fun t ht hW => ⟨⟨x7_3, (), rfl, ⟨hx7_3, trivial⟩, trivial⟩, hS.F ht⟩) hS.2.2 dX9_sureOf_48
      · have h_1 : rg 0 7 x7_4 := r_lt_l_i (nle_i c16) hx7_4 hp_n1_1 (by decide)
        have h_2 : rg 1 8 n1_1 := r_lt_r_i (nle_i c16) hx7_4 hp_n1_1 (by decide)
        refine lv_iload_n hx hb dX9_sureOf_19 rfl (lv_at hl 2 rfl) ?_
        refine lv_iload hx hb dX9_sureOf_20 (lv_at hl 4 rfl) ?_
        refine ro_calli (va_runSN (As := [.int p1, .int x7_4]) (rest := []) ⟨hx, hb, hml, hown, hts⟩ (a_X10_bitOf l G ct p1 x7_4) ⟨va_cnB 2 hts gX9_sureOf_X10_bitOf_n63 rfl rfl rfl (hK.2.1 (RX9, 63, yX10_bitOf, "CardHolder") (by decide +kernel)) (hts (.initialized RX10) (by decide +kernel)) (by decide +kernel) ⟨Nat.le_of_ble_eq_true rfl, Nat.le_of_ble_eq_true rfl⟩, hts (.static yX10_bitOf) (by decide +kernel), trivial⟩ (ro_pre hK (hP.sub [] rfl)) rfl rfl hl.1 rfl (lv_room (Nat.le_of_ble_eq_true rfl)) dX9_sureOf_22 ⟨Nat.zero_le _, Nat.zero_le _⟩) hS hP (fun r22 H locs wr22 hP hS => ?_)
        obtain ⟨p_3, -⟩ := wr22
        refine lv_iconst (v := 1) hx hb dX9_sureOf_25 (by decide) ?_
        have j41 : ∀ (x41_3 : Int32) (H : Heap) (locs : List Loc) (ls : Array Slot), rg (-2147483648) 999 x41_3 → va_P G vwCl [(a0, .inr (9, [.ref a1, .ref a3, .ref a4, .ref a5, .ref a6, .int n0_5, .int n0_6])), (a1, .inr (0, [.ref a2, .int n1_1])), (a3, .inl (ct 0, 8, .inl f3))] H → va_S no s.heap H locs → lv_has ls 5 [(0, .ref a0), (1, .int p0), (2, .int p1), (3, .int x41_3), (4, .int x7_4)] → W p l e (headSpec wsX9_sureOf ({ frames := 3, cells := 0, slots := 0, locals := 64 })).room s m ([.ref a0, .int p0, .int p1] : List Value).toArray below meth c H locs 0 0 (MQ below (roQ (fun r => rg (-2147483648) 999 r ∧ True)) ([.ref a0, .int p0, .int p1] : List Value).toArray s 0 0 no) (F0 m 41 ls []) := by
          intro x41_3 H locs ls hx41_3 hP hS hl
          obtain ⟨z41, qz41⟩ : ∃ y : Int32, y = x7_4 + Int32.ofInt 1 := ⟨_, rfl⟩
          obtain ⟨hz41, ez41⟩ := inc_z (e := 1) (f := 8) h_1 qz41 (by decide)
          refine lv_iinc (v := z41) (lv' := [(4, .int z41), (0, .ref a0), (1, .int p0), (2, .int p1), (3, .int x41_3)]) hx hb dX9_sureOf_41 hl (k := 4) rfl (qz41.symm) (by decide) rfl (fun ls hl => ?_)
          refine lv_goto (tgt := 7) hx hb dX9_sureOf_44 (by decide) ?_
          exact ih7 x41_3 z41 _ _ ls (by have q := hn7; have := ez41; omega) hx41_3 (rg_w (c := 0) (d := 8) hz41 (by decide)) hP hS (lv_sub hl [1, 2, 3, 4, 0] rfl)
        refine lv_icmp_ne (tgt := 41) hx hb dX9_sureOf_26 (by decide) (fun c26 => ?_) (fun c26 => ?_)
        · have h_4 : rg 0 0 r22 := r_ne_hi_i c26 p_3 (by decide) (by decide)
          exact j41 x7_3 _ _ ls hx7_3 hP hS (lv_sub hl [0, 1, 2, 3, 4] rfl)
        · have h_5 : rg 1 1 r22 := r_eq_l_i (e := 1) (f := 1) c26 p_3 (rgn 1 (x := 1) (by decide)) (by decide)
          refine lv_iload_n hx hb dX9_sureOf_29 rfl (lv_at hl 3 rfl) ?_
          refine lv_aload_n hx hb dX9_sureOf_30 rfl (lv_at hl 0 rfl) ?_
          refine lv_iload_n hx hb dX9_sureOf_31 rfl (lv_at hl 1 rfl) ?_
          refine lv_iload hx hb dX9_sureOf_32 (lv_at hl 4 rfl) ?_
          refine ro_calli (va_runV (As := [.int p0, .int x7_4]) (rest := [.int x7_3]) ⟨hx, hb, hml, hown, hts⟩ (a_X9_wonBy l G ct a0 a1 a3 a4 a5 a6 n0_5 n0_6 a2 n1_1 f3 p0 x7_4 (rg_w (c := 0) (d := 8) h_2 (by decide))) (cwV 2 hts gX9_sureOf_X9_wonBy rfl rfl rfl (by decide +kernel) ⟨Nat.le_of_ble_eq_true rfl, Nat.le_of_ble_eq_true rfl⟩) (ro_preV 9 0 hK (hP.sub [0, 1, 2] rfl) rfl rfl) rfl rfl hl.1 rfl (lv_room (Nat.le_of_ble_eq_true rfl)) dX9_sureOf_34 ⟨Nat.zero_le _, Nat.zero_le _⟩) hS hP (fun r34 H locs wr34 hP hS => ?_)
          refine va_mmin hx hb (hml.trans hl.1.symm) hown (hts (.methodLink RX9 101 Lib.Math.min.name) (by decide +kernel)) (hts (.static Lib.Math.min.name) (by decide +kernel)) (hts (.initialized "java/lang/Math") (by decide +kernel)) (hts (.code Lib.Math.min.name Lib.Math.min.code 2 (some .int)) (List.mem_of_getElem? (i := 6) rfl)) (Nat.le_of_ble_eq_true rfl) (Nat.le_of_ble_eq_true rfl) (Nat.zero_le _) (Nat.zero_le _) dX9_sureOf_37 ?_
          refine nm_min (e1 := (-2147483648)) (f := 999) hx7_3 (rg_t r34) (by decide) (fun z37 hz37 => ?_)
          refine lv_istore_n (lv' := [(3, .int z37), (0, .ref a0), (1, .int p0), (2, .int p1), (4, .int x7_4)]) hx hb dX9_sureOf_40 rfl hl (by decide) rfl (fun ls hl => ?_)
          exact j41 z37 _ _ ls hz37 hP hS (lv_sub hl [1, 2, 3, 0, 4] rfl)
  exact j7 4294967296 (999 : Int32) (0 : Int32) _ _ ls (ms_e (0 : Int32)) (rg_w (c := (-2147483648)) (d := 999) (rgn 999 (x := 999) (by decide)) (by decide)) (rg_w (c := 0) (d := 8) (rgn 0 (x := 0) (by decide)) (by decide)) hP hS (lv_sub hl [2, 3, 4, 1, 0] rfl)

set_option maxHeartbeats 4000000 in
set_option maxRecDepth 100000 in
theorem a_X9_hardestAgainst (l : Launch) (G : va_G) (ct : Nat → ClassId) (a0 : Nat) (a1 : Nat) (a3 : Nat) (a4 : Nat) (a5 : Nat) (a6 : Nat) (n0_5 : Int32) (n0_6 : Int32) (a2 : Nat) (n1_1 : Int32) (f3 : Nat → Int32) (p0 : Int32) (p1 : Int32) (hp_n1_1 : rg 0 8 n1_1) : Met l yX9_hardestAgainst wsX9_hardestAgainst ({ frames := 4, cells := 0, slots := 0, locals := 88 }) (va_Pc [.ref a0, .int p0, .int p1] (roP G ct [(a0, .inr (9, [.ref a1, .ref a3, .ref a4, .ref a5, .ref a6, .int n0_5, .int n0_6])), (a1, .inr (0, [.ref a2, .int n1_1])), (a3, .inl (ct 0, 8, .inl f3))])) (roQ (fun r => rg (-1) 7 r ∧ (r = 0 → rg 1 8 n1_1) ∧ (¬ r = (-1) → rg 1 8 n1_1) ∧ True)) 0 0 no := by
  refine Met.ofW (cc := cX9_hardestAgainst) (maxL := 5) (ret := (some .int)) (by decide) rfl ?_
  intro p e s m args below meth c s₁ B hml hv
  obtain ⟨rfl, hP, hK⟩ := hv
  have hx := B.exec
  have hb := B.bytes
  have hr := B.returns
  have hts := atoms_spec (ws := wsX9_hardestAgainst) B.pre
  have hown : s.vm.findClass RX9 = some m.cls := findClass_of_methodNamed B.named
  have hlocks := B.notSynchronized
  have hS : va_S no s.heap s.heap [] := va_S.rf
  have hl := lv_entry ([.ref a0, .int p0, .int p1]) (n := 5) (Nat.le_of_ble_eq_true rfl)
  rw [lg_entry_eq]
  generalize (lg_sl ([.ref a0, .int p0, .int p1]) ++ List.replicate (5 - (lg_sl ([.ref a0, .int p0, .int p1])).length) Slot.unset).toArray = ls at hl ⊢
  have hl : lv_has ls 5 [(0, .ref a0), (1, .int p0), (2, .int p1)] := hl
  refine lv_aload_n hx hb dX9_hardestAgainst_0 rfl (lv_at hl 0 rfl) ?_
  refine lv_iload_n hx hb dX9_hardestAgainst_1 rfl (lv_at hl 1 rfl) ?_
  refine lv_iload_n hx hb dX9_hardestAgainst_2 rfl (lv_at hl 2 rfl) ?_
  refine ro_calli (va_runV (As := [.int p0, .int p1]) (rest := []) ⟨hx, hb, hml, hown, hts⟩ (a_X9_sureOf l G ct a0 a1 a3 a4 a5 a6 n0_5 n0_6 a2 n1_1 f3 p0 p1 hp_n1_1) (cwV 2 hts gX9_hardestAgainst_X9_sureOf rfl rfl rfl (by decide +kernel) ⟨Nat.le_of_ble_eq_true rfl, Nat.le_of_ble_eq_true rfl⟩) (ro_preV 9 0 hK (hP.sub [0, 1, 2] rfl) rfl rfl) rfl rfl hl.1 rfl (lv_room (Nat.le_of_ble_eq_true rfl)) dX9_hardestAgainst_3 ⟨Nat.zero_le _, Nat.zero_le _⟩) hS hP (fun r3 H locs wr3 hP hS => ?_)
  obtain ⟨p_1, -⟩ := wr3
  refine lv_istore_n (lv' := [(3, .int r3), (0, .ref a0), (1, .int p0), (2, .int p1)]) hx hb dX9_hardestAgainst_6 rfl hl (by decide) rfl (fun ls hl => ?_)
  refine lv_iconst (v := 0) hx hb dX9_hardestAgainst_7 (by decide) ?_
  refine lv_istore (lv' := [(4, .int 0), (3, .int r3), (0, .ref a0), (1, .int p0), (2, .int p1)]) hx hb dX9_hardestAgainst_8 hl (by decide) rfl (fun ls hl => ?_)
  have j10 : ∀ (n : Nat) (x10_4 : Int32) (H : Heap) (locs : List Loc) (ls : Array Slot), 2147483648 ≤ x10_4.toInt + (n : Int) → rg 0 8 x10_4 → va_P G vwCl [(a0, .inr (9, [.ref a1, .ref a3, .ref a4, .ref a5, .ref a6, .int n0_5, .int n0_6])), (a1, .inr (0, [.ref a2, .int n1_1])), (a3, .inl (ct 0, 8, .inl f3))] H → va_S no s.heap H locs → lv_has ls 5 [(0, .ref a0), (1, .int p0), (2, .int p1), (3, .int r3), (4, .int x10_4)] → W p l e (headSpec wsX9_hardestAgainst ({ frames := 4, cells := 0, slots := 0, locals := 88 })).room s m ([.ref a0, .int p0, .int p1] : List Value).toArray below meth c H locs 0 0 (MQ below (roQ (fun r => rg (-1) 7 r ∧ (r = 0 → rg 1 8 n1_1) ∧ (¬ r = (-1) → rg 1 8 n1_1) ∧ True)) ([.ref a0, .int p0, .int p1] : List Value).toArray s 0 0 no) (F0 m 10 ls []) := by
    intro n
    induction n with
    | zero => intro x10_4 H locs ls hn10 hx10_4 hP hS hl; exact absurd hn10 (by have := Int32.toInt_lt x10_4; have := Int32.le_toInt x10_4; omega)
    | succ n ih10 =>
      intro x10_4 H locs ls hn10 hx10_4 hP hS hl
      refine lv_iload hx hb dX9_hardestAgainst_10 (lv_at hl 4 rfl) ?_
      refine lv_aload_n hx hb dX9_hardestAgainst_12 rfl (lv_at hl 0 rfl) ?_
      refine va_get (D := G) (ci := 9) (v := .ref a1) (C := RX9) (T := TX9) (N := 7) hx hb hts (by decide +kernel) hown hK.1 hP 0 rfl rfl 0 (by decide) (hts (.fieldLink RX9 12 "CardHolder$Town" "bonds" "LCardHolder$Bonds;") (by decide +kernel)) (fun _ h9 => h9) rfl dX9_hardestAgainst_13 ?_
      refine va_get (D := G) (ci := 0) (v := .int n1_1) (C := RX0) (T := TX0) (N := 2) hx hb hts (by decide +kernel) hown hK.1 hP 1 rfl rfl 1 (by decide) (hts (.fieldLink RX9 31 "CardHolder$Bonds" "persons" "I") (by decide +kernel)) (fun _ h9 => h9) rfl dX9_hardestAgainst_16 ?_
      refine lv_icmp_ge (tgt := 52) hx hb dX9_hardestAgainst_19 (by decide) (fun c19 => ?_) (fun c19 => ?_)
      · refine lv_iconst (v := (-1)) hx hb dX9_hardestAgainst_52 (by decide) ?_
        exact W.iret (v := (-1)) hx hb hr (fun t ht hW => ⟨⟨(-1), (), rfl, ⟨(rg_w (c := (-1)) (d := 7) (rgn (-1) (x := (-1)) (by decide)) (by decide)), (fun hq => absurd hq (rne (rgn (-1) (x := (-1)) (by decide)) (y := 0) (c := 0) (by decide) (by decide))), (fun hq => absurd (req (rgn (-1) (x := (-1)) (by decide)) (y := (-1)) (by decide)) hq), trivial⟩, trivial⟩, hS.F ht⟩) hS.2.2 dX9_hardestAgainst_53
      · have h_2 : rg 0 7 x10_4 := r_lt_l_i (nle_i c19) hx10_4 hp_n1_1 (by decide)
        have h_3 : rg 1 8 n1_1 := r_lt_r_i (nle_i c19) hx10_4 hp_n1_1 (by decide)
        refine lv_iload_n hx hb dX9_hardestAgainst_22 rfl (lv_at hl 2 rfl) ?_
        refine lv_iload hx hb dX9_hardestAgainst_23 (lv_at hl 4 rfl) ?_
        refine ro_calli (va_runSN (As := [.int p1, .int x10_4]) (rest := []) ⟨hx, hb, hml, hown, hts⟩ (a_X10_bitOf l G ct p1 x10_4) ⟨va_cnB 2 hts gX9_hardestAgainst_X10_bitOf_n63 rfl rfl rfl (hK.2.1 (RX9, 63, yX10_bitOf, "CardHolder") (by decide +kernel)) (hts (.initialized RX10) (by decide +kernel)) (by decide +kernel) ⟨Nat.le_of_ble_eq_true rfl, Nat.le_of_ble_eq_true rfl⟩, hts (.static yX10_bitOf) (by decide +kernel), trivial⟩ (ro_pre hK (hP.sub [] rfl)) rfl rfl hl.1 rfl (lv_room (Nat.le_of_ble_eq_true rfl)) dX9_hardestAgainst_25 ⟨Nat.zero_le _, Nat.zero_le _⟩) hS hP (fun r25 H locs wr25 hP hS => ?_)
        obtain ⟨p_4, -⟩ := wr25
        refine lv_iconst (v := 1) hx hb dX9_hardestAgainst_28 (by decide) ?_
        have j46 : ∀ (H : Heap) (locs : List Loc) (ls : Array Slot), va_P G vwCl [(a0, .inr (9, [.ref a1, .ref a3, .ref a4, .ref a5, .ref a6, .int n0_5, .int n0_6])), (a1, .inr (0, [.ref a2, .int n1_1])), (a3, .inl (ct 0, 8, .inl f3))] H → va_S no s.heap H locs → lv_has ls 5 [(0, .ref a0), (1, .int p0), (2, .int p1), (3, .int r3), (4, .int x10_4)] → W p l e (headSpec wsX9_hardestAgainst ({ frames := 4, cells := 0, slots := 0, locals := 88 })).room s m ([.ref a0, .int p0, .int p1] : List Value).toArray below meth c H locs 0 0 (MQ below (roQ (fun r => rg (-1) 7 r ∧ (r = 0 → rg 1 8 n1_1) ∧ (¬ r = (-1) → rg 1 8 n1_1) ∧ True)) ([.ref a0, .int p0, .int p1] : List Value).toArray s 0 0 no) (F0 m 46 ls []) := by
          intro  H locs ls  hP hS hl
          obtain ⟨z46, qz46⟩ : ∃ y : Int32, y = x10_4 + Int32.ofInt 1 := ⟨_, rfl⟩
          obtain ⟨hz46, ez46⟩ := inc_z (e := 1) (f := 8) h_2 qz46 (by decide)
          refine lv_iinc (v := z46) (lv' := [(4, .int z46), (0, .ref a0), (1, .int p0), (2, .int p1), (3, .int r3)]) hx hb dX9_hardestAgainst_46 hl (k := 4) rfl (qz46.symm) (by decide) rfl (fun ls hl => ?_)
          refine lv_goto (tgt := 10) hx hb dX9_hardestAgainst_49 (by decide) ?_
          exact ih10 z46 _ _ ls (by have q := hn10; have := ez46; omega) (rg_w (c := 0) (d := 8) hz46 (by decide)) hP hS (lv_sub hl [1, 2, 3, 4, 0] rfl)
        refine lv_icmp_ne (tgt := 46) hx hb dX9_hardestAgainst_29 (by decide) (fun c29 => ?_) (fun c29 => ?_)
        · have h_5 : rg 0 0 r25 := r_ne_hi_i c29 p_4 (by decide) (by decide)
          exact j46 _ _ ls hP hS (lv_sub hl [0, 1, 2, 3, 4] rfl)
        · have h_6 : rg 1 1 r25 := r_eq_l_i (e := 1) (f := 1) c29 p_4 (rgn 1 (x := 1) (by decide)) (by decide)
          refine lv_aload_n hx hb dX9_hardestAgainst_32 rfl (lv_at hl 0 rfl) ?_
          refine lv_iload_n hx hb dX9_hardestAgainst_33 rfl (lv_at hl 1 rfl) ?_
          refine lv_iload hx hb dX9_hardestAgainst_34 (lv_at hl 4 rfl) ?_
          refine ro_calli (va_runV (As := [.int p0, .int x10_4]) (rest := []) ⟨hx, hb, hml, hown, hts⟩ (a_X9_wonBy l G ct a0 a1 a3 a4 a5 a6 n0_5 n0_6 a2 n1_1 f3 p0 x10_4 (rg_w (c := 0) (d := 8) h_3 (by decide))) (cwV 2 hts gX9_hardestAgainst_X9_wonBy rfl rfl rfl (by decide +kernel) ⟨Nat.le_of_ble_eq_true rfl, Nat.le_of_ble_eq_true rfl⟩) (ro_preV 9 0 hK (hP.sub [0, 1, 2] rfl) rfl rfl) rfl rfl hl.1 rfl (lv_room (Nat.le_of_ble_eq_true rfl)) dX9_hardestAgainst_36 ⟨Nat.zero_le _, Nat.zero_le _⟩) hS hP (fun r36 H locs wr36 hP hS => ?_)
          refine lv_iload_n hx hb dX9_hardestAgainst_39 rfl (lv_at hl 3 rfl) ?_
          refine lv_icmp_ne (tgt := 46) hx hb dX9_hardestAgainst_40 (by decide) (fun c40 => ?_) (fun c40 => ?_)
          · exact j46 _ _ ls hP hS (lv_sub hl [0, 1, 2, 3, 4] rfl)
          · have h_7 : rg (-2147483648) 999 r36 := r_eq_l_i (e := (-2147483648)) (f := 999) c40 (rg_t r36) p_1 (by decide)
            refine lv_iload hx hb dX9_hardestAgainst_43 (lv_at hl 4 rfl) ?_
            exact W.iret (v := x10_4) hx hb hr (fun t ht hW => ⟨⟨x10_4, (), rfl, ⟨(rg_w (c := (-1)) (d := 7) h_2 (by decide)), (fun _ => h_3), (fun _ => h_3), trivial⟩, trivial⟩, hS.F ht⟩) hS.2.2 dX9_hardestAgainst_45
  exact j10 4294967296 (0 : Int32) _ _ ls (ms_e (0 : Int32)) (rg_w (c := 0) (d := 8) (rgn 0 (x := 0) (by decide)) (by decide)) hP hS (lv_sub hl [2, 3, 4, 1, 0] rfl)

set_option maxHeartbeats 4000000 in
set_option maxRecDepth 100000 in
theorem a_X9_surestCard (l : Launch) (G : va_G) (ct : Nat → ClassId) (a0 : Nat) (a1 : Nat) (a3 : Nat) (a4 : Nat) (a5 : Nat) (a6 : Nat) (n0_5 : Int32) (n0_6 : Int32) (a2 : Nat) (n1_1 : Int32) (f3 : Nat → Int32) (p0 : Int32) (p1 : Int32) (hp_n1_1 : rg 0 8 n1_1) : Met l yX9_surestCard wsX9_surestCard ({ frames := 4, cells := 0, slots := 0, locals := 88 }) (va_Pc [.ref a0, .int p0, .int p1] (roP G ct [(a0, .inr (9, [.ref a1, .ref a3, .ref a4, .ref a5, .ref a6, .int n0_5, .int n0_6])), (a1, .inr (0, [.ref a2, .int n1_1])), (a3, .inl (ct 0, 8, .inl f3))])) (roQ (fun r => rg (-1) 7 r ∧ True)) 0 0 no := by
  refine Met.ofW (cc := cX9_surestCard) (maxL := 7) (ret := (some .int)) (by decide) rfl ?_
  intro p e s m args below meth c s₁ B hml hv
  obtain ⟨rfl, hP, hK⟩ := hv
  have hx := B.exec
  have hb := B.bytes
  have hr := B.returns
  have hts := atoms_spec (ws := wsX9_surestCard) B.pre
  have hown : s.vm.findClass RX9 = some m.cls := findClass_of_methodNamed B.named
  have hlocks := B.notSynchronized
  have hS : va_S no s.heap s.heap [] := va_S.rf
  have hl := lv_entry ([.ref a0, .int p0, .int p1]) (n := 7) (Nat.le_of_ble_eq_true rfl)
  rw [lg_entry_eq]
  generalize (lg_sl ([.ref a0, .int p0, .int p1]) ++ List.replicate (7 - (lg_sl ([.ref a0, .int p0, .int p1])).length) Slot.unset).toArray = ls at hl ⊢
  have hl : lv_has ls 7 [(0, .ref a0), (1, .int p0), (2, .int p1)] := hl
  refine lv_iconst (v := (-1)) hx hb dX9_surestCard_0 (by decide) ?_
  refine lv_istore_n (lv' := [(3, .int (-1)), (0, .ref a0), (1, .int p0), (2, .int p1)]) hx hb dX9_surestCard_1 rfl hl (by decide) rfl (fun ls hl => ?_)
  refine lv_iconst (v := 0) hx hb dX9_surestCard_2 (by decide) ?_
  refine lv_istore (lv' := [(4, .int 0), (3, .int (-1)), (0, .ref a0), (1, .int p0), (2, .int p1)]) hx hb dX9_surestCard_3 hl (by decide) rfl (fun ls hl => ?_)
  refine lv_iconst (v := 0) hx hb dX9_surestCard_5 (by decide) ?_
  refine lv_istore (lv' := [(5, .int 0), (4, .int 0), (3, .int (-1)), (0, .ref a0), (1, .int p0), (2, .int p1)]) hx hb dX9_surestCard_6 hl (by decide) rfl (fun ls hl => ?_)
  have j8 : ∀ (n : Nat) (x8_3 : Int32) (x8_4 : Int32) (x8_5 : Int32) (H : Heap) (locs : List Loc) (ls : Array Slot), 2147483648 ≤ x8_5.toInt + (n : Int) → rg (-1) 7 x8_3 → rg (-2147483648) 999 x8_4 → rg 0 8 x8_5 → va_P G vwCl [(a0, .inr (9, [.ref a1, .ref a3, .ref a4, .ref a5, .ref a6, .int n0_5, .int n0_6])), (a1, .inr (0, [.ref a2, .int n1_1])), (a3, .inl (ct 0, 8, .inl f3))] H → va_S no s.heap H locs → lv_has ls 7 [(0, .ref a0), (1, .int p0), (2, .int p1), (3, .int x8_3), (4, .int x8_4), (5, .int x8_5)] → W p l e (headSpec wsX9_surestCard ({ frames := 4, cells := 0, slots := 0, locals := 88 })).room s m ([.ref a0, .int p0, .int p1] : List Value).toArray below meth c H locs 0 0 (MQ below (roQ (fun r => rg (-1) 7 r ∧ True)) ([.ref a0, .int p0, .int p1] : List Value).toArray s 0 0 no) (F0 m 8 ls []) := by
    intro n
    induction n with
    | zero => intro x8_3 x8_4 x8_5 H locs ls hn8 hx8_3 hx8_4 hx8_5 hP hS hl; exact absurd hn8 (by have := Int32.toInt_lt x8_5; have := Int32.le_toInt x8_5; omega)
    | succ n ih8 =>
      intro x8_3 x8_4 x8_5 H locs ls hn8 hx8_3 hx8_4 hx8_5 hP hS hl
      refine lv_iload hx hb dX9_surestCard_8 (lv_at hl 5 rfl) ?_
      refine lv_aload_n hx hb dX9_surestCard_10 rfl (lv_at hl 0 rfl) ?_
      refine va_get (D := G) (ci := 9) (v := .ref a1) (C := RX9) (T := TX9) (N := 7) hx hb hts (by decide +kernel) hown hK.1 hP 0 rfl rfl 0 (by decide) (hts (.fieldLink RX9 12 "CardHolder$Town" "bonds" "LCardHolder$Bonds;") (by decide +kernel)) (fun _ h9 => h9) rfl dX9_surestCard_11 ?_
      refine va_get (D := G) (ci := 0) (v := .int n1_1) (C := RX0) (T := TX0) (N := 2) hx hb hts (by decide +kernel) hown hK.1 hP 1 rfl rfl 1 (by decide) (hts (.fieldLink RX9 31 "CardHolder$Bonds" "persons" "I") (by decide +kernel)) (fun _ h9 => h9) rfl dX9_surestCard_14 ?_
      refine lv_icmp_ge (tgt := 64) hx hb dX9_surestCard_17 (by decide) (fun c17 => ?_) (fun c17 => ?_)
      · refine lv_iload_n hx hb dX9_surestCard_64 rfl (lv_at hl 3 rfl) ?_
        exact W.iret (v := x8_3) hx hb hr (fun t ht hW => ⟨⟨x8_3, (), rfl, ⟨hx8_3, trivial⟩, trivial⟩, hS.F ht⟩) hS.2.2 dX9_surestCard_65
      · have h_1 : rg 0 7 x8_5 := r_lt_l_i (nle_i c17) hx8_5 hp_n1_1 (by decide)
        have h_2 : rg 1 8 n1_1 := r_lt_r_i (nle_i c17) hx8_5 hp_n1_1 (by decide)
        refine lv_iload_n hx hb dX9_surestCard_20 rfl (lv_at hl 1 rfl) ?_
        refine lv_iload hx hb dX9_surestCard_21 (lv_at hl 5 rfl) ?_
        refine ro_calli (va_runSN (As := [.int p0, .int x8_5]) (rest := []) ⟨hx, hb, hml, hown, hts⟩ (a_X10_bitOf l G ct p0 x8_5) ⟨va_cnB 2 hts gX9_surestCard_X10_bitOf_n63 rfl rfl rfl (hK.2.1 (RX9, 63, yX10_bitOf, "CardHolder") (by decide +kernel)) (hts (.initialized RX10) (by decide +kernel)) (by decide +kernel) ⟨Nat.le_of_ble_eq_true rfl, Nat.le_of_ble_eq_true rfl⟩, hts (.static yX10_bitOf) (by decide +kernel), trivial⟩ (ro_pre hK (hP.sub [] rfl)) rfl rfl hl.1 rfl (lv_room (Nat.le_of_ble_eq_true rfl)) dX9_surestCard_23 ⟨Nat.zero_le _, Nat.zero_le _⟩) hS hP (fun r23 H locs wr23 hP hS => ?_)
        obtain ⟨p_3, -⟩ := wr23
        refine lv_iconst (v := 1) hx hb dX9_surestCard_26 (by decide) ?_
        have j58 : ∀ (x58_3 : Int32) (x58_4 : Int32) (H : Heap) (locs : List Loc) (ls : Array Slot), rg (-1) 7 x58_3 → rg (-2147483648) 999 x58_4 → va_P G vwCl [(a0, .inr (9, [.ref a1, .ref a3, .ref a4, .ref a5, .ref a6, .int n0_5, .int n0_6])), (a1, .inr (0, [.ref a2, .int n1_1])), (a3, .inl (ct 0, 8, .inl f3))] H → va_S no s.heap H locs → lv_has ls 7 [(0, .ref a0), (1, .int p0), (2, .int p1), (3, .int x58_3), (4, .int x58_4), (5, .int x8_5)] → W p l e (headSpec wsX9_surestCard ({ frames := 4, cells := 0, slots := 0, locals := 88 })).room s m ([.ref a0, .int p0, .int p1] : List Value).toArray below meth c H locs 0 0 (MQ below (roQ (fun r => rg (-1) 7 r ∧ True)) ([.ref a0, .int p0, .int p1] : List Value).toArray s 0 0 no) (F0 m 58 ls []) := by
          intro x58_3 x58_4 H locs ls hx58_3 hx58_4 hP hS hl
          obtain ⟨z58, qz58⟩ : ∃ y : Int32, y = x8_5 + Int32.ofInt 1 := ⟨_, rfl⟩
          obtain ⟨hz58, ez58⟩ := inc_z (e := 1) (f := 8) h_1 qz58 (by decide)
          refine lv_iinc (v := z58) (lv' := [(5, .int z58), (0, .ref a0), (1, .int p0), (2, .int p1), (3, .int x58_3), (4, .int x58_4)]) hx hb dX9_surestCard_58 hl (k := 5) rfl (qz58.symm) (by decide) rfl (fun ls hl => ?_)
          refine lv_goto (tgt := 8) hx hb dX9_surestCard_61 (by decide) ?_
          exact ih8 x58_3 x58_4 z58 _ _ ls (by have q := hn8; have := ez58; omega) hx58_3 hx58_4 (rg_w (c := 0) (d := 8) hz58 (by decide)) hP hS (lv_sub hl [1, 2, 3, 4, 5, 0] rfl)
        refine lv_icmp_ne (tgt := 58) hx hb dX9_surestCard_27 (by decide) (fun c27 => ?_) (fun c27 => ?_)
        · have h_4 : rg 0 0 r23 := r_ne_hi_i c27 p_3 (by decide) (by decide)
          exact j58 x8_3 x8_4 _ _ ls hx8_3 hx8_4 hP hS (lv_sub hl [0, 1, 2, 3, 4, 5] rfl)
        · have h_5 : rg 1 1 r23 := r_eq_l_i (e := 1) (f := 1) c27 p_3 (rgn 1 (x := 1) (by decide)) (by decide)
          refine lv_aload_n hx hb dX9_surestCard_30 rfl (lv_at hl 0 rfl) ?_
          refine lv_iload hx hb dX9_surestCard_31 (lv_at hl 5 rfl) ?_
          refine lv_iload_n hx hb dX9_surestCard_33 rfl (lv_at hl 2 rfl) ?_
          refine ro_calli (va_runV (As := [.int x8_5, .int p1]) (rest := []) ⟨hx, hb, hml, hown, hts⟩ (a_X9_sureOf l G ct a0 a1 a3 a4 a5 a6 n0_5 n0_6 a2 n1_1 f3 x8_5 p1 (rg_w (c := 0) (d := 8) h_2 (by decide))) (cwV 2 hts gX9_surestCard_X9_sureOf rfl rfl rfl (by decide +kernel) ⟨Nat.le_of_ble_eq_true rfl, Nat.le_of_ble_eq_true rfl⟩) (ro_preV 9 0 hK (hP.sub [0, 1, 2] rfl) rfl rfl) rfl rfl hl.1 rfl (lv_room (Nat.le_of_ble_eq_true rfl)) dX9_surestCard_34 ⟨Nat.zero_le _, Nat.zero_le _⟩) hS hP (fun r34 H locs wr34 hP hS => ?_)
          obtain ⟨p_6, -⟩ := wr34
          refine lv_istore (lv' := [(6, .int r34), (0, .ref a0), (1, .int p0), (2, .int p1), (3, .int x8_3), (4, .int x8_4), (5, .int x8_5)]) hx hb dX9_surestCard_37 hl (by decide) rfl (fun ls hl => ?_)
          refine lv_iload_n hx hb dX9_surestCard_39 rfl (lv_at hl 4 rfl) ?_
          refine lv_iconst (v := (-1)) hx hb dX9_surestCard_40 (by decide) ?_
          have j51 : ∀ (H : Heap) (locs : List Loc) (ls : Array Slot), va_P G vwCl [(a0, .inr (9, [.ref a1, .ref a3, .ref a4, .ref a5, .ref a6, .int n0_5, .int n0_6])), (a1, .inr (0, [.ref a2, .int n1_1])), (a3, .inl (ct 0, 8, .inl f3))] H → va_S no s.heap H locs → lv_has ls 7 [(0, .ref a0), (1, .int p0), (2, .int p1), (3, .int x8_3), (4, .int x8_4), (5, .int x8_5), (6, .int r34)] → W p l e (headSpec wsX9_surestCard ({ frames := 4, cells := 0, slots := 0, locals := 88 })).room s m ([.ref a0, .int p0, .int p1] : List Value).toArray below meth c H locs 0 0 (MQ below (roQ (fun r => rg (-1) 7 r ∧ True)) ([.ref a0, .int p0, .int p1] : List Value).toArray s 0 0 no) (F0 m 51 ls []) := by
            intro  H locs ls  hP hS hl
            refine lv_iload hx hb dX9_surestCard_51 (lv_at hl 5 rfl) ?_
            refine lv_istore_n (lv' := [(3, .int x8_5), (0, .ref a0), (1, .int p0), (2, .int p1), (4, .int x8_4), (5, .int x8_5), (6, .int r34)]) hx hb dX9_surestCard_53 rfl hl (by decide) rfl (fun ls hl => ?_)
            refine lv_iload hx hb dX9_surestCard_54 (lv_at hl 6 rfl) ?_
            refine lv_istore (lv' := [(4, .int r34), (3, .int x8_5), (0, .ref a0), (1, .int p0), (2, .int p1), (5, .int x8_5), (6, .int r34)]) hx hb dX9_surestCard_56 hl (by decide) rfl (fun ls hl => ?_)
            exact j58 x8_5 r34 _ _ ls (rg_w (c := (-1)) (d := 7) h_1 (by decide)) p_6 hP hS (lv_sub hl [2, 3, 4, 1, 0, 5] rfl)
          refine lv_icmp_eq (tgt := 51) hx hb dX9_surestCard_41 (by decide) (fun c41 => ?_) (fun c41 => ?_)
          · have h_7 : rg (-1) (-1) x8_3 := r_eq_l_i (e := (-1)) (f := (-1)) c41 hx8_3 (rgn (-1) (x := (-1)) (by decide)) (by decide)
            exact j51 _ _ ls hP hS (lv_sub hl [1, 2, 3, 4, 5, 6, 0] rfl)
          · have h_8 : rg 0 7 x8_3 := r_ne_lo_i c41 hx8_3 (by decide) (by decide)
            refine lv_iload hx hb dX9_surestCard_44 (lv_at hl 0 rfl) ?_
            refine lv_iload hx hb dX9_surestCard_46 (lv_at hl 5 rfl) ?_
            refine lv_icmp_le (tgt := 58) hx hb dX9_surestCard_48 (by decide) (fun c48 => ?_) (fun c48 => ?_)
            · exact j58 x8_3 x8_4 _ _ ls (rg_w (c := (-1)) (d := 7) h_8 (by decide)) hx8_4 hP hS (lv_sub hl [1, 2, 3, 4, 5, 6] rfl)
            · have h_9 : rg (-2147483648) 998 x8_4 := r_lt_l_i (nle_i c48) hx8_4 p_6 (by decide)
              have h_10 : rg (-2147483647) 999 r34 := r_lt_r_i (nle_i c48) hx8_4 p_6 (by decide)
              exact j51 _ _ ls hP hS (lv_sub hl [1, 2, 3, 4, 5, 6, 0] rfl)
  exact j8 4294967296 ((-1) : Int32) (0 : Int32) (0 : Int32) _ _ ls (ms_e (0 : Int32)) (rg_w (c := (-1)) (d := 7) (rgn (-1) (x := (-1)) (by decide)) (by decide)) (rg_w (c := (-2147483648)) (d := 999) (rgn 0 (x := 0) (by decide)) (by decide)) (rg_w (c := 0) (d := 8) (rgn 0 (x := 0) (by decide)) (by decide)) hP hS (lv_sub hl [3, 4, 5, 2, 1, 0] rfl)
