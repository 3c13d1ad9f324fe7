theorem dX11_does_0 : decode cX11_does 0 = .ok (.iload_n 1, 1) := by decide +kernel
theorem dX11_does_1 : decode cX11_does 1 = .ok (.ifCond .ne 21, 3) := by decide +kernel
theorem dX11_does_22 : decode cX11_does 22 = .ok (.iload_n 1, 1) := by decide +kernel
theorem dX11_does_23 : decode cX11_does 23 = .ok (.iconst 1, 1) := by decide +kernel
theorem dX11_does_24 : decode cX11_does 24 = .ok (.if_icmp .ne 20, 3) := by decide +kernel
theorem dX11_does_44 : decode cX11_does 44 = .ok (.iload_n 1, 1) := by decide +kernel
theorem dX11_does_45 : decode cX11_does 45 = .ok (.iconst 2, 1) := by decide +kernel
theorem dX11_does_46 : decode cX11_does 46 = .ok (.if_icmp .ne 34, 3) := by decide +kernel
theorem dX11_does_80 : decode cX11_does 80 = .ok (.iload_n 1, 1) := by decide +kernel
theorem dX11_does_81 : decode cX11_does 81 = .ok (.iconst 3, 1) := by decide +kernel
theorem dX11_does_82 : decode cX11_does 82 = .ok (.if_icmp .ne 37, 3) := by decide +kernel
theorem dX11_does_119 : decode cX11_does 119 = .ok (.aload_n 0, 1) := by decide +kernel
set_option maxRecDepth 20000 in
theorem ggX11_does_X11_dayEnds : GoodIn wsX11_does wsX11_dayEnds := goodIn_r _ [25, 16, 4, 2, 3, 10, 26, 27, 28, 8, 29, 30, 31, 32, 33, 34, 35, 36, 37, 38, 39, 40, 41, 42, 43, 44, 45, 46, 47, 48, 49, 50, 51, 52, 53, 54, 55, 56, 57, 58, 59, 60] (by rfl) (by decide +kernel)
set_option maxRecDepth 20000 in
theorem gX11_does_X11_dayEnds : GoodIn wsX11_does (wsV RX11 246 RX11 yX11_dayEnds wsX11_dayEnds) := goodIn_app (goodIn_r _ [22, 23, 24, 8] (by rfl) (by decide +kernel)) ggX11_does_X11_dayEnds
theorem dX11_does_120 : decode cX11_does 120 = .ok (.invokevirtual 246, 3) := by decide +kernel
theorem dX11_does_123 : decode cX11_does 123 = .ok (.return_, 1) := by decide +kernel
theorem dX11_does_85 : decode cX11_does 85 = .ok (.aload_n 0, 1) := by decide +kernel
theorem dX11_does_86 : decode cX11_does 86 = .ok (.getfield 53, 3) := by decide +kernel
theorem dX11_does_89 : decode cX11_does 89 = .ok (.iload_n 3, 1) := by decide +kernel
theorem dX11_does_90 : decode cX11_does 90 = .ok (.aload_n 0, 1) := by decide +kernel
theorem dX11_does_91 : decode cX11_does 91 = .ok (.getfield 47, 3) := by decide +kernel
theorem dX11_does_94 : decode cX11_does 94 = .ok (.iload_n 3, 1) := by decide +kernel
theorem dX11_does_95 : decode cX11_does 95 = .ok (.iaload, 1) := by decide +kernel
theorem dX11_does_96 : decode cX11_does 96 = .ok (.iastore, 1) := by decide +kernel
theorem dX11_does_97 : decode cX11_does 97 = .ok (.aload_n 0, 1) := by decide +kernel
theorem dX11_does_98 : decode cX11_does 98 = .ok (.getfield 47, 3) := by decide +kernel
theorem dX11_does_101 : decode cX11_does 101 = .ok (.iload_n 3, 1) := by decide +kernel
theorem dX11_does_102 : decode cX11_does 102 = .ok (.iload_n 2, 1) := by decide +kernel
theorem dX11_does_103 : decode cX11_does 103 = .ok (.iastore, 1) := by decide +kernel
theorem dX11_does_104 : decode cX11_does 104 = .ok (.aload_n 0, 1) := by decide +kernel
theorem dX11_does_105 : decode cX11_does 105 = .ok (.dup, 1) := by decide +kernel
theorem dX11_does_106 : decode cX11_does 106 = .ok (.getfield 220, 3) := by decide +kernel
theorem dX11_does_109 : decode cX11_does 109 = .ok (.iconst 1, 1) := by decide +kernel
theorem dX11_does_110 : decode cX11_does 110 = .ok (.iload_n 3, 1) := by decide +kernel
theorem dX11_does_111 : decode cX11_does 111 = .ok (.ishl, 1) := by decide +kernel
theorem dX11_does_112 : decode cX11_does 112 = .ok (.ior, 1) := by decide +kernel
theorem dX11_does_113 : decode cX11_does 113 = .ok (.putfield 220, 3) := by decide +kernel
theorem dX11_does_116 : decode cX11_does 116 = .ok (.goto 7, 3) := by decide +kernel
theorem dX11_does_49 : decode cX11_does 49 = .ok (.aload_n 0, 1) := by decide +kernel
theorem dX11_does_50 : decode cX11_does 50 = .ok (.getfield 47, 3) := by decide +kernel
theorem dX11_does_53 : decode cX11_does 53 = .ok (.iload_n 2, 1) := by decide +kernel
theorem dX11_does_54 : decode cX11_does 54 = .ok (.iaload, 1) := by decide +kernel
theorem dX11_does_55 : decode cX11_does 55 = .ok (.istore 6, 2) := by decide +kernel
theorem dX11_does_57 : decode cX11_does 57 = .ok (.aload_n 0, 1) := by decide +kernel
theorem dX11_does_58 : decode cX11_does 58 = .ok (.getfield 47, 3) := by decide +kernel
theorem dX11_does_61 : decode cX11_does 61 = .ok (.iload_n 2, 1) := by decide +kernel
theorem dX11_does_62 : decode cX11_does 62 = .ok (.aload_n 0, 1) := by decide +kernel
theorem dX11_does_63 : decode cX11_does 63 = .ok (.getfield 47, 3) := by decide +kernel
theorem dX11_does_66 : decode cX11_does 66 = .ok (.iload_n 3, 1) := by decide +kernel
theorem dX11_does_67 : decode cX11_does 67 = .ok (.iaload, 1) := by decide +kernel
theorem dX11_does_68 : decode cX11_does 68 = .ok (.iastore, 1) := by decide +kernel
theorem dX11_does_69 : decode cX11_does 69 = .ok (.aload_n 0, 1) := by decide +kernel
theorem dX11_does_70 : decode cX11_does 70 = .ok (.getfield 47, 3) := by decide +kernel
theorem dX11_does_73 : decode cX11_does 73 = .ok (.iload_n 3, 1) := by decide +kernel
theorem dX11_does_74 : decode cX11_does 74 = .ok (.iload 6, 2) := by decide +kernel
theorem dX11_does_76 : decode cX11_does 76 = .ok (.iastore, 1) := by decide +kernel
theorem dX11_does_77 : decode cX11_does 77 = .ok (.goto 46, 3) := by decide +kernel
theorem dX11_does_27 : decode cX11_does 27 = .ok (.aload_n 0, 1) := by decide +kernel
theorem dX11_does_28 : decode cX11_does 28 = .ok (.getfield 47, 3) := by decide +kernel
theorem dX11_does_31 : decode cX11_does 31 = .ok (.iload 4, 2) := by decide +kernel
theorem dX11_does_33 : decode cX11_does 33 = .ok (.iload 5, 2) := by decide +kernel
theorem dX11_does_35 : decode cX11_does 35 = .ok (.iastore, 1) := by decide +kernel
theorem dX11_does_36 : decode cX11_does 36 = .ok (.aload_n 0, 1) := by decide +kernel
theorem dX11_does_37 : decode cX11_does 37 = .ok (.iload_n 3, 1) := by decide +kernel
set_option maxRecDepth 20000 in
theorem ggX11_does_X11_isAsked : GoodIn wsX11_does wsX11_isAsked := goodIn_r _ [9, 10, 11, 2, 12, 13, 14, 8, 15, 16, 17, 18, 19, 20, 21, 30, 31, 32, 33, 34, 35, 36, 37, 38, 39, 40, 41, 42, 43, 44, 45, 46, 47, 48, 49, 50, 51, 52, 53, 54, 55, 56, 57, 58, 59, 60] (by rfl) (by decide +kernel)
set_option maxRecDepth 20000 in
theorem gX11_does_X11_isAsked : GoodIn wsX11_does (wsV RX11 243 RX11 yX11_isAsked wsX11_isAsked) := goodIn_app (goodIn_r _ [5, 6, 7, 8] (by rfl) (by decide +kernel)) ggX11_does_X11_isAsked
theorem dX11_does_38 : decode cX11_does 38 = .ok (.invokevirtual 243, 3) := by decide +kernel
theorem dX11_does_41 : decode cX11_does 41 = .ok (.goto 82, 3) := by decide +kernel
theorem dX11_does_4 : decode cX11_does 4 = .ok (.aload_n 0, 1) := by decide +kernel
theorem dX11_does_5 : decode cX11_does 5 = .ok (.iload_n 3, 1) := by decide +kernel
theorem dX11_does_6 : decode cX11_does 6 = .ok (.invokevirtual 243, 3) := by decide +kernel
theorem dX11_does_9 : decode cX11_does 9 = .ok (.aload_n 0, 1) := by decide +kernel
theorem dX11_does_10 : decode cX11_does 10 = .ok (.dup, 1) := by decide +kernel
theorem dX11_does_11 : decode cX11_does 11 = .ok (.getfield 226, 3) := by decide +kernel
theorem dX11_does_14 : decode cX11_does 14 = .ok (.iconst 1, 1) := by decide +kernel
theorem dX11_does_15 : decode cX11_does 15 = .ok (.iadd, 1) := by decide +kernel
theorem dX11_does_16 : decode cX11_does 16 = .ok (.putfield 226, 3) := by decide +kernel
theorem dX11_does_19 : decode cX11_does 19 = .ok (.goto 104, 3) := by decide +kernel
theorem dX11_laysNow_0 : decode cX11_laysNow 0 = .ok (.aload_n 0, 1) := by decide +kernel
set_option maxRecDepth 20000 in
theorem ggX11_laysNow_X11_start : GoodIn wsX11_laysNow wsX11_start := goodIn_r _ [7, 1, 8, 9, 10, 11, 12, 13, 14, 15, 16, 17, 6, 18, 19, 39, 40, 41, 42, 43, 44, 45, 46, 47, 48, 49, 50, 51, 52, 53, 54, 55, 56, 57, 58, 59, 60, 61, 62, 63, 64, 65, 66, 67, 68, 69] (by rfl) (by decide +kernel)
set_option maxRecDepth 20000 in
theorem gX11_laysNow_X11_start : GoodIn wsX11_laysNow (wsV RX11 229 RX11 yX11_start wsX11_start) := goodIn_app (goodIn_r _ [3, 4, 5, 6] (by rfl) (by decide +kernel)) ggX11_laysNow_X11_start
theorem dX11_laysNow_1 : decode cX11_laysNow 1 = .ok (.invokevirtual 229, 3) := by decide +kernel
theorem dX11_laysNow_4 : decode cX11_laysNow 4 = .ok (.iconst 0, 1) := by decide +kernel
theorem dX11_laysNow_5 : decode cX11_laysNow 5 = .ok (.istore_n 1, 1) := by decide +kernel
theorem dX11_laysNow_6 : decode cX11_laysNow 6 = .ok (.iload_n 1, 1) := by decide +kernel
theorem dX11_laysNow_7 : decode cX11_laysNow 7 = .ok (.aload_n 0, 1) := by decide +kernel
theorem dX11_laysNow_8 : decode cX11_laysNow 8 = .ok (.getfield 34, 3) := by decide +kernel
theorem dX11_laysNow_11 : decode cX11_laysNow 11 = .ok (.iconst 2, 1) := by decide +kernel
theorem dX11_laysNow_12 : decode cX11_laysNow 12 = .ok (.iaload, 1) := by decide +kernel
theorem dX11_laysNow_13 : decode cX11_laysNow 13 = .ok (.if_icmp .ge 61, 3) := by decide +kernel
theorem dX11_laysNow_74 : decode cX11_laysNow 74 = .ok (.return_, 1) := by decide +kernel
theorem dX11_laysNow_16 : decode cX11_laysNow 16 = .ok (.aload_n 0, 1) := by decide +kernel
theorem dX11_laysNow_17 : decode cX11_laysNow 17 = .ok (.aload_n 0, 1) := by decide +kernel
theorem dX11_laysNow_18 : decode cX11_laysNow 18 = .ok (.getfield 40, 3) := by decide +kernel
theorem dX11_laysNow_21 : decode cX11_laysNow 21 = .ok (.iconst 5, 1) := by decide +kernel
theorem dX11_laysNow_22 : decode cX11_laysNow 22 = .ok (.iload_n 1, 1) := by decide +kernel
theorem dX11_laysNow_23 : decode cX11_laysNow 23 = .ok (.imul, 1) := by decide +kernel
theorem dX11_laysNow_24 : decode cX11_laysNow 24 = .ok (.iaload, 1) := by decide +kernel
theorem dX11_laysNow_25 : decode cX11_laysNow 25 = .ok (.aload_n 0, 1) := by decide +kernel
theorem dX11_laysNow_26 : decode cX11_laysNow 26 = .ok (.getfield 40, 3) := by decide +kernel
theorem dX11_laysNow_29 : decode cX11_laysNow 29 = .ok (.iconst 5, 1) := by decide +kernel
theorem dX11_laysNow_30 : decode cX11_laysNow 30 = .ok (.iload_n 1, 1) := by decide +kernel
theorem dX11_laysNow_31 : decode cX11_laysNow 31 = .ok (.imul, 1) := by decide +kernel
theorem dX11_laysNow_32 : decode cX11_laysNow 32 = .ok (.iconst 1, 1) := by decide +kernel
theorem dX11_laysNow_33 : decode cX11_laysNow 33 = .ok (.iadd, 1) := by decide +kernel
theorem dX11_laysNow_34 : decode cX11_laysNow 34 = .ok (.iaload, 1) := by decide +kernel
theorem dX11_laysNow_35 : decode cX11_laysNow 35 = .ok (.aload_n 0, 1) := by decide +kernel
theorem dX11_laysNow_36 : decode cX11_laysNow 36 = .ok (.getfield 40, 3) := by decide +kernel
theorem dX11_laysNow_39 : decode cX11_laysNow 39 = .ok (.iconst 5, 1) := by decide +kernel
theorem dX11_laysNow_40 : decode cX11_laysNow 40 = .ok (.iload_n 1, 1) := by decide +kernel
theorem dX11_laysNow_41 : decode cX11_laysNow 41 = .ok (.imul, 1) := by decide +kernel
theorem dX11_laysNow_42 : decode cX11_laysNow 42 = .ok (.iconst 2, 1) := by decide +kernel
theorem dX11_laysNow_43 : decode cX11_laysNow 43 = .ok (.iadd, 1) := by decide +kernel
theorem dX11_laysNow_44 : decode cX11_laysNow 44 = .ok (.iaload, 1) := by decide +kernel
theorem dX11_laysNow_45 : decode cX11_laysNow 45 = .ok (.aload_n 0, 1) := by decide +kernel
theorem dX11_laysNow_46 : decode cX11_laysNow 46 = .ok (.getfield 40, 3) := by decide +kernel
theorem dX11_laysNow_49 : decode cX11_laysNow 49 = .ok (.iconst 5, 1) := by decide +kernel
theorem dX11_laysNow_50 : decode cX11_laysNow 50 = .ok (.iload_n 1, 1) := by decide +kernel
theorem dX11_laysNow_51 : decode cX11_laysNow 51 = .ok (.imul, 1) := by decide +kernel
theorem dX11_laysNow_52 : decode cX11_laysNow 52 = .ok (.iconst 3, 1) := by decide +kernel
theorem dX11_laysNow_53 : decode cX11_laysNow 53 = .ok (.iadd, 1) := by decide +kernel
theorem dX11_laysNow_54 : decode cX11_laysNow 54 = .ok (.iaload, 1) := by decide +kernel
theorem dX11_laysNow_55 : decode cX11_laysNow 55 = .ok (.aload_n 0, 1) := by decide +kernel
theorem dX11_laysNow_56 : decode cX11_laysNow 56 = .ok (.getfield 40, 3) := by decide +kernel
theorem dX11_laysNow_59 : decode cX11_laysNow 59 = .ok (.iconst 5, 1) := by decide +kernel
theorem dX11_laysNow_60 : decode cX11_laysNow 60 = .ok (.iload_n 1, 1) := by decide +kernel
theorem dX11_laysNow_61 : decode cX11_laysNow 61 = .ok (.imul, 1) := by decide +kernel
theorem dX11_laysNow_62 : decode cX11_laysNow 62 = .ok (.iconst 4, 1) := by decide +kernel
theorem dX11_laysNow_63 : decode cX11_laysNow 63 = .ok (.iadd, 1) := by decide +kernel
theorem dX11_laysNow_64 : decode cX11_laysNow 64 = .ok (.iaload, 1) := by decide +kernel
set_option maxRecDepth 20000 in
theorem ggX11_laysNow_X11_does : GoodIn wsX11_laysNow wsX11_does := goodIn_r _ [23, 14, 8, 10, 12, 24, 25, 26, 6, 27, 11, 9, 28, 29, 30, 31, 1, 15, 16, 17, 18, 19, 32, 33, 34, 35, 13, 36, 37, 38, 39, 40, 41, 42, 43, 44, 45, 46, 47, 48, 49, 50, 51, 52, 53, 54, 55, 56, 57, 58, 59, 60, 61, 62, 63, 64, 65, 66, 67, 68, 69] (by rfl) (by decide +kernel)
set_option maxRecDepth 20000 in
theorem gX11_laysNow_X11_does : GoodIn wsX11_laysNow (wsV RX11 232 RX11 yX11_does wsX11_does) := goodIn_app (goodIn_r _ [20, 21, 22, 6] (by rfl) (by decide +kernel)) ggX11_laysNow_X11_does
theorem dX11_laysNow_65 : decode cX11_laysNow 65 = .ok (.invokevirtual 232, 3) := by decide +kernel
theorem dX11_laysNow_68 : decode cX11_laysNow 68 = .ok (.iinc 1 1, 3) := by decide +kernel
theorem dX11_laysNow_71 : decode cX11_laysNow 71 = .ok (.goto (-65), 3) := by decide +kernel
theorem dX11_handOf_0 : decode cX11_handOf 0 = .ok (.iconst 0, 1) := by decide +kernel
theorem dX11_handOf_1 : decode cX11_handOf 1 = .ok (.istore_n 2, 1) := by decide +kernel
theorem dX11_handOf_2 : decode cX11_handOf 2 = .ok (.iconst 0, 1) := by decide +kernel
theorem dX11_handOf_3 : decode cX11_handOf 3 = .ok (.istore_n 3, 1) := by decide +kernel
theorem dX11_handOf_4 : decode cX11_handOf 4 = .ok (.iload_n 3, 1) := by decide +kernel
theorem dX11_handOf_5 : decode cX11_handOf 5 = .ok (.aload_n 0, 1) := by decide +kernel
theorem dX11_handOf_6 : decode cX11_handOf 6 = .ok (.getfield 34, 3) := by decide +kernel
theorem dX11_handOf_9 : decode cX11_handOf 9 = .ok (.iconst 1, 1) := by decide +kernel
theorem dX11_handOf_10 : decode cX11_handOf 10 = .ok (.iaload, 1) := by decide +kernel
theorem dX11_handOf_11 : decode cX11_handOf 11 = .ok (.if_icmp .ge 29, 3) := by decide +kernel
theorem dX11_handOf_40 : decode cX11_handOf 40 = .ok (.iload_n 2, 1) := by decide +kernel
theorem dX11_handOf_41 : decode cX11_handOf 41 = .ok (.ireturn, 1) := by decide +kernel
theorem dX11_handOf_14 : decode cX11_handOf 14 = .ok (.iload_n 2, 1) := by decide +kernel
theorem dX11_handOf_15 : decode cX11_handOf 15 = .ok (.aload_n 0, 1) := by decide +kernel
theorem dX11_handOf_16 : decode cX11_handOf 16 = .ok (.getfield 47, 3) := by decide +kernel
theorem dX11_handOf_19 : decode cX11_handOf 19 = .ok (.iload_n 3, 1) := by decide +kernel
theorem dX11_handOf_20 : decode cX11_handOf 20 = .ok (.iaload, 1) := by decide +kernel
theorem dX11_handOf_21 : decode cX11_handOf 21 = .ok (.iload_n 1, 1) := by decide +kernel
theorem dX11_handOf_22 : decode cX11_handOf 22 = .ok (.if_icmp .ne 9, 3) := by decide +kernel
theorem dX11_handOf_31 : decode cX11_handOf 31 = .ok (.iconst 0, 1) := by decide +kernel
theorem dX11_handOf_32 : decode cX11_handOf 32 = .ok (.ior, 1) := by decide +kernel
theorem dX11_handOf_33 : decode cX11_handOf 33 = .ok (.istore_n 2, 1) := by decide +kernel
theorem dX11_handOf_34 : decode cX11_handOf 34 = .ok (.iinc 3 1, 3) := by decide +kernel
theorem dX11_handOf_37 : decode cX11_handOf 37 = .ok (.goto (-33), 3) := by decide +kernel
theorem dX11_handOf_25 : decode cX11_handOf 25 = .ok (.iconst 1, 1) := by decide +kernel
theorem dX11_handOf_26 : decode cX11_handOf 26 = .ok (.iload_n 3, 1) := by decide +kernel
theorem dX11_handOf_27 : decode cX11_handOf 27 = .ok (.ishl, 1) := by decide +kernel
theorem dX11_handOf_28 : decode cX11_handOf 28 = .ok (.goto 4, 3) := by decide +kernel
theorem dX11_underOf_0 : decode cX11_underOf 0 = .ok (.iconst 0, 1) := by decide +kernel
theorem dX11_underOf_1 : decode cX11_underOf 1 = .ok (.istore_n 2, 1) := by decide +kernel
theorem dX11_underOf_2 : decode cX11_underOf 2 = .ok (.iconst 0, 1) := by decide +kernel
theorem dX11_underOf_3 : decode cX11_underOf 3 = .ok (.istore_n 3, 1) := by decide +kernel
theorem dX11_underOf_4 : decode cX11_underOf 4 = .ok (.iload_n 3, 1) := by decide +kernel
theorem dX11_underOf_5 : decode cX11_underOf 5 = .ok (.bipush 8, 2) := by decide +kernel
theorem dX11_underOf_7 : decode cX11_underOf 7 = .ok (.if_icmp .ge 72, 3) := by decide +kernel
theorem dX11_underOf_79 : decode cX11_underOf 79 = .ok (.iload_n 2, 1) := by decide +kernel
theorem dX11_underOf_80 : decode cX11_underOf 80 = .ok (.ireturn, 1) := by decide +kernel
theorem dX11_underOf_10 : decode cX11_underOf 10 = .ok (.iconst 0, 1) := by decide +kernel
theorem dX11_underOf_11 : decode cX11_underOf 11 = .ok (.istore 4, 2) := by decide +kernel
theorem dX11_underOf_13 : decode cX11_underOf 13 = .ok (.iload 4, 2) := by decide +kernel
theorem dX11_underOf_15 : decode cX11_underOf 15 = .ok (.aload_n 0, 1) := by decide +kernel
theorem dX11_underOf_16 : decode cX11_underOf 16 = .ok (.getfield 34, 3) := by decide +kernel
theorem dX11_underOf_19 : decode cX11_underOf 19 = .ok (.iconst 1, 1) := by decide +kernel
theorem dX11_underOf_20 : decode cX11_underOf 20 = .ok (.iaload, 1) := by decide +kernel
theorem dX11_underOf_21 : decode cX11_underOf 21 = .ok (.if_icmp .ge 52, 3) := by decide +kernel
theorem dX11_underOf_73 : decode cX11_underOf 73 = .ok (.iinc 3 1, 3) := by decide +kernel
theorem dX11_underOf_76 : decode cX11_underOf 76 = .ok (.goto (-72), 3) := by decide +kernel
theorem dX11_underOf_24 : decode cX11_underOf 24 = .ok (.aload_n 0, 1) := by decide +kernel
theorem dX11_underOf_25 : decode cX11_underOf 25 = .ok (.getfield 47, 3) := by decide +kernel
theorem dX11_underOf_28 : decode cX11_underOf 28 = .ok (.iload 4, 2) := by decide +kernel
theorem dX11_underOf_30 : decode cX11_underOf 30 = .ok (.iaload, 1) := by decide +kernel
theorem dX11_underOf_31 : decode cX11_underOf 31 = .ok (.iload_n 1, 1) := by decide +kernel
theorem dX11_underOf_67 : decode cX11_underOf 67 = .ok (.iinc 4 1, 3) := by decide +kernel
theorem dX11_underOf_70 : decode cX11_underOf 70 = .ok (.goto (-57), 3) := by decide +kernel
theorem dX11_underOf_60 : decode cX11_underOf 60 = .ok (.iload_n 2, 1) := by decide +kernel
theorem dX11_underOf_61 : decode cX11_underOf 61 = .ok (.iconst 1, 1) := by decide +kernel
theorem dX11_underOf_62 : decode cX11_underOf 62 = .ok (.iload 4, 2) := by decide +kernel
theorem dX11_underOf_64 : decode cX11_underOf 64 = .ok (.ishl, 1) := by decide +kernel
theorem dX11_underOf_65 : decode cX11_underOf 65 = .ok (.ior, 1) := by decide +kernel
theorem dX11_underOf_66 : decode cX11_underOf 66 = .ok (.istore_n 2, 1) := by decide +kernel
theorem dX11_underOf_32 : decode cX11_underOf 32 = .ok (.if_icmp .eq 28, 3) := by decide +kernel
theorem dX11_underOf_35 : decode cX11_underOf 35 = .ok (.aload_n 0, 1) := by decide +kernel
theorem dX11_underOf_36 : decode cX11_underOf 36 = .ok (.getfield 47, 3) := by decide +kernel
theorem dX11_underOf_39 : decode cX11_underOf 39 = .ok (.iload 4, 2) := by decide +kernel
theorem dX11_underOf_41 : decode cX11_underOf 41 = .ok (.iaload, 1) := by decide +kernel
theorem dX11_underOf_42 : decode cX11_underOf 42 = .ok (.iconst (-1), 1) := by decide +kernel
theorem dX11_underOf_43 : decode cX11_underOf 43 = .ok (.if_icmp .eq 24, 3) := by decide +kernel
theorem dX11_underOf_46 : decode cX11_underOf 46 = .ok (.iload_n 2, 1) := by decide +kernel
theorem dX11_underOf_47 : decode cX11_underOf 47 = .ok (.aload_n 0, 1) := by decide +kernel
theorem dX11_underOf_48 : decode cX11_underOf 48 = .ok (.getfield 47, 3) := by decide +kernel
theorem dX11_underOf_51 : decode cX11_underOf 51 = .ok (.iload 4, 2) := by decide +kernel
theorem dX11_underOf_53 : decode cX11_underOf 53 = .ok (.iaload, 1) := by decide +kernel
set_option maxRecDepth 20000 in
theorem ggX11_underOf_X11_isBit : GoodIn wsX11_underOf wsX11_isBit := goodIn_r _ [6] (by rfl) (by decide +kernel)
set_option maxRecDepth 20000 in
theorem gX11_underOf_X11_isBit : GoodIn wsX11_underOf (va_wsS RX11 239 yX11_isBit wsX11_isBit) := goodIn_app (goodIn_r _ [3, 4, 5] (by rfl) (by decide +kernel)) ggX11_underOf_X11_isBit
theorem dX11_underOf_54 : decode cX11_underOf 54 = .ok (.invokestatic 239, 3) := by decide +kernel
theorem dX11_underOf_57 : decode cX11_underOf 57 = .ok (.ifCond .eq 10, 3) := by decide +kernel
theorem dX11_yetOf_0 : decode cX11_yetOf 0 = .ok (.aload_n 0, 1) := by decide +kernel
theorem dX11_yetOf_1 : decode cX11_yetOf 1 = .ok (.getfield 47, 3) := by decide +kernel
theorem dX11_yetOf_4 : decode cX11_yetOf 4 = .ok (.iload_n 1, 1) := by decide +kernel
theorem dX11_yetOf_5 : decode cX11_yetOf 5 = .ok (.iaload, 1) := by decide +kernel
theorem dX11_yetOf_6 : decode cX11_yetOf 6 = .ok (.iconst (-1), 1) := by decide +kernel
theorem dX11_yetOf_7 : decode cX11_yetOf 7 = .ok (.if_icmp .ne 7, 3) := by decide +kernel
theorem dX11_yetOf_14 : decode cX11_yetOf 14 = .ok (.aload_n 0, 1) := by decide +kernel
theorem dX11_yetOf_15 : decode cX11_yetOf 15 = .ok (.iload_n 1, 1) := by decide +kernel
set_option maxRecDepth 20000 in
theorem ggX11_yetOf_X11_readable : GoodIn wsX11_yetOf wsX11_readable := goodIn_r _ [7, 8, 9, 10, 11, 6, 12, 13, 14, 15, 16, 17, 18, 19, 20, 21, 22, 23, 24, 25, 26, 27, 28, 29, 30, 31, 32, 33, 34, 35, 36, 37, 38, 39, 40, 41, 42, 43, 44] (by rfl) (by decide +kernel)
set_option maxRecDepth 20000 in
theorem gX11_yetOf_X11_readable : GoodIn wsX11_yetOf (wsV RX11 236 RX11 yX11_readable wsX11_readable) := goodIn_app (goodIn_r _ [3, 4, 5, 6] (by rfl) (by decide +kernel)) ggX11_yetOf_X11_readable
theorem dX11_yetOf_16 : decode cX11_yetOf 16 = .ok (.invokevirtual 236, 3) := by decide +kernel
theorem dX11_yetOf_19 : decode cX11_yetOf 19 = .ok (.aload_n 0, 1) := by decide +kernel
theorem dX11_yetOf_20 : decode cX11_yetOf 20 = .ok (.getfield 50, 3) := by decide +kernel
theorem dX11_yetOf_23 : decode cX11_yetOf 23 = .ok (.iload_n 1, 1) := by decide +kernel
theorem dX11_yetOf_24 : decode cX11_yetOf 24 = .ok (.iaload, 1) := by decide +kernel
theorem dX11_yetOf_25 : decode cX11_yetOf 25 = .ok (.isub, 1) := by decide +kernel
theorem dX11_yetOf_26 : decode cX11_yetOf 26 = .ok (.ireturn, 1) := by decide +kernel
theorem dX11_yetOf_10 : decode cX11_yetOf 10 = .ok (.iconst 0, 1) := by decide +kernel
theorem dX11_yetOf_11 : decode cX11_yetOf 11 = .ok (.goto 15, 3) := by decide +kernel
theorem dX11_freeNow_0 : decode cX11_freeNow 0 = .ok (.iconst 0, 1) := by decide +kernel
theorem dX11_freeNow_1 : decode cX11_freeNow 1 = .ok (.istore_n 1, 1) := by decide +kernel
theorem dX11_freeNow_2 : decode cX11_freeNow 2 = .ok (.iconst 0, 1) := by decide +kernel
theorem dX11_freeNow_3 : decode cX11_freeNow 3 = .ok (.istore_n 2, 1) := by decide +kernel
theorem dX11_freeNow_4 : decode cX11_freeNow 4 = .ok (.iload_n 2, 1) := by decide +kernel
theorem dX11_freeNow_5 : decode cX11_freeNow 5 = .ok (.aload_n 0, 1) := by decide +kernel
theorem dX11_freeNow_6 : decode cX11_freeNow 6 = .ok (.getfield 34, 3) := by decide +kernel
theorem dX11_freeNow_9 : decode cX11_freeNow 9 = .ok (.iconst 1, 1) := by decide +kernel
theorem dX11_freeNow_10 : decode cX11_freeNow 10 = .ok (.iaload, 1) := by decide +kernel
theorem dX11_freeNow_11 : decode cX11_freeNow 11 = .ok (.if_icmp .ge 29, 3) := by decide +kernel
theorem dX11_freeNow_40 : decode cX11_freeNow 40 = .ok (.iload_n 1, 1) := by decide +kernel
theorem dX11_freeNow_41 : decode cX11_freeNow 41 = .ok (.ireturn, 1) := by decide +kernel
theorem dX11_freeNow_14 : decode cX11_freeNow 14 = .ok (.iload_n 1, 1) := by decide +kernel
theorem dX11_freeNow_15 : decode cX11_freeNow 15 = .ok (.aload_n 0, 1) := by decide +kernel
theorem dX11_freeNow_16 : decode cX11_freeNow 16 = .ok (.getfield 47, 3) := by decide +kernel
theorem dX11_freeNow_19 : decode cX11_freeNow 19 = .ok (.iload_n 2, 1) := by decide +kernel
theorem dX11_freeNow_20 : decode cX11_freeNow 20 = .ok (.iaload, 1) := by decide +kernel
theorem dX11_freeNow_21 : decode cX11_freeNow 21 = .ok (.iconst (-1), 1) := by decide +kernel
theorem dX11_freeNow_32 : decode cX11_freeNow 32 = .ok (.ior, 1) := by decide +kernel
theorem dX11_freeNow_33 : decode cX11_freeNow 33 = .ok (.istore_n 1, 1) := by decide +kernel
theorem dX11_freeNow_34 : decode cX11_freeNow 34 = .ok (.iinc 2 1, 3) := by decide +kernel
theorem dX11_freeNow_37 : decode cX11_freeNow 37 = .ok (.goto (-33), 3) := by decide +kernel
theorem dX11_freeNow_22 : decode cX11_freeNow 22 = .ok (.if_icmp .ne 9, 3) := by decide +kernel
theorem dX11_freeNow_31 : decode cX11_freeNow 31 = .ok (.iconst 0, 1) := by decide +kernel
theorem dX11_freeNow_25 : decode cX11_freeNow 25 = .ok (.iconst 1, 1) := by decide +kernel
theorem dX11_freeNow_26 : decode cX11_freeNow 26 = .ok (.iload_n 2, 1) := by decide +kernel
theorem dX11_freeNow_27 : decode cX11_freeNow 27 = .ok (.ishl, 1) := by decide +kernel
theorem dX11_freeNow_28 : decode cX11_freeNow 28 = .ok (.goto 4, 3) := by decide +kernel
theorem dX11_person_0 : decode cX11_person 0 = .ok (.aload_n 0, 1) := by decide +kernel
theorem dX11_person_1 : decode cX11_person 1 = .ok (.iconst 0, 1) := by decide +kernel
theorem dX11_person_2 : decode cX11_person 2 = .ok (.putfield 59, 3) := by decide +kernel
theorem dX11_person_5 : decode cX11_person 5 = .ok (.aload_n 0, 1) := by decide +kernel
theorem dX11_person_6 : decode cX11_person 6 = .ok (.iload_n 1, 1) := by decide +kernel
theorem dX11_person_7 : decode cX11_person 7 = .ok (.i2l, 1) := by decide +kernel
set_option maxRecDepth 20000 in
theorem ggX11_person_X11_isPerson : GoodIn wsX11_person wsX11_isPerson := goodIn_r _ [9, 10, 11, 12, 8, 13, 60, 61, 62, 63, 64, 65, 66, 67, 68, 69, 70, 71, 72, 73, 74, 75, 76, 77, 78, 79, 80, 81, 82, 83, 84, 85, 86, 87, 88, 89, 90] (by rfl) (by decide +kernel)
set_option maxRecDepth 20000 in
theorem gX11_person_X11_isPerson : GoodIn wsX11_person (wsV RX11 206 RX11 yX11_isPerson wsX11_isPerson) := goodIn_app (goodIn_r _ [5, 6, 7, 8] (by rfl) (by decide +kernel)) ggX11_person_X11_isPerson
theorem dX11_person_8 : decode cX11_person 8 = .ok (.invokevirtual 206, 3) := by decide +kernel
theorem dX11_person_11 : decode cX11_person 11 = .ok (.ifCond .eq 15, 3) := by decide +kernel
theorem dX11_person_26 : decode cX11_person 26 = .ok (.bipush (-2), 2) := by decide +kernel
theorem dX11_person_28 : decode cX11_person 28 = .ok (.ireturn, 1) := by decide +kernel
theorem dX11_person_14 : decode cX11_person 14 = .ok (.iload_n 2, 1) := by decide +kernel
theorem dX11_person_15 : decode cX11_person 15 = .ok (.i2l, 1) := by decide +kernel
theorem dX11_person_16 : decode cX11_person 16 = .ok (.lconst 0, 1) := by decide +kernel
theorem dX11_person_17 : decode cX11_person 17 = .ok (.ldc2_w 249, 3) := by decide +kernel
set_option maxRecDepth 20000 in
theorem ggX11_person_X11_in : GoodIn wsX11_person wsX11_in := goodIn_r _ [13] (by rfl) (by decide +kernel)
set_option maxRecDepth 20000 in
theorem gX11_person_X11_in : GoodIn wsX11_person (va_wsS RX11 64 yX11_in wsX11_in) := goodIn_app (goodIn_r _ [11, 12, 8] (by rfl) (by decide +kernel)) ggX11_person_X11_in
theorem dX11_person_20 : decode cX11_person 20 = .ok (.invokestatic 64, 3) := by decide +kernel
theorem dX11_person_23 : decode cX11_person 23 = .ok (.ifCond .ne 6, 3) := by decide +kernel
theorem dX11_person_29 : decode cX11_person 29 = .ok (.aload_n 0, 1) := by decide +kernel
set_option maxRecDepth 20000 in
theorem ggX11_person_X11_laysNow : GoodIn wsX11_person wsX11_laysNow := goodIn_r _ [17, 10, 18, 19, 20, 21, 8, 22, 3, 23, 24, 4, 25, 26, 27, 28, 29, 30, 31, 32, 33, 34, 35, 36, 37, 38, 39, 40, 41, 42, 43, 44, 45, 46, 47, 48, 49, 50, 51, 60, 61, 62, 63, 64, 65, 66, 67, 68, 69, 70, 71, 72, 73, 74, 75, 76, 77, 78, 79, 80, 81, 82, 83, 84, 85, 86, 87, 88, 89, 90] (by rfl) (by decide +kernel)
set_option maxRecDepth 20000 in
theorem gX11_person_X11_laysNow : GoodIn wsX11_person (wsV RX11 251 RX11 yX11_laysNow wsX11_laysNow) := goodIn_app (goodIn_r _ [14, 15, 16, 8] (by rfl) (by decide +kernel)) ggX11_person_X11_laysNow
theorem dX11_person_30 : decode cX11_person 30 = .ok (.invokevirtual 251, 3) := by decide +kernel
theorem dX11_person_33 : decode cX11_person 33 = .ok (.iload_n 2, 1) := by decide +kernel
theorem dX11_person_34 : decode cX11_person 34 = .ok (.tableswitch 92 0 6 #[42, 49, 56, 63, 69, 76, 85], 42) := by decide +kernel
theorem dX11_person_76 : decode cX11_person 76 = .ok (.aload_n 0, 1) := by decide +kernel
theorem dX11_person_77 : decode cX11_person 77 = .ok (.iload_n 1, 1) := by decide +kernel
theorem dX11_person_78 : decode cX11_person 78 = .ok (.iconst 0, 1) := by decide +kernel
set_option maxRecDepth 20000 in
theorem ggX11_person_X11_of : GoodIn wsX11_person wsX11_of := goodIn_r _ [31, 32, 60, 61, 62, 63, 64, 65, 66, 67, 68, 69, 70, 71, 72, 73, 74, 75, 76, 77, 78, 79, 80, 81, 82, 83, 84, 85, 86, 87, 88, 89, 90] (by rfl) (by decide +kernel)
set_option maxRecDepth 20000 in
theorem gX11_person_X11_of : GoodIn wsX11_person (wsV RX11 214 RX11 yX11_of wsX11_of) := goodIn_app (goodIn_r _ [28, 29, 30, 8] (by rfl) (by decide +kernel)) ggX11_person_X11_of
theorem dX11_person_79 : decode cX11_person 79 = .ok (.invokevirtual 214, 3) := by decide +kernel
theorem dX11_person_82 : decode cX11_person 82 = .ok (.ireturn, 1) := by decide +kernel
theorem dX11_person_83 : decode cX11_person 83 = .ok (.aload_n 0, 1) := by decide +kernel
theorem dX11_person_84 : decode cX11_person 84 = .ok (.iload_n 1, 1) := by decide +kernel
theorem dX11_person_85 : decode cX11_person 85 = .ok (.iconst 1, 1) := by decide +kernel
theorem dX11_person_86 : decode cX11_person 86 = .ok (.invokevirtual 214, 3) := by decide +kernel
theorem dX11_person_89 : decode cX11_person 89 = .ok (.ireturn, 1) := by decide +kernel
theorem dX11_person_90 : decode cX11_person 90 = .ok (.aload_n 0, 1) := by decide +kernel
theorem dX11_person_91 : decode cX11_person 91 = .ok (.getfield 47, 3) := by decide +kernel
theorem dX11_person_94 : decode cX11_person 94 = .ok (.iload_n 1, 1) := by decide +kernel
theorem dX11_person_95 : decode cX11_person 95 = .ok (.iaload, 1) := by decide +kernel
theorem dX11_person_96 : decode cX11_person 96 = .ok (.ireturn, 1) := by decide +kernel
theorem dX11_person_97 : decode cX11_person 97 = .ok (.aload_n 0, 1) := by decide +kernel
theorem dX11_person_98 : decode cX11_person 98 = .ok (.iload_n 1, 1) := by decide +kernel
set_option maxRecDepth 20000 in
theorem ggX11_person_X11_handOf : GoodIn wsX11_person wsX11_handOf := goodIn_r _ [55, 10, 3, 60, 61, 62, 63, 64, 65, 66, 67, 68, 69, 70, 71, 72, 73, 74, 75, 76, 77, 78, 79, 80, 81, 82, 83, 84, 85, 86, 87, 88, 89, 90] (by rfl) (by decide +kernel)
set_option maxRecDepth 20000 in
theorem gX11_person_X11_handOf : GoodIn wsX11_person (wsV RX11 254 RX11 yX11_handOf wsX11_handOf) := goodIn_app (goodIn_r _ [52, 53, 54, 8] (by rfl) (by decide +kernel)) ggX11_person_X11_handOf
theorem dX11_person_99 : decode cX11_person 99 = .ok (.invokevirtual 254, 3) := by decide +kernel
theorem dX11_person_102 : decode cX11_person 102 = .ok (.ireturn, 1) := by decide +kernel
theorem dX11_person_103 : decode cX11_person 103 = .ok (.aload_n 0, 1) := by decide +kernel
theorem dX11_person_104 : decode cX11_person 104 = .ok (.iload_n 1, 1) := by decide +kernel
theorem dX11_person_105 : decode cX11_person 105 = .ok (.iconst 2, 1) := by decide +kernel
theorem dX11_person_106 : decode cX11_person 106 = .ok (.invokevirtual 214, 3) := by decide +kernel
theorem dX11_person_109 : decode cX11_person 109 = .ok (.ireturn, 1) := by decide +kernel
theorem dX11_person_110 : decode cX11_person 110 = .ok (.aload_n 0, 1) := by decide +kernel
theorem dX11_person_111 : decode cX11_person 111 = .ok (.getfield 217, 3) := by decide +kernel
theorem dX11_person_114 : decode cX11_person 114 = .ok (.iload_n 1, 1) := by decide +kernel
theorem dX11_person_115 : decode cX11_person 115 = .ok (.ishr, 1) := by decide +kernel
theorem dX11_person_116 : decode cX11_person 116 = .ok (.iconst 1, 1) := by decide +kernel
theorem dX11_person_117 : decode cX11_person 117 = .ok (.iand, 1) := by decide +kernel
theorem dX11_person_118 : decode cX11_person 118 = .ok (.ireturn, 1) := by decide +kernel
theorem dX11_person_119 : decode cX11_person 119 = .ok (.aload_n 0, 1) := by decide +kernel
theorem dX11_person_120 : decode cX11_person 120 = .ok (.iload_n 1, 1) := by decide +kernel
theorem dX11_person_121 : decode cX11_person 121 = .ok (.iconst 4, 1) := by decide +kernel
theorem dX11_person_122 : decode cX11_person 122 = .ok (.invokevirtual 214, 3) := by decide +kernel
theorem dX11_person_125 : decode cX11_person 125 = .ok (.ireturn, 1) := by decide +kernel
theorem dX11_person_126 : decode cX11_person 126 = .ok (.aload_n 0, 1) := by decide +kernel
theorem dX11_person_127 : decode cX11_person 127 = .ok (.iload_n 1, 1) := by decide +kernel
set_option maxRecDepth 20000 in
theorem ggX11_person_X11_yetOf : GoodIn wsX11_person wsX11_yetOf := goodIn_r _ [59, 3, 23, 41, 42, 43, 8, 44, 10, 28, 29, 30, 31, 32, 60, 61, 62, 63, 64, 65, 66, 67, 68, 69, 70, 71, 72, 73, 74, 75, 76, 77, 78, 79, 80, 81, 82, 83, 84, 85, 86, 87, 88, 89, 90] (by rfl) (by decide +kernel)
set_option maxRecDepth 20000 in
theorem gX11_person_X11_yetOf : GoodIn wsX11_person (wsV RX11 257 RX11 yX11_yetOf wsX11_yetOf) := goodIn_app (goodIn_r _ [56, 57, 58, 8] (by rfl) (by decide +kernel)) ggX11_person_X11_yetOf
theorem dX11_person_128 : decode cX11_person 128 = .ok (.invokevirtual 257, 3) := by decide +kernel
theorem dX11_person_131 : decode cX11_person 131 = .ok (.ireturn, 1) := by decide +kernel
theorem dX11_free_0 : decode cX11_free 0 = .ok (.aload_n 0, 1) := by decide +kernel
theorem dX11_free_1 : decode cX11_free 1 = .ok (.iconst 0, 1) := by decide +kernel
theorem dX11_free_2 : decode cX11_free 2 = .ok (.putfield 59, 3) := by decide +kernel
theorem dX11_free_5 : decode cX11_free 5 = .ok (.aload_n 0, 1) := by decide +kernel
set_option maxRecDepth 20000 in
theorem ggX11_free_X11_isCity : GoodIn wsX11_free wsX11_isCity := goodIn_r _ [6, 7, 53, 54, 55, 56, 57, 58, 59, 60, 61, 62, 63, 64, 65, 66, 67, 68, 69, 70, 71, 72, 73, 74, 75, 76, 77, 78, 79, 80, 81, 82, 83] (by rfl) (by decide +kernel)
set_option maxRecDepth 20000 in
theorem gX11_free_X11_isCity : GoodIn wsX11_free (wsV RX11 209 RX11 yX11_isCity wsX11_isCity) := goodIn_app (goodIn_r _ [2, 3, 4, 5] (by rfl) (by decide +kernel)) ggX11_free_X11_isCity
theorem dX11_free_6 : decode cX11_free 6 = .ok (.invokevirtual 209, 3) := by decide +kernel
theorem dX11_free_9 : decode cX11_free 9 = .ok (.ifCond .ne 6, 3) := by decide +kernel
theorem dX11_free_15 : decode cX11_free 15 = .ok (.aload_n 0, 1) := by decide +kernel
set_option maxRecDepth 20000 in
theorem ggX11_free_X11_laysNow : GoodIn wsX11_free wsX11_laysNow := goodIn_r _ [11, 12, 13, 14, 15, 16, 5, 17, 18, 19, 20, 21, 22, 23, 24, 25, 26, 27, 28, 29, 30, 31, 32, 33, 34, 35, 36, 37, 38, 39, 40, 41, 42, 43, 44, 45, 46, 47, 48, 53, 54, 55, 56, 57, 58, 59, 60, 61, 62, 63, 64, 65, 66, 67, 68, 69, 70, 71, 72, 73, 74, 75, 76, 77, 78, 79, 80, 81, 82, 83] (by rfl) (by decide +kernel)
set_option maxRecDepth 20000 in
theorem gX11_free_X11_laysNow : GoodIn wsX11_free (wsV RX11 251 RX11 yX11_laysNow wsX11_laysNow) := goodIn_app (goodIn_r _ [8, 9, 10, 5] (by rfl) (by decide +kernel)) ggX11_free_X11_laysNow
theorem dX11_free_16 : decode cX11_free 16 = .ok (.invokevirtual 251, 3) := by decide +kernel
theorem dX11_free_19 : decode cX11_free 19 = .ok (.aload_n 0, 1) := by decide +kernel
set_option maxRecDepth 20000 in
theorem ggX11_free_X11_freeNow : GoodIn wsX11_free wsX11_freeNow := goodIn_r _ [52, 12, 18, 53, 54, 55, 56, 57, 58, 59, 60, 61, 62, 63, 64, 65, 66, 67, 68, 69, 70, 71, 72, 73, 74, 75, 76, 77, 78, 79, 80, 81, 82, 83] (by rfl) (by decide +kernel)
set_option maxRecDepth 20000 in
theorem gX11_free_X11_freeNow : GoodIn wsX11_free (wsV RX11 260 RX11 yX11_freeNow wsX11_freeNow) := goodIn_app (goodIn_r _ [49, 50, 51, 5] (by rfl) (by decide +kernel)) ggX11_free_X11_freeNow
theorem dX11_free_20 : decode cX11_free 20 = .ok (.invokevirtual 260, 3) := by decide +kernel
theorem dX11_free_23 : decode cX11_free 23 = .ok (.ireturn, 1) := by decide +kernel
theorem dX11_free_12 : decode cX11_free 12 = .ok (.bipush (-2), 2) := by decide +kernel
theorem dX11_free_14 : decode cX11_free 14 = .ok (.ireturn, 1) := by decide +kernel
set_option maxHeartbeats 4000000 in
set_option maxRecDepth 100000 in
theorem a_X11_does (l : Launch) (G : va_G) (ct : Nat → ClassId) (a0 : Nat) (n0_0 : Int32) (a1 : Nat) (a2 : Nat) (a3 : Nat) (a4 : Nat) (a5 : Nat) (n0_6 : Int32) (n0_7 : Int32) (n0_8 : Int32) (n0_9 : Int32) (n0_10 : Int32) (l0_11 : Int64) (n0_12 : Int32) (n0_13 : Int32) (n0_14 : Int32) (n0_15 : Int32) (a6 : Nat) (a7 : Nat) (a8 : Nat) (a9 : Nat) (a10 : Nat) (a11 : Nat) (a12 : Nat) (a13 : Nat) (n0_24 : Int32) (n0_25 : Int32) (n0_26 : Int32) (n0_27 : Int32) (a14 : Nat) (n0_29 : Int32) (n0_30 : Int32) (f7 : Nat → Int32) (f8 : Nat → Int32) (f11 : Nat → Int32) (f12 : Nat → Int32) (f13 : Nat → Int32) (p0 : Int32) (p1 : Int32) (p2 : Int32) (p3 : Int32) (p4 : Int32) (hp_n0_6 : rg 0 900 n0_6) (hp_f7 : hsI f7) (hp_f8 : psI f8) (hp_f11 : ar (-1) 7 f11) (hp_f13 : ar (-1) 7 f13) (hp_p1 : rg 0 7 p1) (hp_p2 : rg 0 7 p2) (hp_p3 : rg 0 7 p3) (hp_p4 : rg 0 7 p4) : Met l yX11_does wsX11_does ({ frames := 3, cells := 0, slots := 0, locals := 64 }) (va_Pc [.ref a0, .int p0, .int p1, .int p2, .int p3, .int p4] (wrP G ct [(a0, .inr (11, [.int n0_0, .ref a1, .ref a2, .ref a3, .ref a4, .ref a5, .int n0_6, .int n0_7, .int n0_8, .int n0_9, .int n0_10, .long l0_11, .int n0_12, .int n0_13, .int n0_14, .int n0_15, .ref a6, .ref a7, .ref a8, .ref a9, .ref a10, .ref a11, .ref a12, .ref a13, .int n0_24, .int n0_25, .int n0_26, .int n0_27, .ref a14, .int n0_29, .int n0_30])), (a7, .inl (ct 0, 15, .inl f7)), (a8, .inl (ct 0, 200, .inl f8)), (a11, .inl (ct 0, 8, .inl f11)), (a12, .inl (ct 0, 8, .inl f12)), (a13, .inl (ct 0, 8, .inl f13))])) (va_Qv (fun u : SU => ar (-1) 7 (u.2.1 0) ∧ ar (-1) 7 (u.2.1 2) ∧ True) (fun u t => va_P G vwCl ((fun u : SU => [(a0, .inr (11, [.int n0_0, .ref a1, .ref a2, .ref a3, .ref a4, .ref a5, .int n0_6, .int n0_7, .int n0_8, .int n0_9, .int n0_10, .long l0_11, .int n0_12, .int n0_13, .int n0_14, .int n0_15, .ref a6, .ref a7, .ref a8, .ref a9, .ref a10, .ref a11, .ref a12, .ref a13, .int (u.1 0), .int (u.1 1), .int (u.1 2), .int (u.1 3), .ref a14, .int n0_29, .int n0_30])), (a7, .inl (ct 0, 15, .inl f7)), (a8, .inl (ct 0, 200, .inl f8)), (a11, .inl (ct 0, 8, .inl (u.2.1 0))), (a12, .inl (ct 0, 8, .inl (u.2.1 1))), (a13, .inl (ct 0, 8, .inl (u.2.1 2)))]) u) t.heap) (aset [(a0, .inr (11, [.int n0_0, .ref a1, .ref a2, .ref a3, .ref a4, .ref a5, .int n0_6, .int n0_7, .int n0_8, .int n0_9, .int n0_10, .long l0_11, .int n0_12, .int n0_13, .int n0_14, .int n0_15, .ref a6, .ref a7, .ref a8, .ref a9, .ref a10, .ref a11, .ref a12, .ref a13, .int n0_24, .int n0_25, .int n0_26, .int n0_27, .ref a14, .int n0_29, .int n0_30])), (a7, .inl (ct 0, 15, .inl f7)), (a8, .inl (ct 0, 200, .inl f8)), (a11, .inl (ct 0, 8, .inl f11)), (a12, .inl (ct 0, 8, .inl f12)), (a13, .inl (ct 0, 8, .inl f13))])) 0 0 (aset [(a0, .inr (11, [.int n0_0, .ref a1, .ref a2, .ref a3, .ref a4, .ref a5, .int n0_6, .int n0_7, .int n0_8, .int n0_9, .int n0_10, .long l0_11, .int n0_12, .int n0_13, .int n0_14, .int n0_15, .ref a6, .ref a7, .ref a8, .ref a9, .ref a10, .ref a11, .ref a12, .ref a13, .int n0_24, .int n0_25, .int n0_26, .int n0_27, .ref a14, .int n0_29, .int n0_30])), (a7, .inl (ct 0, 15, .inl f7)), (a8, .inl (ct 0, 200, .inl f8)), (a11, .inl (ct 0, 8, .inl f11)), (a12, .inl (ct 0, 8, .inl f12)), (a13, .inl (ct 0, 8, .inl f13))]) := by
  refine Met.ofW (cc := cX11_does) (maxL := 7) (ret := none) (by decide) rfl ?_
  intro p e s m args below meth c s₁ B hml hv
  obtain ⟨rfl, hP, hK, hD0⟩ := hv
  have hx := B.exec
  have hb := B.bytes
  have hr := B.returns
  have hts := atoms_spec (ws := wsX11_does) B.pre
  have hown : s.vm.findClass RX11 = some m.cls := findClass_of_methodNamed B.named
  have hlocks := B.notSynchronized
  have hD := hD0.aself
  generalize hAe : aset [(a0, .inr (11, [.int n0_0, .ref a1, .ref a2, .ref a3, .ref a4, .ref a5, .int n0_6, .int n0_7, .int n0_8, .int n0_9, .int n0_10, .long l0_11, .int n0_12, .int n0_13, .int n0_14, .int n0_15, .ref a6, .ref a7, .ref a8, .ref a9, .ref a10, .ref a11, .ref a12, .ref a13, .int n0_24, .int n0_25, .int n0_26, .int n0_27, .ref a14, .int n0_29, .int n0_30])), (a7, .inl (ct 0, 15, .inl f7)), (a8, .inl (ct 0, 200, .inl f8)), (a11, .inl (ct 0, 8, .inl f11)), (a12, .inl (ct 0, 8, .inl f12)), (a13, .inl (ct 0, 8, .inl f13))] = A at hD ⊢
  have hS : va_S A s.heap s.heap [] := va_S.rf
  have hl := lv_entry ([.ref a0, .int p0, .int p1, .int p2, .int p3, .int p4]) (n := 7) (Nat.le_of_ble_eq_true rfl)
  rw [lg_entry_eq]
  generalize (lg_sl ([.ref a0, .int p0, .int p1, .int p2, .int p3, .int p4]) ++ List.replicate (7 - (lg_sl ([.ref a0, .int p0, .int p1, .int p2, .int p3, .int p4])).length) Slot.unset).toArray = ls at hl ⊢
  have hl : lv_has ls 7 [(0, .ref a0), (1, .int p0), (2, .int p1), (3, .int p2), (4, .int p3), (5, .int p4)] := hl
  refine lv_iload_n hx hb dX11_does_0 rfl (lv_at hl 1 rfl) ?_
  refine lv_if_ne (tgt := 22) hx hb dX11_does_1 (by decide) (fun c1 => ?_) (fun c1 => ?_)
  · refine lv_iload_n hx hb dX11_does_22 rfl (lv_at hl 1 rfl) ?_
    refine lv_iconst (v := 1) hx hb dX11_does_23 (by decide) ?_
    refine lv_icmp_ne (tgt := 44) hx hb dX11_does_24 (by decide) (fun c24 => ?_) (fun c24 => ?_)
    · refine lv_iload_n hx hb dX11_does_44 rfl (lv_at hl 1 rfl) ?_
      refine lv_iconst (v := 2) hx hb dX11_does_45 (by decide) ?_
      refine lv_icmp_ne (tgt := 80) hx hb dX11_does_46 (by decide) (fun c46 => ?_) (fun c46 => ?_)
      · refine lv_iload_n hx hb dX11_does_80 rfl (lv_at hl 1 rfl) ?_
        refine lv_iconst (v := 3) hx hb dX11_does_81 (by decide) ?_
        refine lv_icmp_ne (tgt := 119) hx hb dX11_does_82 (by decide) (fun c82 => ?_) (fun c82 => ?_)
        · refine lv_aload_n hx hb dX11_does_119 rfl (lv_at hl 0 rfl) ?_
          refine wj_callv (wr := [(a8, .inl (ct 0, 200, .inl f8)), (a12, .inl (ct 0, 8, .inl f12))]) (w1 := (fun u : SU => [(a0, .inr (11, [.int n0_0, .ref a1, .ref a2, .ref a3, .ref a4, .ref a5, .int n0_6, .int n0_7, .int n0_8, .int n0_9, .int n0_10, .long l0_11, .int n0_12, .int n0_13, .int n0_14, .int n0_15, .ref a6, .ref a7, .ref a8, .ref a9, .ref a10, .ref a11, .ref a12, .ref a13, .int (u.1 0), .int (u.1 1), .int (u.1 2), .int n0_27, .ref a14, .int n0_29, .int n0_30])), (a7, .inl (ct 0, 15, .inl f7)), (a11, .inl (ct 0, 8, .inl (u.2.1 0))), (a13, .inl (ct 0, 8, .inl f13))])) (va_runV (As := []) (rest := []) ⟨hx, hb, hml, hown, hts⟩ (a_X11_dayEnds l G ct a0 n0_0 a1 a2 a3 a4 a5 n0_6 n0_7 n0_8 n0_9 n0_10 l0_11 n0_12 n0_13 n0_14 n0_15 a6 a7 a8 a9 a10 a11 a12 a13 n0_24 n0_25 n0_26 n0_27 a14 n0_29 n0_30 f7 f11 f13 hp_n0_6 hp_f7 hp_f11 hp_f13) (cwV 0 hts gX11_does_X11_dayEnds rfl rfl rfl (by decide +kernel) ⟨Nat.le_of_ble_eq_true rfl, Nat.le_of_ble_eq_true rfl⟩) (wr_preV 11 0 hK (hP.sub [0, 1, 3, 5] rfl) (hD.sub [0, 1, 3, 5] (by decide) rfl) rfl rfl) rfl rfl hl.1 rfl (lv_room (Nat.le_of_ble_eq_true rfl)) dX11_does_120 ⟨Nat.zero_le _, Nat.zero_le _⟩) hS hP hD [0, 1, 3, 5] [2, 4] rfl rfl (by decide) (fun _ => rfl) (fun ur120 H locs wr120 hP hD hS => ?_)
          have hP : va_P G vwCl [(a0, .inr (11, [.int n0_0, .ref a1, .ref a2, .ref a3, .ref a4, .ref a5, .int n0_6, .int n0_7, .int n0_8, .int n0_9, .int n0_10, .long l0_11, .int n0_12, .int n0_13, .int n0_14, .int n0_15, .ref a6, .ref a7, .ref a8, .ref a9, .ref a10, .ref a11, .ref a12, .ref a13, .int (ur120.1 0), .int (ur120.1 1), .int (ur120.1 2), .int n0_27, .ref a14, .int n0_29, .int n0_30])), (a7, .inl (ct 0, 15, .inl f7)), (a8, .inl (ct 0, 200, .inl f8)), (a11, .inl (ct 0, 8, .inl (ur120.2.1 0))), (a12, .inl (ct 0, 8, .inl f12)), (a13, .inl (ct 0, 8, .inl f13))] H := hP.sub [2, 3, 0, 4, 1, 5] rfl
          have hD : va_D A [(a0, .inr (11, [.int n0_0, .ref a1, .ref a2, .ref a3, .ref a4, .ref a5, .int n0_6, .int n0_7, .int n0_8, .int n0_9, .int n0_10, .long l0_11, .int n0_12, .int n0_13, .int n0_14, .int n0_15, .ref a6, .ref a7, .ref a8, .ref a9, .ref a10, .ref a11, .ref a12, .ref a13, .int (ur120.1 0), .int (ur120.1 1), .int (ur120.1 2), .int n0_27, .ref a14, .int n0_29, .int n0_30])), (a7, .inl (ct 0, 15, .inl f7)), (a8, .inl (ct 0, 200, .inl f8)), (a11, .inl (ct 0, 8, .inl (ur120.2.1 0))), (a12, .inl (ct 0, 8, .inl f12)), (a13, .inl (ct 0, 8, .inl f13))] := hD.sub [2, 3, 0, 4, 1, 5] (by decide) rfl
          obtain ⟨p_1, p_2, p_3, -⟩ := wr120
          exact W.vret hx hb hr (fun t ht hW => ⟨⟨(fun k => ([ur120.1 0, ur120.1 1, ur120.1 2, n0_27] : List Int32).getD k 0, fun k => ([ur120.2.1 0, f12, f13] : List (Nat → Int32)).getD k (fun _ => 0), fun k => ([] : List (Nat → Int64)).getD k (fun _ => 0)), rfl, ⟨p_1, hp_f13, trivial⟩, hp_at ht hP⟩, hS.F ht⟩) hS.2.2 dX11_does_123
        · have h_4 : rg 3 3 p0 := r_eq_l_i (e := 3) (f := 3) c82 (rg_t p0) (rgn 3 (x := 3) (by decide)) (by decide)
          refine lv_aload_n hx hb dX11_does_85 rfl (lv_at hl 0 rfl) ?_
          refine va_get (D := G) (ci := 11) (v := .ref a13) (C := RX11) (T := TX11) (N := 31) hx hb hts (by decide +kernel) hown hK.1 hP 0 rfl rfl 23 (by decide) (hts (.fieldLink RX11 53 "CardHolderModel" "had" "[I") (by decide +kernel)) (fun _ h9 => h9) rfl dX11_does_86 ?_
          refine lv_iload_n hx hb dX11_does_89 rfl (lv_at hl 3 rfl) ?_
          refine lv_aload_n hx hb dX11_does_90 rfl (lv_at hl 0 rfl) ?_
          refine va_get (D := G) (ci := 11) (v := .ref a11) (C := RX11) (T := TX11) (N := 31) hx hb hts (by decide +kernel) hown hK.1 hP 0 rfl rfl 21 (by decide) (hts (.fieldLink RX11 47 "CardHolderModel" "holder" "[I") (by decide +kernel)) (fun _ h9 => h9) rfl dX11_does_91 ?_
          refine lv_iload_n hx hb dX11_does_94 rfl (lv_at hl 3 rfl) ?_
          refine va_iald hx hb hK.1 hP 3 0 rfl rfl (in_rg hp_p2 (by decide)) dX11_does_95 ?_
          refine lv_topi (fun z95 gz95 => ?_)
          have hz95 : rg (-1) 7 z95 := by rw [gz95]; exact hp_f11 _
          refine va_iast hx hb hK.1 hP hD hS 5 0 rfl rfl (in_rg hp_p2 (by decide)) dX11_does_96 (fun H locs hP hD hS => ?_)
          have h_5 : ar (-1) 7 (upd f13 p2.toNatClampNeg z95) := ar_u hp_f13 hz95
          refine lv_aload_n hx hb dX11_does_97 rfl (lv_at hl 0 rfl) ?_
          refine va_get (D := G) (ci := 11) (v := .ref a11) (C := RX11) (T := TX11) (N := 31) hx hb hts (by decide +kernel) hown hK.1 hP 0 rfl rfl 21 (by decide) (hts (.fieldLink RX11 47 "CardHolderModel" "holder" "[I") (by decide +kernel)) (fun _ h9 => h9) rfl dX11_does_98 ?_
          refine lv_iload_n hx hb dX11_does_101 rfl (lv_at hl 3 rfl) ?_
          refine lv_iload_n hx hb dX11_does_102 rfl (lv_at hl 2 rfl) ?_
          refine va_iast hx hb hK.1 hP hD hS 3 0 rfl rfl (in_rg hp_p2 (by decide)) dX11_does_103 (fun H locs hP hD hS => ?_)
          have h_6 : ar (-1) 7 (upd f11 p2.toNatClampNeg p1) := ar_u hp_f11 (rg_w (c := (-1)) (d := 7) hp_p1 (by decide))
          refine lv_aload_n hx hb dX11_does_104 rfl (lv_at hl 0 rfl) ?_
          refine lv_dup hx hb dX11_does_105 rfl ?_
          refine va_get (D := G) (ci := 11) (v := .int n0_25) (C := RX11) (T := TX11) (N := 31) hx hb hts (by decide +kernel) hown hK.1 hP 0 rfl rfl 25 (by decide) (hts (.fieldLink RX11 220 "CardHolderModel" "stolen" "I") (by decide +kernel)) (fun _ h9 => h9) rfl dX11_does_106 ?_
          refine lv_iconst (v := 1) hx hb dX11_does_109 (by decide) ?_
          refine lv_iload_n hx hb dX11_does_110 rfl (lv_at hl 3 rfl) ?_
          refine lv_ishl hx hb dX11_does_111 ?_
          refine nm_shl (e1 := 1) (f := 128) hp_p2 (by decide) (fun z111 hz111 => ?_)
          refine lv_ior hx hb dX11_does_112 ?_
          refine nm_0 (fun z112 => ?_)
          refine va_put (D := G) (ci := 11) (v := .int z112) (ty := .int) (C := RX11) (T := TX11) (N := 31) hx hb hts (by decide +kernel) tyX11 tyX11_ok nmX11 hown hK.1 hP hD hS 0 rfl rfl 25 (by decide) (hts (.fieldLink RX11 220 "CardHolderModel" "stolen" "I") (by decide +kernel)) (fun _ h9 => h9) rfl (by decide +kernel) rfl rfl (Nat.le_of_ble_eq_true rfl) dX11_does_113 (fun H locs hP hD hS => ?_)
          refine lv_goto (tgt := 123) hx hb dX11_does_116 (by decide) ?_
          exact W.vret hx hb hr (fun t ht hW => ⟨⟨(fun k => ([n0_24, z112, n0_26, n0_27] : List Int32).getD k 0, fun k => ([upd f11 p2.toNatClampNeg p1, f12, upd f13 p2.toNatClampNeg z95] : List (Nat → Int32)).getD k (fun _ => 0), fun k => ([] : List (Nat → Int64)).getD k (fun _ => 0)), rfl, ⟨h_6, h_5, trivial⟩, hp_at ht hP⟩, hS.F ht⟩) hS.2.2 dX11_does_123
      · have h_7 : rg 2 2 p0 := r_eq_l_i (e := 2) (f := 2) c46 (rg_t p0) (rgn 2 (x := 2) (by decide)) (by decide)
        refine lv_aload_n hx hb dX11_does_49 rfl (lv_at hl 0 rfl) ?_
        refine va_get (D := G) (ci := 11) (v := .ref a11) (C := RX11) (T := TX11) (N := 31) hx hb hts (by decide +kernel) hown hK.1 hP 0 rfl rfl 21 (by decide) (hts (.fieldLink RX11 47 "CardHolderModel" "holder" "[I") (by decide +kernel)) (fun _ h9 => h9) rfl dX11_does_50 ?_
        refine lv_iload_n hx hb dX11_does_53 rfl (lv_at hl 2 rfl) ?_
        refine va_iald hx hb hK.1 hP 3 0 rfl rfl (in_rg hp_p1 (by decide)) dX11_does_54 ?_
        refine lv_topi (fun z54 gz54 => ?_)
        have hz54 : rg (-1) 7 z54 := by rw [gz54]; exact hp_f11 _
        refine lv_istore (lv' := [(6, .int z54), (0, .ref a0), (1, .int p0), (2, .int p1), (3, .int p2), (4, .int p3), (5, .int p4)]) hx hb dX11_does_55 hl (by decide) rfl (fun ls hl => ?_)
        refine lv_aload_n hx hb dX11_does_57 rfl (lv_at hl 1 rfl) ?_
        refine va_get (D := G) (ci := 11) (v := .ref a11) (C := RX11) (T := TX11) (N := 31) hx hb hts (by decide +kernel) hown hK.1 hP 0 rfl rfl 21 (by decide) (hts (.fieldLink RX11 47 "CardHolderModel" "holder" "[I") (by decide +kernel)) (fun _ h9 => h9) rfl dX11_does_58 ?_
        refine lv_iload_n hx hb dX11_does_61 rfl (lv_at hl 3 rfl) ?_
        refine lv_aload_n hx hb dX11_does_62 rfl (lv_at hl 1 rfl) ?_
        refine va_get (D := G) (ci := 11) (v := .ref a11) (C := RX11) (T := TX11) (N := 31) hx hb hts (by decide +kernel) hown hK.1 hP 0 rfl rfl 21 (by decide) (hts (.fieldLink RX11 47 "CardHolderModel" "holder" "[I") (by decide +kernel)) (fun _ h9 => h9) rfl dX11_does_63 ?_
        refine lv_iload_n hx hb dX11_does_66 rfl (lv_at hl 4 rfl) ?_
        refine va_iald hx hb hK.1 hP 3 0 rfl rfl (in_rg hp_p2 (by decide)) dX11_does_67 ?_
        refine lv_topi (fun z67 gz67 => ?_)
        have hz67 : rg (-1) 7 z67 := by rw [gz67]; exact hp_f11 _
        refine va_iast hx hb hK.1 hP hD hS 3 0 rfl rfl (in_rg hp_p1 (by decide)) dX11_does_68 (fun H locs hP hD hS => ?_)
        have h_8 : ar (-1) 7 (upd f11 p1.toNatClampNeg z67) := ar_u hp_f11 hz67
        refine lv_aload_n hx hb dX11_does_69 rfl (lv_at hl 1 rfl) ?_
        refine va_get (D := G) (ci := 11) (v := .ref a11) (C := RX11) (T := TX11) (N := 31) hx hb hts (by decide +kernel) hown hK.1 hP 0 rfl rfl 21 (by decide) (hts (.fieldLink RX11 47 "CardHolderModel" "holder" "[I") (by decide +kernel)) (fun _ h9 => h9) rfl dX11_does_70 ?_
        refine lv_iload_n hx hb dX11_does_73 rfl (lv_at hl 4 rfl) ?_
        refine lv_iload hx hb dX11_does_74 (lv_at hl 0 rfl) ?_
        refine va_iast hx hb hK.1 hP hD hS 3 0 rfl rfl (in_rg hp_p2 (by decide)) dX11_does_76 (fun H locs hP hD hS => ?_)
        have h_9 : ar (-1) 7 (upd (upd f11 p1.toNatClampNeg z67) p2.toNatClampNeg z54) := ar_u h_8 hz54
        refine lv_goto (tgt := 123) hx hb dX11_does_77 (by decide) ?_
        exact W.vret hx hb hr (fun t ht hW => ⟨⟨(fun k => ([n0_24, n0_25, n0_26, n0_27] : List Int32).getD k 0, fun k => ([upd (upd f11 p1.toNatClampNeg z67) p2.toNatClampNeg z54, f12, f13] : List (Nat → Int32)).getD k (fun _ => 0), fun k => ([] : List (Nat → Int64)).getD k (fun _ => 0)), rfl, ⟨h_9, hp_f13, trivial⟩, hp_at ht hP⟩, hS.F ht⟩) hS.2.2 dX11_does_123
    · have h_10 : rg 1 1 p0 := r_eq_l_i (e := 1) (f := 1) c24 (rg_t p0) (rgn 1 (x := 1) (by decide)) (by decide)
      refine lv_aload_n hx hb dX11_does_27 rfl (lv_at hl 0 rfl) ?_
      refine va_get (D := G) (ci := 11) (v := .ref a11) (C := RX11) (T := TX11) (N := 31) hx hb hts (by decide +kernel) hown hK.1 hP 0 rfl rfl 21 (by decide) (hts (.fieldLink RX11 47 "CardHolderModel" "holder" "[I") (by decide +kernel)) (fun _ h9 => h9) rfl dX11_does_28 ?_
      refine lv_iload hx hb dX11_does_31 (lv_at hl 4 rfl) ?_
      refine lv_iload hx hb dX11_does_33 (lv_at hl 5 rfl) ?_
      refine va_iast hx hb hK.1 hP hD hS 3 0 rfl rfl (in_rg hp_p3 (by decide)) dX11_does_35 (fun H locs hP hD hS => ?_)
      have h_11 : ar (-1) 7 (upd f11 p3.toNatClampNeg p4) := ar_u hp_f11 (rg_w (c := (-1)) (d := 7) hp_p4 (by decide))
      refine lv_aload_n hx hb dX11_does_36 rfl (lv_at hl 0 rfl) ?_
      refine lv_iload_n hx hb dX11_does_37 rfl (lv_at hl 3 rfl) ?_
      refine wj_callv (wr := [(a13, .inl (ct 0, 8, .inl f13))]) (w1 := (fun u : SU => [(a0, .inr (11, [.int n0_0, .ref a1, .ref a2, .ref a3, .ref a4, .ref a5, .int n0_6, .int n0_7, .int n0_8, .int n0_9, .int n0_10, .long l0_11, .int n0_12, .int n0_13, .int n0_14, .int n0_15, .ref a6, .ref a7, .ref a8, .ref a9, .ref a10, .ref a11, .ref a12, .ref a13, .int (u.1 0), .int n0_25, .int n0_26, .int n0_27, .ref a14, .int n0_29, .int n0_30])), (a7, .inl (ct 0, 15, .inl f7)), (a8, .inl (ct 0, 200, .inl f8)), (a11, .inl (ct 0, 8, .inl (u.2.1 0))), (a12, .inl (ct 0, 8, .inl (u.2.1 1)))])) (va_runV (As := [.int p2]) (rest := []) ⟨hx, hb, hml, hown, hts⟩ (a_X11_isAsked l G ct a0 n0_0 a1 a2 a3 a4 a5 n0_6 n0_7 n0_8 n0_9 n0_10 l0_11 n0_12 n0_13 n0_14 n0_15 a6 a7 a8 a9 a10 a11 a12 a13 n0_24 n0_25 n0_26 n0_27 a14 n0_29 n0_30 f7 f8 (upd f11 p3.toNatClampNeg p4) f12 p2 hp_n0_6 hp_f7 hp_f8 h_11 hp_p2) (cwV 1 hts gX11_does_X11_isAsked rfl rfl rfl (by decide +kernel) ⟨Nat.le_of_ble_eq_true rfl, Nat.le_of_ble_eq_true rfl⟩) (wr_preV 11 0 hK (hP.sub [0, 1, 2, 3, 4] rfl) (hD.sub [0, 1, 2, 3, 4] (by decide) rfl) rfl rfl) rfl rfl hl.1 rfl (lv_room (Nat.le_of_ble_eq_true rfl)) dX11_does_38 ⟨Nat.zero_le _, Nat.zero_le _⟩) hS hP hD [0, 1, 2, 3, 4] [5] rfl rfl (by decide) (fun _ => rfl) (fun ur38 H locs wr38 hP hD hS => ?_)
      have hP : va_P G vwCl [(a0, .inr (11, [.int n0_0, .ref a1, .ref a2, .ref a3, .ref a4, .ref a5, .int n0_6, .int n0_7, .int n0_8, .int n0_9, .int n0_10, .long l0_11, .int n0_12, .int n0_13, .int n0_14, .int n0_15, .ref a6, .ref a7, .ref a8, .ref a9, .ref a10, .ref a11, .ref a12, .ref a13, .int (ur38.1 0), .int n0_25, .int n0_26, .int n0_27, .ref a14, .int n0_29, .int n0_30])), (a7, .inl (ct 0, 15, .inl f7)), (a8, .inl (ct 0, 200, .inl f8)), (a11, .inl (ct 0, 8, .inl (ur38.2.1 0))), (a12, .inl (ct 0, 8, .inl (ur38.2.1 1))), (a13, .inl (ct 0, 8, .inl f13))] H := hP.sub [1, 2, 3, 4, 5, 0] rfl
      have hD : va_D A [(a0, .inr (11, [.int n0_0, .ref a1, .ref a2, .ref a3, .ref a4, .ref a5, .int n0_6, .int n0_7, .int n0_8, .int n0_9, .int n0_10, .long l0_11, .int n0_12, .int n0_13, .int n0_14, .int n0_15, .ref a6, .ref a7, .ref a8, .ref a9, .ref a10, .ref a11, .ref a12, .ref a13, .int (ur38.1 0), .int n0_25, .int n0_26, .int n0_27, .ref a14, .int n0_29, .int n0_30])), (a7, .inl (ct 0, 15, .inl f7)), (a8, .inl (ct 0, 200, .inl f8)), (a11, .inl (ct 0, 8, .inl (ur38.2.1 0))), (a12, .inl (ct 0, 8, .inl (ur38.2.1 1))), (a13, .inl (ct 0, 8, .inl f13))] := hD.sub [1, 2, 3, 4, 5, 0] (by decide) rfl
      obtain ⟨p_12, -⟩ := wr38
      refine lv_goto (tgt := 123) hx hb dX11_does_41 (by decide) ?_
      exact W.vret hx hb hr (fun t ht hW => ⟨⟨(fun k => ([ur38.1 0, n0_25, n0_26, n0_27] : List Int32).getD k 0, fun k => ([ur38.2.1 0, ur38.2.1 1, f13] : List (Nat → Int32)).getD k (fun _ => 0), fun k => ([] : List (Nat → Int64)).getD k (fun _ => 0)), rfl, ⟨p_12, hp_f13, trivial⟩, hp_at ht hP⟩, hS.F ht⟩) hS.2.2 dX11_does_123
  · have h_13 : rg 0 0 p0 := r_eq_l_i (e := 0) (f := 0) c1 (rg_t p0) (rgn 0 (x := 0) (by decide)) (by decide)
    refine lv_aload_n hx hb dX11_does_4 rfl (lv_at hl 0 rfl) ?_
    refine lv_iload_n hx hb dX11_does_5 rfl (lv_at hl 3 rfl) ?_
    refine wj_callv (wr := [(a13, .inl (ct 0, 8, .inl f13))]) (w1 := (fun u : SU => [(a0, .inr (11, [.int n0_0, .ref a1, .ref a2, .ref a3, .ref a4, .ref a5, .int n0_6, .int n0_7, .int n0_8, .int n0_9, .int n0_10, .long l0_11, .int n0_12, .int n0_13, .int n0_14, .int n0_15, .ref a6, .ref a7, .ref a8, .ref a9, .ref a10, .ref a11, .ref a12, .ref a13, .int (u.1 0), .int n0_25, .int n0_26, .int n0_27, .ref a14, .int n0_29, .int n0_30])), (a7, .inl (ct 0, 15, .inl f7)), (a8, .inl (ct 0, 200, .inl f8)), (a11, .inl (ct 0, 8, .inl (u.2.1 0))), (a12, .inl (ct 0, 8, .inl (u.2.1 1)))])) (va_runV (As := [.int p2]) (rest := []) ⟨hx, hb, hml, hown, hts⟩ (a_X11_isAsked l G ct a0 n0_0 a1 a2 a3 a4 a5 n0_6 n0_7 n0_8 n0_9 n0_10 l0_11 n0_12 n0_13 n0_14 n0_15 a6 a7 a8 a9 a10 a11 a12 a13 n0_24 n0_25 n0_26 n0_27 a14 n0_29 n0_30 f7 f8 f11 f12 p2 hp_n0_6 hp_f7 hp_f8 hp_f11 hp_p2) (cwV 1 hts gX11_does_X11_isAsked rfl rfl rfl (by decide +kernel) ⟨Nat.le_of_ble_eq_true rfl, Nat.le_of_ble_eq_true rfl⟩) (wr_preV 11 0 hK (hP.sub [0, 1, 2, 3, 4] rfl) (hD.sub [0, 1, 2, 3, 4] (by decide) rfl) rfl rfl) rfl rfl hl.1 rfl (lv_room (Nat.le_of_ble_eq_true rfl)) dX11_does_6 ⟨Nat.zero_le _, Nat.zero_le _⟩) hS hP hD [0, 1, 2, 3, 4] [5] rfl rfl (by decide) (fun _ => rfl) (fun ur6 H locs wr6 hP hD hS => ?_)
    have hP : va_P G vwCl [(a0, .inr (11, [.int n0_0, .ref a1, .ref a2, .ref a3, .ref a4, .ref a5, .int n0_6, .int n0_7, .int n0_8, .int n0_9, .int n0_10, .long l0_11, .int n0_12, .int n0_13, .int n0_14, .int n0_15, .ref a6, .ref a7, .ref a8, .ref a9, .ref a10, .ref a11, .ref a12, .ref a13, .int (ur6.1 0), .int n0_25, .int n0_26, .int n0_27, .ref a14, .int n0_29, .int n0_30])), (a7, .inl (ct 0, 15, .inl f7)), (a8, .inl (ct 0, 200, .inl f8)), (a11, .inl (ct 0, 8, .inl (ur6.2.1 0))), (a12, .inl (ct 0, 8, .inl (ur6.2.1 1))), (a13, .inl (ct 0, 8, .inl f13))] H := hP.sub [1, 2, 3, 4, 5, 0] rfl
    have hD : va_D A [(a0, .inr (11, [.int n0_0, .ref a1, .ref a2, .ref a3, .ref a4, .ref a5, .int n0_6, .int n0_7, .int n0_8, .int n0_9, .int n0_10, .long l0_11, .int n0_12, .int n0_13, .int n0_14, .int n0_15, .ref a6, .ref a7, .ref a8, .ref a9, .ref a10, .ref a11, .ref a12, .ref a13, .int (ur6.1 0), .int n0_25, .int n0_26, .int n0_27, .ref a14, .int n0_29, .int n0_30])), (a7, .inl (ct 0, 15, .inl f7)), (a8, .inl (ct 0, 200, .inl f8)), (a11, .inl (ct 0, 8, .inl (ur6.2.1 0))), (a12, .inl (ct 0, 8, .inl (ur6.2.1 1))), (a13, .inl (ct 0, 8, .inl f13))] := hD.sub [1, 2, 3, 4, 5, 0] (by decide) rfl
    obtain ⟨p_14, -⟩ := wr6
    refine lv_aload_n hx hb dX11_does_9 rfl (lv_at hl 0 rfl) ?_
    refine lv_dup hx hb dX11_does_10 rfl ?_
    refine va_get (D := G) (ci := 11) (v := .int n0_27) (C := RX11) (T := TX11) (N := 31) hx hb hts (by decide +kernel) hown hK.1 hP 0 rfl rfl 27 (by decide) (hts (.fieldLink RX11 226 "CardHolderModel" "done" "I") (by decide +kernel)) (fun _ h9 => h9) rfl dX11_does_11 ?_
    refine lv_iconst (v := 1) hx hb dX11_does_14 (by decide) ?_
    refine lv_iadd hx hb dX11_does_15 ?_
    refine nm_0 (fun z15 => ?_)
    refine va_put (D := G) (ci := 11) (v := .int z15) (ty := .int) (C := RX11) (T := TX11) (N := 31) hx hb hts (by decide +kernel) tyX11 tyX11_ok nmX11 hown hK.1 hP hD hS 0 rfl rfl 27 (by decide) (hts (.fieldLink RX11 226 "CardHolderModel" "done" "I") (by decide +kernel)) (fun _ h9 => h9) rfl (by decide +kernel) rfl rfl (Nat.le_of_ble_eq_true rfl) dX11_does_16 (fun H locs hP hD hS => ?_)
    refine lv_goto (tgt := 123) hx hb dX11_does_19 (by decide) ?_
    exact W.vret hx hb hr (fun t ht hW => ⟨⟨(fun k => ([ur6.1 0, n0_25, n0_26, z15] : List Int32).getD k 0, fun k => ([ur6.2.1 0, ur6.2.1 1, f13] : List (Nat → Int32)).getD k (fun _ => 0), fun k => ([] : List (Nat → Int64)).getD k (fun _ => 0)), rfl, ⟨p_14, hp_f13, trivial⟩, hp_at ht hP⟩, hS.F ht⟩) hS.2.2 dX11_does_123

set_option maxHeartbeats 4000000 in
set_option maxRecDepth 100000 in
theorem a_X11_laysNow (l : Launch) (G : va_G) (ct : Nat → ClassId) (a0 : Nat) (n0_0 : Int32) (a1 : Nat) (a2 : Nat) (a3 : Nat) (a4 : Nat) (a5 : Nat) (n0_6 : Int32) (n0_7 : Int32) (n0_8 : Int32) (n0_9 : Int32) (n0_10 : Int32) (l0_11 : Int64) (n0_12 : Int32) (n0_13 : Int32) (n0_14 : Int32) (n0_15 : Int32) (a6 : Nat) (a7 : Nat) (a8 : Nat) (a9 : Nat) (a10 : Nat) (a11 : Nat) (a12 : Nat) (a13 : Nat) (n0_24 : Int32) (n0_25 : Int32) (n0_26 : Int32) (n0_27 : Int32) (a14 : Nat) (n0_29 : Int32) (n0_30 : Int32) (f7 : Nat → Int32) (f8 : Nat → Int32) (f9 : Nat → Int32) (f11 : Nat → Int32) (f12 : Nat → Int32) (f13 : Nat → Int32) (hp_n0_6 : rg 0 900 n0_6) (hp_f7 : hsI f7) (hp_f8 : psI f8) (hp_f9 : ar 0 7 f9) (hp_f11 : ar (-1) 7 f11) (hp_f13 : ar (-1) 7 f13) : Met l yX11_laysNow wsX11_laysNow ({ frames := 4, cells := 0, slots := 0, locals := 90 }) (va_Pc [.ref a0] (wrP G ct [(a0, .inr (11, [.int n0_0, .ref a1, .ref a2, .ref a3, .ref a4, .ref a5, .int n0_6, .int n0_7, .int n0_8, .int n0_9, .int n0_10, .long l0_11, .int n0_12, .int n0_13, .int n0_14, .int n0_15, .ref a6, .ref a7, .ref a8, .ref a9, .ref a10, .ref a11, .ref a12, .ref a13, .int n0_24, .int n0_25, .int n0_26, .int n0_27, .ref a14, .int n0_29, .int n0_30])), (a7, .inl (ct 0, 15, .inl f7)), (a8, .inl (ct 0, 200, .inl f8)), (a9, .inl (ct 0, 1000, .inl f9)), (a11, .inl (ct 0, 8, .inl f11)), (a12, .inl (ct 0, 8, .inl f12)), (a13, .inl (ct 0, 8, .inl f13))])) (va_Qv (fun u : SU => ar (-1) 7 (u.2.1 0) ∧ ar (-1) 7 (u.2.1 2) ∧ True) (fun u t => va_P G vwCl ((fun u : SU => [(a0, .inr (11, [.int n0_0, .ref a1, .ref a2, .ref a3, .ref a4, .ref a5, .int n0_6, .int n0_7, .int n0_8, .int n0_9, .int n0_10, .long l0_11, .int n0_12, .int n0_13, .int n0_14, .int n0_15, .ref a6, .ref a7, .ref a8, .ref a9, .ref a10, .ref a11, .ref a12, .ref a13, .int (u.1 0), .int (u.1 1), .int (u.1 2), .int (u.1 3), .ref a14, .int n0_29, .int n0_30])), (a7, .inl (ct 0, 15, .inl f7)), (a8, .inl (ct 0, 200, .inl f8)), (a9, .inl (ct 0, 1000, .inl f9)), (a11, .inl (ct 0, 8, .inl (u.2.1 0))), (a12, .inl (ct 0, 8, .inl (u.2.1 1))), (a13, .inl (ct 0, 8, .inl (u.2.1 2)))]) u) t.heap) (aset [(a0, .inr (11, [.int n0_0, .ref a1, .ref a2, .ref a3, .ref a4, .ref a5, .int n0_6, .int n0_7, .int n0_8, .int n0_9, .int n0_10, .long l0_11, .int n0_12, .int n0_13, .int n0_14, .int n0_15, .ref a6, .ref a7, .ref a8, .ref a9, .ref a10, .ref a11, .ref a12, .ref a13, .int n0_24, .int n0_25, .int n0_26, .int n0_27, .ref a14, .int n0_29, .int n0_30])), (a7, .inl (ct 0, 15, .inl f7)), (a8, .inl (ct 0, 200, .inl f8)), (a9, .inl (ct 0, 1000, .inl f9)), (a11, .inl (ct 0, 8, .inl f11)), (a12, .inl (ct 0, 8, .inl f12)), (a13, .inl (ct 0, 8, .inl f13))])) 0 0 (aset [(a0, .inr (11, [.int n0_0, .ref a1, .ref a2, .ref a3, .ref a4, .ref a5, .int n0_6, .int n0_7, .int n0_8, .int n0_9, .int n0_10, .long l0_11, .int n0_12, .int n0_13, .int n0_14, .int n0_15, .ref a6, .ref a7, .ref a8, .ref a9, .ref a10, .ref a11, .ref a12, .ref a13, .int n0_24, .int n0_25, .int n0_26, .int n0_27, .ref a14, .int n0_29, .int n0_30])), (a7, .inl (ct 0, 15, .inl f7)), (a8, .inl (ct 0, 200, .inl f8)), (a9, .inl (ct 0, 1000, .inl f9)), (a11, .inl (ct 0, 8, .inl f11)), (a12, .inl (ct 0, 8, .inl f12)), (a13, .inl (ct 0, 8, .inl f13))]) := by
  refine Met.ofW (cc := cX11_laysNow) (maxL := 2) (ret := none) (by decide) rfl ?_
  intro p e s m args below meth c s₁ B hml hv
  obtain ⟨rfl, hP, hK, hD0⟩ := hv
  have hx := B.exec
  have hb := B.bytes
  have hr := B.returns
  have hts := atoms_spec (ws := wsX11_laysNow) B.pre
  have hown : s.vm.findClass RX11 = some m.cls := findClass_of_methodNamed B.named
  have hlocks := B.notSynchronized
  have hD := hD0.aself
  generalize hAe : aset [(a0, .inr (11, [.int n0_0, .ref a1, .ref a2, .ref a3, .ref a4, .ref a5, .int n0_6, .int n0_7, .int n0_8, .int n0_9, .int n0_10, .long l0_11, .int n0_12, .int n0_13, .int n0_14, .int n0_15, .ref a6, .ref a7, .ref a8, .ref a9, .ref a10, .ref a11, .ref a12, .ref a13, .int n0_24, .int n0_25, .int n0_26, .int n0_27, .ref a14, .int n0_29, .int n0_30])), (a7, .inl (ct 0, 15, .inl f7)), (a8, .inl (ct 0, 200, .inl f8)), (a9, .inl (ct 0, 1000, .inl f9)), (a11, .inl (ct 0, 8, .inl f11)), (a12, .inl (ct 0, 8, .inl f12)), (a13, .inl (ct 0, 8, .inl f13))] = A at hD ⊢
  have hS : va_S A s.heap s.heap [] := va_S.rf
  have hl := lv_entry ([.ref a0]) (n := 2) (Nat.le_of_ble_eq_true rfl)
  rw [lg_entry_eq]
  generalize (lg_sl ([.ref a0]) ++ List.replicate (2 - (lg_sl ([.ref a0])).length) Slot.unset).toArray = ls at hl ⊢
  have hl : lv_has ls 2 [(0, .ref a0)] := hl
  refine lv_aload_n hx hb dX11_laysNow_0 rfl (lv_at hl 0 rfl) ?_
  refine wj_callv (wr := [(a9, .inl (ct 0, 1000, .inl f9))]) (w1 := (fun u : SU => [(a0, .inr (11, [.int n0_0, .ref a1, .ref a2, .ref a3, .ref a4, .ref a5, .int n0_6, .int n0_7, .int n0_8, .int n0_9, .int n0_10, .long l0_11, .int n0_12, .int n0_13, .int n0_14, .int n0_15, .ref a6, .ref a7, .ref a8, .ref a9, .ref a10, .ref a11, .ref a12, .ref a13, .int (u.1 0), .int (u.1 1), .int (u.1 2), .int (u.1 3), .ref a14, .int n0_29, .int n0_30])), (a7, .inl (ct 0, 15, .inl f7)), (a8, .inl (ct 0, 200, .inl f8)), (a11, .inl (ct 0, 8, .inl (u.2.1 0))), (a12, .inl (ct 0, 8, .inl (u.2.1 1))), (a13, .inl (ct 0, 8, .inl (u.2.1 2)))])) (va_runV (As := []) (rest := []) ⟨hx, hb, hml, hown, hts⟩ (a_X11_start l G ct a0 n0_0 a1 a2 a3 a4 a5 n0_6 n0_7 n0_8 n0_9 n0_10 l0_11 n0_12 n0_13 n0_14 n0_15 a6 a7 a8 a9 a10 a11 a12 a13 n0_24 n0_25 n0_26 n0_27 a14 n0_29 n0_30 f7 f8 f11 f12 f13 hp_n0_6 hp_f7 hp_f8 hp_f11 hp_f13) (cwV 0 hts gX11_laysNow_X11_start rfl rfl rfl (by decide +kernel) ⟨Nat.le_of_ble_eq_true rfl, Nat.le_of_ble_eq_true rfl⟩) (wr_preV 11 0 hK (hP.sub [0, 1, 2, 4, 5, 6] rfl) (hD.sub [0, 1, 2, 4, 5, 6] (by decide) rfl) rfl rfl) rfl rfl hl.1 rfl (lv_room (Nat.le_of_ble_eq_true rfl)) dX11_laysNow_1 ⟨Nat.zero_le _, Nat.zero_le _⟩) hS hP hD [0, 1, 2, 4, 5, 6] [3] rfl rfl (by decide) (fun _ => rfl) (fun ur1 H locs wr1 hP hD hS => ?_)
  have hP : va_P G vwCl [(a0, .inr (11, [.int n0_0, .ref a1, .ref a2, .ref a3, .ref a4, .ref a5, .int n0_6, .int n0_7, .int n0_8, .int n0_9, .int n0_10, .long l0_11, .int n0_12, .int n0_13, .int n0_14, .int n0_15, .ref a6, .ref a7, .ref a8, .ref a9, .ref a10, .ref a11, .ref a12, .ref a13, .int (ur1.1 0), .int (ur1.1 1), .int (ur1.1 2), .int (ur1.1 3), .ref a14, .int n0_29, .int n0_30])), (a7, .inl (ct 0, 15, .inl f7)), (a8, .inl (ct 0, 200, .inl f8)), (a9, .inl (ct 0, 1000, .inl f9)), (a11, .inl (ct 0, 8, .inl (ur1.2.1 0))), (a12, .inl (ct 0, 8, .inl (ur1.2.1 1))), (a13, .inl (ct 0, 8, .inl (ur1.2.1 2)))] H := hP.sub [1, 2, 3, 0, 4, 5, 6] rfl
  have hD : va_D A [(a0, .inr (11, [.int n0_0, .ref a1, .ref a2, .ref a3, .ref a4, .ref a5, .int n0_6, .int n0_7, .int n0_8, .int n0_9, .int n0_10, .long l0_11, .int n0_12, .int n0_13, .int n0_14, .int n0_15, .ref a6, .ref a7, .ref a8, .ref a9, .ref a10, .ref a11, .ref a12, .ref a13, .int (ur1.1 0), .int (ur1.1 1), .int (ur1.1 2), .int (ur1.1 3), .ref a14, .int n0_29, .int n0_30])), (a7, .inl (ct 0, 15, .inl f7)), (a8, .inl (ct 0, 200, .inl f8)), (a9, .inl (ct 0, 1000, .inl f9)), (a11, .inl (ct 0, 8, .inl (ur1.2.1 0))), (a12, .inl (ct 0, 8, .inl (ur1.2.1 1))), (a13, .inl (ct 0, 8, .inl (ur1.2.1 2)))] := hD.sub [1, 2, 3, 0, 4, 5, 6] (by decide) rfl
  obtain ⟨p_1, p_2, p_3, p_4, p_5, p_6, -⟩ := wr1
  refine lv_iconst (v := 0) hx hb dX11_laysNow_4 (by decide) ?_
  refine lv_istore_n (lv' := [(1, .int 0), (0, .ref a0)]) hx hb dX11_laysNow_5 rfl hl (by decide) rfl (fun ls hl => ?_)
  have j6 : ∀ (n : Nat) (x6_1 : Int32) (v6_0_24 : Int32) (v6_0_25 : Int32) (v6_0_26 : Int32) (v6_0_27 : Int32) (f6_4 : Nat → Int32) (f6_5 : Nat → Int32) (f6_6 : Nat → Int32) (H : Heap) (locs : List Loc) (ls : Array Slot), 2147483648 ≤ x6_1.toInt + (n : Int) → rg 0 40 x6_1 → ar (-1) 7 f6_4 → ar (-1) 7 f6_6 → va_P G vwCl [(a0, .inr (11, [.int n0_0, .ref a1, .ref a2, .ref a3, .ref a4, .ref a5, .int n0_6, .int n0_7, .int n0_8, .int n0_9, .int n0_10, .long l0_11, .int n0_12, .int n0_13, .int n0_14, .int n0_15, .ref a6, .ref a7, .ref a8, .ref a9, .ref a10, .ref a11, .ref a12, .ref a13, .int v6_0_24, .int v6_0_25, .int v6_0_26, .int v6_0_27, .ref a14, .int n0_29, .int n0_30])), (a7, .inl (ct 0, 15, .inl f7)), (a8, .inl (ct 0, 200, .inl f8)), (a9, .inl (ct 0, 1000, .inl f9)), (a11, .inl (ct 0, 8, .inl f6_4)), (a12, .inl (ct 0, 8, .inl f6_5)), (a13, .inl (ct 0, 8, .inl f6_6))] H → va_D A [(a0, .inr (11, [.int n0_0, .ref a1, .ref a2, .ref a3, .ref a4, .ref a5, .int n0_6, .int n0_7, .int n0_8, .int n0_9, .int n0_10, .long l0_11, .int n0_12, .int n0_13, .int n0_14, .int n0_15, .ref a6, .ref a7, .ref a8, .ref a9, .ref a10, .ref a11, .ref a12, .ref a13, .int v6_0_24, .int v6_0_25, .int v6_0_26, .int v6_0_27, .ref a14, .int n0_29, .int n0_30])), (a7, .inl (ct 0, 15, .inl f7)), (a8, .inl (ct 0, 200, .inl f8)), (a9, .inl (ct 0, 1000, .inl f9)), (a11, .inl (ct 0, 8, .inl f6_4)), (a12, .inl (ct 0, 8, .inl f6_5)), (a13, .inl (ct 0, 8, .inl f6_6))] → va_S A s.heap H locs → lv_has ls 2 [(0, .ref a0), (1, .int x6_1)] → W p l e (headSpec wsX11_laysNow ({ frames := 4, cells := 0, slots := 0, locals := 90 })).room s m ([.ref a0] : List Value).toArray below meth c H locs 0 0 (MQ below (va_Qv (fun u : SU => ar (-1) 7 (u.2.1 0) ∧ ar (-1) 7 (u.2.1 2) ∧ True) (fun u t => va_P G vwCl ((fun u : SU => [(a0, .inr (11, [.int n0_0, .ref a1, .ref a2, .ref a3, .ref a4, .ref a5, .int n0_6, .int n0_7, .int n0_8, .int n0_9, .int n0_10, .long l0_11, .int n0_12, .int n0_13, .int n0_14, .int n0_15, .ref a6, .ref a7, .ref a8, .ref a9, .ref a10, .ref a11, .ref a12, .ref a13, .int (u.1 0), .int (u.1 1), .int (u.1 2), .int (u.1 3), .ref a14, .int n0_29, .int n0_30])), (a7, .inl (ct 0, 15, .inl f7)), (a8, .inl (ct 0, 200, .inl f8)), (a9, .inl (ct 0, 1000, .inl f9)), (a11, .inl (ct 0, 8, .inl (u.2.1 0))), (a12, .inl (ct 0, 8, .inl (u.2.1 1))), (a13, .inl (ct 0, 8, .inl (u.2.1 2)))]) u) t.heap) A) ([.ref a0] : List Value).toArray s 0 0 A) (F0 m 6 ls []) := by
    intro n
    induction n with
    | zero => intro x6_1 v6_0_24 v6_0_25 v6_0_26 v6_0_27 f6_4 f6_5 f6_6 H locs ls hn6 hx6_1 hf6_4 hf6_6 hP hD hS hl; exact absurd hn6 (by have := Int32.toInt_lt x6_1; have := Int32.le_toInt x6_1; omega)
    | succ n ih6 =>
      intro x6_1 v6_0_24 v6_0_25 v6_0_26 v6_0_27 f6_4 f6_5 f6_6 H locs ls hn6 hx6_1 hf6_4 hf6_6 hP hD hS hl
      refine lv_iload_n hx hb dX11_laysNow_6 rfl (lv_at hl 1 rfl) ?_
      refine lv_aload_n hx hb dX11_laysNow_7 rfl (lv_at hl 0 rfl) ?_
      refine va_get (D := G) (ci := 11) (v := .ref a7) (C := RX11) (T := TX11) (N := 31) hx hb hts (by decide +kernel) hown hK.1 hP 0 rfl rfl 17 (by decide) (hts (.fieldLink RX11 34 "CardHolderModel" "has" "[I") (by decide +kernel)) (fun _ h9 => h9) rfl dX11_laysNow_8 ?_
      refine lv_iconst (v := 2) hx hb dX11_laysNow_11 (by decide) ?_
      refine va_iald hx hb hK.1 hP 1 0 rfl rfl (in_lit (by decide)) dX11_laysNow_12 ?_
      refine lv_topi (fun z12 gz12 => ?_)
      have hz12 : rg 0 40 z12 := by rw [gz12]; exact (hp_f7.2 0)
      refine lv_icmp_ge (tgt := 74) hx hb dX11_laysNow_13 (by decide) (fun c13 => ?_) (fun c13 => ?_)
      · exact W.vret hx hb hr (fun t ht hW => ⟨⟨(fun k => ([v6_0_24, v6_0_25, v6_0_26, v6_0_27] : List Int32).getD k 0, fun k => ([f6_4, f6_5, f6_6] : List (Nat → Int32)).getD k (fun _ => 0), fun k => ([] : List (Nat → Int64)).getD k (fun _ => 0)), rfl, ⟨hf6_4, hf6_6, trivial⟩, hp_at ht hP⟩, hS.F ht⟩) hS.2.2 dX11_laysNow_74
      · have h_7 : rg 0 39 x6_1 := r_lt_l_i (nle_i c13) hx6_1 hz12 (by decide)
        have h_8 : rg 1 40 z12 := r_lt_r_i (nle_i c13) hx6_1 hz12 (by decide)
        refine lv_aload_n hx hb dX11_laysNow_16 rfl (lv_at hl 0 rfl) ?_
        refine lv_aload_n hx hb dX11_laysNow_17 rfl (lv_at hl 0 rfl) ?_
        refine va_get (D := G) (ci := 11) (v := .ref a9) (C := RX11) (T := TX11) (N := 31) hx hb hts (by decide +kernel) hown hK.1 hP 0 rfl rfl 19 (by decide) (hts (.fieldLink RX11 40 "CardHolderModel" "act" "[I") (by decide +kernel)) (fun _ h9 => h9) rfl dX11_laysNow_18 ?_
        refine lv_iconst (v := 5) hx hb dX11_laysNow_21 (by decide) ?_
        refine lv_iload_n hx hb dX11_laysNow_22 rfl (lv_at hl 1 rfl) ?_
        refine lv_imul hx hb dX11_laysNow_23 ?_
        refine nm_mul (e1 := 0) (f := 195) (rgn 5 (x := 5) (by decide)) h_7 (by decide) (fun z23 hz23 ez23 => ?_)
        replace ez23 : z23.toInt = 5 * x6_1.toInt := by have : (5 : Int32).toInt = 5 := (by decide); rw [this] at ez23; exact ez23
        refine va_iald hx hb hK.1 hP 3 0 rfl rfl (in_rg hz23 (by decide)) dX11_laysNow_24 ?_
        refine lv_topi (fun z24 gz24 => ?_)
        have hz24 : rg 0 7 z24 := by rw [gz24]; exact hp_f9 _
        refine lv_aload_n hx hb dX11_laysNow_25 rfl (lv_at hl 0 rfl) ?_
        refine va_get (D := G) (ci := 11) (v := .ref a9) (C := RX11) (T := TX11) (N := 31) hx hb hts (by decide +kernel) hown hK.1 hP 0 rfl rfl 19 (by decide) (hts (.fieldLink RX11 40 "CardHolderModel" "act" "[I") (by decide +kernel)) (fun _ h9 => h9) rfl dX11_laysNow_26 ?_
        refine lv_iconst (v := 5) hx hb dX11_laysNow_29 (by decide) ?_
        refine lv_iload_n hx hb dX11_laysNow_30 rfl (lv_at hl 1 rfl) ?_
        refine lv_imul hx hb dX11_laysNow_31 ?_
        refine nm_mul (e1 := 0) (f := 195) (rgn 5 (x := 5) (by decide)) h_7 (by decide) (fun z31 hz31 ez31 => ?_)
        replace ez31 : z31.toInt = 5 * x6_1.toInt := by have : (5 : Int32).toInt = 5 := (by decide); rw [this] at ez31; exact ez31
        refine lv_iconst (v := 1) hx hb dX11_laysNow_32 (by decide) ?_
        refine lv_iadd hx hb dX11_laysNow_33 ?_
        refine nm_add (e1 := 1) (f := 196) hz31 (rgn 1 (x := 1) (by decide)) (by decide) (fun z33 hz33 ez33 => ?_)
        replace ez33 := eqc_r ez33 (c := 1) (by decide)
        refine va_iald hx hb hK.1 hP 3 0 rfl rfl (in_rg hz33 (by decide)) dX11_laysNow_34 ?_
        refine lv_topi (fun z34 gz34 => ?_)
        have hz34 : rg 0 7 z34 := by rw [gz34]; exact hp_f9 _
        refine lv_aload_n hx hb dX11_laysNow_35 rfl (lv_at hl 0 rfl) ?_
        refine va_get (D := G) (ci := 11) (v := .ref a9) (C := RX11) (T := TX11) (N := 31) hx hb hts (by decide +kernel) hown hK.1 hP 0 rfl rfl 19 (by decide) (hts (.fieldLink RX11 40 "CardHolderModel" "act" "[I") (by decide +kernel)) (fun _ h9 => h9) rfl dX11_laysNow_36 ?_
        refine lv_iconst (v := 5) hx hb dX11_laysNow_39 (by decide) ?_
        refine lv_iload_n hx hb dX11_laysNow_40 rfl (lv_at hl 1 rfl) ?_
        refine lv_imul hx hb dX11_laysNow_41 ?_
        refine nm_mul (e1 := 0) (f := 195) (rgn 5 (x := 5) (by decide)) h_7 (by decide) (fun z41 hz41 ez41 => ?_)
        replace ez41 : z41.toInt = 5 * x6_1.toInt := by have : (5 : Int32).toInt = 5 := (by decide); rw [this] at ez41; exact ez41
        refine lv_iconst (v := 2) hx hb dX11_laysNow_42 (by decide) ?_
        refine lv_iadd hx hb dX11_laysNow_43 ?_
        refine nm_add (e1 := 2) (f := 197) hz41 (rgn 2 (x := 2) (by decide)) (by decide) (fun z43 hz43 ez43 => ?_)
        replace ez43 := eqc_r ez43 (c := 2) (by decide)
        refine va_iald hx hb hK.1 hP 3 0 rfl rfl (in_rg hz43 (by decide)) dX11_laysNow_44 ?_
        refine lv_topi (fun z44 gz44 => ?_)
        have hz44 : rg 0 7 z44 := by rw [gz44]; exact hp_f9 _
        refine lv_aload_n hx hb dX11_laysNow_45 rfl (lv_at hl 0 rfl) ?_
        refine va_get (D := G) (ci := 11) (v := .ref a9) (C := RX11) (T := TX11) (N := 31) hx hb hts (by decide +kernel) hown hK.1 hP 0 rfl rfl 19 (by decide) (hts (.fieldLink RX11 40 "CardHolderModel" "act" "[I") (by decide +kernel)) (fun _ h9 => h9) rfl dX11_laysNow_46 ?_
        refine lv_iconst (v := 5) hx hb dX11_laysNow_49 (by decide) ?_
        refine lv_iload_n hx hb dX11_laysNow_50 rfl (lv_at hl 1 rfl) ?_
        refine lv_imul hx hb dX11_laysNow_51 ?_
        refine nm_mul (e1 := 0) (f := 195) (rgn 5 (x := 5) (by decide)) h_7 (by decide) (fun z51 hz51 ez51 => ?_)
        replace ez51 : z51.toInt = 5 * x6_1.toInt := by have : (5 : Int32).toInt = 5 := (by decide); rw [this] at ez51; exact ez51
        refine lv_iconst (v := 3) hx hb dX11_laysNow_52 (by decide) ?_
        refine lv_iadd hx hb dX11_laysNow_53 ?_
        refine nm_add (e1 := 3) (f := 198) hz51 (rgn 3 (x := 3) (by decide)) (by decide) (fun z53 hz53 ez53 => ?_)
        replace ez53 := eqc_r ez53 (c := 3) (by decide)
        refine va_iald hx hb hK.1 hP 3 0 rfl rfl (in_rg hz53 (by decide)) dX11_laysNow_54 ?_
        refine lv_topi (fun z54 gz54 => ?_)
        have hz54 : rg 0 7 z54 := by rw [gz54]; exact hp_f9 _
        refine lv_aload_n hx hb dX11_laysNow_55 rfl (lv_at hl 0 rfl) ?_
        refine va_get (D := G) (ci := 11) (v := .ref a9) (C := RX11) (T := TX11) (N := 31) hx hb hts (by decide +kernel) hown hK.1 hP 0 rfl rfl 19 (by decide) (hts (.fieldLink RX11 40 "CardHolderModel" "act" "[I") (by decide +kernel)) (fun _ h9 => h9) rfl dX11_laysNow_56 ?_
        refine lv_iconst (v := 5) hx hb dX11_laysNow_59 (by decide) ?_
        refine lv_iload_n hx hb dX11_laysNow_60 rfl (lv_at hl 1 rfl) ?_
        refine lv_imul hx hb dX11_laysNow_61 ?_
        refine nm_mul (e1 := 0) (f := 195) (rgn 5 (x := 5) (by decide)) h_7 (by decide) (fun z61 hz61 ez61 => ?_)
        replace ez61 : z61.toInt = 5 * x6_1.toInt := by have : (5 : Int32).toInt = 5 := (by decide); rw [this] at ez61; exact ez61
        refine lv_iconst (v := 4) hx hb dX11_laysNow_62 (by decide) ?_
        refine lv_iadd hx hb dX11_laysNow_63 ?_
        refine nm_add (e1 := 4) (f := 199) hz61 (rgn 4 (x := 4) (by decide)) (by decide) (fun z63 hz63 ez63 => ?_)
        replace ez63 := eqc_r ez63 (c := 4) (by decide)
        refine va_iald hx hb hK.1 hP 3 0 rfl rfl (in_rg hz63 (by decide)) dX11_laysNow_64 ?_
        refine lv_topi (fun z64 gz64 => ?_)
        have hz64 : rg 0 7 z64 := by rw [gz64]; exact hp_f9 _
        refine wj_callv (wr := [(a9, .inl (ct 0, 1000, .inl f9))]) (w1 := (fun u : SU => [(a0, .inr (11, [.int n0_0, .ref a1, .ref a2, .ref a3, .ref a4, .ref a5, .int n0_6, .int n0_7, .int n0_8, .int n0_9, .int n0_10, .long l0_11, .int n0_12, .int n0_13, .int n0_14, .int n0_15, .ref a6, .ref a7, .ref a8, .ref a9, .ref a10, .ref a11, .ref a12, .ref a13, .int (u.1 0), .int (u.1 1), .int (u.1 2), .int (u.1 3), .ref a14, .int n0_29, .int n0_30])), (a7, .inl (ct 0, 15, .inl f7)), (a8, .inl (ct 0, 200, .inl f8)), (a11, .inl (ct 0, 8, .inl (u.2.1 0))), (a12, .inl (ct 0, 8, .inl (u.2.1 1))), (a13, .inl (ct 0, 8, .inl (u.2.1 2)))])) (va_runV (As := [.int z24, .int z34, .int z44, .int z54, .int z64]) (rest := []) ⟨hx, hb, hml, hown, hts⟩ (a_X11_does l G ct a0 n0_0 a1 a2 a3 a4 a5 n0_6 n0_7 n0_8 n0_9 n0_10 l0_11 n0_12 n0_13 n0_14 n0_15 a6 a7 a8 a9 a10 a11 a12 a13 v6_0_24 v6_0_25 v6_0_26 v6_0_27 a14 n0_29 n0_30 f7 f8 f6_4 f6_5 f6_6 z24 z34 z44 z54 z64 hp_n0_6 hp_f7 hp_f8 hf6_4 hf6_6 hz34 hz44 hz54 hz64) (cwV 5 hts gX11_laysNow_X11_does rfl rfl rfl (by decide +kernel) ⟨Nat.le_of_ble_eq_true rfl, Nat.le_of_ble_eq_true rfl⟩) (wr_preV 11 0 hK (hP.sub [0, 1, 2, 4, 5, 6] rfl) (hD.sub [0, 1, 2, 4, 5, 6] (by decide) rfl) rfl rfl) rfl rfl hl.1 rfl (lv_room (Nat.le_of_ble_eq_true rfl)) dX11_laysNow_65 ⟨Nat.zero_le _, Nat.zero_le _⟩) hS hP hD [0, 1, 2, 4, 5, 6] [3] rfl rfl (by decide) (fun _ => rfl) (fun ur65 H locs wr65 hP hD hS => ?_)
        have hP : va_P G vwCl [(a0, .inr (11, [.int n0_0, .ref a1, .ref a2, .ref a3, .ref a4, .ref a5, .int n0_6, .int n0_7, .int n0_8, .int n0_9, .int n0_10, .long l0_11, .int n0_12, .int n0_13, .int n0_14, .int n0_15, .ref a6, .ref a7, .ref a8, .ref a9, .ref a10, .ref a11, .ref a12, .ref a13, .int (ur65.1 0), .int (ur65.1 1), .int (ur65.1 2), .int (ur65.1 3), .ref a14, .int n0_29, .int n0_30])), (a7, .inl (ct 0, 15, .inl f7)), (a8, .inl (ct 0, 200, .inl f8)), (a9, .inl (ct 0, 1000, .inl f9)), (a11, .inl (ct 0, 8, .inl (ur65.2.1 0))), (a12, .inl (ct 0, 8, .inl (ur65.2.1 1))), (a13, .inl (ct 0, 8, .inl (ur65.2.1 2)))] H := hP.sub [1, 2, 3, 0, 4, 5, 6] rfl
        have hD : va_D A [(a0, .inr (11, [.int n0_0, .ref a1, .ref a2, .ref a3, .ref a4, .ref a5, .int n0_6, .int n0_7, .int n0_8, .int n0_9, .int n0_10, .long l0_11, .int n0_12, .int n0_13, .int n0_14, .int n0_15, .ref a6, .ref a7, .ref a8, .ref a9, .ref a10, .ref a11, .ref a12, .ref a13, .int (ur65.1 0), .int (ur65.1 1), .int (ur65.1 2), .int (ur65.1 3), .ref a14, .int n0_29, .int n0_30])), (a7, .inl (ct 0, 15, .inl f7)), (a8, .inl (ct 0, 200, .inl f8)), (a9, .inl (ct 0, 1000, .inl f9)), (a11, .inl (ct 0, 8, .inl (ur65.2.1 0))), (a12, .inl (ct 0, 8, .inl (ur65.2.1 1))), (a13, .inl (ct 0, 8, .inl (ur65.2.1 2)))] := hD.sub [1, 2, 3, 0, 4, 5, 6] (by decide) rfl
        obtain ⟨p_9, p_10, -⟩ := wr65
        obtain ⟨z68, qz68⟩ : ∃ y : Int32, y = x6_1 + Int32.ofInt 1 := ⟨_, rfl⟩
        obtain ⟨hz68, ez68⟩ := inc_z (e := 1) (f := 40) h_7 qz68 (by decide)
        refine lv_iinc (v := z68) (lv' := [(1, .int z68), (0, .ref a0)]) hx hb dX11_laysNow_68 hl (k := 1) rfl (qz68.symm) (by decide) rfl (fun ls hl => ?_)
        refine lv_goto (tgt := 6) hx hb dX11_laysNow_71 (by decide) ?_
        exact ih6 z68 (ur65.1 0) (ur65.1 1) (ur65.1 2) (ur65.1 3) (ur65.2.1 0) (ur65.2.1 1) (ur65.2.1 2) _ _ ls (by have q := hn6; have := ez68; omega) (rg_w (c := 0) (d := 40) hz68 (by decide)) p_9 p_10 hP hD hS (lv_sub hl [1, 0] rfl)
  exact j6 4294967296 (0 : Int32) (ur1.1 0) (ur1.1 1) (ur1.1 2) (ur1.1 3) (ur1.2.1 0) (ur1.2.1 1) (ur1.2.1 2) _ _ ls (ms_e (0 : Int32)) (rg_w (c := 0) (d := 40) (rgn 0 (x := 0) (by decide)) (by decide)) p_1 p_2 hP hD hS (lv_sub hl [1, 0] rfl)

set_option maxHeartbeats 4000000 in
set_option maxRecDepth 100000 in
theorem a_X11_handOf (l : Launch) (G : va_G) (ct : Nat → ClassId) (a0 : Nat) (n0_0 : Int32) (a1 : Nat) (a2 : Nat) (a3 : Nat) (a4 : Nat) (a5 : Nat) (n0_6 : Int32) (n0_7 : Int32) (n0_8 : Int32) (n0_9 : Int32) (n0_10 : Int32) (l0_11 : Int64) (n0_12 : Int32) (n0_13 : Int32) (n0_14 : Int32) (n0_15 : Int32) (a6 : Nat) (a7 : Nat) (a8 : Nat) (a9 : Nat) (a10 : Nat) (a11 : Nat) (a12 : Nat) (a13 : Nat) (n0_24 : Int32) (n0_25 : Int32) (n0_26 : Int32) (n0_27 : Int32) (a14 : Nat) (n0_29 : Int32) (n0_30 : Int32) (f7 : Nat → Int32) (f11 : Nat → Int32) (p0 : Int32) (hp_n0_6 : rg 0 900 n0_6) (hp_f7 : hsI f7) (hp_f11 : ar (-1) 7 f11) : Met l yX11_handOf wsX11_handOf ({ frames := 0, cells := 0, slots := 0, locals := 0 }) (va_Pc [.ref a0, .int p0] (roP G ct [(a0, .inr (11, [.int n0_0, .ref a1, .ref a2, .ref a3, .ref a4, .ref a5, .int n0_6, .int n0_7, .int n0_8, .int n0_9, .int n0_10, .long l0_11, .int n0_12, .int n0_13, .int n0_14, .int n0_15, .ref a6, .ref a7, .ref a8, .ref a9, .ref a10, .ref a11, .ref a12, .ref a13, .int n0_24, .int n0_25, .int n0_26, .int n0_27, .ref a14, .int n0_29, .int n0_30])), (a7, .inl (ct 0, 15, .inl f7)), (a11, .inl (ct 0, 8, .inl f11))])) (roQ (fun r => rg 0 255 r ∧ (¬ r = 0 → hold f7 f11 p0) ∧ (r = 0 → hn f11 p0 (f7 (1 : Int32).toNatClampNeg).toInt) ∧ True)) 0 0 no := by
  refine Met.ofW (cc := cX11_handOf) (maxL := 4) (ret := (some .int)) (by decide) rfl ?_
  intro p e s m args below meth c s₁ B hml hv
  obtain ⟨rfl, hP, hK⟩ := hv
  have hx := B.exec
  have hb := B.bytes
  have hr := B.returns
  have hts := atoms_spec (ws := wsX11_handOf) B.pre
  have hown : s.vm.findClass RX11 = some m.cls := findClass_of_methodNamed B.named
  have hlocks := B.notSynchronized
  have hS : va_S no s.heap s.heap [] := va_S.rf
  have hl := lv_entry ([.ref a0, .int p0]) (n := 4) (Nat.le_of_ble_eq_true rfl)
  rw [lg_entry_eq]
  generalize (lg_sl ([.ref a0, .int p0]) ++ List.replicate (4 - (lg_sl ([.ref a0, .int p0])).length) Slot.unset).toArray = ls at hl ⊢
  have hl : lv_has ls 4 [(0, .ref a0), (1, .int p0)] := hl
  refine lv_iconst (v := 0) hx hb dX11_handOf_0 (by decide) ?_
  refine lv_istore_n (lv' := [(2, .int 0), (0, .ref a0), (1, .int p0)]) hx hb dX11_handOf_1 rfl hl (by decide) rfl (fun ls hl => ?_)
  refine lv_iconst (v := 0) hx hb dX11_handOf_2 (by decide) ?_
  refine lv_istore_n (lv' := [(3, .int 0), (2, .int 0), (0, .ref a0), (1, .int p0)]) hx hb dX11_handOf_3 rfl hl (by decide) rfl (fun ls hl => ?_)
  have j4 : ∀ (n : Nat) (x4_2 : Int32) (x4_3 : Int32) (H : Heap) (locs : List Loc) (ls : Array Slot), 2147483648 ≤ x4_3.toInt + (n : Int) → rg 0 255 x4_2 → rg 0 8 x4_3 → (¬ x4_2 = 0 → hold f7 f11 p0) → (x4_2 = 0 → hn f11 p0 (x4_3).toInt) → va_P G vwCl [(a0, .inr (11, [.int n0_0, .ref a1, .ref a2, .ref a3, .ref a4, .ref a5, .int n0_6, .int n0_7, .int n0_8, .int n0_9, .int n0_10, .long l0_11, .int n0_12, .int n0_13, .int n0_14, .int n0_15, .ref a6, .ref a7, .ref a8, .ref a9, .ref a10, .ref a11, .ref a12, .ref a13, .int n0_24, .int n0_25, .int n0_26, .int n0_27, .ref a14, .int n0_29, .int n0_30])), (a7, .inl (ct 0, 15, .inl f7)), (a11, .inl (ct 0, 8, .inl f11))] H → va_S no s.heap H locs → lv_has ls 4 [(0, .ref a0), (1, .int p0), (2, .int x4_2), (3, .int x4_3)] → W p l e (headSpec wsX11_handOf ({ frames := 0, cells := 0, slots := 0, locals := 0 })).room s m ([.ref a0, .int p0] : List Value).toArray below meth c H locs 0 0 (MQ below (roQ (fun r => rg 0 255 r ∧ (¬ r = 0 → hold f7 f11 p0) ∧ (r = 0 → hn f11 p0 (f7 (1 : Int32).toNatClampNeg).toInt) ∧ True)) ([.ref a0, .int p0] : List Value).toArray s 0 0 no) (F0 m 4 ls []) := by
    intro n
    induction n with
    | zero => intro x4_2 x4_3 H locs ls hn4 hx4_2 hx4_3 hh4 hh4b hP hS hl; exact absurd hn4 (by have := Int32.toInt_lt x4_3; have := Int32.le_toInt x4_3; omega)
    | succ n ih4 =>
      intro x4_2 x4_3 H locs ls hn4 hx4_2 hx4_3 hh4 hh4b hP hS hl
      refine lv_iload_n hx hb dX11_handOf_4 rfl (lv_at hl 3 rfl) ?_
      refine lv_aload_n hx hb dX11_handOf_5 rfl (lv_at hl 0 rfl) ?_
      refine va_get (D := G) (ci := 11) (v := .ref a7) (C := RX11) (T := TX11) (N := 31) hx hb hts (by decide +kernel) hown hK.1 hP 0 rfl rfl 17 (by decide) (hts (.fieldLink RX11 34 "CardHolderModel" "has" "[I") (by decide +kernel)) (fun _ h9 => h9) rfl dX11_handOf_6 ?_
      refine lv_iconst (v := 1) hx hb dX11_handOf_9 (by decide) ?_
      refine va_iald hx hb hK.1 hP 1 0 rfl rfl (in_lit (by decide)) dX11_handOf_10 ?_
      refine lv_topi (fun z10 gz10 => ?_)
      have hz10 : rg 0 8 z10 := by rw [gz10]; exact (hp_f7.1 0)
      refine lv_icmp_ge (tgt := 40) hx hb dX11_handOf_11 (by decide) (fun c11 => ?_) (fun c11 => ?_)
      · refine lv_iload_n hx hb dX11_handOf_40 rfl (lv_at hl 2 rfl) ?_
        exact W.iret (v := x4_2) hx hb hr (fun t ht hW => ⟨⟨x4_2, (), rfl, ⟨hx4_2, (fun hq => hh4 hq), (fun hq => by rw [← gz10]; exact hn_t (hh4b hq) c11), trivial⟩, trivial⟩, hS.F ht⟩) hS.2.2 dX11_handOf_41
      · have h_1 : rg 0 7 x4_3 := r_lt_l_i (nle_i c11) hx4_3 hz10 (by decide)
        have h_2 : rg 1 8 z10 := r_lt_r_i (nle_i c11) hx4_3 hz10 (by decide)
        refine lv_iload_n hx hb dX11_handOf_14 rfl (lv_at hl 2 rfl) ?_
        refine lv_aload_n hx hb dX11_handOf_15 rfl (lv_at hl 0 rfl) ?_
        refine va_get (D := G) (ci := 11) (v := .ref a11) (C := RX11) (T := TX11) (N := 31) hx hb hts (by decide +kernel) hown hK.1 hP 0 rfl rfl 21 (by decide) (hts (.fieldLink RX11 47 "CardHolderModel" "holder" "[I") (by decide +kernel)) (fun _ h9 => h9) rfl dX11_handOf_16 ?_
        refine lv_iload_n hx hb dX11_handOf_19 rfl (lv_at hl 3 rfl) ?_
        refine va_iald hx hb hK.1 hP 2 0 rfl rfl (in_rg h_1 (by decide)) dX11_handOf_20 ?_
        refine lv_topi (fun z20 gz20 => ?_)
        have hz20 : rg (-1) 7 z20 := by rw [gz20]; exact hp_f11 _
        refine lv_iload_n hx hb dX11_handOf_21 rfl (lv_at hl 1 rfl) ?_
        refine lv_icmp_ne (tgt := 31) hx hb dX11_handOf_22 (by decide) (fun c22 => ?_) (fun c22 => ?_)
        · refine lv_iconst (v := 0) hx hb dX11_handOf_31 (by decide) ?_
          refine lv_ior hx hb dX11_handOf_32 ?_
          refine ix_i (y := x4_2) (or_z _) ?_
          refine lv_istore_n (lv' := [(2, .int x4_2), (0, .ref a0), (1, .int p0), (3, .int x4_3)]) hx hb dX11_handOf_33 rfl hl (by decide) rfl (fun ls hl => ?_)
          obtain ⟨z34, qz34⟩ : ∃ y : Int32, y = x4_3 + Int32.ofInt 1 := ⟨_, rfl⟩
          obtain ⟨hz34, ez34⟩ := inc_z (e := 1) (f := 8) h_1 qz34 (by decide)
          refine lv_iinc (v := z34) (lv' := [(3, .int z34), (2, .int x4_2), (0, .ref a0), (1, .int p0)]) hx hb dX11_handOf_34 hl (k := 3) rfl (qz34.symm) (by decide) rfl (fun ls hl => ?_)
          refine lv_goto (tgt := 4) hx hb dX11_handOf_37 (by decide) ?_
          exact ih4 x4_2 z34 _ _ ls (by have q := hn4; have := ez34; omega) hx4_2 (rg_w (c := 0) (d := 8) hz34 (by decide)) hh4 (fun hq => hn_s (hh4b hq) gz20 c22 ez34) hP hS (lv_sub hl [2, 3, 1, 0] rfl)
        · have h_3 : rg (-1) 7 p0 := r_eq_r_i (e := (-1)) (f := 7) c22 hz20 (rg_t p0) (by decide)
          refine lv_iconst (v := 1) hx hb dX11_handOf_25 (by decide) ?_
          refine lv_iload_n hx hb dX11_handOf_26 rfl (lv_at hl 3 rfl) ?_
          refine lv_ishl hx hb dX11_handOf_27 ?_
          refine nm_shl (e1 := 1) (f := 128) h_1 (by decide) (fun z27 hz27 => ?_)
          refine lv_goto (tgt := 32) hx hb dX11_handOf_28 (by decide) ?_
          refine lv_ior hx hb dX11_handOf_32 ?_
          refine nm_or (k := 8) (e1 := 1) (f := 255) hx4_2 hz27 (by decide) (fun z32 hz32 => ?_)
          refine lv_istore_n (lv' := [(2, .int z32), (0, .ref a0), (1, .int p0), (3, .int x4_3)]) hx hb dX11_handOf_33 rfl hl (by decide) rfl (fun ls hl => ?_)
          obtain ⟨z34, qz34⟩ : ∃ y : Int32, y = x4_3 + Int32.ofInt 1 := ⟨_, rfl⟩
          obtain ⟨hz34, ez34⟩ := inc_z (e := 1) (f := 8) h_1 qz34 (by decide)
          refine lv_iinc (v := z34) (lv' := [(3, .int z34), (2, .int z32), (0, .ref a0), (1, .int p0)]) hx hb dX11_handOf_34 hl (k := 3) rfl (qz34.symm) (by decide) rfl (fun ls hl => ?_)
          refine lv_goto (tgt := 4) hx hb dX11_handOf_37 (by decide) ?_
          exact ih4 z32 z34 _ _ ls (by have q := hn4; have := ez34; omega) (rg_w (c := 0) (d := 255) hz32 (by decide)) (rg_w (c := 0) (d := 8) hz34 (by decide)) (fun _ => hold_i (rg_w (c := 0) (d := 2147483647) h_1 (by decide)) gz10 c11 gz20 c22) (fun hq => absurd hq (rne hz32 (y := 0) (c := 0) (by decide) (by decide))) hP hS (lv_sub hl [2, 3, 1, 0] rfl)
  exact j4 4294967296 (0 : Int32) (0 : Int32) _ _ ls (ms_e (0 : Int32)) (rg_w (c := 0) (d := 255) (rgn 0 (x := 0) (by decide)) (by decide)) (rg_w (c := 0) (d := 8) (rgn 0 (x := 0) (by decide)) (by decide)) (fun hq => absurd rfl hq) (fun _ => hn_0) hP hS (lv_sub hl [2, 3, 1, 0] rfl)

set_option maxHeartbeats 4000000 in
set_option maxRecDepth 100000 in
theorem a_X11_underOf (l : Launch) (G : va_G) (ct : Nat → ClassId) (a0 : Nat) (n0_0 : Int32) (a1 : Nat) (a2 : Nat) (a3 : Nat) (a4 : Nat) (a5 : Nat) (n0_6 : Int32) (n0_7 : Int32) (n0_8 : Int32) (n0_9 : Int32) (n0_10 : Int32) (l0_11 : Int64) (n0_12 : Int32) (n0_13 : Int32) (n0_14 : Int32) (n0_15 : Int32) (a6 : Nat) (a7 : Nat) (a8 : Nat) (a9 : Nat) (a10 : Nat) (a11 : Nat) (a12 : Nat) (a13 : Nat) (n0_24 : Int32) (n0_25 : Int32) (n0_26 : Int32) (n0_27 : Int32) (a14 : Nat) (n0_29 : Int32) (n0_30 : Int32) (f7 : Nat → Int32) (f11 : Nat → Int32) (p0 : Int32) (hp_n0_6 : rg 0 900 n0_6) (hp_f7 : hsI f7) (hp_f11 : ar (-1) 7 f11) : Met l yX11_underOf wsX11_underOf ({ frames := 1, cells := 0, slots := 0, locals := 21 }) (va_Pc [.ref a0, .int p0] (roP G ct [(a0, .inr (11, [.int n0_0, .ref a1, .ref a2, .ref a3, .ref a4, .ref a5, .int n0_6, .int n0_7, .int n0_8, .int n0_9, .int n0_10, .long l0_11, .int n0_12, .int n0_13, .int n0_14, .int n0_15, .ref a6, .ref a7, .ref a8, .ref a9, .ref a10, .ref a11, .ref a12, .ref a13, .int n0_24, .int n0_25, .int n0_26, .int n0_27, .ref a14, .int n0_29, .int n0_30])), (a7, .inl (ct 0, 15, .inl f7)), (a11, .inl (ct 0, 8, .inl f11))])) (roQ (fun r => rg 0 255 r ∧ True)) 0 0 no := by
  refine Met.ofW (cc := cX11_underOf) (maxL := 5) (ret := (some .int)) (by decide) rfl ?_
  intro p e s m args below meth c s₁ B hml hv
  obtain ⟨rfl, hP, hK⟩ := hv
  have hx := B.exec
  have hb := B.bytes
  have hr := B.returns
  have hts := atoms_spec (ws := wsX11_underOf) B.pre
  have hown : s.vm.findClass RX11 = some m.cls := findClass_of_methodNamed B.named
  have hlocks := B.notSynchronized
  have hS : va_S no s.heap s.heap [] := va_S.rf
  have hl := lv_entry ([.ref a0, .int p0]) (n := 5) (Nat.le_of_ble_eq_true rfl)
  rw [lg_entry_eq]
  generalize (lg_sl ([.ref a0, .int p0]) ++ List.replicate (5 - (lg_sl ([.ref a0, .int p0])).length) Slot.unset).toArray = ls at hl ⊢
  have hl : lv_has ls 5 [(0, .ref a0), (1, .int p0)] := hl
  refine lv_iconst (v := 0) hx hb dX11_underOf_0 (by decide) ?_
  refine lv_istore_n (lv' := [(2, .int 0), (0, .ref a0), (1, .int p0)]) hx hb dX11_underOf_1 rfl hl (by decide) rfl (fun ls hl => ?_)
  refine lv_iconst (v := 0) hx hb dX11_underOf_2 (by decide) ?_
  refine lv_istore_n (lv' := [(3, .int 0), (2, .int 0), (0, .ref a0), (1, .int p0)]) hx hb dX11_underOf_3 rfl hl (by decide) rfl (fun ls hl => ?_)
  have j4 : ∀ (n : Nat) (x4_2 : Int32) (x4_3 : Int32) (H : Heap) (locs : List Loc) (ls : Array Slot), 2147483648 ≤ x4_3.toInt + (n : Int) → rg 0 255 x4_2 → rg 0 8 x4_3 → va_P G vwCl [(a0, .inr (11, [.int n0_0, .ref a1, .ref a2, .ref a3, .ref a4, .ref a5, .int n0_6, .int n0_7, .int n0_8, .int n0_9, .int n0_10, .long l0_11, .int n0_12, .int n0_13, .int n0_14, .int n0_15, .ref a6, .ref a7, .ref a8, .ref a9, .ref a10, .ref a11, .ref a12, .ref a13, .int n0_24, .int n0_25, .int n0_26, .int n0_27, .ref a14, .int n0_29, .int n0_30])), (a7, .inl (ct 0, 15, .inl f7)), (a11, .inl (ct 0, 8, .inl f11))] H → va_S no s.heap H locs → lv_has ls 5 [(0, .ref a0), (1, .int p0), (2, .int x4_2), (3, .int x4_3)] → W p l e (headSpec wsX11_underOf ({ frames := 1, cells := 0, slots := 0, locals := 21 })).room s m ([.ref a0, .int p0] : List Value).toArray below meth c H locs 0 0 (MQ below (roQ (fun r => rg 0 255 r ∧ True)) ([.ref a0, .int p0] : List Value).toArray s 0 0 no) (F0 m 4 ls []) := by
    intro n
    induction n with
    | zero => intro x4_2 x4_3 H locs ls hn4 hx4_2 hx4_3 hP hS hl; exact absurd hn4 (by have := Int32.toInt_lt x4_3; have := Int32.le_toInt x4_3; omega)
    | succ n ih4 =>
      intro x4_2 x4_3 H locs ls hn4 hx4_2 hx4_3 hP hS hl
      refine lv_iload_n hx hb dX11_underOf_4 rfl (lv_at hl 3 rfl) ?_
      refine lv_bipush (v := 8) hx hb dX11_underOf_5 (by decide) ?_
      refine lv_icmp_ge (tgt := 79) hx hb dX11_underOf_7 (by decide) (fun c7 => ?_) (fun c7 => ?_)
      · have h_1 : rg 8 8 x4_3 := r_le_r_i c7 (rgn 8 (x := 8) (by decide)) hx4_3
        refine lv_iload_n hx hb dX11_underOf_79 rfl (lv_at hl 2 rfl) ?_
        exact W.iret (v := x4_2) hx hb hr (fun t ht hW => ⟨⟨x4_2, (), rfl, ⟨hx4_2, trivial⟩, trivial⟩, hS.F ht⟩) hS.2.2 dX11_underOf_80
      · have h_2 : rg 0 7 x4_3 := r_lt_l_i (nle_i c7) hx4_3 (rgn 8 (x := 8) (by decide)) (by decide)
        refine lv_iconst (v := 0) hx hb dX11_underOf_10 (by decide) ?_
        refine lv_istore (lv' := [(4, .int 0), (0, .ref a0), (1, .int p0), (2, .int x4_2), (3, .int x4_3)]) hx hb dX11_underOf_11 hl (by decide) rfl (fun ls hl => ?_)
        have j13 : ∀ (n : Nat) (x13_2 : Int32) (x13_4 : Int32) (H : Heap) (locs : List Loc) (ls : Array Slot), 2147483648 ≤ x13_4.toInt + (n : Int) → rg 0 255 x13_2 → rg 0 8 x13_4 → va_P G vwCl [(a0, .inr (11, [.int n0_0, .ref a1, .ref a2, .ref a3, .ref a4, .ref a5, .int n0_6, .int n0_7, .int n0_8, .int n0_9, .int n0_10, .long l0_11, .int n0_12, .int n0_13, .int n0_14, .int n0_15, .ref a6, .ref a7, .ref a8, .ref a9, .ref a10, .ref a11, .ref a12, .ref a13, .int n0_24, .int n0_25, .int n0_26, .int n0_27, .ref a14, .int n0_29, .int n0_30])), (a7, .inl (ct 0, 15, .inl f7)), (a11, .inl (ct 0, 8, .inl f11))] H → va_S no s.heap H locs → lv_has ls 5 [(0, .ref a0), (1, .int p0), (2, .int x13_2), (3, .int x4_3), (4, .int x13_4)] → W p l e (headSpec wsX11_underOf ({ frames := 1, cells := 0, slots := 0, locals := 21 })).room s m ([.ref a0, .int p0] : List Value).toArray below meth c H locs 0 0 (MQ below (roQ (fun r => rg 0 255 r ∧ True)) ([.ref a0, .int p0] : List Value).toArray s 0 0 no) (F0 m 13 ls []) := by
          intro n
          induction n with
          | zero => intro x13_2 x13_4 H locs ls hn13 hx13_2 hx13_4 hP hS hl; exact absurd hn13 (by have := Int32.toInt_lt x13_4; have := Int32.le_toInt x13_4; omega)
          | succ n ih13 =>
            intro x13_2 x13_4 H locs ls hn13 hx13_2 hx13_4 hP hS hl
            refine lv_iload hx hb dX11_underOf_13 (lv_at hl 4 rfl) ?_
            refine lv_aload_n hx hb dX11_underOf_15 rfl (lv_at hl 0 rfl) ?_
            refine va_get (D := G) (ci := 11) (v := .ref a7) (C := RX11) (T := TX11) (N := 31) hx hb hts (by decide +kernel) hown hK.1 hP 0 rfl rfl 17 (by decide) (hts (.fieldLink RX11 34 "CardHolderModel" "has" "[I") (by decide +kernel)) (fun _ h9 => h9) rfl dX11_underOf_16 ?_
            refine lv_iconst (v := 1) hx hb dX11_underOf_19 (by decide) ?_
            refine va_iald hx hb hK.1 hP 1 0 rfl rfl (in_lit (by decide)) dX11_underOf_20 ?_
            refine lv_topi (fun z20 gz20 => ?_)
            have hz20 : rg 0 8 z20 := by rw [gz20]; exact (hp_f7.1 0)
            refine lv_icmp_ge (tgt := 73) hx hb dX11_underOf_21 (by decide) (fun c21 => ?_) (fun c21 => ?_)
            · obtain ⟨z73, qz73⟩ : ∃ y : Int32, y = x4_3 + Int32.ofInt 1 := ⟨_, rfl⟩
              obtain ⟨hz73, ez73⟩ := inc_z (e := 1) (f := 8) h_2 qz73 (by decide)
              refine lv_iinc (v := z73) (lv' := [(3, .int z73), (0, .ref a0), (1, .int p0), (2, .int x13_2), (4, .int x13_4)]) hx hb dX11_underOf_73 hl (k := 3) rfl (qz73.symm) (by decide) rfl (fun ls hl => ?_)
              refine lv_goto (tgt := 4) hx hb dX11_underOf_76 (by decide) ?_
              exact ih4 x13_2 z73 _ _ ls (by have q := hn4; have := ez73; omega) hx13_2 (rg_w (c := 0) (d := 8) hz73 (by decide)) hP hS (lv_sub hl [1, 2, 3, 0] rfl)
            · have h_3 : rg 0 7 x13_4 := r_lt_l_i (nle_i c21) hx13_4 hz20 (by decide)
              have h_4 : rg 1 8 z20 := r_lt_r_i (nle_i c21) hx13_4 hz20 (by decide)
              refine lv_aload_n hx hb dX11_underOf_24 rfl (lv_at hl 0 rfl) ?_
              refine va_get (D := G) (ci := 11) (v := .ref a11) (C := RX11) (T := TX11) (N := 31) hx hb hts (by decide +kernel) hown hK.1 hP 0 rfl rfl 21 (by decide) (hts (.fieldLink RX11 47 "CardHolderModel" "holder" "[I") (by decide +kernel)) (fun _ h9 => h9) rfl dX11_underOf_25 ?_
              refine lv_iload hx hb dX11_underOf_28 (lv_at hl 4 rfl) ?_
              refine va_iald hx hb hK.1 hP 2 0 rfl rfl (in_rg h_3 (by decide)) dX11_underOf_30 ?_
              refine lv_topi (fun z30 gz30 => ?_)
              have hz30 : rg (-1) 7 z30 := by rw [gz30]; exact hp_f11 _
              refine lv_iload_n hx hb dX11_underOf_31 rfl (lv_at hl 1 rfl) ?_
              have j67 : ∀ (x67_2 : Int32) (H : Heap) (locs : List Loc) (ls : Array Slot), rg 0 255 x67_2 → va_P G vwCl [(a0, .inr (11, [.int n0_0, .ref a1, .ref a2, .ref a3, .ref a4, .ref a5, .int n0_6, .int n0_7, .int n0_8, .int n0_9, .int n0_10, .long l0_11, .int n0_12, .int n0_13, .int n0_14, .int n0_15, .ref a6, .ref a7, .ref a8, .ref a9, .ref a10, .ref a11, .ref a12, .ref a13, .int n0_24, .int n0_25, .int n0_26, .int n0_27, .ref a14, .int n0_29, .int n0_30])), (a7, .inl (ct 0, 15, .inl f7)), (a11, .inl (ct 0, 8, .inl f11))] H → va_S no s.heap H locs → lv_has ls 5 [(0, .ref a0), (1, .int p0), (2, .int x67_2), (3, .int x4_3), (4, .int x13_4)] → W p l e (headSpec wsX11_underOf ({ frames := 1, cells := 0, slots := 0, locals := 21 })).room s m ([.ref a0, .int p0] : List Value).toArray below meth c H locs 0 0 (MQ below (roQ (fun r => rg 0 255 r ∧ True)) ([.ref a0, .int p0] : List Value).toArray s 0 0 no) (F0 m 67 ls []) := by
                intro x67_2 H locs ls hx67_2 hP hS hl
                obtain ⟨z67, qz67⟩ : ∃ y : Int32, y = x13_4 + Int32.ofInt 1 := ⟨_, rfl⟩
                obtain ⟨hz67, ez67⟩ := inc_z (e := 1) (f := 8) h_3 qz67 (by decide)
                refine lv_iinc (v := z67) (lv' := [(4, .int z67), (0, .ref a0), (1, .int p0), (2, .int x67_2), (3, .int x4_3)]) hx hb dX11_underOf_67 hl (k := 4) rfl (qz67.symm) (by decide) rfl (fun ls hl => ?_)
                refine lv_goto (tgt := 13) hx hb dX11_underOf_70 (by decide) ?_
                exact ih13 x67_2 z67 _ _ ls (by have q := hn13; have := ez67; omega) hx67_2 (rg_w (c := 0) (d := 8) hz67 (by decide)) hP hS (lv_sub hl [1, 2, 3, 4, 0] rfl)
              have j60 : ∀ (H : Heap) (locs : List Loc) (ls : Array Slot), va_P G vwCl [(a0, .inr (11, [.int n0_0, .ref a1, .ref a2, .ref a3, .ref a4, .ref a5, .int n0_6, .int n0_7, .int n0_8, .int n0_9, .int n0_10, .long l0_11, .int n0_12, .int n0_13, .int n0_14, .int n0_15, .ref a6, .ref a7, .ref a8, .ref a9, .ref a10, .ref a11, .ref a12, .ref a13, .int n0_24, .int n0_25, .int n0_26, .int n0_27, .ref a14, .int n0_29, .int n0_30])), (a7, .inl (ct 0, 15, .inl f7)), (a11, .inl (ct 0, 8, .inl f11))] H → va_S no s.heap H locs → lv_has ls 5 [(0, .ref a0), (1, .int p0), (2, .int x13_2), (3, .int x4_3), (4, .int x13_4)] → W p l e (headSpec wsX11_underOf ({ frames := 1, cells := 0, slots := 0, locals := 21 })).room s m ([.ref a0, .int p0] : List Value).toArray below meth c H locs 0 0 (MQ below (roQ (fun r => rg 0 255 r ∧ True)) ([.ref a0, .int p0] : List Value).toArray s 0 0 no) (F0 m 60 ls []) := by
                intro  H locs ls  hP hS hl
                refine lv_iload_n hx hb dX11_underOf_60 rfl (lv_at hl 2 rfl) ?_
                refine lv_iconst (v := 1) hx hb dX11_underOf_61 (by decide) ?_
                refine lv_iload hx hb dX11_underOf_62 (lv_at hl 4 rfl) ?_
                refine lv_ishl hx hb dX11_underOf_64 ?_
                refine nm_shl (e1 := 1) (f := 128) h_3 (by decide) (fun z64 hz64 => ?_)
                refine lv_ior hx hb dX11_underOf_65 ?_
                refine nm_or (k := 8) (e1 := 1) (f := 255) hx13_2 hz64 (by decide) (fun z65 hz65 => ?_)
                refine lv_istore_n (lv' := [(2, .int z65), (0, .ref a0), (1, .int p0), (3, .int x4_3), (4, .int x13_4)]) hx hb dX11_underOf_66 rfl hl (by decide) rfl (fun ls hl => ?_)
                exact j67 z65 _ _ ls (rg_w (c := 0) (d := 255) hz65 (by decide)) hP hS (lv_sub hl [1, 2, 0, 3, 4] rfl)
              refine lv_icmp_eq (tgt := 60) hx hb dX11_underOf_32 (by decide) (fun c32 => ?_) (fun c32 => ?_)
              · have h_5 : rg (-1) 7 p0 := r_eq_r_i (e := (-1)) (f := 7) c32 hz30 (rg_t p0) (by decide)
                exact j60 _ _ ls hP hS (lv_sub hl [0, 1, 2, 3, 4] rfl)
              · refine lv_aload_n hx hb dX11_underOf_35 rfl (lv_at hl 0 rfl) ?_
                refine va_get (D := G) (ci := 11) (v := .ref a11) (C := RX11) (T := TX11) (N := 31) hx hb hts (by decide +kernel) hown hK.1 hP 0 rfl rfl 21 (by decide) (hts (.fieldLink RX11 47 "CardHolderModel" "holder" "[I") (by decide +kernel)) (fun _ h9 => h9) rfl dX11_underOf_36 ?_
                refine lv_iload hx hb dX11_underOf_39 (lv_at hl 4 rfl) ?_
                refine va_iald hx hb hK.1 hP 2 0 rfl rfl (in_rg h_3 (by decide)) dX11_underOf_41 ?_
                refine ix_i (y := z30) gz30.symm ?_
                refine lv_iconst (v := (-1)) hx hb dX11_underOf_42 (by decide) ?_
                refine lv_icmp_eq (tgt := 67) hx hb dX11_underOf_43 (by decide) (fun c43 => ?_) (fun c43 => ?_)
                · have h_6 : rg (-1) (-1) z30 := r_eq_l_i (e := (-1)) (f := (-1)) c43 hz30 (rgn (-1) (x := (-1)) (by decide)) (by decide)
                  exact j67 x13_2 _ _ ls hx13_2 hP hS (lv_sub hl [0, 1, 2, 3, 4] rfl)
                · have h_7 : rg 0 7 z30 := r_ne_lo_i c43 hz30 (by decide) (by decide)
                  refine lv_iload_n hx hb dX11_underOf_46 rfl (lv_at hl 2 rfl) ?_
                  refine lv_aload_n hx hb dX11_underOf_47 rfl (lv_at hl 0 rfl) ?_
                  refine va_get (D := G) (ci := 11) (v := .ref a11) (C := RX11) (T := TX11) (N := 31) hx hb hts (by decide +kernel) hown hK.1 hP 0 rfl rfl 21 (by decide) (hts (.fieldLink RX11 47 "CardHolderModel" "holder" "[I") (by decide +kernel)) (fun _ h9 => h9) rfl dX11_underOf_48 ?_
                  refine lv_iload hx hb dX11_underOf_51 (lv_at hl 4 rfl) ?_
                  refine va_iald hx hb hK.1 hP 2 0 rfl rfl (in_rg h_3 (by decide)) dX11_underOf_53 ?_
                  refine ix_i (y := z30) gz30.symm ?_
                  refine ro_calli (va_runS (As := [.int x13_2, .int z30]) (rest := []) ⟨hx, hb, hml, hown, hts⟩ (a_X11_isBit l G ct x13_2 z30) (va_cwS 2 hts gX11_underOf_X11_isBit rfl rfl rfl (by decide +kernel) ⟨Nat.le_of_ble_eq_true rfl, Nat.le_of_ble_eq_true rfl⟩) (ro_pre hK (hP.sub [] rfl)) rfl rfl hl.1 rfl (lv_room (Nat.le_of_ble_eq_true rfl)) dX11_underOf_54 ⟨Nat.zero_le _, Nat.zero_le _⟩) hS hP (fun r54 H locs wr54 hP hS => ?_)
                  obtain ⟨p_8, -⟩ := wr54
                  refine lv_if_eq (tgt := 67) hx hb dX11_underOf_57 (by decide) (fun c57 => ?_) (fun c57 => ?_)
                  · have h_9 : rg 0 0 r54 := r_eq_l_i (e := 0) (f := 0) c57 p_8 (rgn 0 (x := 0) (by decide)) (by decide)
                    exact j67 x13_2 _ _ ls hx13_2 hP hS (lv_sub hl [0, 1, 2, 3, 4] rfl)
                  · have h_10 : rg 1 1 r54 := r_ne_lo_i c57 p_8 (by decide) (by decide)
                    exact j60 _ _ ls hP hS (lv_sub hl [0, 1, 2, 3, 4] rfl)
        exact j13 4294967296 x4_2 (0 : Int32) _ _ ls (ms_e (0 : Int32)) hx4_2 (rg_w (c := 0) (d := 8) (rgn 0 (x := 0) (by decide)) (by decide)) hP hS (lv_sub hl [1, 2, 3, 4, 0] rfl)
  exact j4 4294967296 (0 : Int32) (0 : Int32) _ _ ls (ms_e (0 : Int32)) (rg_w (c := 0) (d := 255) (rgn 0 (x := 0) (by decide)) (by decide)) (rg_w (c := 0) (d := 8) (rgn 0 (x := 0) (by decide)) (by decide)) hP hS (lv_sub hl [2, 3, 1, 0] rfl)

set_option maxHeartbeats 4000000 in
set_option maxRecDepth 100000 in
theorem a_X11_yetOf (l : Launch) (G : va_G) (ct : Nat → ClassId) (a0 : Nat) (n0_0 : Int32) (a1 : Nat) (a2 : Nat) (a3 : Nat) (a4 : Nat) (a5 : Nat) (n0_6 : Int32) (n0_7 : Int32) (n0_8 : Int32) (n0_9 : Int32) (n0_10 : Int32) (l0_11 : Int64) (n0_12 : Int32) (n0_13 : Int32) (n0_14 : Int32) (n0_15 : Int32) (a6 : Nat) (a7 : Nat) (a8 : Nat) (a9 : Nat) (a10 : Nat) (a11 : Nat) (a12 : Nat) (a13 : Nat) (n0_24 : Int32) (n0_25 : Int32) (n0_26 : Int32) (n0_27 : Int32) (a14 : Nat) (n0_29 : Int32) (n0_30 : Int32) (f7 : Nat → Int32) (f8 : Nat → Int32) (f11 : Nat → Int32) (f12 : Nat → Int32) (p0 : Int32) (hp_n0_6 : rg 0 900 n0_6) (hp_f7 : hsI f7) (hp_f8 : psI f8) (hp_f11 : ar (-1) 7 f11) (hp_p0 : rg 0 7 p0) : Met l yX11_yetOf wsX11_yetOf ({ frames := 2, cells := 0, slots := 0, locals := 43 }) (va_Pc [.ref a0, .int p0] (roP G ct [(a0, .inr (11, [.int n0_0, .ref a1, .ref a2, .ref a3, .ref a4, .ref a5, .int n0_6, .int n0_7, .int n0_8, .int n0_9, .int n0_10, .long l0_11, .int n0_12, .int n0_13, .int n0_14, .int n0_15, .ref a6, .ref a7, .ref a8, .ref a9, .ref a10, .ref a11, .ref a12, .ref a13, .int n0_24, .int n0_25, .int n0_26, .int n0_27, .ref a14, .int n0_29, .int n0_30])), (a7, .inl (ct 0, 15, .inl f7)), (a8, .inl (ct 0, 200, .inl f8)), (a11, .inl (ct 0, 8, .inl f11)), (a12, .inl (ct 0, 8, .inl f12))])) (roQ (fun r => True)) 0 0 no := by
  refine Met.ofW (cc := cX11_yetOf) (maxL := 2) (ret := (some .int)) (by decide) rfl ?_
  intro p e s m args below meth c s₁ B hml hv
  obtain ⟨rfl, hP, hK⟩ := hv
  have hx := B.exec
  have hb := B.bytes
  have hr := B.returns
  have hts := atoms_spec (ws := wsX11_yetOf) B.pre
  have hown : s.vm.findClass RX11 = some m.cls := findClass_of_methodNamed B.named
  have hlocks := B.notSynchronized
  have hS : va_S no s.heap s.heap [] := va_S.rf
  have hl := lv_entry ([.ref a0, .int p0]) (n := 2) (Nat.le_of_ble_eq_true rfl)
  rw [lg_entry_eq]
  generalize (lg_sl ([.ref a0, .int p0]) ++ List.replicate (2 - (lg_sl ([.ref a0, .int p0])).length) Slot.unset).toArray = ls at hl ⊢
  have hl : lv_has ls 2 [(0, .ref a0), (1, .int p0)] := hl
  refine lv_aload_n hx hb dX11_yetOf_0 rfl (lv_at hl 0 rfl) ?_
  refine va_get (D := G) (ci := 11) (v := .ref a11) (C := RX11) (T := TX11) (N := 31) hx hb hts (by decide +kernel) hown hK.1 hP 0 rfl rfl 21 (by decide) (hts (.fieldLink RX11 47 "CardHolderModel" "holder" "[I") (by decide +kernel)) (fun _ h9 => h9) rfl dX11_yetOf_1 ?_
  refine lv_iload_n hx hb dX11_yetOf_4 rfl (lv_at hl 1 rfl) ?_
  refine va_iald hx hb hK.1 hP 3 0 rfl rfl (in_rg hp_p0 (by decide)) dX11_yetOf_5 ?_
  refine lv_topi (fun z5 gz5 => ?_)
  have hz5 : rg (-1) 7 z5 := by rw [gz5]; exact hp_f11 _
  refine lv_iconst (v := (-1)) hx hb dX11_yetOf_6 (by decide) ?_
  refine lv_icmp_ne (tgt := 14) hx hb dX11_yetOf_7 (by decide) (fun c7 => ?_) (fun c7 => ?_)
  · have h_1 : rg 0 7 z5 := r_ne_lo_i c7 hz5 (by decide) (by decide)
    refine lv_aload_n hx hb dX11_yetOf_14 rfl (lv_at hl 0 rfl) ?_
    refine lv_iload_n hx hb dX11_yetOf_15 rfl (lv_at hl 1 rfl) ?_
    refine ro_calli (va_runV (As := [.int p0]) (rest := []) ⟨hx, hb, hml, hown, hts⟩ (a_X11_readable l G ct a0 n0_0 a1 a2 a3 a4 a5 n0_6 n0_7 n0_8 n0_9 n0_10 l0_11 n0_12 n0_13 n0_14 n0_15 a6 a7 a8 a9 a10 a11 a12 a13 n0_24 n0_25 n0_26 n0_27 a14 n0_29 n0_30 f7 f8 p0 hp_n0_6 hp_f7 hp_f8 hp_p0) (cwV 1 hts gX11_yetOf_X11_readable rfl rfl rfl (by decide +kernel) ⟨Nat.le_of_ble_eq_true rfl, Nat.le_of_ble_eq_true rfl⟩) (ro_preV 11 0 hK (hP.sub [0, 1, 2] rfl) rfl rfl) rfl rfl hl.1 rfl (lv_room (Nat.le_of_ble_eq_true rfl)) dX11_yetOf_16 ⟨Nat.zero_le _, Nat.zero_le _⟩) hS hP (fun r16 H locs wr16 hP hS => ?_)
    refine lv_aload_n hx hb dX11_yetOf_19 rfl (lv_at hl 0 rfl) ?_
    refine va_get (D := G) (ci := 11) (v := .ref a12) (C := RX11) (T := TX11) (N := 31) hx hb hts (by decide +kernel) hown hK.1 hP 0 rfl rfl 22 (by decide) (hts (.fieldLink RX11 50 "CardHolderModel" "worn" "[I") (by decide +kernel)) (fun _ h9 => h9) rfl dX11_yetOf_20 ?_
    refine lv_iload_n hx hb dX11_yetOf_23 rfl (lv_at hl 1 rfl) ?_
    refine va_iald hx hb hK.1 hP 4 0 rfl rfl (in_rg hp_p0 (by decide)) dX11_yetOf_24 ?_
    refine lv_topi (fun z24 gz24 => ?_)
    refine lv_isub hx hb dX11_yetOf_25 ?_
    refine nm_0 (fun z25 => ?_)
    exact W.iret (v := z25) hx hb hr (fun t ht hW => ⟨⟨z25, (), rfl, trivial, trivial⟩, hS.F ht⟩) hS.2.2 dX11_yetOf_26
  · have h_2 : rg (-1) (-1) z5 := r_eq_l_i (e := (-1)) (f := (-1)) c7 hz5 (rgn (-1) (x := (-1)) (by decide)) (by decide)
    refine lv_iconst (v := 0) hx hb dX11_yetOf_10 (by decide) ?_
    refine lv_goto (tgt := 26) hx hb dX11_yetOf_11 (by decide) ?_
    exact W.iret (v := 0) hx hb hr (fun t ht hW => ⟨⟨0, (), rfl, trivial, trivial⟩, hS.F ht⟩) hS.2.2 dX11_yetOf_26

set_option maxHeartbeats 4000000 in
set_option maxRecDepth 100000 in
theorem a_X11_freeNow (l : Launch) (G : va_G) (ct : Nat → ClassId) (a0 : Nat) (n0_0 : Int32) (a1 : Nat) (a2 : Nat) (a3 : Nat) (a4 : Nat) (a5 : Nat) (n0_6 : Int32) (n0_7 : Int32) (n0_8 : Int32) (n0_9 : Int32) (n0_10 : Int32) (l0_11 : Int64) (n0_12 : Int32) (n0_13 : Int32) (n0_14 : Int32) (n0_15 : Int32) (a6 : Nat) (a7 : Nat) (a8 : Nat) (a9 : Nat) (a10 : Nat) (a11 : Nat) (a12 : Nat) (a13 : Nat) (n0_24 : Int32) (n0_25 : Int32) (n0_26 : Int32) (n0_27 : Int32) (a14 : Nat) (n0_29 : Int32) (n0_30 : Int32) (f7 : Nat → Int32) (f11 : Nat → Int32) (hp_n0_6 : rg 0 900 n0_6) (hp_f7 : hsI f7) (hp_f11 : ar (-1) 7 f11) : Met l yX11_freeNow wsX11_freeNow ({ frames := 0, cells := 0, slots := 0, locals := 0 }) (va_Pc [.ref a0] (roP G ct [(a0, .inr (11, [.int n0_0, .ref a1, .ref a2, .ref a3, .ref a4, .ref a5, .int n0_6, .int n0_7, .int n0_8, .int n0_9, .int n0_10, .long l0_11, .int n0_12, .int n0_13, .int n0_14, .int n0_15, .ref a6, .ref a7, .ref a8, .ref a9, .ref a10, .ref a11, .ref a12, .ref a13, .int n0_24, .int n0_25, .int n0_26, .int n0_27, .ref a14, .int n0_29, .int n0_30])), (a7, .inl (ct 0, 15, .inl f7)), (a11, .inl (ct 0, 8, .inl f11))])) (roQ (fun r => rg 0 255 r ∧ True)) 0 0 no := by
  refine Met.ofW (cc := cX11_freeNow) (maxL := 3) (ret := (some .int)) (by decide) rfl ?_
  intro p e s m args below meth c s₁ B hml hv
  obtain ⟨rfl, hP, hK⟩ := hv
  have hx := B.exec
  have hb := B.bytes
  have hr := B.returns
  have hts := atoms_spec (ws := wsX11_freeNow) B.pre
  have hown : s.vm.findClass RX11 = some m.cls := findClass_of_methodNamed B.named
  have hlocks := B.notSynchronized
  have hS : va_S no s.heap s.heap [] := va_S.rf
  have hl := lv_entry ([.ref a0]) (n := 3) (Nat.le_of_ble_eq_true rfl)
  rw [lg_entry_eq]
  generalize (lg_sl ([.ref a0]) ++ List.replicate (3 - (lg_sl ([.ref a0])).length) Slot.unset).toArray = ls at hl ⊢
  have hl : lv_has ls 3 [(0, .ref a0)] := hl
  refine lv_iconst (v := 0) hx hb dX11_freeNow_0 (by decide) ?_
  refine lv_istore_n (lv' := [(1, .int 0), (0, .ref a0)]) hx hb dX11_freeNow_1 rfl hl (by decide) rfl (fun ls hl => ?_)
  refine lv_iconst (v := 0) hx hb dX11_freeNow_2 (by decide) ?_
  refine lv_istore_n (lv' := [(2, .int 0), (1, .int 0), (0, .ref a0)]) hx hb dX11_freeNow_3 rfl hl (by decide) rfl (fun ls hl => ?_)
  have j4 : ∀ (n : Nat) (x4_1 : Int32) (x4_2 : Int32) (H : Heap) (locs : List Loc) (ls : Array Slot), 2147483648 ≤ x4_2.toInt + (n : Int) → rg 0 255 x4_1 → rg 0 8 x4_2 → va_P G vwCl [(a0, .inr (11, [.int n0_0, .ref a1, .ref a2, .ref a3, .ref a4, .ref a5, .int n0_6, .int n0_7, .int n0_8, .int n0_9, .int n0_10, .long l0_11, .int n0_12, .int n0_13, .int n0_14, .int n0_15, .ref a6, .ref a7, .ref a8, .ref a9, .ref a10, .ref a11, .ref a12, .ref a13, .int n0_24, .int n0_25, .int n0_26, .int n0_27, .ref a14, .int n0_29, .int n0_30])), (a7, .inl (ct 0, 15, .inl f7)), (a11, .inl (ct 0, 8, .inl f11))] H → va_S no s.heap H locs → lv_has ls 3 [(0, .ref a0), (1, .int x4_1), (2, .int x4_2)] → W p l e (headSpec wsX11_freeNow ({ frames := 0, cells := 0, slots := 0, locals := 0 })).room s m ([.ref a0] : List Value).toArray below meth c H locs 0 0 (MQ below (roQ (fun r => rg 0 255 r ∧ True)) ([.ref a0] : List Value).toArray s 0 0 no) (F0 m 4 ls []) := by
    intro n
    induction n with
    | zero => intro x4_1 x4_2 H locs ls hn4 hx4_1 hx4_2 hP hS hl; exact absurd hn4 (by have := Int32.toInt_lt x4_2; have := Int32.le_toInt x4_2; omega)
    | succ n ih4 =>
      intro x4_1 x4_2 H locs ls hn4 hx4_1 hx4_2 hP hS hl
      refine lv_iload_n hx hb dX11_freeNow_4 rfl (lv_at hl 2 rfl) ?_
      refine lv_aload_n hx hb dX11_freeNow_5 rfl (lv_at hl 0 rfl) ?_
      refine va_get (D := G) (ci := 11) (v := .ref a7) (C := RX11) (T := TX11) (N := 31) hx hb hts (by decide +kernel) hown hK.1 hP 0 rfl rfl 17 (by decide) (hts (.fieldLink RX11 34 "CardHolderModel" "has" "[I") (by decide +kernel)) (fun _ h9 => h9) rfl dX11_freeNow_6 ?_
      refine lv_iconst (v := 1) hx hb dX11_freeNow_9 (by decide) ?_
      refine va_iald hx hb hK.1 hP 1 0 rfl rfl (in_lit (by decide)) dX11_freeNow_10 ?_
      refine lv_topi (fun z10 gz10 => ?_)
      have hz10 : rg 0 8 z10 := by rw [gz10]; exact (hp_f7.1 0)
      refine lv_icmp_ge (tgt := 40) hx hb dX11_freeNow_11 (by decide) (fun c11 => ?_) (fun c11 => ?_)
      · refine lv_iload_n hx hb dX11_freeNow_40 rfl (lv_at hl 1 rfl) ?_
        exact W.iret (v := x4_1) hx hb hr (fun t ht hW => ⟨⟨x4_1, (), rfl, ⟨hx4_1, trivial⟩, trivial⟩, hS.F ht⟩) hS.2.2 dX11_freeNow_41
      · have h_1 : rg 0 7 x4_2 := r_lt_l_i (nle_i c11) hx4_2 hz10 (by decide)
        have h_2 : rg 1 8 z10 := r_lt_r_i (nle_i c11) hx4_2 hz10 (by decide)
        refine lv_iload_n hx hb dX11_freeNow_14 rfl (lv_at hl 1 rfl) ?_
        refine lv_aload_n hx hb dX11_freeNow_15 rfl (lv_at hl 0 rfl) ?_
        refine va_get (D := G) (ci := 11) (v := .ref a11) (C := RX11) (T := TX11) (N := 31) hx hb hts (by decide +kernel) hown hK.1 hP 0 rfl rfl 21 (by decide) (hts (.fieldLink RX11 47 "CardHolderModel" "holder" "[I") (by decide +kernel)) (fun _ h9 => h9) rfl dX11_freeNow_16 ?_
        refine lv_iload_n hx hb dX11_freeNow_19 rfl (lv_at hl 2 rfl) ?_
        refine va_iald hx hb hK.1 hP 2 0 rfl rfl (in_rg h_1 (by decide)) dX11_freeNow_20 ?_
        refine lv_topi (fun z20 gz20 => ?_)
        have hz20 : rg (-1) 7 z20 := by rw [gz20]; exact hp_f11 _
        refine lv_iconst (v := (-1)) hx hb dX11_freeNow_21 (by decide) ?_
        have j32 : ∀ (y32_0 : Int32) (H : Heap) (locs : List Loc) (ls : Array Slot), rg 0 128 y32_0 → va_P G vwCl [(a0, .inr (11, [.int n0_0, .ref a1, .ref a2, .ref a3, .ref a4, .ref a5, .int n0_6, .int n0_7, .int n0_8, .int n0_9, .int n0_10, .long l0_11, .int n0_12, .int n0_13, .int n0_14, .int n0_15, .ref a6, .ref a7, .ref a8, .ref a9, .ref a10, .ref a11, .ref a12, .ref a13, .int n0_24, .int n0_25, .int n0_26, .int n0_27, .ref a14, .int n0_29, .int n0_30])), (a7, .inl (ct 0, 15, .inl f7)), (a11, .inl (ct 0, 8, .inl f11))] H → va_S no s.heap H locs → lv_has ls 3 [(0, .ref a0), (1, .int x4_1), (2, .int x4_2)] → W p l e (headSpec wsX11_freeNow ({ frames := 0, cells := 0, slots := 0, locals := 0 })).room s m ([.ref a0] : List Value).toArray below meth c H locs 0 0 (MQ below (roQ (fun r => rg 0 255 r ∧ True)) ([.ref a0] : List Value).toArray s 0 0 no) (F0 m 32 ls [.int y32_0, .int x4_1]) := by
          intro y32_0 H locs ls hy32_0 hP hS hl
          refine lv_ior hx hb dX11_freeNow_32 ?_
          refine nm_or (k := 8) (e1 := 0) (f := 255) hx4_1 hy32_0 (by decide) (fun z32 hz32 => ?_)
          refine lv_istore_n (lv' := [(1, .int z32), (0, .ref a0), (2, .int x4_2)]) hx hb dX11_freeNow_33 rfl hl (by decide) rfl (fun ls hl => ?_)
          obtain ⟨z34, qz34⟩ : ∃ y : Int32, y = x4_2 + Int32.ofInt 1 := ⟨_, rfl⟩
          obtain ⟨hz34, ez34⟩ := inc_z (e := 1) (f := 8) h_1 qz34 (by decide)
          refine lv_iinc (v := z34) (lv' := [(2, .int z34), (1, .int z32), (0, .ref a0)]) hx hb dX11_freeNow_34 hl (k := 2) rfl (qz34.symm) (by decide) rfl (fun ls hl => ?_)
          refine lv_goto (tgt := 4) hx hb dX11_freeNow_37 (by decide) ?_
          exact ih4 z32 z34 _ _ ls (by have q := hn4; have := ez34; omega) hz32 (rg_w (c := 0) (d := 8) hz34 (by decide)) hP hS (lv_sub hl [2, 1, 0] rfl)
        refine lv_icmp_ne (tgt := 31) hx hb dX11_freeNow_22 (by decide) (fun c22 => ?_) (fun c22 => ?_)
        · have h_3 : rg 0 7 z20 := r_ne_lo_i c22 hz20 (by decide) (by decide)
          refine lv_iconst (v := 0) hx hb dX11_freeNow_31 (by decide) ?_
          exact j32 (0 : Int32) _ _ ls (rg_w (c := 0) (d := 128) (rgn 0 (x := 0) (by decide)) (by decide)) hP hS (lv_sub hl [0, 1, 2] rfl)
        · have h_4 : rg (-1) (-1) z20 := r_eq_l_i (e := (-1)) (f := (-1)) c22 hz20 (rgn (-1) (x := (-1)) (by decide)) (by decide)
          refine lv_iconst (v := 1) hx hb dX11_freeNow_25 (by decide) ?_
          refine lv_iload_n hx hb dX11_freeNow_26 rfl (lv_at hl 2 rfl) ?_
          refine lv_ishl hx hb dX11_freeNow_27 ?_
          refine nm_shl (e1 := 1) (f := 128) h_1 (by decide) (fun z27 hz27 => ?_)
          refine lv_goto (tgt := 32) hx hb dX11_freeNow_28 (by decide) ?_
          exact j32 z27 _ _ ls (rg_w (c := 0) (d := 128) hz27 (by decide)) hP hS (lv_sub hl [0, 1, 2] rfl)
  exact j4 4294967296 (0 : Int32) (0 : Int32) _ _ ls (ms_e (0 : Int32)) (rg_w (c := 0) (d := 255) (rgn 0 (x := 0) (by decide)) (by decide)) (rg_w (c := 0) (d := 8) (rgn 0 (x := 0) (by decide)) (by decide)) hP hS (lv_sub hl [2, 1, 0] rfl)

set_option maxHeartbeats 4000000 in
set_option maxRecDepth 100000 in
theorem a_X11_person (l : Launch) (G : va_G) (ct : Nat → ClassId) (a0 : Nat) (n0_0 : Int32) (a1 : Nat) (a2 : Nat) (a3 : Nat) (a4 : Nat) (a5 : Nat) (n0_6 : Int32) (n0_7 : Int32) (n0_8 : Int32) (n0_9 : Int32) (n0_10 : Int32) (l0_11 : Int64) (n0_12 : Int32) (n0_13 : Int32) (n0_14 : Int32) (n0_15 : Int32) (a6 : Nat) (a7 : Nat) (a8 : Nat) (a9 : Nat) (a10 : Nat) (a11 : Nat) (a12 : Nat) (a13 : Nat) (n0_24 : Int32) (n0_25 : Int32) (n0_26 : Int32) (n0_27 : Int32) (a14 : Nat) (n0_29 : Int32) (n0_30 : Int32) (f7 : Nat → Int32) (f8 : Nat → Int32) (f9 : Nat → Int32) (f11 : Nat → Int32) (f12 : Nat → Int32) (f13 : Nat → Int32) (p0 : Int32) (p1 : Int32) (hp_n0_6 : rg 0 900 n0_6) (hp_f7 : hsI f7) (hp_f8 : psI f8) (hp_f9 : ar 0 7 f9) (hp_f11 : ar (-1) 7 f11) (hp_f13 : ar (-1) 7 f13) : Met l yX11_person wsX11_person ({ frames := 5, cells := 0, slots := 0, locals := 111 }) (va_Pc [.ref a0, .int p0, .int p1] (wrP G ct [(a0, .inr (11, [.int n0_0, .ref a1, .ref a2, .ref a3, .ref a4, .ref a5, .int n0_6, .int n0_7, .int n0_8, .int n0_9, .int n0_10, .long l0_11, .int n0_12, .int n0_13, .int n0_14, .int n0_15, .ref a6, .ref a7, .ref a8, .ref a9, .ref a10, .ref a11, .ref a12, .ref a13, .int n0_24, .int n0_25, .int n0_26, .int n0_27, .ref a14, .int n0_29, .int n0_30])), (a7, .inl (ct 0, 15, .inl f7)), (a8, .inl (ct 0, 200, .inl f8)), (a9, .inl (ct 0, 1000, .inl f9)), (a11, .inl (ct 0, 8, .inl f11)), (a12, .inl (ct 0, 8, .inl f12)), (a13, .inl (ct 0, 8, .inl f13))])) (va_Qi (fun (r : Int32) (u : SU) => (r = 0 → rg 0 7 p0) ∧ (r = (-1) → rg 0 7 p0) ∧ (¬ r = (-2) → rg 0 7 p0) ∧ (r = 0 → rg 0 7 p1) ∧ (r = (-1) → rg 0 7 p1) ∧ (¬ r = (-2) → rg 0 7 p1) ∧ ar (-1) 7 (u.2.1 0) ∧ ar (-1) 7 (u.2.1 2) ∧ rg 0 0 (u.1 0) ∧ True) (fun u t => va_P G vwCl ((fun u : SU => [(a0, .inr (11, [.int (u.1 0), .ref a1, .ref a2, .ref a3, .ref a4, .ref a5, .int n0_6, .int n0_7, .int n0_8, .int n0_9, .int n0_10, .long l0_11, .int n0_12, .int n0_13, .int n0_14, .int n0_15, .ref a6, .ref a7, .ref a8, .ref a9, .ref a10, .ref a11, .ref a12, .ref a13, .int (u.1 1), .int (u.1 2), .int (u.1 3), .int (u.1 4), .ref a14, .int n0_29, .int n0_30])), (a7, .inl (ct 0, 15, .inl f7)), (a8, .inl (ct 0, 200, .inl f8)), (a9, .inl (ct 0, 1000, .inl f9)), (a11, .inl (ct 0, 8, .inl (u.2.1 0))), (a12, .inl (ct 0, 8, .inl (u.2.1 1))), (a13, .inl (ct 0, 8, .inl (u.2.1 2)))]) u) t.heap) (aset [(a0, .inr (11, [.int n0_0, .ref a1, .ref a2, .ref a3, .ref a4, .ref a5, .int n0_6, .int n0_7, .int n0_8, .int n0_9, .int n0_10, .long l0_11, .int n0_12, .int n0_13, .int n0_14, .int n0_15, .ref a6, .ref a7, .ref a8, .ref a9, .ref a10, .ref a11, .ref a12, .ref a13, .int n0_24, .int n0_25, .int n0_26, .int n0_27, .ref a14, .int n0_29, .int n0_30])), (a7, .inl (ct 0, 15, .inl f7)), (a8, .inl (ct 0, 200, .inl f8)), (a9, .inl (ct 0, 1000, .inl f9)), (a11, .inl (ct 0, 8, .inl f11)), (a12, .inl (ct 0, 8, .inl f12)), (a13, .inl (ct 0, 8, .inl f13))])) 0 0 (aset [(a0, .inr (11, [.int n0_0, .ref a1, .ref a2, .ref a3, .ref a4, .ref a5, .int n0_6, .int n0_7, .int n0_8, .int n0_9, .int n0_10, .long l0_11, .int n0_12, .int n0_13, .int n0_14, .int n0_15, .ref a6, .ref a7, .ref a8, .ref a9, .ref a10, .ref a11, .ref a12, .ref a13, .int n0_24, .int n0_25, .int n0_26, .int n0_27, .ref a14, .int n0_29, .int n0_30])), (a7, .inl (ct 0, 15, .inl f7)), (a8, .inl (ct 0, 200, .inl f8)), (a9, .inl (ct 0, 1000, .inl f9)), (a11, .inl (ct 0, 8, .inl f11)), (a12, .inl (ct 0, 8, .inl f12)), (a13, .inl (ct 0, 8, .inl f13))]) := by
  refine Met.ofW (cc := cX11_person) (maxL := 3) (ret := (some .int)) (by decide) rfl ?_
  intro p e s m args below meth c s₁ B hml hv
  obtain ⟨rfl, hP, hK, hD0⟩ := hv
  have hx := B.exec
  have hb := B.bytes
  have hr := B.returns
  have hts := atoms_spec (ws := wsX11_person) B.pre
  have hown : s.vm.findClass RX11 = some m.cls := findClass_of_methodNamed B.named
  have hlocks := B.notSynchronized
  have hD := hD0.aself
  generalize hAe : aset [(a0, .inr (11, [.int n0_0, .ref a1, .ref a2, .ref a3, .ref a4, .ref a5, .int n0_6, .int n0_7, .int n0_8, .int n0_9, .int n0_10, .long l0_11, .int n0_12, .int n0_13, .int n0_14, .int n0_15, .ref a6, .ref a7, .ref a8, .ref a9, .ref a10, .ref a11, .ref a12, .ref a13, .int n0_24, .int n0_25, .int n0_26, .int n0_27, .ref a14, .int n0_29, .int n0_30])), (a7, .inl (ct 0, 15, .inl f7)), (a8, .inl (ct 0, 200, .inl f8)), (a9, .inl (ct 0, 1000, .inl f9)), (a11, .inl (ct 0, 8, .inl f11)), (a12, .inl (ct 0, 8, .inl f12)), (a13, .inl (ct 0, 8, .inl f13))] = A at hD ⊢
  have hS : va_S A s.heap s.heap [] := va_S.rf
  have hl := lv_entry ([.ref a0, .int p0, .int p1]) (n := 3) (Nat.le_of_ble_eq_true rfl)
  rw [lg_entry_eq]
  generalize (lg_sl ([.ref a0, .int p0, .int p1]) ++ List.replicate (3 - (lg_sl ([.ref a0, .int p0, .int p1])).length) Slot.unset).toArray = ls at hl ⊢
  have hl : lv_has ls 3 [(0, .ref a0), (1, .int p0), (2, .int p1)] := hl
  refine lv_aload_n hx hb dX11_person_0 rfl (lv_at hl 0 rfl) ?_
  refine lv_iconst (v := 0) hx hb dX11_person_1 (by decide) ?_
  refine va_put (D := G) (ci := 11) (v := .int 0) (ty := .int) (C := RX11) (T := TX11) (N := 31) hx hb hts (by decide +kernel) tyX11 tyX11_ok nmX11 hown hK.1 hP hD hS 0 rfl rfl 0 (by decide) (hts (.fieldLink RX11 59 "CardHolderModel" "thrown" "I") (by decide +kernel)) (fun _ h9 => h9) rfl (by decide +kernel) rfl rfl (Nat.le_of_ble_eq_true rfl) dX11_person_2 (fun H locs hP hD hS => ?_)
  refine lv_aload_n hx hb dX11_person_5 rfl (lv_at hl 0 rfl) ?_
  refine lv_iload_n hx hb dX11_person_6 rfl (lv_at hl 1 rfl) ?_
  refine lv_i2l hx hb dX11_person_7 rfl ?_
  refine nl_i2l (rg_t p0) (fun z7 hz7 ez7 => ?_)
  refine ro_calli (va_runV (As := [.long z7]) (rest := []) ⟨hx, hb, hml, hown, hts⟩ (a_X11_isPerson l G ct a0 (0 : Int32) a1 a2 a3 a4 a5 n0_6 n0_7 n0_8 n0_9 n0_10 l0_11 n0_12 n0_13 n0_14 n0_15 a6 a7 a8 a9 a10 a11 a12 a13 n0_24 n0_25 n0_26 n0_27 a14 n0_29 n0_30 f7 z7 hp_n0_6 hp_f7) (cwV 1 hts gX11_person_X11_isPerson rfl rfl rfl (by decide +kernel) ⟨Nat.le_of_ble_eq_true rfl, Nat.le_of_ble_eq_true rfl⟩) (ro_preV 11 0 hK (hP.sub [0, 1] rfl) rfl rfl) rfl rfl hl.1 rfl (lv_room (Nat.le_of_ble_eq_true rfl)) dX11_person_8 ⟨Nat.zero_le _, Nat.zero_le _⟩) hS hP (fun r8 H locs wr8 hP hS => ?_)
  obtain ⟨p_1, p_2, -⟩ := wr8
  refine lv_if_eq (tgt := 26) hx hb dX11_person_11 (by decide) (fun c11 => ?_) (fun c11 => ?_)
  · have h_3 : rg 0 0 r8 := r_eq_l_i (e := 0) (f := 0) c11 p_1 (rgn 0 (x := 0) (by decide)) (by decide)
    refine lv_bipush (v := (-2)) hx hb dX11_person_26 (by decide) ?_
    exact W.iret (v := (-2)) hx hb hr (fun t ht hW => ⟨⟨(-2), (fun k => ([0, n0_24, n0_25, n0_26, n0_27] : List Int32).getD k 0, fun k => ([f11, f12, f13] : List (Nat → Int32)).getD k (fun _ => 0), fun k => ([] : List (Nat → Int64)).getD k (fun _ => 0)), rfl, ⟨(fun hq => absurd hq (rne (rgn (-2) (x := (-2)) (by decide)) (y := 0) (c := 0) (by decide) (by decide))), (fun hq => absurd hq (rne (rgn (-2) (x := (-2)) (by decide)) (y := (-1)) (c := (-1)) (by decide) (by decide))), (fun hq => absurd (req (rgn (-2) (x := (-2)) (by decide)) (y := (-2)) (by decide)) hq), (fun hq => absurd hq (rne (rgn (-2) (x := (-2)) (by decide)) (y := 0) (c := 0) (by decide) (by decide))), (fun hq => absurd hq (rne (rgn (-2) (x := (-2)) (by decide)) (y := (-1)) (c := (-1)) (by decide) (by decide))), (fun hq => absurd (req (rgn (-2) (x := (-2)) (by decide)) (y := (-2)) (by decide)) hq), hp_f11, hp_f13, (rgn 0 (x := 0) (by decide)), trivial⟩, hp_at ht hP⟩, hS.F ht⟩) hS.2.2 dX11_person_28
  · have h_4 : rg 1 1 r8 := r_ne_lo_i c11 p_1 (by decide) (by decide)
    have h_5 : rl 0 7 z7 := (p_2 (rne h_4 (y := 0) (c := 0) (by decide) (by decide)))
    have h_6 : rg 0 7 p0 := bk_li (a := 0) (b := 7) ez7 h_5 (rg_t p0) (by decide)
    refine lv_iload_n hx hb dX11_person_14 rfl (lv_at hl 2 rfl) ?_
    refine lv_i2l hx hb dX11_person_15 rfl ?_
    refine nl_i2l (rg_t p1) (fun z15 hz15 ez15 => ?_)
    refine lv_lconst (v := 0) hx hb dX11_person_16 (by decide) ?_
    refine lv_ldc2 (own := RX11) (v := 7) hx hb hown (hts (.constantLong RX11 249 (7)) (by decide +kernel)) dX11_person_17 ?_
    refine ro_calli (va_runS (As := [.long z15, .long 0, .long 7]) (rest := []) ⟨hx, hb, hml, hown, hts⟩ (a_X11_in l G ct z15 (0 : Int64) (7 : Int64)) (va_cwS 3 hts gX11_person_X11_in rfl rfl rfl (by decide +kernel) ⟨Nat.le_of_ble_eq_true rfl, Nat.le_of_ble_eq_true rfl⟩) (ro_pre hK (hP.sub [] rfl)) rfl rfl hl.1 rfl (lv_room (Nat.le_of_ble_eq_true rfl)) dX11_person_20 ⟨Nat.zero_le _, Nat.zero_le _⟩) hS hP (fun r20 H locs wr20 hP hS => ?_)
    obtain ⟨p_7, p_8, -⟩ := wr20
    refine lv_if_ne (tgt := 29) hx hb dX11_person_23 (by decide) (fun c23 => ?_) (fun c23 => ?_)
    · have h_9 : rg 1 1 r20 := r_ne_lo_i c23 p_7 (by decide) (by decide)
      have h_10 : rl 0 7 z15 := ((fun hq => in_im (p_8 hq) (rln 0 (x := 0) (by decide)) (rln 7 (x := 7) (by decide))) (rne h_9 (y := 0) (c := 0) (by decide) (by decide)))
      have h_11 : rg 0 7 p1 := bk_li (a := 0) (b := 7) ez15 h_10 (rg_t p1) (by decide)
      refine lv_aload_n hx hb dX11_person_29 rfl (lv_at hl 0 rfl) ?_
      refine wj_callv (wr := []) (w1 := (fun u : SU => [(a0, .inr (11, [.int 0, .ref a1, .ref a2, .ref a3, .ref a4, .ref a5, .int n0_6, .int n0_7, .int n0_8, .int n0_9, .int n0_10, .long l0_11, .int n0_12, .int n0_13, .int n0_14, .int n0_15, .ref a6, .ref a7, .ref a8, .ref a9, .ref a10, .ref a11, .ref a12, .ref a13, .int (u.1 0), .int (u.1 1), .int (u.1 2), .int (u.1 3), .ref a14, .int n0_29, .int n0_30])), (a7, .inl (ct 0, 15, .inl f7)), (a8, .inl (ct 0, 200, .inl f8)), (a9, .inl (ct 0, 1000, .inl f9)), (a11, .inl (ct 0, 8, .inl (u.2.1 0))), (a12, .inl (ct 0, 8, .inl (u.2.1 1))), (a13, .inl (ct 0, 8, .inl (u.2.1 2)))])) (va_runV (As := []) (rest := []) ⟨hx, hb, hml, hown, hts⟩ (a_X11_laysNow l G ct a0 (0 : Int32) a1 a2 a3 a4 a5 n0_6 n0_7 n0_8 n0_9 n0_10 l0_11 n0_12 n0_13 n0_14 n0_15 a6 a7 a8 a9 a10 a11 a12 a13 n0_24 n0_25 n0_26 n0_27 a14 n0_29 n0_30 f7 f8 f9 f11 f12 f13 hp_n0_6 hp_f7 hp_f8 hp_f9 hp_f11 hp_f13) (cwV 0 hts gX11_person_X11_laysNow rfl rfl rfl (by decide +kernel) ⟨Nat.le_of_ble_eq_true rfl, Nat.le_of_ble_eq_true rfl⟩) (wr_preV 11 0 hK (hP.sub [0, 1, 2, 3, 4, 5, 6] rfl) (hD.sub [0, 1, 2, 3, 4, 5, 6] (by decide) rfl) rfl rfl) rfl rfl hl.1 rfl (lv_room (Nat.le_of_ble_eq_true rfl)) dX11_person_30 ⟨Nat.zero_le _, Nat.zero_le _⟩) hS hP hD [0, 1, 2, 3, 4, 5, 6] [] rfl rfl (by decide) (fun _ => rfl) (fun ur30 H locs wr30 hP hD hS => ?_)
      have hP : va_P G vwCl [(a0, .inr (11, [.int 0, .ref a1, .ref a2, .ref a3, .ref a4, .ref a5, .int n0_6, .int n0_7, .int n0_8, .int n0_9, .int n0_10, .long l0_11, .int n0_12, .int n0_13, .int n0_14, .int n0_15, .ref a6, .ref a7, .ref a8, .ref a9, .ref a10, .ref a11, .ref a12, .ref a13, .int (ur30.1 0), .int (ur30.1 1), .int (ur30.1 2), .int (ur30.1 3), .ref a14, .int n0_29, .int n0_30])), (a7, .inl (ct 0, 15, .inl f7)), (a8, .inl (ct 0, 200, .inl f8)), (a9, .inl (ct 0, 1000, .inl f9)), (a11, .inl (ct 0, 8, .inl (ur30.2.1 0))), (a12, .inl (ct 0, 8, .inl (ur30.2.1 1))), (a13, .inl (ct 0, 8, .inl (ur30.2.1 2)))] H := hP.sub [0, 1, 2, 3, 4, 5, 6] rfl
      have hD : va_D A [(a0, .inr (11, [.int 0, .ref a1, .ref a2, .ref a3, .ref a4, .ref a5, .int n0_6, .int n0_7, .int n0_8, .int n0_9, .int n0_10, .long l0_11, .int n0_12, .int n0_13, .int n0_14, .int n0_15, .ref a6, .ref a7, .ref a8, .ref a9, .ref a10, .ref a11, .ref a12, .ref a13, .int (ur30.1 0), .int (ur30.1 1), .int (ur30.1 2), .int (ur30.1 3), .ref a14, .int n0_29, .int n0_30])), (a7, .inl (ct 0, 15, .inl f7)), (a8, .inl (ct 0, 200, .inl f8)), (a9, .inl (ct 0, 1000, .inl f9)), (a11, .inl (ct 0, 8, .inl (ur30.2.1 0))), (a12, .inl (ct 0, 8, .inl (ur30.2.1 1))), (a13, .inl (ct 0, 8, .inl (ur30.2.1 2)))] := hD.sub [0, 1, 2, 3, 4, 5, 6] (by decide) rfl
      obtain ⟨p_12, p_13, -⟩ := wr30
      refine lv_iload_n hx hb dX11_person_33 rfl (lv_at hl 2 rfl) ?_
      by_cases c34 : p1 = 0 ∨ p1 = 1 ∨ p1 = 2 ∨ p1 = 3 ∨ p1 = 4 ∨ p1 = 5 ∨ p1 = 6
      · rcases c34 with c34 | c34 | c34 | c34 | c34 | c34 | c34
        · refine lv_tableIn (tgt := 76) hx hb dX11_person_34 (by rw [c34]; decide) (by rw [c34]; decide) (by rw [c34]; rfl) (by decide) ?_
          have h_14 : rg 0 0 p1 := r_eq_l_i (e := 0) (f := 0) c34 h_11 (rgn 0 (x := 0) (by decide)) (by decide)
          refine lv_aload_n hx hb dX11_person_76 rfl (lv_at hl 0 rfl) ?_
          refine lv_iload_n hx hb dX11_person_77 rfl (lv_at hl 1 rfl) ?_
          refine lv_iconst (v := 0) hx hb dX11_person_78 (by decide) ?_
          refine ro_calli (va_runV (As := [.int p0, .int 0]) (rest := []) ⟨hx, hb, hml, hown, hts⟩ (a_X11_of0 l G ct a0 (0 : Int32) a1 a2 a3 a4 a5 n0_6 n0_7 n0_8 n0_9 n0_10 l0_11 n0_12 n0_13 n0_14 n0_15 a6 a7 a8 a9 a10 a11 a12 a13 (ur30.1 0) (ur30.1 1) (ur30.1 2) (ur30.1 3) a14 n0_29 n0_30 f8 p0 hp_n0_6 hp_f8 h_6) (cwV 2 hts gX11_person_X11_of rfl rfl rfl (by decide +kernel) ⟨Nat.le_of_ble_eq_true rfl, Nat.le_of_ble_eq_true rfl⟩) (ro_preV 11 0 hK (hP.sub [0, 2] rfl) rfl rfl) rfl rfl hl.1 rfl (lv_room (Nat.le_of_ble_eq_true rfl)) dX11_person_79 ⟨Nat.zero_le _, Nat.zero_le _⟩) hS hP (fun r79 H locs wr79 hP hS => ?_)
          exact W.iret (v := r79) hx hb hr (fun t ht hW => ⟨⟨r79, (fun k => ([0, ur30.1 0, ur30.1 1, ur30.1 2, ur30.1 3] : List Int32).getD k 0, fun k => ([ur30.2.1 0, ur30.2.1 1, ur30.2.1 2] : List (Nat → Int32)).getD k (fun _ => 0), fun k => ([] : List (Nat → Int64)).getD k (fun _ => 0)), rfl, ⟨(fun _ => h_6), (fun _ => h_6), (fun _ => h_6), (fun _ => (rg_w (c := 0) (d := 7) h_14 (by decide))), (fun _ => (rg_w (c := 0) (d := 7) h_14 (by decide))), (fun _ => (rg_w (c := 0) (d := 7) h_14 (by decide))), p_12, p_13, (rgn 0 (x := 0) (by decide)), trivial⟩, hp_at ht hP⟩, hS.F ht⟩) hS.2.2 dX11_person_82
        · refine lv_tableIn (tgt := 83) hx hb dX11_person_34 (by rw [c34]; decide) (by rw [c34]; decide) (by rw [c34]; rfl) (by decide) ?_
          have h_15 : rg 1 1 p1 := r_eq_l_i (e := 1) (f := 1) c34 h_11 (rgn 1 (x := 1) (by decide)) (by decide)
          refine lv_aload_n hx hb dX11_person_83 rfl (lv_at hl 0 rfl) ?_
          refine lv_iload_n hx hb dX11_person_84 rfl (lv_at hl 1 rfl) ?_
          refine lv_iconst (v := 1) hx hb dX11_person_85 (by decide) ?_
          refine ro_calli (va_runV (As := [.int p0, .int 1]) (rest := []) ⟨hx, hb, hml, hown, hts⟩ (a_X11_of1 l G ct a0 (0 : Int32) a1 a2 a3 a4 a5 n0_6 n0_7 n0_8 n0_9 n0_10 l0_11 n0_12 n0_13 n0_14 n0_15 a6 a7 a8 a9 a10 a11 a12 a13 (ur30.1 0) (ur30.1 1) (ur30.1 2) (ur30.1 3) a14 n0_29 n0_30 f8 p0 hp_n0_6 hp_f8 h_6) (cwV 2 hts gX11_person_X11_of rfl rfl rfl (by decide +kernel) ⟨Nat.le_of_ble_eq_true rfl, Nat.le_of_ble_eq_true rfl⟩) (ro_preV 11 0 hK (hP.sub [0, 2] rfl) rfl rfl) rfl rfl hl.1 rfl (lv_room (Nat.le_of_ble_eq_true rfl)) dX11_person_86 ⟨Nat.zero_le _, Nat.zero_le _⟩) hS hP (fun r86 H locs wr86 hP hS => ?_)
          exact W.iret (v := r86) hx hb hr (fun t ht hW => ⟨⟨r86, (fun k => ([0, ur30.1 0, ur30.1 1, ur30.1 2, ur30.1 3] : List Int32).getD k 0, fun k => ([ur30.2.1 0, ur30.2.1 1, ur30.2.1 2] : List (Nat → Int32)).getD k (fun _ => 0), fun k => ([] : List (Nat → Int64)).getD k (fun _ => 0)), rfl, ⟨(fun _ => h_6), (fun _ => h_6), (fun _ => h_6), (fun _ => (rg_w (c := 0) (d := 7) h_15 (by decide))), (fun _ => (rg_w (c := 0) (d := 7) h_15 (by decide))), (fun _ => (rg_w (c := 0) (d := 7) h_15 (by decide))), p_12, p_13, (rgn 0 (x := 0) (by decide)), trivial⟩, hp_at ht hP⟩, hS.F ht⟩) hS.2.2 dX11_person_89
        · refine lv_tableIn (tgt := 90) hx hb dX11_person_34 (by rw [c34]; decide) (by rw [c34]; decide) (by rw [c34]; rfl) (by decide) ?_
          have h_16 : rg 2 2 p1 := r_eq_l_i (e := 2) (f := 2) c34 h_11 (rgn 2 (x := 2) (by decide)) (by decide)
          refine lv_aload_n hx hb dX11_person_90 rfl (lv_at hl 0 rfl) ?_
          refine va_get (D := G) (ci := 11) (v := .ref a11) (C := RX11) (T := TX11) (N := 31) hx hb hts (by decide +kernel) hown hK.1 hP 0 rfl rfl 21 (by decide) (hts (.fieldLink RX11 47 "CardHolderModel" "holder" "[I") (by decide +kernel)) (fun _ h9 => h9) rfl dX11_person_91 ?_
          refine lv_iload_n hx hb dX11_person_94 rfl (lv_at hl 1 rfl) ?_
          refine va_iald hx hb hK.1 hP 4 0 rfl rfl (in_rg h_6 (by decide)) dX11_person_95 ?_
          refine lv_topi (fun z95 gz95 => ?_)
          have hz95 : rg (-1) 7 z95 := by rw [gz95]; exact p_12 _
          exact W.iret (v := z95) hx hb hr (fun t ht hW => ⟨⟨z95, (fun k => ([0, ur30.1 0, ur30.1 1, ur30.1 2, ur30.1 3] : List Int32).getD k 0, fun k => ([ur30.2.1 0, ur30.2.1 1, ur30.2.1 2] : List (Nat → Int32)).getD k (fun _ => 0), fun k => ([] : List (Nat → Int64)).getD k (fun _ => 0)), rfl, ⟨(fun _ => h_6), (fun _ => h_6), (fun _ => h_6), (fun _ => (rg_w (c := 0) (d := 7) h_16 (by decide))), (fun _ => (rg_w (c := 0) (d := 7) h_16 (by decide))), (fun _ => (rg_w (c := 0) (d := 7) h_16 (by decide))), p_12, p_13, (rgn 0 (x := 0) (by decide)), trivial⟩, hp_at ht hP⟩, hS.F ht⟩) hS.2.2 dX11_person_96
        · refine lv_tableIn (tgt := 97) hx hb dX11_person_34 (by rw [c34]; decide) (by rw [c34]; decide) (by rw [c34]; rfl) (by decide) ?_
          have h_17 : rg 3 3 p1 := r_eq_l_i (e := 3) (f := 3) c34 h_11 (rgn 3 (x := 3) (by decide)) (by decide)
          refine lv_aload_n hx hb dX11_person_97 rfl (lv_at hl 0 rfl) ?_
          refine lv_iload_n hx hb dX11_person_98 rfl (lv_at hl 1 rfl) ?_
          refine ro_calli (va_runV (As := [.int p0]) (rest := []) ⟨hx, hb, hml, hown, hts⟩ (a_X11_handOf l G ct a0 (0 : Int32) a1 a2 a3 a4 a5 n0_6 n0_7 n0_8 n0_9 n0_10 l0_11 n0_12 n0_13 n0_14 n0_15 a6 a7 a8 a9 a10 a11 a12 a13 (ur30.1 0) (ur30.1 1) (ur30.1 2) (ur30.1 3) a14 n0_29 n0_30 f7 (ur30.2.1 0) p0 hp_n0_6 hp_f7 p_12) (cwV 1 hts gX11_person_X11_handOf rfl rfl rfl (by decide +kernel) ⟨Nat.le_of_ble_eq_true rfl, Nat.le_of_ble_eq_true rfl⟩) (ro_preV 11 0 hK (hP.sub [0, 1, 4] rfl) rfl rfl) rfl rfl hl.1 rfl (lv_room (Nat.le_of_ble_eq_true rfl)) dX11_person_99 ⟨Nat.zero_le _, Nat.zero_le _⟩) hS hP (fun r99 H locs wr99 hP hS => ?_)
          obtain ⟨p_18, p_19, p_20, -⟩ := wr99
          exact W.iret (v := r99) hx hb hr (fun t ht hW => ⟨⟨r99, (fun k => ([0, ur30.1 0, ur30.1 1, ur30.1 2, ur30.1 3] : List Int32).getD k 0, fun k => ([ur30.2.1 0, ur30.2.1 1, ur30.2.1 2] : List (Nat → Int32)).getD k (fun _ => 0), fun k => ([] : List (Nat → Int64)).getD k (fun _ => 0)), rfl, ⟨(fun _ => h_6), (fun _ => h_6), (fun _ => h_6), (fun _ => (rg_w (c := 0) (d := 7) h_17 (by decide))), (fun _ => (rg_w (c := 0) (d := 7) h_17 (by decide))), (fun _ => (rg_w (c := 0) (d := 7) h_17 (by decide))), p_12, p_13, (rgn 0 (x := 0) (by decide)), trivial⟩, hp_at ht hP⟩, hS.F ht⟩) hS.2.2 dX11_person_102
        · refine lv_tableIn (tgt := 103) hx hb dX11_person_34 (by rw [c34]; decide) (by rw [c34]; decide) (by rw [c34]; rfl) (by decide) ?_
          have h_21 : rg 4 4 p1 := r_eq_l_i (e := 4) (f := 4) c34 h_11 (rgn 4 (x := 4) (by decide)) (by decide)
          refine lv_aload_n hx hb dX11_person_103 rfl (lv_at hl 0 rfl) ?_
          refine lv_iload_n hx hb dX11_person_104 rfl (lv_at hl 1 rfl) ?_
          refine lv_iconst (v := 2) hx hb dX11_person_105 (by decide) ?_
          refine ro_calli (va_runV (As := [.int p0, .int 2]) (rest := []) ⟨hx, hb, hml, hown, hts⟩ (a_X11_of2 l G ct a0 (0 : Int32) a1 a2 a3 a4 a5 n0_6 n0_7 n0_8 n0_9 n0_10 l0_11 n0_12 n0_13 n0_14 n0_15 a6 a7 a8 a9 a10 a11 a12 a13 (ur30.1 0) (ur30.1 1) (ur30.1 2) (ur30.1 3) a14 n0_29 n0_30 f8 p0 hp_n0_6 hp_f8 h_6) (cwV 2 hts gX11_person_X11_of rfl rfl rfl (by decide +kernel) ⟨Nat.le_of_ble_eq_true rfl, Nat.le_of_ble_eq_true rfl⟩) (ro_preV 11 0 hK (hP.sub [0, 2] rfl) rfl rfl) rfl rfl hl.1 rfl (lv_room (Nat.le_of_ble_eq_true rfl)) dX11_person_106 ⟨Nat.zero_le _, Nat.zero_le _⟩) hS hP (fun r106 H locs wr106 hP hS => ?_)
          obtain ⟨p_22, -⟩ := wr106
          exact W.iret (v := r106) hx hb hr (fun t ht hW => ⟨⟨r106, (fun k => ([0, ur30.1 0, ur30.1 1, ur30.1 2, ur30.1 3] : List Int32).getD k 0, fun k => ([ur30.2.1 0, ur30.2.1 1, ur30.2.1 2] : List (Nat → Int32)).getD k (fun _ => 0), fun k => ([] : List (Nat → Int64)).getD k (fun _ => 0)), rfl, ⟨(fun _ => h_6), (fun _ => h_6), (fun _ => h_6), (fun _ => (rg_w (c := 0) (d := 7) h_21 (by decide))), (fun _ => (rg_w (c := 0) (d := 7) h_21 (by decide))), (fun _ => (rg_w (c := 0) (d := 7) h_21 (by decide))), p_12, p_13, (rgn 0 (x := 0) (by decide)), trivial⟩, hp_at ht hP⟩, hS.F ht⟩) hS.2.2 dX11_person_109
        · refine lv_tableIn (tgt := 110) hx hb dX11_person_34 (by rw [c34]; decide) (by rw [c34]; decide) (by rw [c34]; rfl) (by decide) ?_
          have h_23 : rg 5 5 p1 := r_eq_l_i (e := 5) (f := 5) c34 h_11 (rgn 5 (x := 5) (by decide)) (by decide)
          refine lv_aload_n hx hb dX11_person_110 rfl (lv_at hl 0 rfl) ?_
          refine va_get (D := G) (ci := 11) (v := .int (ur30.1 0)) (C := RX11) (T := TX11) (N := 31) hx hb hts (by decide +kernel) hown hK.1 hP 0 rfl rfl 24 (by decide) (hts (.fieldLink RX11 217 "CardHolderModel" "asked" "I") (by decide +kernel)) (fun _ h9 => h9) rfl dX11_person_111 ?_
          refine lv_iload_n hx hb dX11_person_114 rfl (lv_at hl 1 rfl) ?_
          refine lv_ishr hx hb dX11_person_115 ?_
          refine nm_0 (fun z115 => ?_)
          refine lv_iconst (v := 1) hx hb dX11_person_116 (by decide) ?_
          refine lv_iand hx hb dX11_person_117 ?_
          refine nm_andr (rgn 1 (x := 1) (by decide)) (by decide) (fun z117 hz117 => ?_)
          exact W.iret (v := z117) hx hb hr (fun t ht hW => ⟨⟨z117, (fun k => ([0, ur30.1 0, ur30.1 1, ur30.1 2, ur30.1 3] : List Int32).getD k 0, fun k => ([ur30.2.1 0, ur30.2.1 1, ur30.2.1 2] : List (Nat → Int32)).getD k (fun _ => 0), fun k => ([] : List (Nat → Int64)).getD k (fun _ => 0)), rfl, ⟨(fun _ => h_6), (fun _ => h_6), (fun _ => h_6), (fun _ => (rg_w (c := 0) (d := 7) h_23 (by decide))), (fun _ => (rg_w (c := 0) (d := 7) h_23 (by decide))), (fun _ => (rg_w (c := 0) (d := 7) h_23 (by decide))), p_12, p_13, (rgn 0 (x := 0) (by decide)), trivial⟩, hp_at ht hP⟩, hS.F ht⟩) hS.2.2 dX11_person_118
        · refine lv_tableIn (tgt := 119) hx hb dX11_person_34 (by rw [c34]; decide) (by rw [c34]; decide) (by rw [c34]; rfl) (by decide) ?_
          have h_24 : rg 6 6 p1 := r_eq_l_i (e := 6) (f := 6) c34 h_11 (rgn 6 (x := 6) (by decide)) (by decide)
          refine lv_aload_n hx hb dX11_person_119 rfl (lv_at hl 0 rfl) ?_
          refine lv_iload_n hx hb dX11_person_120 rfl (lv_at hl 1 rfl) ?_
          refine lv_iconst (v := 4) hx hb dX11_person_121 (by decide) ?_
          refine ro_calli (va_runV (As := [.int p0, .int 4]) (rest := []) ⟨hx, hb, hml, hown, hts⟩ (a_X11_of4 l G ct a0 (0 : Int32) a1 a2 a3 a4 a5 n0_6 n0_7 n0_8 n0_9 n0_10 l0_11 n0_12 n0_13 n0_14 n0_15 a6 a7 a8 a9 a10 a11 a12 a13 (ur30.1 0) (ur30.1 1) (ur30.1 2) (ur30.1 3) a14 n0_29 n0_30 f8 p0 hp_n0_6 hp_f8 h_6) (cwV 2 hts gX11_person_X11_of rfl rfl rfl (by decide +kernel) ⟨Nat.le_of_ble_eq_true rfl, Nat.le_of_ble_eq_true rfl⟩) (ro_preV 11 0 hK (hP.sub [0, 2] rfl) rfl rfl) rfl rfl hl.1 rfl (lv_room (Nat.le_of_ble_eq_true rfl)) dX11_person_122 ⟨Nat.zero_le _, Nat.zero_le _⟩) hS hP (fun r122 H locs wr122 hP hS => ?_)
          exact W.iret (v := r122) hx hb hr (fun t ht hW => ⟨⟨r122, (fun k => ([0, ur30.1 0, ur30.1 1, ur30.1 2, ur30.1 3] : List Int32).getD k 0, fun k => ([ur30.2.1 0, ur30.2.1 1, ur30.2.1 2] : List (Nat → Int32)).getD k (fun _ => 0), fun k => ([] : List (Nat → Int64)).getD k (fun _ => 0)), rfl, ⟨(fun _ => h_6), (fun _ => h_6), (fun _ => h_6), (fun _ => (rg_w (c := 0) (d := 7) h_24 (by decide))), (fun _ => (rg_w (c := 0) (d := 7) h_24 (by decide))), (fun _ => (rg_w (c := 0) (d := 7) h_24 (by decide))), p_12, p_13, (rgn 0 (x := 0) (by decide)), trivial⟩, hp_at ht hP⟩, hS.F ht⟩) hS.2.2 dX11_person_125
      · obtain ⟨d34_0, c34⟩ := not_or.mp c34
        obtain ⟨d34_1, c34⟩ := not_or.mp c34
        obtain ⟨d34_2, c34⟩ := not_or.mp c34
        obtain ⟨d34_3, c34⟩ := not_or.mp c34
        obtain ⟨d34_4, c34⟩ := not_or.mp c34
        obtain ⟨d34_5, c34⟩ := not_or.mp c34
        have d34_6 := c34
        refine lv_tableOut (tgt := 126) hx hb dX11_person_34 (by have := i_ne d34_0; have := i_ne d34_1; have := i_ne d34_2; have := i_ne d34_3; have := i_ne d34_4; have := i_ne d34_5; have := i_ne d34_6; have : (0 : Int32).toInt = 0 := (by decide); have : (1 : Int32).toInt = 1 := (by decide); have : (2 : Int32).toInt = 2 := (by decide); have : (3 : Int32).toInt = 3 := (by decide); have : (4 : Int32).toInt = 4 := (by decide); have : (5 : Int32).toInt = 5 := (by decide); have : (6 : Int32).toInt = 6 := (by decide); omega) (by decide) ?_
        refine lv_aload_n hx hb dX11_person_126 rfl (lv_at hl 0 rfl) ?_
        refine lv_iload_n hx hb dX11_person_127 rfl (lv_at hl 1 rfl) ?_
        refine ro_calli (va_runV (As := [.int p0]) (rest := []) ⟨hx, hb, hml, hown, hts⟩ (a_X11_yetOf l G ct a0 (0 : Int32) a1 a2 a3 a4 a5 n0_6 n0_7 n0_8 n0_9 n0_10 l0_11 n0_12 n0_13 n0_14 n0_15 a6 a7 a8 a9 a10 a11 a12 a13 (ur30.1 0) (ur30.1 1) (ur30.1 2) (ur30.1 3) a14 n0_29 n0_30 f7 f8 (ur30.2.1 0) (ur30.2.1 1) p0 hp_n0_6 hp_f7 hp_f8 p_12 h_6) (cwV 1 hts gX11_person_X11_yetOf rfl rfl rfl (by decide +kernel) ⟨Nat.le_of_ble_eq_true rfl, Nat.le_of_ble_eq_true rfl⟩) (ro_preV 11 0 hK (hP.sub [0, 1, 2, 4, 5] rfl) rfl rfl) rfl rfl hl.1 rfl (lv_room (Nat.le_of_ble_eq_true rfl)) dX11_person_128 ⟨Nat.zero_le _, Nat.zero_le _⟩) hS hP (fun r128 H locs wr128 hP hS => ?_)
        exact W.iret (v := r128) hx hb hr (fun t ht hW => ⟨⟨r128, (fun k => ([0, ur30.1 0, ur30.1 1, ur30.1 2, ur30.1 3] : List Int32).getD k 0, fun k => ([ur30.2.1 0, ur30.2.1 1, ur30.2.1 2] : List (Nat → Int32)).getD k (fun _ => 0), fun k => ([] : List (Nat → Int64)).getD k (fun _ => 0)), rfl, ⟨(fun _ => h_6), (fun _ => h_6), (fun _ => h_6), (fun _ => h_11), (fun _ => h_11), (fun _ => h_11), p_12, p_13, (rgn 0 (x := 0) (by decide)), trivial⟩, hp_at ht hP⟩, hS.F ht⟩) hS.2.2 dX11_person_131
    · have h_25 : rg 0 0 r20 := r_eq_l_i (e := 0) (f := 0) c23 p_7 (rgn 0 (x := 0) (by decide)) (by decide)
      refine lv_bipush (v := (-2)) hx hb dX11_person_26 (by decide) ?_
      exact W.iret (v := (-2)) hx hb hr (fun t ht hW => ⟨⟨(-2), (fun k => ([0, n0_24, n0_25, n0_26, n0_27] : List Int32).getD k 0, fun k => ([f11, f12, f13] : List (Nat → Int32)).getD k (fun _ => 0), fun k => ([] : List (Nat → Int64)).getD k (fun _ => 0)), rfl, ⟨(fun _ => h_6), (fun _ => h_6), (fun _ => h_6), (fun hq => absurd hq (rne (rgn (-2) (x := (-2)) (by decide)) (y := 0) (c := 0) (by decide) (by decide))), (fun hq => absurd hq (rne (rgn (-2) (x := (-2)) (by decide)) (y := (-1)) (c := (-1)) (by decide) (by decide))), (fun hq => absurd (req (rgn (-2) (x := (-2)) (by decide)) (y := (-2)) (by decide)) hq), hp_f11, hp_f13, (rgn 0 (x := 0) (by decide)), trivial⟩, hp_at ht hP⟩, hS.F ht⟩) hS.2.2 dX11_person_28

set_option maxHeartbeats 4000000 in
set_option maxRecDepth 100000 in
theorem a_X11_free (l : Launch) (G : va_G) (ct : Nat → ClassId) (a0 : Nat) (n0_0 : Int32) (a1 : Nat) (a2 : Nat) (a3 : Nat) (a4 : Nat) (a5 : Nat) (n0_6 : Int32) (n0_7 : Int32) (n0_8 : Int32) (n0_9 : Int32) (n0_10 : Int32) (l0_11 : Int64) (n0_12 : Int32) (n0_13 : Int32) (n0_14 : Int32) (n0_15 : Int32) (a6 : Nat) (a7 : Nat) (a8 : Nat) (a9 : Nat) (a10 : Nat) (a11 : Nat) (a12 : Nat) (a13 : Nat) (n0_24 : Int32) (n0_25 : Int32) (n0_26 : Int32) (n0_27 : Int32) (a14 : Nat) (n0_29 : Int32) (n0_30 : Int32) (f6 : Nat → Int32) (f7 : Nat → Int32) (f8 : Nat → Int32) (f9 : Nat → Int32) (f11 : Nat → Int32) (f12 : Nat → Int32) (f13 : Nat → Int32) (hp_n0_6 : rg 0 900 n0_6) (hp_f7 : hsI f7) (hp_f8 : psI f8) (hp_f9 : ar 0 7 f9) (hp_f11 : ar (-1) 7 f11) (hp_f13 : ar (-1) 7 f13) : Met l yX11_free wsX11_free ({ frames := 5, cells := 0, slots := 0, locals := 111 }) (va_Pc [.ref a0] (wrP G ct [(a0, .inr (11, [.int n0_0, .ref a1, .ref a2, .ref a3, .ref a4, .ref a5, .int n0_6, .int n0_7, .int n0_8, .int n0_9, .int n0_10, .long l0_11, .int n0_12, .int n0_13, .int n0_14, .int n0_15, .ref a6, .ref a7, .ref a8, .ref a9, .ref a10, .ref a11, .ref a12, .ref a13, .int n0_24, .int n0_25, .int n0_26, .int n0_27, .ref a14, .int n0_29, .int n0_30])), (a6, .inl (ct 0, 5, .inl f6)), (a7, .inl (ct 0, 15, .inl f7)), (a8, .inl (ct 0, 200, .inl f8)), (a9, .inl (ct 0, 1000, .inl f9)), (a11, .inl (ct 0, 8, .inl f11)), (a12, .inl (ct 0, 8, .inl f12)), (a13, .inl (ct 0, 8, .inl f13))])) (va_Qi (fun (r : Int32) (u : SU) => rg (-2) 255 r ∧ ar (-1) 7 (u.2.1 0) ∧ ar (-1) 7 (u.2.1 2) ∧ rg 0 0 (u.1 0) ∧ True) (fun u t => va_P G vwCl ((fun u : SU => [(a0, .inr (11, [.int (u.1 0), .ref a1, .ref a2, .ref a3, .ref a4, .ref a5, .int n0_6, .int n0_7, .int n0_8, .int n0_9, .int n0_10, .long l0_11, .int n0_12, .int n0_13, .int n0_14, .int n0_15, .ref a6, .ref a7, .ref a8, .ref a9, .ref a10, .ref a11, .ref a12, .ref a13, .int (u.1 1), .int (u.1 2), .int (u.1 3), .int (u.1 4), .ref a14, .int n0_29, .int n0_30])), (a6, .inl (ct 0, 5, .inl f6)), (a7, .inl (ct 0, 15, .inl f7)), (a8, .inl (ct 0, 200, .inl f8)), (a9, .inl (ct 0, 1000, .inl f9)), (a11, .inl (ct 0, 8, .inl (u.2.1 0))), (a12, .inl (ct 0, 8, .inl (u.2.1 1))), (a13, .inl (ct 0, 8, .inl (u.2.1 2)))]) u) t.heap) (aset [(a0, .inr (11, [.int n0_0, .ref a1, .ref a2, .ref a3, .ref a4, .ref a5, .int n0_6, .int n0_7, .int n0_8, .int n0_9, .int n0_10, .long l0_11, .int n0_12, .int n0_13, .int n0_14, .int n0_15, .ref a6, .ref a7, .ref a8, .ref a9, .ref a10, .ref a11, .ref a12, .ref a13, .int n0_24, .int n0_25, .int n0_26, .int n0_27, .ref a14, .int n0_29, .int n0_30])), (a6, .inl (ct 0, 5, .inl f6)), (a7, .inl (ct 0, 15, .inl f7)), (a8, .inl (ct 0, 200, .inl f8)), (a9, .inl (ct 0, 1000, .inl f9)), (a11, .inl (ct 0, 8, .inl f11)), (a12, .inl (ct 0, 8, .inl f12)), (a13, .inl (ct 0, 8, .inl f13))])) 0 0 (aset [(a0, .inr (11, [.int n0_0, .ref a1, .ref a2, .ref a3, .ref a4, .ref a5, .int n0_6, .int n0_7, .int n0_8, .int n0_9, .int n0_10, .long l0_11, .int n0_12, .int n0_13, .int n0_14, .int n0_15, .ref a6, .ref a7, .ref a8, .ref a9, .ref a10, .ref a11, .ref a12, .ref a13, .int n0_24, .int n0_25, .int n0_26, .int n0_27, .ref a14, .int n0_29, .int n0_30])), (a6, .inl (ct 0, 5, .inl f6)), (a7, .inl (ct 0, 15, .inl f7)), (a8, .inl (ct 0, 200, .inl f8)), (a9, .inl (ct 0, 1000, .inl f9)), (a11, .inl (ct 0, 8, .inl f11)), (a12, .inl (ct 0, 8, .inl f12)), (a13, .inl (ct 0, 8, .inl f13))]) := by
  refine Met.ofW (cc := cX11_free) (maxL := 1) (ret := (some .int)) (by decide) rfl ?_
  intro p e s m args below meth c s₁ B hml hv
  obtain ⟨rfl, hP, hK, hD0⟩ := hv
  have hx := B.exec
  have hb := B.bytes
  have hr := B.returns
  have hts := atoms_spec (ws := wsX11_free) B.pre
  have hown : s.vm.findClass RX11 = some m.cls := findClass_of_methodNamed B.named
  have hlocks := B.notSynchronized
  have hD := hD0.aself
  generalize hAe : aset [(a0, .inr (11, [.int n0_0, .ref a1, .ref a2, .ref a3, .ref a4, .ref a5, .int n0_6, .int n0_7, .int n0_8, .int n0_9, .int n0_10, .long l0_11, .int n0_12, .int n0_13, .int n0_14, .int n0_15, .ref a6, .ref a7, .ref a8, .ref a9, .ref a10, .ref a11, .ref a12, .ref a13, .int n0_24, .int n0_25, .int n0_26, .int n0_27, .ref a14, .int n0_29, .int n0_30])), (a6, .inl (ct 0, 5, .inl f6)), (a7, .inl (ct 0, 15, .inl f7)), (a8, .inl (ct 0, 200, .inl f8)), (a9, .inl (ct 0, 1000, .inl f9)), (a11, .inl (ct 0, 8, .inl f11)), (a12, .inl (ct 0, 8, .inl f12)), (a13, .inl (ct 0, 8, .inl f13))] = A at hD ⊢
  have hS : va_S A s.heap s.heap [] := va_S.rf
  have hl := lv_entry ([.ref a0]) (n := 1) (Nat.le_of_ble_eq_true rfl)
  rw [lg_entry_eq]
  generalize (lg_sl ([.ref a0]) ++ List.replicate (1 - (lg_sl ([.ref a0])).length) Slot.unset).toArray = ls at hl ⊢
  have hl : lv_has ls 1 [(0, .ref a0)] := hl
  refine lv_aload_n hx hb dX11_free_0 rfl (lv_at hl 0 rfl) ?_
  refine lv_iconst (v := 0) hx hb dX11_free_1 (by decide) ?_
  refine va_put (D := G) (ci := 11) (v := .int 0) (ty := .int) (C := RX11) (T := TX11) (N := 31) hx hb hts (by decide +kernel) tyX11 tyX11_ok nmX11 hown hK.1 hP hD hS 0 rfl rfl 0 (by decide) (hts (.fieldLink RX11 59 "CardHolderModel" "thrown" "I") (by decide +kernel)) (fun _ h9 => h9) rfl (by decide +kernel) rfl rfl (Nat.le_of_ble_eq_true rfl) dX11_free_2 (fun H locs hP hD hS => ?_)
  refine lv_aload_n hx hb dX11_free_5 rfl (lv_at hl 0 rfl) ?_
  refine ro_calli (va_runV (As := []) (rest := []) ⟨hx, hb, hml, hown, hts⟩ (a_X11_isCity l G ct a0 (0 : Int32) a1 a2 a3 a4 a5 n0_6 n0_7 n0_8 n0_9 n0_10 l0_11 n0_12 n0_13 n0_14 n0_15 a6 a7 a8 a9 a10 a11 a12 a13 n0_24 n0_25 n0_26 n0_27 a14 n0_29 n0_30 f6 hp_n0_6) (cwV 0 hts gX11_free_X11_isCity rfl rfl rfl (by decide +kernel) ⟨Nat.le_of_ble_eq_true rfl, Nat.le_of_ble_eq_true rfl⟩) (ro_preV 11 0 hK (hP.sub [0, 1] rfl) rfl rfl) rfl rfl hl.1 rfl (lv_room (Nat.le_of_ble_eq_true rfl)) dX11_free_6 ⟨Nat.zero_le _, Nat.zero_le _⟩) hS hP (fun r6 H locs wr6 hP hS => ?_)
  obtain ⟨p_1, -⟩ := wr6
  refine lv_if_ne (tgt := 15) hx hb dX11_free_9 (by decide) (fun c9 => ?_) (fun c9 => ?_)
  · have h_2 : rg 1 1 r6 := r_ne_lo_i c9 p_1 (by decide) (by decide)
    refine lv_aload_n hx hb dX11_free_15 rfl (lv_at hl 0 rfl) ?_
    refine wj_callv (wr := [(a6, .inl (ct 0, 5, .inl f6))]) (w1 := (fun u : SU => [(a0, .inr (11, [.int 0, .ref a1, .ref a2, .ref a3, .ref a4, .ref a5, .int n0_6, .int n0_7, .int n0_8, .int n0_9, .int n0_10, .long l0_11, .int n0_12, .int n0_13, .int n0_14, .int n0_15, .ref a6, .ref a7, .ref a8, .ref a9, .ref a10, .ref a11, .ref a12, .ref a13, .int (u.1 0), .int (u.1 1), .int (u.1 2), .int (u.1 3), .ref a14, .int n0_29, .int n0_30])), (a7, .inl (ct 0, 15, .inl f7)), (a8, .inl (ct 0, 200, .inl f8)), (a9, .inl (ct 0, 1000, .inl f9)), (a11, .inl (ct 0, 8, .inl (u.2.1 0))), (a12, .inl (ct 0, 8, .inl (u.2.1 1))), (a13, .inl (ct 0, 8, .inl (u.2.1 2)))])) (va_runV (As := []) (rest := []) ⟨hx, hb, hml, hown, hts⟩ (a_X11_laysNow l G ct a0 (0 : Int32) a1 a2 a3 a4 a5 n0_6 n0_7 n0_8 n0_9 n0_10 l0_11 n0_12 n0_13 n0_14 n0_15 a6 a7 a8 a9 a10 a11 a12 a13 n0_24 n0_25 n0_26 n0_27 a14 n0_29 n0_30 f7 f8 f9 f11 f12 f13 hp_n0_6 hp_f7 hp_f8 hp_f9 hp_f11 hp_f13) (cwV 0 hts gX11_free_X11_laysNow rfl rfl rfl (by decide +kernel) ⟨Nat.le_of_ble_eq_true rfl, Nat.le_of_ble_eq_true rfl⟩) (wr_preV 11 0 hK (hP.sub [0, 2, 3, 4, 5, 6, 7] rfl) (hD.sub [0, 2, 3, 4, 5, 6, 7] (by decide) rfl) rfl rfl) rfl rfl hl.1 rfl (lv_room (Nat.le_of_ble_eq_true rfl)) dX11_free_16 ⟨Nat.zero_le _, Nat.zero_le _⟩) hS hP hD [0, 2, 3, 4, 5, 6, 7] [1] rfl rfl (by decide) (fun _ => rfl) (fun ur16 H locs wr16 hP hD hS => ?_)
    have hP : va_P G vwCl [(a0, .inr (11, [.int 0, .ref a1, .ref a2, .ref a3, .ref a4, .ref a5, .int n0_6, .int n0_7, .int n0_8, .int n0_9, .int n0_10, .long l0_11, .int n0_12, .int n0_13, .int n0_14, .int n0_15, .ref a6, .ref a7, .ref a8, .ref a9, .ref a10, .ref a11, .ref a12, .ref a13, .int (ur16.1 0), .int (ur16.1 1), .int (ur16.1 2), .int (ur16.1 3), .ref a14, .int n0_29, .int n0_30])), (a6, .inl (ct 0, 5, .inl f6)), (a7, .inl (ct 0, 15, .inl f7)), (a8, .inl (ct 0, 200, .inl f8)), (a9, .inl (ct 0, 1000, .inl f9)), (a11, .inl (ct 0, 8, .inl (ur16.2.1 0))), (a12, .inl (ct 0, 8, .inl (ur16.2.1 1))), (a13, .inl (ct 0, 8, .inl (ur16.2.1 2)))] H := hP.sub [1, 0, 2, 3, 4, 5, 6, 7] rfl
    have hD : va_D A [(a0, .inr (11, [.int 0, .ref a1, .ref a2, .ref a3, .ref a4, .ref a5, .int n0_6, .int n0_7, .int n0_8, .int n0_9, .int n0_10, .long l0_11, .int n0_12, .int n0_13, .int n0_14, .int n0_15, .ref a6, .ref a7, .ref a8, .ref a9, .ref a10, .ref a11, .ref a12, .ref a13, .int (ur16.1 0), .int (ur16.1 1), .int (ur16.1 2), .int (ur16.1 3), .ref a14, .int n0_29, .int n0_30])), (a6, .inl (ct 0, 5, .inl f6)), (a7, .inl (ct 0, 15, .inl f7)), (a8, .inl (ct 0, 200, .inl f8)), (a9, .inl (ct 0, 1000, .inl f9)), (a11, .inl (ct 0, 8, .inl (ur16.2.1 0))), (a12, .inl (ct 0, 8, .inl (ur16.2.1 1))), (a13, .inl (ct 0, 8, .inl (ur16.2.1 2)))] := hD.sub [1, 0, 2, 3, 4, 5, 6, 7] (by decide) rfl
    obtain ⟨p_3, p_4, -⟩ := wr16
    refine lv_aload_n hx hb dX11_free_19 rfl (lv_at hl 0 rfl) ?_
    refine ro_calli (va_runV (As := []) (rest := []) ⟨hx, hb, hml, hown, hts⟩ (a_X11_freeNow l G ct a0 (0 : Int32) a1 a2 a3 a4 a5 n0_6 n0_7 n0_8 n0_9 n0_10 l0_11 n0_12 n0_13 n0_14 n0_15 a6 a7 a8 a9 a10 a11 a12 a13 (ur16.1 0) (ur16.1 1) (ur16.1 2) (ur16.1 3) a14 n0_29 n0_30 f7 (ur16.2.1 0) hp_n0_6 hp_f7 p_3) (cwV 0 hts gX11_free_X11_freeNow rfl rfl rfl (by decide +kernel) ⟨Nat.le_of_ble_eq_true rfl, Nat.le_of_ble_eq_true rfl⟩) (ro_preV 11 0 hK (hP.sub [0, 2, 5] rfl) rfl rfl) rfl rfl hl.1 rfl (lv_room (Nat.le_of_ble_eq_true rfl)) dX11_free_20 ⟨Nat.zero_le _, Nat.zero_le _⟩) hS hP (fun r20 H locs wr20 hP hS => ?_)
    obtain ⟨p_5, -⟩ := wr20
    exact W.iret (v := r20) hx hb hr (fun t ht hW => ⟨⟨r20, (fun k => ([0, ur16.1 0, ur16.1 1, ur16.1 2, ur16.1 3] : List Int32).getD k 0, fun k => ([ur16.2.1 0, ur16.2.1 1, ur16.2.1 2] : List (Nat → Int32)).getD k (fun _ => 0), fun k => ([] : List (Nat → Int64)).getD k (fun _ => 0)), rfl, ⟨(rg_w (c := (-2)) (d := 255) p_5 (by decide)), p_3, p_4, (rgn 0 (x := 0) (by decide)), trivial⟩, hp_at ht hP⟩, hS.F ht⟩) hS.2.2 dX11_free_23
  · have h_6 : rg 0 0 r6 := r_eq_l_i (e := 0) (f := 0) c9 p_1 (rgn 0 (x := 0) (by decide)) (by decide)
    refine lv_bipush (v := (-2)) hx hb dX11_free_12 (by decide) ?_
    exact W.iret (v := (-2)) hx hb hr (fun t ht hW => ⟨⟨(-2), (fun k => ([0, n0_24, n0_25, n0_26, n0_27] : List Int32).getD k 0, fun k => ([f11, f12, f13] : List (Nat → Int32)).getD k (fun _ => 0), fun k => ([] : List (Nat → Int64)).getD k (fun _ => 0)), rfl, ⟨(rg_w (c := (-2)) (d := 255) (rgn (-2) (x := (-2)) (by decide)) (by decide)), hp_f11, hp_f13, (rgn 0 (x := 0) (by decide)), trivial⟩, hp_at ht hP⟩, hS.F ht⟩) hS.2.2 dX11_free_14
