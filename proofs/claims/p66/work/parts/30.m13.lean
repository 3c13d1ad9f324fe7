theorem dX11_leave_0 : decode cX11_leave 0 = .ok (.aload_n 0, 1) := by decide +kernel
theorem dX11_leave_1 : decode cX11_leave 1 = .ok (.iconst 0, 1) := by decide +kernel
theorem dX11_leave_2 : decode cX11_leave 2 = .ok (.putfield 59, 3) := by decide +kernel
theorem dX11_leave_5 : decode cX11_leave 5 = .ok (.aload_n 0, 1) := by decide +kernel
theorem dX11_leave_6 : decode cX11_leave 6 = .ok (.iload_n 1, 1) := by decide +kernel
set_option maxRecDepth 20000 in
theorem ggX11_leave_X11_isSet : GoodIn wsX11_leave wsX11_isSet := goodIn_r _ [6, 7, 8, 9, 10, 5, 11, 12, 13, 14, 15, 72, 73, 74, 75, 76, 77, 78, 79, 80, 81, 82, 83, 84, 85, 86, 87, 88, 89, 90, 91, 92, 93, 94, 95, 96, 97, 98, 99, 100, 101, 102] (by rfl) (by decide +kernel)
set_option maxRecDepth 20000 in
theorem gX11_leave_X11_isSet : GoodIn wsX11_leave (wsV RX11 370 RX11 yX11_isSet wsX11_isSet) := goodIn_app (goodIn_r _ [2, 3, 4, 5] (by rfl) (by decide +kernel)) ggX11_leave_X11_isSet
theorem dX11_leave_7 : decode cX11_leave 7 = .ok (.invokevirtual 370, 3) := by decide +kernel
theorem dX11_leave_10 : decode cX11_leave 10 = .ok (.ifCond .ne 6, 3) := by decide +kernel
theorem dX11_leave_16 : decode cX11_leave 16 = .ok (.aload_n 0, 1) := by decide +kernel
set_option maxRecDepth 20000 in
theorem ggX11_leave_X11_laysNow : GoodIn wsX11_leave wsX11_laysNow := goodIn_r _ [19, 7, 20, 21, 22, 23, 5, 24, 25, 26, 27, 28, 29, 30, 31, 32, 33, 34, 35, 36, 37, 38, 39, 40, 41, 42, 43, 44, 45, 46, 47, 48, 49, 50, 51, 52, 53, 54, 55, 72, 73, 74, 75, 76, 77, 78, 79, 80, 81, 82, 83, 84, 85, 86, 87, 88, 89, 90, 91, 92, 93, 94, 95, 96, 97, 98, 99, 100, 101, 102] (by rfl) (by decide +kernel)
set_option maxRecDepth 20000 in
theorem gX11_leave_X11_laysNow : GoodIn wsX11_leave (wsV RX11 251 RX11 yX11_laysNow wsX11_laysNow) := goodIn_app (goodIn_r _ [16, 17, 18, 5] (by rfl) (by decide +kernel)) ggX11_leave_X11_laysNow
theorem dX11_leave_17 : decode cX11_leave 17 = .ok (.invokevirtual 251, 3) := by decide +kernel
theorem dX11_leave_20 : decode cX11_leave 20 = .ok (.aload_n 0, 1) := by decide +kernel
theorem dX11_leave_21 : decode cX11_leave 21 = .ok (.iload_n 1, 1) := by decide +kernel
set_option maxRecDepth 20000 in
theorem ggX11_leave_X11_leaveOf : GoodIn wsX11_leave wsX11_leaveOf := goodIn_r _ [59, 7, 53, 54, 5, 55, 60, 61, 62, 63, 25, 32, 33, 34, 35, 36, 64, 65, 66, 67, 68, 69, 70, 71, 72, 73, 74, 75, 76, 77, 78, 79, 80, 81, 82, 83, 84, 85, 86, 87, 88, 89, 90, 91, 92, 93, 94, 95, 96, 97, 98, 99, 100, 101, 102] (by rfl) (by decide +kernel)
set_option maxRecDepth 20000 in
theorem gX11_leave_X11_leaveOf : GoodIn wsX11_leave (wsV RX11 373 RX11 yX11_leaveOf wsX11_leaveOf) := goodIn_app (goodIn_r _ [56, 57, 58, 5] (by rfl) (by decide +kernel)) ggX11_leave_X11_leaveOf
theorem dX11_leave_22 : decode cX11_leave 22 = .ok (.invokevirtual 373, 3) := by decide +kernel
theorem dX11_leave_25 : decode cX11_leave 25 = .ok (.ireturn, 1) := by decide +kernel
theorem dX11_leave_13 : decode cX11_leave 13 = .ok (.bipush (-2), 2) := by decide +kernel
theorem dX11_leave_15 : decode cX11_leave 15 = .ok (.ireturn, 1) := by decide +kernel
theorem dX11_ransomOf_0 : decode cX11_ransomOf 0 = .ok (.aload_n 0, 1) := by decide +kernel
set_option maxRecDepth 20000 in
theorem ggX11_ransomOf_X11_laysNow : GoodIn wsX11_ransomOf wsX11_laysNow := goodIn_r _ [6, 7, 8, 9, 10, 11, 5, 12, 1, 13, 14, 15, 16, 17, 18, 19, 20, 21, 22, 23, 24, 25, 26, 27, 28, 29, 30, 31, 32, 33, 34, 35, 36, 37, 38, 39, 40, 41, 42, 47, 48, 49, 50, 51, 52, 53, 54, 55, 56, 57, 58, 59, 60, 61, 62, 63, 64, 65, 66, 67, 68, 69, 70, 71, 72, 73, 74, 75, 76, 77] (by rfl) (by decide +kernel)
set_option maxRecDepth 20000 in
theorem gX11_ransomOf_X11_laysNow : GoodIn wsX11_ransomOf (wsV RX11 251 RX11 yX11_laysNow wsX11_laysNow) := goodIn_app (goodIn_r _ [2, 3, 4, 5] (by rfl) (by decide +kernel)) ggX11_ransomOf_X11_laysNow
theorem dX11_ransomOf_1 : decode cX11_ransomOf 1 = .ok (.invokevirtual 251, 3) := by decide +kernel
theorem dX11_ransomOf_4 : decode cX11_ransomOf 4 = .ok (.aload_n 0, 1) := by decide +kernel
theorem dX11_ransomOf_5 : decode cX11_ransomOf 5 = .ok (.iload_n 1, 1) := by decide +kernel
theorem dX11_ransomOf_6 : decode cX11_ransomOf 6 = .ok (.iload_n 2, 1) := by decide +kernel
set_option maxRecDepth 20000 in
theorem ggX11_ransomOf_X11_timeOf : GoodIn wsX11_ransomOf wsX11_timeOf := goodIn_r _ [46, 1, 19, 20, 21, 5, 22, 23, 47, 48, 49, 50, 51, 52, 53, 54, 55, 56, 57, 58, 59, 60, 61, 62, 63, 64, 65, 66, 67, 68, 69, 70, 71, 72, 73, 74, 75, 76, 77] (by rfl) (by decide +kernel)
set_option maxRecDepth 20000 in
theorem gX11_ransomOf_X11_timeOf : GoodIn wsX11_ransomOf (wsV RX11 269 RX11 yX11_timeOf wsX11_timeOf) := goodIn_app (goodIn_r _ [43, 44, 45, 5] (by rfl) (by decide +kernel)) ggX11_ransomOf_X11_timeOf
theorem dX11_ransomOf_7 : decode cX11_ransomOf 7 = .ok (.invokevirtual 269, 3) := by decide +kernel
theorem dX11_ransomOf_10 : decode cX11_ransomOf 10 = .ok (.iconst (-1), 1) := by decide +kernel
theorem dX11_ransomOf_11 : decode cX11_ransomOf 11 = .ok (.if_icmp .ne 5, 3) := by decide +kernel
theorem dX11_ransomOf_16 : decode cX11_ransomOf 16 = .ok (.iload_n 2, 1) := by decide +kernel
theorem dX11_ransomOf_17 : decode cX11_ransomOf 17 = .ok (.istore_n 3, 1) := by decide +kernel
theorem dX11_ransomOf_18 : decode cX11_ransomOf 18 = .ok (.iload_n 2, 1) := by decide +kernel
theorem dX11_ransomOf_19 : decode cX11_ransomOf 19 = .ok (.istore 4, 2) := by decide +kernel
theorem dX11_ransomOf_21 : decode cX11_ransomOf 21 = .ok (.iconst 0, 1) := by decide +kernel
theorem dX11_ransomOf_22 : decode cX11_ransomOf 22 = .ok (.istore 5, 2) := by decide +kernel
theorem dX11_ransomOf_24 : decode cX11_ransomOf 24 = .ok (.iload 5, 2) := by decide +kernel
theorem dX11_ransomOf_26 : decode cX11_ransomOf 26 = .ok (.bipush 8, 2) := by decide +kernel
theorem dX11_ransomOf_28 : decode cX11_ransomOf 28 = .ok (.if_icmp .ge 70, 3) := by decide +kernel
theorem dX11_ransomOf_98 : decode cX11_ransomOf 98 = .ok (.iload_n 3, 1) := by decide +kernel
theorem dX11_ransomOf_99 : decode cX11_ransomOf 99 = .ok (.ireturn, 1) := by decide +kernel
theorem dX11_ransomOf_31 : decode cX11_ransomOf 31 = .ok (.aload_n 0, 1) := by decide +kernel
theorem dX11_ransomOf_32 : decode cX11_ransomOf 32 = .ok (.getfield 47, 3) := by decide +kernel
theorem dX11_ransomOf_35 : decode cX11_ransomOf 35 = .ok (.iload 4, 2) := by decide +kernel
theorem dX11_ransomOf_37 : decode cX11_ransomOf 37 = .ok (.iaload, 1) := by decide +kernel
theorem dX11_ransomOf_38 : decode cX11_ransomOf 38 = .ok (.iload_n 1, 1) := by decide +kernel
theorem dX11_ransomOf_39 : decode cX11_ransomOf 39 = .ok (.if_icmp .eq 59, 3) := by decide +kernel
theorem dX11_ransomOf_42 : decode cX11_ransomOf 42 = .ok (.aload_n 0, 1) := by decide +kernel
theorem dX11_ransomOf_43 : decode cX11_ransomOf 43 = .ok (.getfield 47, 3) := by decide +kernel
theorem dX11_ransomOf_46 : decode cX11_ransomOf 46 = .ok (.iload 4, 2) := by decide +kernel
theorem dX11_ransomOf_48 : decode cX11_ransomOf 48 = .ok (.iaload, 1) := by decide +kernel
theorem dX11_ransomOf_49 : decode cX11_ransomOf 49 = .ok (.istore 4, 2) := by decide +kernel
theorem dX11_ransomOf_51 : decode cX11_ransomOf 51 = .ok (.aload_n 0, 1) := by decide +kernel
theorem dX11_ransomOf_52 : decode cX11_ransomOf 52 = .ok (.iload 4, 2) := by decide +kernel
theorem dX11_ransomOf_54 : decode cX11_ransomOf 54 = .ok (.iconst 0, 1) := by decide +kernel
set_option maxRecDepth 20000 in
theorem ggX11_ransomOf_X11_of : GoodIn wsX11_ransomOf wsX11_of := goodIn_r _ [22, 23, 47, 48, 49, 50, 51, 52, 53, 54, 55, 56, 57, 58, 59, 60, 61, 62, 63, 64, 65, 66, 67, 68, 69, 70, 71, 72, 73, 74, 75, 76, 77] (by rfl) (by decide +kernel)
set_option maxRecDepth 20000 in
theorem gX11_ransomOf_X11_of : GoodIn wsX11_ransomOf (wsV RX11 214 RX11 yX11_of wsX11_of) := goodIn_app (goodIn_r _ [19, 20, 21, 5] (by rfl) (by decide +kernel)) ggX11_ransomOf_X11_of
theorem dX11_ransomOf_55 : decode cX11_ransomOf 55 = .ok (.invokevirtual 214, 3) := by decide +kernel
theorem dX11_ransomOf_58 : decode cX11_ransomOf 58 = .ok (.aload_n 0, 1) := by decide +kernel
theorem dX11_ransomOf_59 : decode cX11_ransomOf 59 = .ok (.iload_n 3, 1) := by decide +kernel
theorem dX11_ransomOf_60 : decode cX11_ransomOf 60 = .ok (.iconst 0, 1) := by decide +kernel
theorem dX11_ransomOf_61 : decode cX11_ransomOf 61 = .ok (.invokevirtual 214, 3) := by decide +kernel
theorem dX11_ransomOf_89 : decode cX11_ransomOf 89 = .ok (.iload 4, 2) := by decide +kernel
theorem dX11_ransomOf_91 : decode cX11_ransomOf 91 = .ok (.istore_n 3, 1) := by decide +kernel
theorem dX11_ransomOf_92 : decode cX11_ransomOf 92 = .ok (.iinc 5 1, 3) := by decide +kernel
theorem dX11_ransomOf_95 : decode cX11_ransomOf 95 = .ok (.goto (-71), 3) := by decide +kernel
theorem dX11_ransomOf_64 : decode cX11_ransomOf 64 = .ok (.if_icmp .lt 25, 3) := by decide +kernel
theorem dX11_ransomOf_67 : decode cX11_ransomOf 67 = .ok (.aload_n 0, 1) := by decide +kernel
theorem dX11_ransomOf_68 : decode cX11_ransomOf 68 = .ok (.iload 4, 2) := by decide +kernel
theorem dX11_ransomOf_70 : decode cX11_ransomOf 70 = .ok (.iconst 0, 1) := by decide +kernel
theorem dX11_ransomOf_71 : decode cX11_ransomOf 71 = .ok (.invokevirtual 214, 3) := by decide +kernel
theorem dX11_ransomOf_74 : decode cX11_ransomOf 74 = .ok (.aload_n 0, 1) := by decide +kernel
theorem dX11_ransomOf_75 : decode cX11_ransomOf 75 = .ok (.iload_n 3, 1) := by decide +kernel
theorem dX11_ransomOf_76 : decode cX11_ransomOf 76 = .ok (.iconst 0, 1) := by decide +kernel
theorem dX11_ransomOf_77 : decode cX11_ransomOf 77 = .ok (.invokevirtual 214, 3) := by decide +kernel
theorem dX11_ransomOf_80 : decode cX11_ransomOf 80 = .ok (.if_icmp .ne 12, 3) := by decide +kernel
theorem dX11_ransomOf_83 : decode cX11_ransomOf 83 = .ok (.iload 4, 2) := by decide +kernel
theorem dX11_ransomOf_85 : decode cX11_ransomOf 85 = .ok (.iload_n 3, 1) := by decide +kernel
theorem dX11_ransomOf_86 : decode cX11_ransomOf 86 = .ok (.if_icmp .ge 6, 3) := by decide +kernel
theorem dX11_ransomOf_14 : decode cX11_ransomOf 14 = .ok (.iconst (-1), 1) := by decide +kernel
theorem dX11_ransomOf_15 : decode cX11_ransomOf 15 = .ok (.ireturn, 1) := by decide +kernel
theorem dX11_ransom_0 : decode cX11_ransom 0 = .ok (.aload_n 0, 1) := by decide +kernel
theorem dX11_ransom_1 : decode cX11_ransom 1 = .ok (.iconst 0, 1) := by decide +kernel
theorem dX11_ransom_2 : decode cX11_ransom 2 = .ok (.putfield 59, 3) := by decide +kernel
theorem dX11_ransom_5 : decode cX11_ransom 5 = .ok (.aload_n 0, 1) := by decide +kernel
theorem dX11_ransom_6 : decode cX11_ransom 6 = .ok (.iload_n 1, 1) := by decide +kernel
theorem dX11_ransom_7 : decode cX11_ransom 7 = .ok (.iload_n 2, 1) := by decide +kernel
set_option maxRecDepth 20000 in
theorem ggX11_ransom_X11_arePeople : GoodIn wsX11_ransom wsX11_arePeople := goodIn_r _ [6, 7, 8, 9, 5, 10, 11, 12, 13, 14, 63, 64, 65, 66, 67, 68, 69, 70, 71, 72, 73, 74, 75, 76, 77, 78, 79, 80, 81, 82, 83, 84, 85, 86, 87, 88, 89, 90, 91, 92, 93] (by rfl) (by decide +kernel)
set_option maxRecDepth 20000 in
theorem gX11_ransom_X11_arePeople : GoodIn wsX11_ransom (wsV RX11 266 RX11 yX11_arePeople wsX11_arePeople) := goodIn_app (goodIn_r _ [2, 3, 4, 5] (by rfl) (by decide +kernel)) ggX11_ransom_X11_arePeople
theorem dX11_ransom_8 : decode cX11_ransom 8 = .ok (.invokevirtual 266, 3) := by decide +kernel
theorem dX11_ransom_11 : decode cX11_ransom 11 = .ok (.ifCond .ne 6, 3) := by decide +kernel
theorem dX11_ransom_17 : decode cX11_ransom 17 = .ok (.aload_n 0, 1) := by decide +kernel
theorem dX11_ransom_18 : decode cX11_ransom 18 = .ok (.iload_n 1, 1) := by decide +kernel
theorem dX11_ransom_19 : decode cX11_ransom 19 = .ok (.iload_n 2, 1) := by decide +kernel
set_option maxRecDepth 20000 in
theorem ggX11_ransom_X11_ransomOf : GoodIn wsX11_ransom wsX11_ransomOf := goodIn_r _ [18, 19, 20, 21, 22, 5, 23, 11, 24, 25, 26, 27, 28, 29, 30, 31, 32, 33, 34, 35, 36, 37, 38, 39, 40, 41, 42, 43, 44, 45, 46, 47, 48, 49, 50, 51, 52, 53, 54, 55, 56, 57, 58, 59, 60, 61, 62, 63, 64, 65, 66, 67, 68, 69, 70, 71, 72, 73, 74, 75, 76, 77, 78, 79, 80, 81, 82, 83, 84, 85, 86, 87, 88, 89, 90, 91, 92, 93] (by rfl) (by decide +kernel)
set_option maxRecDepth 20000 in
theorem gX11_ransom_X11_ransomOf : GoodIn wsX11_ransom (wsV RX11 376 RX11 yX11_ransomOf wsX11_ransomOf) := goodIn_app (goodIn_r _ [15, 16, 17, 5] (by rfl) (by decide +kernel)) ggX11_ransom_X11_ransomOf
theorem dX11_ransom_20 : decode cX11_ransom 20 = .ok (.invokevirtual 376, 3) := by decide +kernel
theorem dX11_ransom_23 : decode cX11_ransom 23 = .ok (.istore_n 3, 1) := by decide +kernel
theorem dX11_ransom_24 : decode cX11_ransom 24 = .ok (.iload_n 3, 1) := by decide +kernel
theorem dX11_ransom_25 : decode cX11_ransom 25 = .ok (.iconst (-1), 1) := by decide +kernel
theorem dX11_ransom_26 : decode cX11_ransom 26 = .ok (.if_icmp .ne 7, 3) := by decide +kernel
theorem dX11_ransom_33 : decode cX11_ransom 33 = .ok (.aload_n 0, 1) := by decide +kernel
theorem dX11_ransom_34 : decode cX11_ransom 34 = .ok (.iload_n 3, 1) := by decide +kernel
theorem dX11_ransom_35 : decode cX11_ransom 35 = .ok (.iconst 0, 1) := by decide +kernel
set_option maxRecDepth 20000 in
theorem ggX11_ransom_X11_of : GoodIn wsX11_ransom wsX11_of := goodIn_r _ [38, 39, 63, 64, 65, 66, 67, 68, 69, 70, 71, 72, 73, 74, 75, 76, 77, 78, 79, 80, 81, 82, 83, 84, 85, 86, 87, 88, 89, 90, 91, 92, 93] (by rfl) (by decide +kernel)
set_option maxRecDepth 20000 in
theorem gX11_ransom_X11_of : GoodIn wsX11_ransom (wsV RX11 214 RX11 yX11_of wsX11_of) := goodIn_app (goodIn_r _ [35, 36, 37, 5] (by rfl) (by decide +kernel)) ggX11_ransom_X11_of
theorem dX11_ransom_36 : decode cX11_ransom 36 = .ok (.invokevirtual 214, 3) := by decide +kernel
theorem dX11_ransom_39 : decode cX11_ransom 39 = .ok (.ireturn, 1) := by decide +kernel
theorem dX11_ransom_29 : decode cX11_ransom 29 = .ok (.iconst (-1), 1) := by decide +kernel
theorem dX11_ransom_30 : decode cX11_ransom 30 = .ok (.goto 9, 3) := by decide +kernel
theorem dX11_ransom_14 : decode cX11_ransom 14 = .ok (.bipush (-2), 2) := by decide +kernel
theorem dX11_ransom_16 : decode cX11_ransom 16 = .ok (.ireturn, 1) := by decide +kernel
theorem dX11_ransomed_0 : decode cX11_ransomed 0 = .ok (.aload_n 0, 1) := by decide +kernel
theorem dX11_ransomed_1 : decode cX11_ransomed 1 = .ok (.iconst 0, 1) := by decide +kernel
theorem dX11_ransomed_2 : decode cX11_ransomed 2 = .ok (.putfield 59, 3) := by decide +kernel
theorem dX11_ransomed_5 : decode cX11_ransomed 5 = .ok (.aload_n 0, 1) := by decide +kernel
theorem dX11_ransomed_6 : decode cX11_ransomed 6 = .ok (.iload_n 1, 1) := by decide +kernel
theorem dX11_ransomed_7 : decode cX11_ransomed 7 = .ok (.iload_n 2, 1) := by decide +kernel
set_option maxRecDepth 20000 in
theorem ggX11_ransomed_X11_arePeople : GoodIn wsX11_ransomed wsX11_arePeople := goodIn_r _ [6, 7, 8, 9, 5, 10, 11, 12, 13, 14, 63, 64, 65, 66, 67, 68, 69, 70, 71, 72, 73, 74, 75, 76, 77, 78, 79, 80, 81, 82, 83, 84, 85, 86, 87, 88, 89, 90, 91, 92, 93] (by rfl) (by decide +kernel)
set_option maxRecDepth 20000 in
theorem gX11_ransomed_X11_arePeople : GoodIn wsX11_ransomed (wsV RX11 266 RX11 yX11_arePeople wsX11_arePeople) := goodIn_app (goodIn_r _ [2, 3, 4, 5] (by rfl) (by decide +kernel)) ggX11_ransomed_X11_arePeople
theorem dX11_ransomed_8 : decode cX11_ransomed 8 = .ok (.invokevirtual 266, 3) := by decide +kernel
theorem dX11_ransomed_11 : decode cX11_ransomed 11 = .ok (.ifCond .eq 12, 3) := by decide +kernel
theorem dX11_ransomed_23 : decode cX11_ransomed 23 = .ok (.bipush (-2), 2) := by decide +kernel
theorem dX11_ransomed_25 : decode cX11_ransomed 25 = .ok (.ireturn, 1) := by decide +kernel
theorem dX11_ransomed_14 : decode cX11_ransomed 14 = .ok (.aload_n 0, 1) := by decide +kernel
theorem dX11_ransomed_15 : decode cX11_ransomed 15 = .ok (.iload_n 1, 1) := by decide +kernel
theorem dX11_ransomed_16 : decode cX11_ransomed 16 = .ok (.iload_n 2, 1) := by decide +kernel
set_option maxRecDepth 20000 in
theorem ggX11_ransomed_X11_ransomOf : GoodIn wsX11_ransomed wsX11_ransomOf := goodIn_r _ [18, 19, 20, 21, 22, 5, 23, 11, 24, 25, 26, 27, 28, 29, 30, 31, 32, 33, 34, 35, 36, 37, 38, 39, 40, 41, 42, 43, 44, 45, 46, 47, 48, 49, 50, 51, 52, 53, 54, 55, 56, 57, 58, 59, 60, 61, 62, 63, 64, 65, 66, 67, 68, 69, 70, 71, 72, 73, 74, 75, 76, 77, 78, 79, 80, 81, 82, 83, 84, 85, 86, 87, 88, 89, 90, 91, 92, 93] (by rfl) (by decide +kernel)
set_option maxRecDepth 20000 in
theorem gX11_ransomed_X11_ransomOf : GoodIn wsX11_ransomed (wsV RX11 376 RX11 yX11_ransomOf wsX11_ransomOf) := goodIn_app (goodIn_r _ [15, 16, 17, 5] (by rfl) (by decide +kernel)) ggX11_ransomed_X11_ransomOf
theorem dX11_ransomed_17 : decode cX11_ransomed 17 = .ok (.invokevirtual 376, 3) := by decide +kernel
theorem dX11_ransomed_20 : decode cX11_ransomed 20 = .ok (.goto 5, 3) := by decide +kernel
theorem dX11_powerOf_0 : decode cX11_powerOf 0 = .ok (.aload_n 0, 1) := by decide +kernel
theorem dX11_powerOf_1 : decode cX11_powerOf 1 = .ok (.aload_n 0, 1) := by decide +kernel
theorem dX11_powerOf_2 : decode cX11_powerOf 2 = .ok (.iload_n 1, 1) := by decide +kernel
set_option maxRecDepth 20000 in
theorem ggX11_powerOf_X11_underOf : GoodIn wsX11_powerOf wsX11_underOf := goodIn_r _ [5, 6, 7, 8, 9, 4, 10, 23, 24, 25, 26, 27, 28, 29, 30, 31, 32, 33, 34, 35, 36, 37, 38, 39, 40, 41, 42, 43, 44, 45, 46, 47, 48, 49, 50, 51, 52, 53] (by rfl) (by decide +kernel)
set_option maxRecDepth 20000 in
theorem gX11_powerOf_X11_underOf : GoodIn wsX11_powerOf (wsV RX11 263 RX11 yX11_underOf wsX11_underOf) := goodIn_app (goodIn_r _ [1, 2, 3, 4] (by rfl) (by decide +kernel)) ggX11_powerOf_X11_underOf
theorem dX11_powerOf_3 : decode cX11_powerOf 3 = .ok (.invokevirtual 263, 3) := by decide +kernel
set_option maxRecDepth 20000 in
theorem ggX11_powerOf_X11_doneBy : GoodIn wsX11_powerOf wsX11_doneBy := goodIn_r _ [14, 6, 8, 9, 4, 10, 15, 16, 17, 18, 19, 23, 24, 25, 26, 27, 28, 29, 30, 31, 32, 33, 34, 35, 36, 37, 38, 39, 40, 41, 42, 43, 44, 45, 46, 47, 48, 49, 50, 51, 52, 53] (by rfl) (by decide +kernel)
set_option maxRecDepth 20000 in
theorem gX11_powerOf_X11_doneBy : GoodIn wsX11_powerOf (wsV RX11 314 RX11 yX11_doneBy wsX11_doneBy) := goodIn_app (goodIn_r _ [11, 12, 13, 4] (by rfl) (by decide +kernel)) ggX11_powerOf_X11_doneBy
theorem dX11_powerOf_6 : decode cX11_powerOf 6 = .ok (.invokevirtual 314, 3) := by decide +kernel
set_option maxRecDepth 20000 in
theorem ggX11_powerOf_X11_sizeOf : GoodIn wsX11_powerOf wsX11_sizeOf := goodIn_r _ [22] (by rfl) (by decide +kernel)
set_option maxRecDepth 20000 in
theorem gX11_powerOf_X11_sizeOf : GoodIn wsX11_powerOf (va_wsS RX11 297 yX11_sizeOf wsX11_sizeOf) := goodIn_app (goodIn_r _ [20, 21, 4] (by rfl) (by decide +kernel)) ggX11_powerOf_X11_sizeOf
theorem dX11_powerOf_9 : decode cX11_powerOf 9 = .ok (.invokestatic 297, 3) := by decide +kernel
theorem dX11_powerOf_12 : decode cX11_powerOf 12 = .ok (.ireturn, 1) := by decide +kernel
theorem dX11_power_0 : decode cX11_power 0 = .ok (.aload_n 0, 1) := by decide +kernel
theorem dX11_power_1 : decode cX11_power 1 = .ok (.iconst 0, 1) := by decide +kernel
theorem dX11_power_2 : decode cX11_power 2 = .ok (.putfield 59, 3) := by decide +kernel
theorem dX11_power_5 : decode cX11_power 5 = .ok (.aload_n 0, 1) := by decide +kernel
theorem dX11_power_6 : decode cX11_power 6 = .ok (.iload_n 1, 1) := by decide +kernel
theorem dX11_power_7 : decode cX11_power 7 = .ok (.i2l, 1) := by decide +kernel
set_option maxRecDepth 20000 in
theorem ggX11_power_X11_isPerson : GoodIn wsX11_power wsX11_isPerson := goodIn_r _ [6, 7, 8, 9, 5, 10, 66, 67, 68, 69, 70, 71, 72, 73, 74, 75, 76, 77, 78, 79, 80, 81, 82, 83, 84, 85, 86, 87, 88, 89, 90, 91, 92, 93, 94, 95, 96] (by rfl) (by decide +kernel)
set_option maxRecDepth 20000 in
theorem gX11_power_X11_isPerson : GoodIn wsX11_power (wsV RX11 206 RX11 yX11_isPerson wsX11_isPerson) := goodIn_app (goodIn_r _ [2, 3, 4, 5] (by rfl) (by decide +kernel)) ggX11_power_X11_isPerson
theorem dX11_power_8 : decode cX11_power 8 = .ok (.invokevirtual 206, 3) := by decide +kernel
theorem dX11_power_11 : decode cX11_power 11 = .ok (.ifCond .ne 6, 3) := by decide +kernel
theorem dX11_power_17 : decode cX11_power 17 = .ok (.aload_n 0, 1) := by decide +kernel
set_option maxRecDepth 20000 in
theorem ggX11_power_X11_laysNow : GoodIn wsX11_power wsX11_laysNow := goodIn_r _ [14, 7, 15, 16, 17, 18, 5, 19, 20, 21, 22, 23, 24, 25, 26, 27, 28, 29, 30, 31, 32, 33, 34, 35, 36, 37, 38, 39, 40, 41, 42, 43, 44, 45, 46, 47, 48, 49, 50, 66, 67, 68, 69, 70, 71, 72, 73, 74, 75, 76, 77, 78, 79, 80, 81, 82, 83, 84, 85, 86, 87, 88, 89, 90, 91, 92, 93, 94, 95, 96] (by rfl) (by decide +kernel)
set_option maxRecDepth 20000 in
theorem gX11_power_X11_laysNow : GoodIn wsX11_power (wsV RX11 251 RX11 yX11_laysNow wsX11_laysNow) := goodIn_app (goodIn_r _ [11, 12, 13, 5] (by rfl) (by decide +kernel)) ggX11_power_X11_laysNow
theorem dX11_power_18 : decode cX11_power 18 = .ok (.invokevirtual 251, 3) := by decide +kernel
theorem dX11_power_21 : decode cX11_power 21 = .ok (.aload_n 0, 1) := by decide +kernel
theorem dX11_power_22 : decode cX11_power 22 = .ok (.iload_n 1, 1) := by decide +kernel
set_option maxRecDepth 20000 in
theorem ggX11_power_X11_powerOf : GoodIn wsX11_power wsX11_powerOf := goodIn_r _ [54, 55, 56, 57, 5, 58, 7, 20, 48, 49, 50, 59, 60, 61, 62, 27, 28, 29, 30, 31, 63, 64, 65, 66, 67, 68, 69, 70, 71, 72, 73, 74, 75, 76, 77, 78, 79, 80, 81, 82, 83, 84, 85, 86, 87, 88, 89, 90, 91, 92, 93, 94, 95, 96] (by rfl) (by decide +kernel)
set_option maxRecDepth 20000 in
theorem gX11_power_X11_powerOf : GoodIn wsX11_power (wsV RX11 379 RX11 yX11_powerOf wsX11_powerOf) := goodIn_app (goodIn_r _ [51, 52, 53, 5] (by rfl) (by decide +kernel)) ggX11_power_X11_powerOf
theorem dX11_power_23 : decode cX11_power 23 = .ok (.invokevirtual 379, 3) := by decide +kernel
theorem dX11_power_26 : decode cX11_power 26 = .ok (.ireturn, 1) := by decide +kernel
theorem dX11_power_14 : decode cX11_power 14 = .ok (.bipush (-2), 2) := by decide +kernel
theorem dX11_power_16 : decode cX11_power 16 = .ok (.ireturn, 1) := by decide +kernel
theorem dX11_mighty_0 : decode cX11_mighty 0 = .ok (.aload_n 0, 1) := by decide +kernel
theorem dX11_mighty_1 : decode cX11_mighty 1 = .ok (.iconst 0, 1) := by decide +kernel
theorem dX11_mighty_2 : decode cX11_mighty 2 = .ok (.putfield 59, 3) := by decide +kernel
theorem dX11_mighty_5 : decode cX11_mighty 5 = .ok (.aload_n 0, 1) := by decide +kernel
set_option maxRecDepth 20000 in
theorem ggX11_mighty_X11_isCity : GoodIn wsX11_mighty wsX11_isCity := goodIn_r _ [7, 8, 64, 65, 66, 67, 68, 69, 70, 71, 72, 73, 74, 75, 76, 77, 78, 79, 80, 81, 82, 83, 84, 85, 86, 87, 88, 89, 90, 91, 92, 93, 94] (by rfl) (by decide +kernel)
set_option maxRecDepth 20000 in
theorem gX11_mighty_X11_isCity : GoodIn wsX11_mighty (wsV RX11 209 RX11 yX11_isCity wsX11_isCity) := goodIn_app (goodIn_r _ [3, 4, 5, 6] (by rfl) (by decide +kernel)) ggX11_mighty_X11_isCity
theorem dX11_mighty_6 : decode cX11_mighty 6 = .ok (.invokevirtual 209, 3) := by decide +kernel
theorem dX11_mighty_9 : decode cX11_mighty 9 = .ok (.ifCond .ne 6, 3) := by decide +kernel
theorem dX11_mighty_15 : decode cX11_mighty 15 = .ok (.aload_n 0, 1) := by decide +kernel
set_option maxRecDepth 20000 in
theorem ggX11_mighty_X11_laysNow : GoodIn wsX11_mighty wsX11_laysNow := goodIn_r _ [12, 2, 13, 14, 15, 16, 6, 17, 18, 19, 20, 21, 22, 23, 24, 25, 26, 27, 28, 29, 30, 31, 32, 33, 34, 35, 36, 37, 38, 39, 40, 41, 42, 43, 44, 45, 46, 47, 48, 64, 65, 66, 67, 68, 69, 70, 71, 72, 73, 74, 75, 76, 77, 78, 79, 80, 81, 82, 83, 84, 85, 86, 87, 88, 89, 90, 91, 92, 93, 94] (by rfl) (by decide +kernel)
set_option maxRecDepth 20000 in
theorem gX11_mighty_X11_laysNow : GoodIn wsX11_mighty (wsV RX11 251 RX11 yX11_laysNow wsX11_laysNow) := goodIn_app (goodIn_r _ [9, 10, 11, 6] (by rfl) (by decide +kernel)) ggX11_mighty_X11_laysNow
theorem dX11_mighty_16 : decode cX11_mighty 16 = .ok (.invokevirtual 251, 3) := by decide +kernel
theorem dX11_mighty_19 : decode cX11_mighty 19 = .ok (.iconst (-1), 1) := by decide +kernel
theorem dX11_mighty_20 : decode cX11_mighty 20 = .ok (.istore_n 1, 1) := by decide +kernel
theorem dX11_mighty_21 : decode cX11_mighty 21 = .ok (.iconst 0, 1) := by decide +kernel
theorem dX11_mighty_22 : decode cX11_mighty 22 = .ok (.istore_n 2, 1) := by decide +kernel
theorem dX11_mighty_23 : decode cX11_mighty 23 = .ok (.iload_n 2, 1) := by decide +kernel
theorem dX11_mighty_24 : decode cX11_mighty 24 = .ok (.aload_n 0, 1) := by decide +kernel
theorem dX11_mighty_25 : decode cX11_mighty 25 = .ok (.getfield 34, 3) := by decide +kernel
theorem dX11_mighty_28 : decode cX11_mighty 28 = .ok (.iconst 1, 1) := by decide +kernel
theorem dX11_mighty_29 : decode cX11_mighty 29 = .ok (.iaload, 1) := by decide +kernel
theorem dX11_mighty_30 : decode cX11_mighty 30 = .ok (.if_icmp .ge 29, 3) := by decide +kernel
theorem dX11_mighty_59 : decode cX11_mighty 59 = .ok (.iload_n 1, 1) := by decide +kernel
theorem dX11_mighty_60 : decode cX11_mighty 60 = .ok (.ireturn, 1) := by decide +kernel
theorem dX11_mighty_33 : decode cX11_mighty 33 = .ok (.iload_n 1, 1) := by decide +kernel
theorem dX11_mighty_34 : decode cX11_mighty 34 = .ok (.iconst (-1), 1) := by decide +kernel
theorem dX11_mighty_53 : decode cX11_mighty 53 = .ok (.iinc 2 1, 3) := by decide +kernel
theorem dX11_mighty_56 : decode cX11_mighty 56 = .ok (.goto (-33), 3) := by decide +kernel
theorem dX11_mighty_51 : decode cX11_mighty 51 = .ok (.iload_n 2, 1) := by decide +kernel
theorem dX11_mighty_52 : decode cX11_mighty 52 = .ok (.istore_n 1, 1) := by decide +kernel
theorem dX11_mighty_35 : decode cX11_mighty 35 = .ok (.if_icmp .eq 16, 3) := by decide +kernel
theorem dX11_mighty_38 : decode cX11_mighty 38 = .ok (.aload_n 0, 1) := by decide +kernel
theorem dX11_mighty_39 : decode cX11_mighty 39 = .ok (.iload_n 2, 1) := by decide +kernel
set_option maxRecDepth 20000 in
theorem ggX11_mighty_X11_powerOf : GoodIn wsX11_mighty wsX11_powerOf := goodIn_r _ [52, 53, 54, 55, 6, 56, 2, 18, 46, 47, 48, 57, 58, 59, 60, 25, 26, 27, 28, 29, 61, 62, 63, 64, 65, 66, 67, 68, 69, 70, 71, 72, 73, 74, 75, 76, 77, 78, 79, 80, 81, 82, 83, 84, 85, 86, 87, 88, 89, 90, 91, 92, 93, 94] (by rfl) (by decide +kernel)
set_option maxRecDepth 20000 in
theorem gX11_mighty_X11_powerOf : GoodIn wsX11_mighty (wsV RX11 379 RX11 yX11_powerOf wsX11_powerOf) := goodIn_app (goodIn_r _ [49, 50, 51, 6] (by rfl) (by decide +kernel)) ggX11_mighty_X11_powerOf
theorem dX11_mighty_40 : decode cX11_mighty 40 = .ok (.invokevirtual 379, 3) := by decide +kernel
theorem dX11_mighty_43 : decode cX11_mighty 43 = .ok (.aload_n 0, 1) := by decide +kernel
theorem dX11_mighty_44 : decode cX11_mighty 44 = .ok (.iload_n 1, 1) := by decide +kernel
theorem dX11_mighty_45 : decode cX11_mighty 45 = .ok (.invokevirtual 379, 3) := by decide +kernel
theorem dX11_mighty_48 : decode cX11_mighty 48 = .ok (.if_icmp .le 5, 3) := by decide +kernel
theorem dX11_mighty_12 : decode cX11_mighty 12 = .ok (.bipush (-2), 2) := by decide +kernel
theorem dX11_mighty_14 : decode cX11_mighty 14 = .ok (.ireturn, 1) := by decide +kernel
set_option maxHeartbeats 4000000 in
set_option maxRecDepth 100000 in
theorem a_X11_leave (l : Launch) (G : va_G) (ct : Nat → ClassId) (a0 : Nat) (n0_0 : Int32) (a1 : Nat) (a2 : Nat) (a3 : Nat) (a4 : Nat) (a5 : Nat) (n0_6 : Int32) (n0_7 : Int32) (n0_8 : Int32) (n0_9 : Int32) (n0_10 : Int32) (l0_11 : Int64) (n0_12 : Int32) (n0_13 : Int32) (n0_14 : Int32) (n0_15 : Int32) (a6 : Nat) (a7 : Nat) (a8 : Nat) (a9 : Nat) (a10 : Nat) (a11 : Nat) (a12 : Nat) (a13 : Nat) (n0_24 : Int32) (n0_25 : Int32) (n0_26 : Int32) (n0_27 : Int32) (a14 : Nat) (n0_29 : Int32) (n0_30 : Int32) (f6 : Nat → Int32) (f7 : Nat → Int32) (f8 : Nat → Int32) (f9 : Nat → Int32) (f11 : Nat → Int32) (f12 : Nat → Int32) (f13 : Nat → Int32) (p0 : Int32) (hp_n0_6 : rg 0 900 n0_6) (hp_f7 : hsI f7) (hp_f8 : psI f8) (hp_f9 : ar 0 7 f9) (hp_f11 : ar (-1) 7 f11) (hp_f13 : ar (-1) 7 f13) : Met l yX11_leave wsX11_leave ({ frames := 5, cells := 0, slots := 0, locals := 111 }) (va_Pc [.ref a0, .int p0] (wrP G ct [(a0, .inr (11, [.int n0_0, .ref a1, .ref a2, .ref a3, .ref a4, .ref a5, .int n0_6, .int n0_7, .int n0_8, .int n0_9, .int n0_10, .long l0_11, .int n0_12, .int n0_13, .int n0_14, .int n0_15, .ref a6, .ref a7, .ref a8, .ref a9, .ref a10, .ref a11, .ref a12, .ref a13, .int n0_24, .int n0_25, .int n0_26, .int n0_27, .ref a14, .int n0_29, .int n0_30])), (a6, .inl (ct 0, 5, .inl f6)), (a7, .inl (ct 0, 15, .inl f7)), (a8, .inl (ct 0, 200, .inl f8)), (a9, .inl (ct 0, 1000, .inl f9)), (a11, .inl (ct 0, 8, .inl f11)), (a12, .inl (ct 0, 8, .inl f12)), (a13, .inl (ct 0, 8, .inl f13))])) (va_Qi (fun (r : Int32) (u : SU) => rg (-2) 255 r ∧ (r = 0 → rg 0 255 p0) ∧ (¬ r = (-2) → rg 0 255 p0) ∧ ar (-1) 7 (u.2.1 0) ∧ ar (-1) 7 (u.2.1 2) ∧ rg 0 0 (u.1 0) ∧ True) (fun u t => va_P G vwCl ((fun u : SU => [(a0, .inr (11, [.int (u.1 0), .ref a1, .ref a2, .ref a3, .ref a4, .ref a5, .int n0_6, .int n0_7, .int n0_8, .int n0_9, .int n0_10, .long l0_11, .int n0_12, .int n0_13, .int n0_14, .int n0_15, .ref a6, .ref a7, .ref a8, .ref a9, .ref a10, .ref a11, .ref a12, .ref a13, .int (u.1 1), .int (u.1 2), .int (u.1 3), .int (u.1 4), .ref a14, .int n0_29, .int n0_30])), (a6, .inl (ct 0, 5, .inl f6)), (a7, .inl (ct 0, 15, .inl f7)), (a8, .inl (ct 0, 200, .inl f8)), (a9, .inl (ct 0, 1000, .inl f9)), (a11, .inl (ct 0, 8, .inl (u.2.1 0))), (a12, .inl (ct 0, 8, .inl (u.2.1 1))), (a13, .inl (ct 0, 8, .inl (u.2.1 2)))]) u) t.heap) (aset [(a0, .inr (11, [.int n0_0, .ref a1, .ref a2, .ref a3, .ref a4, .ref a5, .int n0_6, .int n0_7, .int n0_8, .int n0_9, .int n0_10, .long l0_11, .int n0_12, .int n0_13, .int n0_14, .int n0_15, .ref a6, .ref a7, .ref a8, .ref a9, .ref a10, .ref a11, .ref a12, .ref a13, .int n0_24, .int n0_25, .int n0_26, .int n0_27, .ref a14, .int n0_29, .int n0_30])), (a6, .inl (ct 0, 5, .inl f6)), (a7, .inl (ct 0, 15, .inl f7)), (a8, .inl (ct 0, 200, .inl f8)), (a9, .inl (ct 0, 1000, .inl f9)), (a11, .inl (ct 0, 8, .inl f11)), (a12, .inl (ct 0, 8, .inl f12)), (a13, .inl (ct 0, 8, .inl f13))])) 0 0 (aset [(a0, .inr (11, [.int n0_0, .ref a1, .ref a2, .ref a3, .ref a4, .ref a5, .int n0_6, .int n0_7, .int n0_8, .int n0_9, .int n0_10, .long l0_11, .int n0_12, .int n0_13, .int n0_14, .int n0_15, .ref a6, .ref a7, .ref a8, .ref a9, .ref a10, .ref a11, .ref a12, .ref a13, .int n0_24, .int n0_25, .int n0_26, .int n0_27, .ref a14, .int n0_29, .int n0_30])), (a6, .inl (ct 0, 5, .inl f6)), (a7, .inl (ct 0, 15, .inl f7)), (a8, .inl (ct 0, 200, .inl f8)), (a9, .inl (ct 0, 1000, .inl f9)), (a11, .inl (ct 0, 8, .inl f11)), (a12, .inl (ct 0, 8, .inl f12)), (a13, .inl (ct 0, 8, .inl f13))]) := by
  refine Met.ofW (cc := cX11_leave) (maxL := 2) (ret := (some .int)) (by decide) rfl ?_
  intro p e s m args below meth c s₁ B hml hv
  obtain ⟨rfl, hP, hK, hD0⟩ := hv
  have hx := B.exec
  have hb := B.bytes
  have hr := B.returns
  have hts := atoms_spec (ws := wsX11_leave) B.pre
  have hown : s.vm.findClass RX11 = some m.cls := findClass_of_methodNamed B.named
  have hlocks := B.notSynchronized
  have hD := hD0.aself
  generalize hAe : aset [(a0, .inr (11, [.int n0_0, .ref a1, .ref a2, .ref a3, .ref a4, .ref a5, .int n0_6, .int n0_7, .int n0_8, .int n0_9, .int n0_10, .long l0_11, .int n0_12, .int n0_13, .int n0_14, .int n0_15, .ref a6, .ref a7, .ref a8, .ref a9, .ref a10, .ref a11, .ref a12, .ref a13, .int n0_24, .int n0_25, .int n0_26, .int n0_27, .ref a14, .int n0_29, .int n0_30])), (a6, .inl (ct 0, 5, .inl f6)), (a7, .inl (ct 0, 15, .inl f7)), (a8, .inl (ct 0, 200, .inl f8)), (a9, .inl (ct 0, 1000, .inl f9)), (a11, .inl (ct 0, 8, .inl f11)), (a12, .inl (ct 0, 8, .inl f12)), (a13, .inl (ct 0, 8, .inl f13))] = A at hD ⊢
  have hS : va_S A s.heap s.heap [] := va_S.rf
  have hl := lv_entry ([.ref a0, .int p0]) (n := 2) (Nat.le_of_ble_eq_true rfl)
  rw [lg_entry_eq]
  generalize (lg_sl ([.ref a0, .int p0]) ++ List.replicate (2 - (lg_sl ([.ref a0, .int p0])).length) Slot.unset).toArray = ls at hl ⊢
  have hl : lv_has ls 2 [(0, .ref a0), (1, .int p0)] := hl
  refine lv_aload_n hx hb dX11_leave_0 rfl (lv_at hl 0 rfl) ?_
  refine lv_iconst (v := 0) hx hb dX11_leave_1 (by decide) ?_
  refine va_put (D := G) (ci := 11) (v := .int 0) (ty := .int) (C := RX11) (T := TX11) (N := 31) hx hb hts (by decide +kernel) tyX11 tyX11_ok nmX11 hown hK.1 hP hD hS 0 rfl rfl 0 (by decide) (hts (.fieldLink RX11 59 "CardHolderModel" "thrown" "I") (by decide +kernel)) (fun _ h9 => h9) rfl (by decide +kernel) rfl rfl (Nat.le_of_ble_eq_true rfl) dX11_leave_2 (fun H locs hP hD hS => ?_)
  refine lv_aload_n hx hb dX11_leave_5 rfl (lv_at hl 0 rfl) ?_
  refine lv_iload_n hx hb dX11_leave_6 rfl (lv_at hl 1 rfl) ?_
  refine ro_calli (va_runV (As := [.int p0]) (rest := []) ⟨hx, hb, hml, hown, hts⟩ (a_X11_isSet l G ct a0 (0 : Int32) a1 a2 a3 a4 a5 n0_6 n0_7 n0_8 n0_9 n0_10 l0_11 n0_12 n0_13 n0_14 n0_15 a6 a7 a8 a9 a10 a11 a12 a13 n0_24 n0_25 n0_26 n0_27 a14 n0_29 n0_30 f6 f7 p0 hp_n0_6 hp_f7) (cwV 1 hts gX11_leave_X11_isSet rfl rfl rfl (by decide +kernel) ⟨Nat.le_of_ble_eq_true rfl, Nat.le_of_ble_eq_true rfl⟩) (ro_preV 11 0 hK (hP.sub [0, 1, 2] rfl) rfl rfl) rfl rfl hl.1 rfl (lv_room (Nat.le_of_ble_eq_true rfl)) dX11_leave_7 ⟨Nat.zero_le _, Nat.zero_le _⟩) hS hP (fun r7 H locs wr7 hP hS => ?_)
  obtain ⟨p_1, p_2, -⟩ := wr7
  refine lv_if_ne (tgt := 16) hx hb dX11_leave_10 (by decide) (fun c10 => ?_) (fun c10 => ?_)
  · have h_3 : rg 1 1 r7 := r_ne_lo_i c10 p_1 (by decide) (by decide)
    have h_4 : rg 0 255 p0 := (p_2 (rne h_3 (y := 0) (c := 0) (by decide) (by decide)))
    refine lv_aload_n hx hb dX11_leave_16 rfl (lv_at hl 0 rfl) ?_
    refine wj_callv (wr := [(a6, .inl (ct 0, 5, .inl f6))]) (w1 := (fun u : SU => [(a0, .inr (11, [.int 0, .ref a1, .ref a2, .ref a3, .ref a4, .ref a5, .int n0_6, .int n0_7, .int n0_8, .int n0_9, .int n0_10, .long l0_11, .int n0_12, .int n0_13, .int n0_14, .int n0_15, .ref a6, .ref a7, .ref a8, .ref a9, .ref a10, .ref a11, .ref a12, .ref a13, .int (u.1 0), .int (u.1 1), .int (u.1 2), .int (u.1 3), .ref a14, .int n0_29, .int n0_30])), (a7, .inl (ct 0, 15, .inl f7)), (a8, .inl (ct 0, 200, .inl f8)), (a9, .inl (ct 0, 1000, .inl f9)), (a11, .inl (ct 0, 8, .inl (u.2.1 0))), (a12, .inl (ct 0, 8, .inl (u.2.1 1))), (a13, .inl (ct 0, 8, .inl (u.2.1 2)))])) (va_runV (As := []) (rest := []) ⟨hx, hb, hml, hown, hts⟩ (a_X11_laysNow l G ct a0 (0 : Int32) a1 a2 a3 a4 a5 n0_6 n0_7 n0_8 n0_9 n0_10 l0_11 n0_12 n0_13 n0_14 n0_15 a6 a7 a8 a9 a10 a11 a12 a13 n0_24 n0_25 n0_26 n0_27 a14 n0_29 n0_30 f7 f8 f9 f11 f12 f13 hp_n0_6 hp_f7 hp_f8 hp_f9 hp_f11 hp_f13) (cwV 0 hts gX11_leave_X11_laysNow rfl rfl rfl (by decide +kernel) ⟨Nat.le_of_ble_eq_true rfl, Nat.le_of_ble_eq_true rfl⟩) (wr_preV 11 0 hK (hP.sub [0, 2, 3, 4, 5, 6, 7] rfl) (hD.sub [0, 2, 3, 4, 5, 6, 7] (by decide) rfl) rfl rfl) rfl rfl hl.1 rfl (lv_room (Nat.le_of_ble_eq_true rfl)) dX11_leave_17 ⟨Nat.zero_le _, Nat.zero_le _⟩) hS hP hD [0, 2, 3, 4, 5, 6, 7] [1] rfl rfl (by decide) (fun _ => rfl) (fun ur17 H locs wr17 hP hD hS => ?_)
    have hP : va_P G vwCl [(a0, .inr (11, [.int 0, .ref a1, .ref a2, .ref a3, .ref a4, .ref a5, .int n0_6, .int n0_7, .int n0_8, .int n0_9, .int n0_10, .long l0_11, .int n0_12, .int n0_13, .int n0_14, .int n0_15, .ref a6, .ref a7, .ref a8, .ref a9, .ref a10, .ref a11, .ref a12, .ref a13, .int (ur17.1 0), .int (ur17.1 1), .int (ur17.1 2), .int (ur17.1 3), .ref a14, .int n0_29, .int n0_30])), (a6, .inl (ct 0, 5, .inl f6)), (a7, .inl (ct 0, 15, .inl f7)), (a8, .inl (ct 0, 200, .inl f8)), (a9, .inl (ct 0, 1000, .inl f9)), (a11, .inl (ct 0, 8, .inl (ur17.2.1 0))), (a12, .inl (ct 0, 8, .inl (ur17.2.1 1))), (a13, .inl (ct 0, 8, .inl (ur17.2.1 2)))] H := hP.sub [1, 0, 2, 3, 4, 5, 6, 7] rfl
    have hD : va_D A [(a0, .inr (11, [.int 0, .ref a1, .ref a2, .ref a3, .ref a4, .ref a5, .int n0_6, .int n0_7, .int n0_8, .int n0_9, .int n0_10, .long l0_11, .int n0_12, .int n0_13, .int n0_14, .int n0_15, .ref a6, .ref a7, .ref a8, .ref a9, .ref a10, .ref a11, .ref a12, .ref a13, .int (ur17.1 0), .int (ur17.1 1), .int (ur17.1 2), .int (ur17.1 3), .ref a14, .int n0_29, .int n0_30])), (a6, .inl (ct 0, 5, .inl f6)), (a7, .inl (ct 0, 15, .inl f7)), (a8, .inl (ct 0, 200, .inl f8)), (a9, .inl (ct 0, 1000, .inl f9)), (a11, .inl (ct 0, 8, .inl (ur17.2.1 0))), (a12, .inl (ct 0, 8, .inl (ur17.2.1 1))), (a13, .inl (ct 0, 8, .inl (ur17.2.1 2)))] := hD.sub [1, 0, 2, 3, 4, 5, 6, 7] (by decide) rfl
    obtain ⟨p_5, p_6, -⟩ := wr17
    refine lv_aload_n hx hb dX11_leave_20 rfl (lv_at hl 0 rfl) ?_
    refine lv_iload_n hx hb dX11_leave_21 rfl (lv_at hl 1 rfl) ?_
    refine ro_calli (va_runV (As := [.int p0]) (rest := []) ⟨hx, hb, hml, hown, hts⟩ (a_X11_leaveOf l G ct a0 (0 : Int32) a1 a2 a3 a4 a5 n0_6 n0_7 n0_8 n0_9 n0_10 l0_11 n0_12 n0_13 n0_14 n0_15 a6 a7 a8 a9 a10 a11 a12 a13 (ur17.1 0) (ur17.1 1) (ur17.1 2) (ur17.1 3) a14 n0_29 n0_30 f7 f8 (ur17.2.1 0) p0 hp_n0_6 hp_f7 hp_f8 p_5) (cwV 1 hts gX11_leave_X11_leaveOf rfl rfl rfl (by decide +kernel) ⟨Nat.le_of_ble_eq_true rfl, Nat.le_of_ble_eq_true rfl⟩) (ro_preV 11 0 hK (hP.sub [0, 2, 3, 5] rfl) rfl rfl) rfl rfl hl.1 rfl (lv_room (Nat.le_of_ble_eq_true rfl)) dX11_leave_22 ⟨Nat.zero_le _, Nat.zero_le _⟩) hS hP (fun r22 H locs wr22 hP hS => ?_)
    obtain ⟨p_7, -⟩ := wr22
    exact W.iret (v := r22) hx hb hr (fun t ht hW => ⟨⟨r22, (fun k => ([0, ur17.1 0, ur17.1 1, ur17.1 2, ur17.1 3] : List Int32).getD k 0, fun k => ([ur17.2.1 0, ur17.2.1 1, ur17.2.1 2] : List (Nat → Int32)).getD k (fun _ => 0), fun k => ([] : List (Nat → Int64)).getD k (fun _ => 0)), rfl, ⟨(rg_w (c := (-2)) (d := 255) p_7 (by decide)), (fun _ => h_4), (fun _ => h_4), p_5, p_6, (rgn 0 (x := 0) (by decide)), trivial⟩, hp_at ht hP⟩, hS.F ht⟩) hS.2.2 dX11_leave_25
  · have h_8 : rg 0 0 r7 := r_eq_l_i (e := 0) (f := 0) c10 p_1 (rgn 0 (x := 0) (by decide)) (by decide)
    refine lv_bipush (v := (-2)) hx hb dX11_leave_13 (by decide) ?_
    exact W.iret (v := (-2)) hx hb hr (fun t ht hW => ⟨⟨(-2), (fun k => ([0, n0_24, n0_25, n0_26, n0_27] : List Int32).getD k 0, fun k => ([f11, f12, f13] : List (Nat → Int32)).getD k (fun _ => 0), fun k => ([] : List (Nat → Int64)).getD k (fun _ => 0)), rfl, ⟨(rg_w (c := (-2)) (d := 255) (rgn (-2) (x := (-2)) (by decide)) (by decide)), (fun hq => absurd hq (rne (rgn (-2) (x := (-2)) (by decide)) (y := 0) (c := 0) (by decide) (by decide))), (fun hq => absurd (req (rgn (-2) (x := (-2)) (by decide)) (y := (-2)) (by decide)) hq), hp_f11, hp_f13, (rgn 0 (x := 0) (by decide)), trivial⟩, hp_at ht hP⟩, hS.F ht⟩) hS.2.2 dX11_leave_15

set_option maxHeartbeats 4000000 in
set_option maxRecDepth 100000 in
theorem a_X11_ransomOf (l : Launch) (G : va_G) (ct : Nat → ClassId) (a0 : Nat) (n0_0 : Int32) (a1 : Nat) (a2 : Nat) (a3 : Nat) (a4 : Nat) (a5 : Nat) (n0_6 : Int32) (n0_7 : Int32) (n0_8 : Int32) (n0_9 : Int32) (n0_10 : Int32) (l0_11 : Int64) (n0_12 : Int32) (n0_13 : Int32) (n0_14 : Int32) (n0_15 : Int32) (a6 : Nat) (a7 : Nat) (a8 : Nat) (a9 : Nat) (a10 : Nat) (a11 : Nat) (a12 : Nat) (a13 : Nat) (n0_24 : Int32) (n0_25 : Int32) (n0_26 : Int32) (n0_27 : Int32) (a14 : Nat) (n0_29 : Int32) (n0_30 : Int32) (f7 : Nat → Int32) (f8 : Nat → Int32) (f9 : Nat → Int32) (f11 : Nat → Int32) (f12 : Nat → Int32) (f13 : Nat → Int32) (p0 : Int32) (p1 : Int32) (hp_n0_6 : rg 0 900 n0_6) (hp_f7 : hsI f7) (hp_f8 : psI f8) (hp_f9 : ar 0 7 f9) (hp_f11 : ar (-1) 7 f11) (hp_f13 : ar (-1) 7 f13) (hp_p0 : rg 0 7 p0) (hp_p1 : rg 0 7 p1) : Met l yX11_ransomOf wsX11_ransomOf ({ frames := 5, cells := 0, slots := 0, locals := 111 }) (va_Pc [.ref a0, .int p0, .int p1] (wrP G ct [(a0, .inr (11, [.int n0_0, .ref a1, .ref a2, .ref a3, .ref a4, .ref a5, .int n0_6, .int n0_7, .int n0_8, .int n0_9, .int n0_10, .long l0_11, .int n0_12, .int n0_13, .int n0_14, .int n0_15, .ref a6, .ref a7, .ref a8, .ref a9, .ref a10, .ref a11, .ref a12, .ref a13, .int n0_24, .int n0_25, .int n0_26, .int n0_27, .ref a14, .int n0_29, .int n0_30])), (a7, .inl (ct 0, 15, .inl f7)), (a8, .inl (ct 0, 200, .inl f8)), (a9, .inl (ct 0, 1000, .inl f9)), (a11, .inl (ct 0, 8, .inl f11)), (a12, .inl (ct 0, 8, .inl f12)), (a13, .inl (ct 0, 8, .inl f13))])) (va_Qi (fun (r : Int32) (u : SU) => rg (-1) 7 r ∧ ar (-1) 7 (u.2.1 0) ∧ ar (-1) 7 (u.2.1 2) ∧ True) (fun u t => va_P G vwCl ((fun u : SU => [(a0, .inr (11, [.int n0_0, .ref a1, .ref a2, .ref a3, .ref a4, .ref a5, .int n0_6, .int n0_7, .int n0_8, .int n0_9, .int n0_10, .long l0_11, .int n0_12, .int n0_13, .int n0_14, .int n0_15, .ref a6, .ref a7, .ref a8, .ref a9, .ref a10, .ref a11, .ref a12, .ref a13, .int (u.1 0), .int (u.1 1), .int (u.1 2), .int (u.1 3), .ref a14, .int n0_29, .int n0_30])), (a7, .inl (ct 0, 15, .inl f7)), (a8, .inl (ct 0, 200, .inl f8)), (a9, .inl (ct 0, 1000, .inl f9)), (a11, .inl (ct 0, 8, .inl (u.2.1 0))), (a12, .inl (ct 0, 8, .inl (u.2.1 1))), (a13, .inl (ct 0, 8, .inl (u.2.1 2)))]) u) t.heap) (aset [(a0, .inr (11, [.int n0_0, .ref a1, .ref a2, .ref a3, .ref a4, .ref a5, .int n0_6, .int n0_7, .int n0_8, .int n0_9, .int n0_10, .long l0_11, .int n0_12, .int n0_13, .int n0_14, .int n0_15, .ref a6, .ref a7, .ref a8, .ref a9, .ref a10, .ref a11, .ref a12, .ref a13, .int n0_24, .int n0_25, .int n0_26, .int n0_27, .ref a14, .int n0_29, .int n0_30])), (a7, .inl (ct 0, 15, .inl f7)), (a8, .inl (ct 0, 200, .inl f8)), (a9, .inl (ct 0, 1000, .inl f9)), (a11, .inl (ct 0, 8, .inl f11)), (a12, .inl (ct 0, 8, .inl f12)), (a13, .inl (ct 0, 8, .inl f13))])) 0 0 (aset [(a0, .inr (11, [.int n0_0, .ref a1, .ref a2, .ref a3, .ref a4, .ref a5, .int n0_6, .int n0_7, .int n0_8, .int n0_9, .int n0_10, .long l0_11, .int n0_12, .int n0_13, .int n0_14, .int n0_15, .ref a6, .ref a7, .ref a8, .ref a9, .ref a10, .ref a11, .ref a12, .ref a13, .int n0_24, .int n0_25, .int n0_26, .int n0_27, .ref a14, .int n0_29, .int n0_30])), (a7, .inl (ct 0, 15, .inl f7)), (a8, .inl (ct 0, 200, .inl f8)), (a9, .inl (ct 0, 1000, .inl f9)), (a11, .inl (ct 0, 8, .inl f11)), (a12, .inl (ct 0, 8, .inl f12)), (a13, .inl (ct 0, 8, .inl f13))]) := by
  refine Met.ofW (cc := cX11_ransomOf) (maxL := 6) (ret := (some .int)) (by decide) rfl ?_
  intro p e s m args below meth c s₁ B hml hv
  obtain ⟨rfl, hP, hK, hD0⟩ := hv
  have hx := B.exec
  have hb := B.bytes
  have hr := B.returns
  have hts := atoms_spec (ws := wsX11_ransomOf) B.pre
  have hown : s.vm.findClass RX11 = some m.cls := findClass_of_methodNamed B.named
  have hlocks := B.notSynchronized
  have hD := hD0.aself
  generalize hAe : aset [(a0, .inr (11, [.int n0_0, .ref a1, .ref a2, .ref a3, .ref a4, .ref a5, .int n0_6, .int n0_7, .int n0_8, .int n0_9, .int n0_10, .long l0_11, .int n0_12, .int n0_13, .int n0_14, .int n0_15, .ref a6, .ref a7, .ref a8, .ref a9, .ref a10, .ref a11, .ref a12, .ref a13, .int n0_24, .int n0_25, .int n0_26, .int n0_27, .ref a14, .int n0_29, .int n0_30])), (a7, .inl (ct 0, 15, .inl f7)), (a8, .inl (ct 0, 200, .inl f8)), (a9, .inl (ct 0, 1000, .inl f9)), (a11, .inl (ct 0, 8, .inl f11)), (a12, .inl (ct 0, 8, .inl f12)), (a13, .inl (ct 0, 8, .inl f13))] = A at hD ⊢
  have hS : va_S A s.heap s.heap [] := va_S.rf
  have hl := lv_entry ([.ref a0, .int p0, .int p1]) (n := 6) (Nat.le_of_ble_eq_true rfl)
  rw [lg_entry_eq]
  generalize (lg_sl ([.ref a0, .int p0, .int p1]) ++ List.replicate (6 - (lg_sl ([.ref a0, .int p0, .int p1])).length) Slot.unset).toArray = ls at hl ⊢
  have hl : lv_has ls 6 [(0, .ref a0), (1, .int p0), (2, .int p1)] := hl
  refine lv_aload_n hx hb dX11_ransomOf_0 rfl (lv_at hl 0 rfl) ?_
  refine wj_callv (wr := []) (w1 := (fun u : SU => [(a0, .inr (11, [.int n0_0, .ref a1, .ref a2, .ref a3, .ref a4, .ref a5, .int n0_6, .int n0_7, .int n0_8, .int n0_9, .int n0_10, .long l0_11, .int n0_12, .int n0_13, .int n0_14, .int n0_15, .ref a6, .ref a7, .ref a8, .ref a9, .ref a10, .ref a11, .ref a12, .ref a13, .int (u.1 0), .int (u.1 1), .int (u.1 2), .int (u.1 3), .ref a14, .int n0_29, .int n0_30])), (a7, .inl (ct 0, 15, .inl f7)), (a8, .inl (ct 0, 200, .inl f8)), (a9, .inl (ct 0, 1000, .inl f9)), (a11, .inl (ct 0, 8, .inl (u.2.1 0))), (a12, .inl (ct 0, 8, .inl (u.2.1 1))), (a13, .inl (ct 0, 8, .inl (u.2.1 2)))])) (va_runV (As := []) (rest := []) ⟨hx, hb, hml, hown, hts⟩ (a_X11_laysNow l G ct a0 n0_0 a1 a2 a3 a4 a5 n0_6 n0_7 n0_8 n0_9 n0_10 l0_11 n0_12 n0_13 n0_14 n0_15 a6 a7 a8 a9 a10 a11 a12 a13 n0_24 n0_25 n0_26 n0_27 a14 n0_29 n0_30 f7 f8 f9 f11 f12 f13 hp_n0_6 hp_f7 hp_f8 hp_f9 hp_f11 hp_f13) (cwV 0 hts gX11_ransomOf_X11_laysNow rfl rfl rfl (by decide +kernel) ⟨Nat.le_of_ble_eq_true rfl, Nat.le_of_ble_eq_true rfl⟩) (wr_preV 11 0 hK (hP.sub [0, 1, 2, 3, 4, 5, 6] rfl) (hD.sub [0, 1, 2, 3, 4, 5, 6] (by decide) rfl) rfl rfl) rfl rfl hl.1 rfl (lv_room (Nat.le_of_ble_eq_true rfl)) dX11_ransomOf_1 ⟨Nat.zero_le _, Nat.zero_le _⟩) hS hP hD [0, 1, 2, 3, 4, 5, 6] [] rfl rfl (by decide) (fun _ => rfl) (fun ur1 H locs wr1 hP hD hS => ?_)
  have hP : va_P G vwCl [(a0, .inr (11, [.int n0_0, .ref a1, .ref a2, .ref a3, .ref a4, .ref a5, .int n0_6, .int n0_7, .int n0_8, .int n0_9, .int n0_10, .long l0_11, .int n0_12, .int n0_13, .int n0_14, .int n0_15, .ref a6, .ref a7, .ref a8, .ref a9, .ref a10, .ref a11, .ref a12, .ref a13, .int (ur1.1 0), .int (ur1.1 1), .int (ur1.1 2), .int (ur1.1 3), .ref a14, .int n0_29, .int n0_30])), (a7, .inl (ct 0, 15, .inl f7)), (a8, .inl (ct 0, 200, .inl f8)), (a9, .inl (ct 0, 1000, .inl f9)), (a11, .inl (ct 0, 8, .inl (ur1.2.1 0))), (a12, .inl (ct 0, 8, .inl (ur1.2.1 1))), (a13, .inl (ct 0, 8, .inl (ur1.2.1 2)))] H := hP.sub [0, 1, 2, 3, 4, 5, 6] rfl
  have hD : va_D A [(a0, .inr (11, [.int n0_0, .ref a1, .ref a2, .ref a3, .ref a4, .ref a5, .int n0_6, .int n0_7, .int n0_8, .int n0_9, .int n0_10, .long l0_11, .int n0_12, .int n0_13, .int n0_14, .int n0_15, .ref a6, .ref a7, .ref a8, .ref a9, .ref a10, .ref a11, .ref a12, .ref a13, .int (ur1.1 0), .int (ur1.1 1), .int (ur1.1 2), .int (ur1.1 3), .ref a14, .int n0_29, .int n0_30])), (a7, .inl (ct 0, 15, .inl f7)), (a8, .inl (ct 0, 200, .inl f8)), (a9, .inl (ct 0, 1000, .inl f9)), (a11, .inl (ct 0, 8, .inl (ur1.2.1 0))), (a12, .inl (ct 0, 8, .inl (ur1.2.1 1))), (a13, .inl (ct 0, 8, .inl (ur1.2.1 2)))] := hD.sub [0, 1, 2, 3, 4, 5, 6] (by decide) rfl
  obtain ⟨p_1, p_2, -⟩ := wr1
  refine lv_aload_n hx hb dX11_ransomOf_4 rfl (lv_at hl 0 rfl) ?_
  refine lv_iload_n hx hb dX11_ransomOf_5 rfl (lv_at hl 1 rfl) ?_
  refine lv_iload_n hx hb dX11_ransomOf_6 rfl (lv_at hl 2 rfl) ?_
  refine ro_calli (va_runV (As := [.int p0, .int p1]) (rest := []) ⟨hx, hb, hml, hown, hts⟩ (a_X11_timeOf l G ct a0 n0_0 a1 a2 a3 a4 a5 n0_6 n0_7 n0_8 n0_9 n0_10 l0_11 n0_12 n0_13 n0_14 n0_15 a6 a7 a8 a9 a10 a11 a12 a13 (ur1.1 0) (ur1.1 1) (ur1.1 2) (ur1.1 3) a14 n0_29 n0_30 f8 (ur1.2.1 0) p0 p1 hp_n0_6 hp_f8 p_1 hp_p0 hp_p1) (cwV 2 hts gX11_ransomOf_X11_timeOf rfl rfl rfl (by decide +kernel) ⟨Nat.le_of_ble_eq_true rfl, Nat.le_of_ble_eq_true rfl⟩) (ro_preV 11 0 hK (hP.sub [0, 2, 4] rfl) rfl rfl) rfl rfl hl.1 rfl (lv_room (Nat.le_of_ble_eq_true rfl)) dX11_ransomOf_7 ⟨Nat.zero_le _, Nat.zero_le _⟩) hS hP (fun r7 H locs wr7 hP hS => ?_)
  obtain ⟨p_3, -⟩ := wr7
  refine lv_iconst (v := (-1)) hx hb dX11_ransomOf_10 (by decide) ?_
  refine lv_icmp_ne (tgt := 16) hx hb dX11_ransomOf_11 (by decide) (fun c11 => ?_) (fun c11 => ?_)
  · refine lv_iload_n hx hb dX11_ransomOf_16 rfl (lv_at hl 2 rfl) ?_
    refine lv_istore_n (lv' := [(3, .int p1), (0, .ref a0), (1, .int p0), (2, .int p1)]) hx hb dX11_ransomOf_17 rfl hl (by decide) rfl (fun ls hl => ?_)
    refine lv_iload_n hx hb dX11_ransomOf_18 rfl (lv_at hl 3 rfl) ?_
    refine lv_istore (lv' := [(4, .int p1), (3, .int p1), (0, .ref a0), (1, .int p0), (2, .int p1)]) hx hb dX11_ransomOf_19 hl (by decide) rfl (fun ls hl => ?_)
    refine lv_iconst (v := 0) hx hb dX11_ransomOf_21 (by decide) ?_
    refine lv_istore (lv' := [(5, .int 0), (4, .int p1), (3, .int p1), (0, .ref a0), (1, .int p0), (2, .int p1)]) hx hb dX11_ransomOf_22 hl (by decide) rfl (fun ls hl => ?_)
    have j24 : ∀ (n : Nat) (x24_3 : Int32) (x24_4 : Int32) (x24_5 : Int32) (H : Heap) (locs : List Loc) (ls : Array Slot), 2147483648 ≤ x24_5.toInt + (n : Int) → rg 0 7 x24_3 → rg 0 7 x24_4 → rg 0 8 x24_5 → rc (ur1.2.1 0) p0 x24_4 7 → va_P G vwCl [(a0, .inr (11, [.int n0_0, .ref a1, .ref a2, .ref a3, .ref a4, .ref a5, .int n0_6, .int n0_7, .int n0_8, .int n0_9, .int n0_10, .long l0_11, .int n0_12, .int n0_13, .int n0_14, .int n0_15, .ref a6, .ref a7, .ref a8, .ref a9, .ref a10, .ref a11, .ref a12, .ref a13, .int (ur1.1 0), .int (ur1.1 1), .int (ur1.1 2), .int (ur1.1 3), .ref a14, .int n0_29, .int n0_30])), (a7, .inl (ct 0, 15, .inl f7)), (a8, .inl (ct 0, 200, .inl f8)), (a9, .inl (ct 0, 1000, .inl f9)), (a11, .inl (ct 0, 8, .inl (ur1.2.1 0))), (a12, .inl (ct 0, 8, .inl (ur1.2.1 1))), (a13, .inl (ct 0, 8, .inl (ur1.2.1 2)))] H → va_D A [(a0, .inr (11, [.int n0_0, .ref a1, .ref a2, .ref a3, .ref a4, .ref a5, .int n0_6, .int n0_7, .int n0_8, .int n0_9, .int n0_10, .long l0_11, .int n0_12, .int n0_13, .int n0_14, .int n0_15, .ref a6, .ref a7, .ref a8, .ref a9, .ref a10, .ref a11, .ref a12, .ref a13, .int (ur1.1 0), .int (ur1.1 1), .int (ur1.1 2), .int (ur1.1 3), .ref a14, .int n0_29, .int n0_30])), (a7, .inl (ct 0, 15, .inl f7)), (a8, .inl (ct 0, 200, .inl f8)), (a9, .inl (ct 0, 1000, .inl f9)), (a11, .inl (ct 0, 8, .inl (ur1.2.1 0))), (a12, .inl (ct 0, 8, .inl (ur1.2.1 1))), (a13, .inl (ct 0, 8, .inl (ur1.2.1 2)))] → va_S A s.heap H locs → lv_has ls 6 [(0, .ref a0), (1, .int p0), (2, .int p1), (3, .int x24_3), (4, .int x24_4), (5, .int x24_5)] → W p l e (headSpec wsX11_ransomOf ({ frames := 5, cells := 0, slots := 0, locals := 111 })).room s m ([.ref a0, .int p0, .int p1] : List Value).toArray below meth c H locs 0 0 (MQ below (va_Qi (fun (r : Int32) (u : SU) => rg (-1) 7 r ∧ ar (-1) 7 (u.2.1 0) ∧ ar (-1) 7 (u.2.1 2) ∧ True) (fun u t => va_P G vwCl ((fun u : SU => [(a0, .inr (11, [.int n0_0, .ref a1, .ref a2, .ref a3, .ref a4, .ref a5, .int n0_6, .int n0_7, .int n0_8, .int n0_9, .int n0_10, .long l0_11, .int n0_12, .int n0_13, .int n0_14, .int n0_15, .ref a6, .ref a7, .ref a8, .ref a9, .ref a10, .ref a11, .ref a12, .ref a13, .int (u.1 0), .int (u.1 1), .int (u.1 2), .int (u.1 3), .ref a14, .int n0_29, .int n0_30])), (a7, .inl (ct 0, 15, .inl f7)), (a8, .inl (ct 0, 200, .inl f8)), (a9, .inl (ct 0, 1000, .inl f9)), (a11, .inl (ct 0, 8, .inl (u.2.1 0))), (a12, .inl (ct 0, 8, .inl (u.2.1 1))), (a13, .inl (ct 0, 8, .inl (u.2.1 2)))]) u) t.heap) A) ([.ref a0, .int p0, .int p1] : List Value).toArray s 0 0 A) (F0 m 24 ls []) := by
      intro n
      induction n with
      | zero => intro x24_3 x24_4 x24_5 H locs ls hn24 hx24_3 hx24_4 hx24_5 hr24 hP hD hS hl; exact absurd hn24 (by have := Int32.toInt_lt x24_5; have := Int32.le_toInt x24_5; omega)
      | succ n ih24 =>
        intro x24_3 x24_4 x24_5 H locs ls hn24 hx24_3 hx24_4 hx24_5 hr24 hP hD hS hl
        refine lv_iload hx hb dX11_ransomOf_24 (lv_at hl 5 rfl) ?_
        refine lv_bipush (v := 8) hx hb dX11_ransomOf_26 (by decide) ?_
        refine lv_icmp_ge (tgt := 98) hx hb dX11_ransomOf_28 (by decide) (fun c28 => ?_) (fun c28 => ?_)
        · have h_4 : rg 8 8 x24_5 := r_le_r_i c28 (rgn 8 (x := 8) (by decide)) hx24_5
          refine lv_iload_n hx hb dX11_ransomOf_98 rfl (lv_at hl 3 rfl) ?_
          exact W.iret (v := x24_3) hx hb hr (fun t ht hW => ⟨⟨x24_3, (fun k => ([ur1.1 0, ur1.1 1, ur1.1 2, ur1.1 3] : List Int32).getD k 0, fun k => ([ur1.2.1 0, ur1.2.1 1, ur1.2.1 2] : List (Nat → Int32)).getD k (fun _ => 0), fun k => ([] : List (Nat → Int64)).getD k (fun _ => 0)), rfl, ⟨(rg_w (c := (-1)) (d := 7) hx24_3 (by decide)), p_1, p_2, trivial⟩, hp_at ht hP⟩, hS.F ht⟩) hS.2.2 dX11_ransomOf_99
        · have h_5 : rg 0 7 x24_5 := r_lt_l_i (nle_i c28) hx24_5 (rgn 8 (x := 8) (by decide)) (by decide)
          refine lv_aload_n hx hb dX11_ransomOf_31 rfl (lv_at hl 0 rfl) ?_
          refine va_get (D := G) (ci := 11) (v := .ref a11) (C := RX11) (T := TX11) (N := 31) hx hb hts (by decide +kernel) hown hK.1 hP 0 rfl rfl 21 (by decide) (hts (.fieldLink RX11 47 "CardHolderModel" "holder" "[I") (by decide +kernel)) (fun _ h9 => h9) rfl dX11_ransomOf_32 ?_
          refine lv_iload hx hb dX11_ransomOf_35 (lv_at hl 4 rfl) ?_
          refine va_iald hx hb hK.1 hP 4 0 rfl rfl (in_rg hx24_4 (by decide)) dX11_ransomOf_37 ?_
          refine lv_topi (fun z37 gz37 => ?_)
          have hz37 : rg (-1) 7 z37 := by rw [gz37]; exact p_1 _
          refine lv_iload_n hx hb dX11_ransomOf_38 rfl (lv_at hl 1 rfl) ?_
          refine lv_icmp_eq (tgt := 98) hx hb dX11_ransomOf_39 (by decide) (fun c39 => ?_) (fun c39 => ?_)
          · have h_6 : rg 0 7 z37 := r_eq_l_i (e := 0) (f := 7) c39 hz37 hp_p0 (by decide)
            refine lv_iload_n hx hb dX11_ransomOf_98 rfl (lv_at hl 3 rfl) ?_
            exact W.iret (v := x24_3) hx hb hr (fun t ht hW => ⟨⟨x24_3, (fun k => ([ur1.1 0, ur1.1 1, ur1.1 2, ur1.1 3] : List Int32).getD k 0, fun k => ([ur1.2.1 0, ur1.2.1 1, ur1.2.1 2] : List (Nat → Int32)).getD k (fun _ => 0), fun k => ([] : List (Nat → Int64)).getD k (fun _ => 0)), rfl, ⟨(rg_w (c := (-1)) (d := 7) hx24_3 (by decide)), p_1, p_2, trivial⟩, hp_at ht hP⟩, hS.F ht⟩) hS.2.2 dX11_ransomOf_99
          · have h_7 : rg 0 7 z37 := rc_rg (rc_t hr24 gz37 c39)
            refine lv_aload_n hx hb dX11_ransomOf_42 rfl (lv_at hl 0 rfl) ?_
            refine va_get (D := G) (ci := 11) (v := .ref a11) (C := RX11) (T := TX11) (N := 31) hx hb hts (by decide +kernel) hown hK.1 hP 0 rfl rfl 21 (by decide) (hts (.fieldLink RX11 47 "CardHolderModel" "holder" "[I") (by decide +kernel)) (fun _ h9 => h9) rfl dX11_ransomOf_43 ?_
            refine lv_iload hx hb dX11_ransomOf_46 (lv_at hl 4 rfl) ?_
            refine va_iald hx hb hK.1 hP 4 0 rfl rfl (in_rg hx24_4 (by decide)) dX11_ransomOf_48 ?_
            refine ix_i (y := z37) gz37.symm ?_
            refine lv_istore (lv' := [(4, .int z37), (0, .ref a0), (1, .int p0), (2, .int p1), (3, .int x24_3), (5, .int x24_5)]) hx hb dX11_ransomOf_49 hl (by decide) rfl (fun ls hl => ?_)
            refine lv_aload_n hx hb dX11_ransomOf_51 rfl (lv_at hl 1 rfl) ?_
            refine lv_iload hx hb dX11_ransomOf_52 (lv_at hl 0 rfl) ?_
            refine lv_iconst (v := 0) hx hb dX11_ransomOf_54 (by decide) ?_
            refine ro_calli (va_runV (As := [.int z37, .int 0]) (rest := []) ⟨hx, hb, hml, hown, hts⟩ (a_X11_of0 l G ct a0 n0_0 a1 a2 a3 a4 a5 n0_6 n0_7 n0_8 n0_9 n0_10 l0_11 n0_12 n0_13 n0_14 n0_15 a6 a7 a8 a9 a10 a11 a12 a13 (ur1.1 0) (ur1.1 1) (ur1.1 2) (ur1.1 3) a14 n0_29 n0_30 f8 z37 hp_n0_6 hp_f8 h_7) (cwV 2 hts gX11_ransomOf_X11_of rfl rfl rfl (by decide +kernel) ⟨Nat.le_of_ble_eq_true rfl, Nat.le_of_ble_eq_true rfl⟩) (ro_preV 11 0 hK (hP.sub [0, 2] rfl) rfl rfl) rfl rfl hl.1 rfl (lv_room (Nat.le_of_ble_eq_true rfl)) dX11_ransomOf_55 ⟨Nat.zero_le _, Nat.zero_le _⟩) hS hP (fun r55 H locs wr55 hP hS => ?_)
            refine lv_aload_n hx hb dX11_ransomOf_58 rfl (lv_at hl 1 rfl) ?_
            refine lv_iload_n hx hb dX11_ransomOf_59 rfl (lv_at hl 4 rfl) ?_
            refine lv_iconst (v := 0) hx hb dX11_ransomOf_60 (by decide) ?_
            refine ro_calli (va_runV (As := [.int x24_3, .int 0]) (rest := [.int r55]) ⟨hx, hb, hml, hown, hts⟩ (a_X11_of0 l G ct a0 n0_0 a1 a2 a3 a4 a5 n0_6 n0_7 n0_8 n0_9 n0_10 l0_11 n0_12 n0_13 n0_14 n0_15 a6 a7 a8 a9 a10 a11 a12 a13 (ur1.1 0) (ur1.1 1) (ur1.1 2) (ur1.1 3) a14 n0_29 n0_30 f8 x24_3 hp_n0_6 hp_f8 hx24_3) (cwV 2 hts gX11_ransomOf_X11_of rfl rfl rfl (by decide +kernel) ⟨Nat.le_of_ble_eq_true rfl, Nat.le_of_ble_eq_true rfl⟩) (ro_preV 11 0 hK (hP.sub [0, 2] rfl) rfl rfl) rfl rfl hl.1 rfl (lv_room (Nat.le_of_ble_eq_true rfl)) dX11_ransomOf_61 ⟨Nat.zero_le _, Nat.zero_le _⟩) hS hP (fun r61 H locs wr61 hP hS => ?_)
            have j89 : ∀ (H : Heap) (locs : List Loc) (ls : Array Slot), va_P G vwCl [(a0, .inr (11, [.int n0_0, .ref a1, .ref a2, .ref a3, .ref a4, .ref a5, .int n0_6, .int n0_7, .int n0_8, .int n0_9, .int n0_10, .long l0_11, .int n0_12, .int n0_13, .int n0_14, .int n0_15, .ref a6, .ref a7, .ref a8, .ref a9, .ref a10, .ref a11, .ref a12, .ref a13, .int (ur1.1 0), .int (ur1.1 1), .int (ur1.1 2), .int (ur1.1 3), .ref a14, .int n0_29, .int n0_30])), (a7, .inl (ct 0, 15, .inl f7)), (a8, .inl (ct 0, 200, .inl f8)), (a9, .inl (ct 0, 1000, .inl f9)), (a11, .inl (ct 0, 8, .inl (ur1.2.1 0))), (a12, .inl (ct 0, 8, .inl (ur1.2.1 1))), (a13, .inl (ct 0, 8, .inl (ur1.2.1 2)))] H → va_D A [(a0, .inr (11, [.int n0_0, .ref a1, .ref a2, .ref a3, .ref a4, .ref a5, .int n0_6, .int n0_7, .int n0_8, .int n0_9, .int n0_10, .long l0_11, .int n0_12, .int n0_13, .int n0_14, .int n0_15, .ref a6, .ref a7, .ref a8, .ref a9, .ref a10, .ref a11, .ref a12, .ref a13, .int (ur1.1 0), .int (ur1.1 1), .int (ur1.1 2), .int (ur1.1 3), .ref a14, .int n0_29, .int n0_30])), (a7, .inl (ct 0, 15, .inl f7)), (a8, .inl (ct 0, 200, .inl f8)), (a9, .inl (ct 0, 1000, .inl f9)), (a11, .inl (ct 0, 8, .inl (ur1.2.1 0))), (a12, .inl (ct 0, 8, .inl (ur1.2.1 1))), (a13, .inl (ct 0, 8, .inl (ur1.2.1 2)))] → va_S A s.heap H locs → lv_has ls 6 [(0, .ref a0), (1, .int p0), (2, .int p1), (3, .int x24_3), (4, .int z37), (5, .int x24_5)] → W p l e (headSpec wsX11_ransomOf ({ frames := 5, cells := 0, slots := 0, locals := 111 })).room s m ([.ref a0, .int p0, .int p1] : List Value).toArray below meth c H locs 0 0 (MQ below (va_Qi (fun (r : Int32) (u : SU) => rg (-1) 7 r ∧ ar (-1) 7 (u.2.1 0) ∧ ar (-1) 7 (u.2.1 2) ∧ True) (fun u t => va_P G vwCl ((fun u : SU => [(a0, .inr (11, [.int n0_0, .ref a1, .ref a2, .ref a3, .ref a4, .ref a5, .int n0_6, .int n0_7, .int n0_8, .int n0_9, .int n0_10, .long l0_11, .int n0_12, .int n0_13, .int n0_14, .int n0_15, .ref a6, .ref a7, .ref a8, .ref a9, .ref a10, .ref a11, .ref a12, .ref a13, .int (u.1 0), .int (u.1 1), .int (u.1 2), .int (u.1 3), .ref a14, .int n0_29, .int n0_30])), (a7, .inl (ct 0, 15, .inl f7)), (a8, .inl (ct 0, 200, .inl f8)), (a9, .inl (ct 0, 1000, .inl f9)), (a11, .inl (ct 0, 8, .inl (u.2.1 0))), (a12, .inl (ct 0, 8, .inl (u.2.1 1))), (a13, .inl (ct 0, 8, .inl (u.2.1 2)))]) u) t.heap) A) ([.ref a0, .int p0, .int p1] : List Value).toArray s 0 0 A) (F0 m 89 ls []) := by
              intro  H locs ls  hP hD hS hl
              refine lv_iload hx hb dX11_ransomOf_89 (lv_at hl 4 rfl) ?_
              refine lv_istore_n (lv' := [(3, .int z37), (0, .ref a0), (1, .int p0), (2, .int p1), (4, .int z37), (5, .int x24_5)]) hx hb dX11_ransomOf_91 rfl hl (by decide) rfl (fun ls hl => ?_)
              obtain ⟨z92, qz92⟩ : ∃ y : Int32, y = x24_5 + Int32.ofInt 1 := ⟨_, rfl⟩
              obtain ⟨hz92, ez92⟩ := inc_z (e := 1) (f := 8) h_5 qz92 (by decide)
              refine lv_iinc (v := z92) (lv' := [(5, .int z92), (3, .int z37), (0, .ref a0), (1, .int p0), (2, .int p1), (4, .int z37)]) hx hb dX11_ransomOf_92 hl (k := 5) rfl (qz92.symm) (by decide) rfl (fun ls hl => ?_)
              refine lv_goto (tgt := 24) hx hb dX11_ransomOf_95 (by decide) ?_
              exact ih24 z37 z37 z92 _ _ ls (by have q := hn24; have := ez92; omega) h_7 h_7 (rg_w (c := 0) (d := 8) hz92 (by decide)) (rc_t hr24 gz37 c39) hP hD hS (lv_sub hl [2, 3, 4, 1, 5, 0] rfl)
            refine lv_icmp_lt (tgt := 89) hx hb dX11_ransomOf_64 (by decide) (fun c64 => ?_) (fun c64 => ?_)
            · have h_8 : rg (-2147483648) 2147483646 r55 := r_lt_l_i c64 (rg_t r55) (rg_t r61) (by decide)
              have h_9 : rg (-2147483647) 2147483647 r61 := r_lt_r_i c64 (rg_t r55) (rg_t r61) (by decide)
              exact j89 _ _ ls hP hD hS (lv_sub hl [1, 2, 3, 4, 0, 5] rfl)
            · refine lv_aload_n hx hb dX11_ransomOf_67 rfl (lv_at hl 1 rfl) ?_
              refine lv_iload hx hb dX11_ransomOf_68 (lv_at hl 0 rfl) ?_
              refine lv_iconst (v := 0) hx hb dX11_ransomOf_70 (by decide) ?_
              refine ro_calli (va_runV (As := [.int z37, .int 0]) (rest := []) ⟨hx, hb, hml, hown, hts⟩ (a_X11_of0 l G ct a0 n0_0 a1 a2 a3 a4 a5 n0_6 n0_7 n0_8 n0_9 n0_10 l0_11 n0_12 n0_13 n0_14 n0_15 a6 a7 a8 a9 a10 a11 a12 a13 (ur1.1 0) (ur1.1 1) (ur1.1 2) (ur1.1 3) a14 n0_29 n0_30 f8 z37 hp_n0_6 hp_f8 h_7) (cwV 2 hts gX11_ransomOf_X11_of rfl rfl rfl (by decide +kernel) ⟨Nat.le_of_ble_eq_true rfl, Nat.le_of_ble_eq_true rfl⟩) (ro_preV 11 0 hK (hP.sub [0, 2] rfl) rfl rfl) rfl rfl hl.1 rfl (lv_room (Nat.le_of_ble_eq_true rfl)) dX11_ransomOf_71 ⟨Nat.zero_le _, Nat.zero_le _⟩) hS hP (fun r71 H locs wr71 hP hS => ?_)
              refine lv_aload_n hx hb dX11_ransomOf_74 rfl (lv_at hl 1 rfl) ?_
              refine lv_iload_n hx hb dX11_ransomOf_75 rfl (lv_at hl 4 rfl) ?_
              refine lv_iconst (v := 0) hx hb dX11_ransomOf_76 (by decide) ?_
              refine ro_calli (va_runV (As := [.int x24_3, .int 0]) (rest := [.int r71]) ⟨hx, hb, hml, hown, hts⟩ (a_X11_of0 l G ct a0 n0_0 a1 a2 a3 a4 a5 n0_6 n0_7 n0_8 n0_9 n0_10 l0_11 n0_12 n0_13 n0_14 n0_15 a6 a7 a8 a9 a10 a11 a12 a13 (ur1.1 0) (ur1.1 1) (ur1.1 2) (ur1.1 3) a14 n0_29 n0_30 f8 x24_3 hp_n0_6 hp_f8 hx24_3) (cwV 2 hts gX11_ransomOf_X11_of rfl rfl rfl (by decide +kernel) ⟨Nat.le_of_ble_eq_true rfl, Nat.le_of_ble_eq_true rfl⟩) (ro_preV 11 0 hK (hP.sub [0, 2] rfl) rfl rfl) rfl rfl hl.1 rfl (lv_room (Nat.le_of_ble_eq_true rfl)) dX11_ransomOf_77 ⟨Nat.zero_le _, Nat.zero_le _⟩) hS hP (fun r77 H locs wr77 hP hS => ?_)
              refine lv_icmp_ne (tgt := 92) hx hb dX11_ransomOf_80 (by decide) (fun c80 => ?_) (fun c80 => ?_)
              · obtain ⟨z92, qz92⟩ : ∃ y : Int32, y = x24_5 + Int32.ofInt 1 := ⟨_, rfl⟩
                obtain ⟨hz92, ez92⟩ := inc_z (e := 1) (f := 8) h_5 qz92 (by decide)
                refine lv_iinc (v := z92) (lv' := [(5, .int z92), (4, .int z37), (0, .ref a0), (1, .int p0), (2, .int p1), (3, .int x24_3)]) hx hb dX11_ransomOf_92 hl (k := 5) rfl (qz92.symm) (by decide) rfl (fun ls hl => ?_)
                refine lv_goto (tgt := 24) hx hb dX11_ransomOf_95 (by decide) ?_
                exact ih24 x24_3 z37 z92 _ _ ls (by have q := hn24; have := ez92; omega) hx24_3 h_7 (rg_w (c := 0) (d := 8) hz92 (by decide)) (rc_t hr24 gz37 c39) hP hD hS (lv_sub hl [2, 3, 4, 5, 1, 0] rfl)
              · refine lv_iload hx hb dX11_ransomOf_83 (lv_at hl 0 rfl) ?_
                refine lv_iload_n hx hb dX11_ransomOf_85 rfl (lv_at hl 4 rfl) ?_
                refine lv_icmp_ge (tgt := 92) hx hb dX11_ransomOf_86 (by decide) (fun c86 => ?_) (fun c86 => ?_)
                · obtain ⟨z92, qz92⟩ : ∃ y : Int32, y = x24_5 + Int32.ofInt 1 := ⟨_, rfl⟩
                  obtain ⟨hz92, ez92⟩ := inc_z (e := 1) (f := 8) h_5 qz92 (by decide)
                  refine lv_iinc (v := z92) (lv' := [(5, .int z92), (4, .int z37), (0, .ref a0), (1, .int p0), (2, .int p1), (3, .int x24_3)]) hx hb dX11_ransomOf_92 hl (k := 5) rfl (qz92.symm) (by decide) rfl (fun ls hl => ?_)
                  refine lv_goto (tgt := 24) hx hb dX11_ransomOf_95 (by decide) ?_
                  exact ih24 x24_3 z37 z92 _ _ ls (by have q := hn24; have := ez92; omega) hx24_3 h_7 (rg_w (c := 0) (d := 8) hz92 (by decide)) (rc_t hr24 gz37 c39) hP hD hS (lv_sub hl [2, 3, 4, 5, 1, 0] rfl)
                · have h_10 : rg 0 6 z37 := r_lt_l_i (nle_i c86) h_7 hx24_3 (by decide)
                  have h_11 : rg 1 7 x24_3 := r_lt_r_i (nle_i c86) h_7 hx24_3 (by decide)
                  exact j89 _ _ ls hP hD hS (lv_sub hl [1, 2, 3, 4, 0, 5] rfl)
    exact j24 4294967296 p1 p1 (0 : Int32) _ _ ls (ms_e (0 : Int32)) hp_p1 hp_p1 (rg_w (c := 0) (d := 8) (rgn 0 (x := 0) (by decide)) (by decide)) (p_3 c11) hP hD hS (lv_sub hl [3, 4, 5, 2, 1, 0] rfl)
  · have h_12 : rg (-1) (-1) r7 := r_eq_l_i (e := (-1)) (f := (-1)) c11 (rg_t r7) (rgn (-1) (x := (-1)) (by decide)) (by decide)
    refine lv_iconst (v := (-1)) hx hb dX11_ransomOf_14 (by decide) ?_
    exact W.iret (v := (-1)) hx hb hr (fun t ht hW => ⟨⟨(-1), (fun k => ([ur1.1 0, ur1.1 1, ur1.1 2, ur1.1 3] : List Int32).getD k 0, fun k => ([ur1.2.1 0, ur1.2.1 1, ur1.2.1 2] : List (Nat → Int32)).getD k (fun _ => 0), fun k => ([] : List (Nat → Int64)).getD k (fun _ => 0)), rfl, ⟨(rg_w (c := (-1)) (d := 7) (rgn (-1) (x := (-1)) (by decide)) (by decide)), p_1, p_2, trivial⟩, hp_at ht hP⟩, hS.F ht⟩) hS.2.2 dX11_ransomOf_15

set_option maxHeartbeats 4000000 in
set_option maxRecDepth 100000 in
theorem a_X11_ransom (l : Launch) (G : va_G) (ct : Nat → ClassId) (a0 : Nat) (n0_0 : Int32) (a1 : Nat) (a2 : Nat) (a3 : Nat) (a4 : Nat) (a5 : Nat) (n0_6 : Int32) (n0_7 : Int32) (n0_8 : Int32) (n0_9 : Int32) (n0_10 : Int32) (l0_11 : Int64) (n0_12 : Int32) (n0_13 : Int32) (n0_14 : Int32) (n0_15 : Int32) (a6 : Nat) (a7 : Nat) (a8 : Nat) (a9 : Nat) (a10 : Nat) (a11 : Nat) (a12 : Nat) (a13 : Nat) (n0_24 : Int32) (n0_25 : Int32) (n0_26 : Int32) (n0_27 : Int32) (a14 : Nat) (n0_29 : Int32) (n0_30 : Int32) (f7 : Nat → Int32) (f8 : Nat → Int32) (f9 : Nat → Int32) (f11 : Nat → Int32) (f12 : Nat → Int32) (f13 : Nat → Int32) (p0 : Int32) (p1 : Int32) (hp_n0_6 : rg 0 900 n0_6) (hp_f7 : hsI f7) (hp_f8 : psI f8) (hp_f9 : ar 0 7 f9) (hp_f11 : ar (-1) 7 f11) (hp_f13 : ar (-1) 7 f13) : Met l yX11_ransom wsX11_ransom ({ frames := 6, cells := 0, slots := 0, locals := 136 }) (va_Pc [.ref a0, .int p0, .int p1] (wrP G ct [(a0, .inr (11, [.int n0_0, .ref a1, .ref a2, .ref a3, .ref a4, .ref a5, .int n0_6, .int n0_7, .int n0_8, .int n0_9, .int n0_10, .long l0_11, .int n0_12, .int n0_13, .int n0_14, .int n0_15, .ref a6, .ref a7, .ref a8, .ref a9, .ref a10, .ref a11, .ref a12, .ref a13, .int n0_24, .int n0_25, .int n0_26, .int n0_27, .ref a14, .int n0_29, .int n0_30])), (a7, .inl (ct 0, 15, .inl f7)), (a8, .inl (ct 0, 200, .inl f8)), (a9, .inl (ct 0, 1000, .inl f9)), (a11, .inl (ct 0, 8, .inl f11)), (a12, .inl (ct 0, 8, .inl f12)), (a13, .inl (ct 0, 8, .inl f13))])) (va_Qi (fun (r : Int32) (u : SU) => (r = 0 → rg 0 7 p0) ∧ (r = (-1) → rg 0 7 p0) ∧ (¬ r = (-2) → rg 0 7 p0) ∧ (r = 0 → rg 0 7 p1) ∧ (r = (-1) → rg 0 7 p1) ∧ (¬ r = (-2) → rg 0 7 p1) ∧ ar (-1) 7 (u.2.1 0) ∧ ar (-1) 7 (u.2.1 2) ∧ rg 0 0 (u.1 0) ∧ True) (fun u t => va_P G vwCl ((fun u : SU => [(a0, .inr (11, [.int (u.1 0), .ref a1, .ref a2, .ref a3, .ref a4, .ref a5, .int n0_6, .int n0_7, .int n0_8, .int n0_9, .int n0_10, .long l0_11, .int n0_12, .int n0_13, .int n0_14, .int n0_15, .ref a6, .ref a7, .ref a8, .ref a9, .ref a10, .ref a11, .ref a12, .ref a13, .int (u.1 1), .int (u.1 2), .int (u.1 3), .int (u.1 4), .ref a14, .int n0_29, .int n0_30])), (a7, .inl (ct 0, 15, .inl f7)), (a8, .inl (ct 0, 200, .inl f8)), (a9, .inl (ct 0, 1000, .inl f9)), (a11, .inl (ct 0, 8, .inl (u.2.1 0))), (a12, .inl (ct 0, 8, .inl (u.2.1 1))), (a13, .inl (ct 0, 8, .inl (u.2.1 2)))]) u) t.heap) (aset [(a0, .inr (11, [.int n0_0, .ref a1, .ref a2, .ref a3, .ref a4, .ref a5, .int n0_6, .int n0_7, .int n0_8, .int n0_9, .int n0_10, .long l0_11, .int n0_12, .int n0_13, .int n0_14, .int n0_15, .ref a6, .ref a7, .ref a8, .ref a9, .ref a10, .ref a11, .ref a12, .ref a13, .int n0_24, .int n0_25, .int n0_26, .int n0_27, .ref a14, .int n0_29, .int n0_30])), (a7, .inl (ct 0, 15, .inl f7)), (a8, .inl (ct 0, 200, .inl f8)), (a9, .inl (ct 0, 1000, .inl f9)), (a11, .inl (ct 0, 8, .inl f11)), (a12, .inl (ct 0, 8, .inl f12)), (a13, .inl (ct 0, 8, .inl f13))])) 0 0 (aset [(a0, .inr (11, [.int n0_0, .ref a1, .ref a2, .ref a3, .ref a4, .ref a5, .int n0_6, .int n0_7, .int n0_8, .int n0_9, .int n0_10, .long l0_11, .int n0_12, .int n0_13, .int n0_14, .int n0_15, .ref a6, .ref a7, .ref a8, .ref a9, .ref a10, .ref a11, .ref a12, .ref a13, .int n0_24, .int n0_25, .int n0_26, .int n0_27, .ref a14, .int n0_29, .int n0_30])), (a7, .inl (ct 0, 15, .inl f7)), (a8, .inl (ct 0, 200, .inl f8)), (a9, .inl (ct 0, 1000, .inl f9)), (a11, .inl (ct 0, 8, .inl f11)), (a12, .inl (ct 0, 8, .inl f12)), (a13, .inl (ct 0, 8, .inl f13))]) := by
  refine Met.ofW (cc := cX11_ransom) (maxL := 4) (ret := (some .int)) (by decide) rfl ?_
  intro p e s m args below meth c s₁ B hml hv
  obtain ⟨rfl, hP, hK, hD0⟩ := hv
  have hx := B.exec
  have hb := B.bytes
  have hr := B.returns
  have hts := atoms_spec (ws := wsX11_ransom) B.pre
  have hown : s.vm.findClass RX11 = some m.cls := findClass_of_methodNamed B.named
  have hlocks := B.notSynchronized
  have hD := hD0.aself
  generalize hAe : aset [(a0, .inr (11, [.int n0_0, .ref a1, .ref a2, .ref a3, .ref a4, .ref a5, .int n0_6, .int n0_7, .int n0_8, .int n0_9, .int n0_10, .long l0_11, .int n0_12, .int n0_13, .int n0_14, .int n0_15, .ref a6, .ref a7, .ref a8, .ref a9, .ref a10, .ref a11, .ref a12, .ref a13, .int n0_24, .int n0_25, .int n0_26, .int n0_27, .ref a14, .int n0_29, .int n0_30])), (a7, .inl (ct 0, 15, .inl f7)), (a8, .inl (ct 0, 200, .inl f8)), (a9, .inl (ct 0, 1000, .inl f9)), (a11, .inl (ct 0, 8, .inl f11)), (a12, .inl (ct 0, 8, .inl f12)), (a13, .inl (ct 0, 8, .inl f13))] = A at hD ⊢
  have hS : va_S A s.heap s.heap [] := va_S.rf
  have hl := lv_entry ([.ref a0, .int p0, .int p1]) (n := 4) (Nat.le_of_ble_eq_true rfl)
  rw [lg_entry_eq]
  generalize (lg_sl ([.ref a0, .int p0, .int p1]) ++ List.replicate (4 - (lg_sl ([.ref a0, .int p0, .int p1])).length) Slot.unset).toArray = ls at hl ⊢
  have hl : lv_has ls 4 [(0, .ref a0), (1, .int p0), (2, .int p1)] := hl
  refine lv_aload_n hx hb dX11_ransom_0 rfl (lv_at hl 0 rfl) ?_
  refine lv_iconst (v := 0) hx hb dX11_ransom_1 (by decide) ?_
  refine va_put (D := G) (ci := 11) (v := .int 0) (ty := .int) (C := RX11) (T := TX11) (N := 31) hx hb hts (by decide +kernel) tyX11 tyX11_ok nmX11 hown hK.1 hP hD hS 0 rfl rfl 0 (by decide) (hts (.fieldLink RX11 59 "CardHolderModel" "thrown" "I") (by decide +kernel)) (fun _ h9 => h9) rfl (by decide +kernel) rfl rfl (Nat.le_of_ble_eq_true rfl) dX11_ransom_2 (fun H locs hP hD hS => ?_)
  refine lv_aload_n hx hb dX11_ransom_5 rfl (lv_at hl 0 rfl) ?_
  refine lv_iload_n hx hb dX11_ransom_6 rfl (lv_at hl 1 rfl) ?_
  refine lv_iload_n hx hb dX11_ransom_7 rfl (lv_at hl 2 rfl) ?_
  refine ro_calli (va_runV (As := [.int p0, .int p1]) (rest := []) ⟨hx, hb, hml, hown, hts⟩ (a_X11_arePeople l G ct a0 (0 : Int32) a1 a2 a3 a4 a5 n0_6 n0_7 n0_8 n0_9 n0_10 l0_11 n0_12 n0_13 n0_14 n0_15 a6 a7 a8 a9 a10 a11 a12 a13 n0_24 n0_25 n0_26 n0_27 a14 n0_29 n0_30 f7 p0 p1 hp_n0_6 hp_f7) (cwV 2 hts gX11_ransom_X11_arePeople rfl rfl rfl (by decide +kernel) ⟨Nat.le_of_ble_eq_true rfl, Nat.le_of_ble_eq_true rfl⟩) (ro_preV 11 0 hK (hP.sub [0, 1] rfl) rfl rfl) rfl rfl hl.1 rfl (lv_room (Nat.le_of_ble_eq_true rfl)) dX11_ransom_8 ⟨Nat.zero_le _, Nat.zero_le _⟩) hS hP (fun r8 H locs wr8 hP hS => ?_)
  obtain ⟨p_1, p_2, p_3, -⟩ := wr8
  refine lv_if_ne (tgt := 17) hx hb dX11_ransom_11 (by decide) (fun c11 => ?_) (fun c11 => ?_)
  · have h_4 : rg 1 1 r8 := r_ne_lo_i c11 p_1 (by decide) (by decide)
    have h_5 : rg 0 7 p0 := (p_2 (rne h_4 (y := 0) (c := 0) (by decide) (by decide)))
    have h_6 : rg 0 7 p1 := (p_3 (rne h_4 (y := 0) (c := 0) (by decide) (by decide)))
    refine lv_aload_n hx hb dX11_ransom_17 rfl (lv_at hl 0 rfl) ?_
    refine lv_iload_n hx hb dX11_ransom_18 rfl (lv_at hl 1 rfl) ?_
    refine lv_iload_n hx hb dX11_ransom_19 rfl (lv_at hl 2 rfl) ?_
    refine wj_calli (wr := []) (w1 := (fun u : SU => [(a0, .inr (11, [.int 0, .ref a1, .ref a2, .ref a3, .ref a4, .ref a5, .int n0_6, .int n0_7, .int n0_8, .int n0_9, .int n0_10, .long l0_11, .int n0_12, .int n0_13, .int n0_14, .int n0_15, .ref a6, .ref a7, .ref a8, .ref a9, .ref a10, .ref a11, .ref a12, .ref a13, .int (u.1 0), .int (u.1 1), .int (u.1 2), .int (u.1 3), .ref a14, .int n0_29, .int n0_30])), (a7, .inl (ct 0, 15, .inl f7)), (a8, .inl (ct 0, 200, .inl f8)), (a9, .inl (ct 0, 1000, .inl f9)), (a11, .inl (ct 0, 8, .inl (u.2.1 0))), (a12, .inl (ct 0, 8, .inl (u.2.1 1))), (a13, .inl (ct 0, 8, .inl (u.2.1 2)))])) (va_runV (As := [.int p0, .int p1]) (rest := []) ⟨hx, hb, hml, hown, hts⟩ (a_X11_ransomOf l G ct a0 (0 : Int32) a1 a2 a3 a4 a5 n0_6 n0_7 n0_8 n0_9 n0_10 l0_11 n0_12 n0_13 n0_14 n0_15 a6 a7 a8 a9 a10 a11 a12 a13 n0_24 n0_25 n0_26 n0_27 a14 n0_29 n0_30 f7 f8 f9 f11 f12 f13 p0 p1 hp_n0_6 hp_f7 hp_f8 hp_f9 hp_f11 hp_f13 h_5 h_6) (cwV 2 hts gX11_ransom_X11_ransomOf rfl rfl rfl (by decide +kernel) ⟨Nat.le_of_ble_eq_true rfl, Nat.le_of_ble_eq_true rfl⟩) (wr_preV 11 0 hK (hP.sub [0, 1, 2, 3, 4, 5, 6] rfl) (hD.sub [0, 1, 2, 3, 4, 5, 6] (by decide) rfl) rfl rfl) rfl rfl hl.1 rfl (lv_room (Nat.le_of_ble_eq_true rfl)) dX11_ransom_20 ⟨Nat.zero_le _, Nat.zero_le _⟩) hS hP hD [0, 1, 2, 3, 4, 5, 6] [] rfl rfl (by decide) (fun _ => rfl) (fun r20 ur20 H locs wr20 hP hD hS => ?_)
    have hP : va_P G vwCl [(a0, .inr (11, [.int 0, .ref a1, .ref a2, .ref a3, .ref a4, .ref a5, .int n0_6, .int n0_7, .int n0_8, .int n0_9, .int n0_10, .long l0_11, .int n0_12, .int n0_13, .int n0_14, .int n0_15, .ref a6, .ref a7, .ref a8, .ref a9, .ref a10, .ref a11, .ref a12, .ref a13, .int (ur20.1 0), .int (ur20.1 1), .int (ur20.1 2), .int (ur20.1 3), .ref a14, .int n0_29, .int n0_30])), (a7, .inl (ct 0, 15, .inl f7)), (a8, .inl (ct 0, 200, .inl f8)), (a9, .inl (ct 0, 1000, .inl f9)), (a11, .inl (ct 0, 8, .inl (ur20.2.1 0))), (a12, .inl (ct 0, 8, .inl (ur20.2.1 1))), (a13, .inl (ct 0, 8, .inl (ur20.2.1 2)))] H := hP.sub [0, 1, 2, 3, 4, 5, 6] rfl
    have hD : va_D A [(a0, .inr (11, [.int 0, .ref a1, .ref a2, .ref a3, .ref a4, .ref a5, .int n0_6, .int n0_7, .int n0_8, .int n0_9, .int n0_10, .long l0_11, .int n0_12, .int n0_13, .int n0_14, .int n0_15, .ref a6, .ref a7, .ref a8, .ref a9, .ref a10, .ref a11, .ref a12, .ref a13, .int (ur20.1 0), .int (ur20.1 1), .int (ur20.1 2), .int (ur20.1 3), .ref a14, .int n0_29, .int n0_30])), (a7, .inl (ct 0, 15, .inl f7)), (a8, .inl (ct 0, 200, .inl f8)), (a9, .inl (ct 0, 1000, .inl f9)), (a11, .inl (ct 0, 8, .inl (ur20.2.1 0))), (a12, .inl (ct 0, 8, .inl (ur20.2.1 1))), (a13, .inl (ct 0, 8, .inl (ur20.2.1 2)))] := hD.sub [0, 1, 2, 3, 4, 5, 6] (by decide) rfl
    obtain ⟨p_7, p_8, p_9, -⟩ := wr20
    refine lv_istore_n (lv' := [(3, .int r20), (0, .ref a0), (1, .int p0), (2, .int p1)]) hx hb dX11_ransom_23 rfl hl (by decide) rfl (fun ls hl => ?_)
    refine lv_iload_n hx hb dX11_ransom_24 rfl (lv_at hl 0 rfl) ?_
    refine lv_iconst (v := (-1)) hx hb dX11_ransom_25 (by decide) ?_
    refine lv_icmp_ne (tgt := 33) hx hb dX11_ransom_26 (by decide) (fun c26 => ?_) (fun c26 => ?_)
    · have h_10 : rg 0 7 r20 := r_ne_lo_i c26 p_7 (by decide) (by decide)
      refine lv_aload_n hx hb dX11_ransom_33 rfl (lv_at hl 1 rfl) ?_
      refine lv_iload_n hx hb dX11_ransom_34 rfl (lv_at hl 0 rfl) ?_
      refine lv_iconst (v := 0) hx hb dX11_ransom_35 (by decide) ?_
      refine ro_calli (va_runV (As := [.int r20, .int 0]) (rest := []) ⟨hx, hb, hml, hown, hts⟩ (a_X11_of0 l G ct a0 (0 : Int32) a1 a2 a3 a4 a5 n0_6 n0_7 n0_8 n0_9 n0_10 l0_11 n0_12 n0_13 n0_14 n0_15 a6 a7 a8 a9 a10 a11 a12 a13 (ur20.1 0) (ur20.1 1) (ur20.1 2) (ur20.1 3) a14 n0_29 n0_30 f8 r20 hp_n0_6 hp_f8 h_10) (cwV 2 hts gX11_ransom_X11_of rfl rfl rfl (by decide +kernel) ⟨Nat.le_of_ble_eq_true rfl, Nat.le_of_ble_eq_true rfl⟩) (ro_preV 11 0 hK (hP.sub [0, 2] rfl) rfl rfl) rfl rfl hl.1 rfl (lv_room (Nat.le_of_ble_eq_true rfl)) dX11_ransom_36 ⟨Nat.zero_le _, Nat.zero_le _⟩) hS hP (fun r36 H locs wr36 hP hS => ?_)
      exact W.iret (v := r36) hx hb hr (fun t ht hW => ⟨⟨r36, (fun k => ([0, ur20.1 0, ur20.1 1, ur20.1 2, ur20.1 3] : List Int32).getD k 0, fun k => ([ur20.2.1 0, ur20.2.1 1, ur20.2.1 2] : List (Nat → Int32)).getD k (fun _ => 0), fun k => ([] : List (Nat → Int64)).getD k (fun _ => 0)), rfl, ⟨(fun _ => h_5), (fun _ => h_5), (fun _ => h_5), (fun _ => h_6), (fun _ => h_6), (fun _ => h_6), p_8, p_9, (rgn 0 (x := 0) (by decide)), trivial⟩, hp_at ht hP⟩, hS.F ht⟩) hS.2.2 dX11_ransom_39
    · have h_11 : rg (-1) (-1) r20 := r_eq_l_i (e := (-1)) (f := (-1)) c26 p_7 (rgn (-1) (x := (-1)) (by decide)) (by decide)
      refine lv_iconst (v := (-1)) hx hb dX11_ransom_29 (by decide) ?_
      refine lv_goto (tgt := 39) hx hb dX11_ransom_30 (by decide) ?_
      exact W.iret (v := (-1)) hx hb hr (fun t ht hW => ⟨⟨(-1), (fun k => ([0, ur20.1 0, ur20.1 1, ur20.1 2, ur20.1 3] : List Int32).getD k 0, fun k => ([ur20.2.1 0, ur20.2.1 1, ur20.2.1 2] : List (Nat → Int32)).getD k (fun _ => 0), fun k => ([] : List (Nat → Int64)).getD k (fun _ => 0)), rfl, ⟨(fun _ => h_5), (fun _ => h_5), (fun _ => h_5), (fun _ => h_6), (fun _ => h_6), (fun _ => h_6), p_8, p_9, (rgn 0 (x := 0) (by decide)), trivial⟩, hp_at ht hP⟩, hS.F ht⟩) hS.2.2 dX11_ransom_39
  · have h_12 : rg 0 0 r8 := r_eq_l_i (e := 0) (f := 0) c11 p_1 (rgn 0 (x := 0) (by decide)) (by decide)
    refine lv_bipush (v := (-2)) hx hb dX11_ransom_14 (by decide) ?_
    exact W.iret (v := (-2)) hx hb hr (fun t ht hW => ⟨⟨(-2), (fun k => ([0, n0_24, n0_25, n0_26, n0_27] : List Int32).getD k 0, fun k => ([f11, f12, f13] : List (Nat → Int32)).getD k (fun _ => 0), fun k => ([] : List (Nat → Int64)).getD k (fun _ => 0)), rfl, ⟨(fun hq => absurd hq (rne (rgn (-2) (x := (-2)) (by decide)) (y := 0) (c := 0) (by decide) (by decide))), (fun hq => absurd hq (rne (rgn (-2) (x := (-2)) (by decide)) (y := (-1)) (c := (-1)) (by decide) (by decide))), (fun hq => absurd (req (rgn (-2) (x := (-2)) (by decide)) (y := (-2)) (by decide)) hq), (fun hq => absurd hq (rne (rgn (-2) (x := (-2)) (by decide)) (y := 0) (c := 0) (by decide) (by decide))), (fun hq => absurd hq (rne (rgn (-2) (x := (-2)) (by decide)) (y := (-1)) (c := (-1)) (by decide) (by decide))), (fun hq => absurd (req (rgn (-2) (x := (-2)) (by decide)) (y := (-2)) (by decide)) hq), hp_f11, hp_f13, (rgn 0 (x := 0) (by decide)), trivial⟩, hp_at ht hP⟩, hS.F ht⟩) hS.2.2 dX11_ransom_16

set_option maxHeartbeats 4000000 in
set_option maxRecDepth 100000 in
theorem a_X11_ransomed (l : Launch) (G : va_G) (ct : Nat → ClassId) (a0 : Nat) (n0_0 : Int32) (a1 : Nat) (a2 : Nat) (a3 : Nat) (a4 : Nat) (a5 : Nat) (n0_6 : Int32) (n0_7 : Int32) (n0_8 : Int32) (n0_9 : Int32) (n0_10 : Int32) (l0_11 : Int64) (n0_12 : Int32) (n0_13 : Int32) (n0_14 : Int32) (n0_15 : Int32) (a6 : Nat) (a7 : Nat) (a8 : Nat) (a9 : Nat) (a10 : Nat) (a11 : Nat) (a12 : Nat) (a13 : Nat) (n0_24 : Int32) (n0_25 : Int32) (n0_26 : Int32) (n0_27 : Int32) (a14 : Nat) (n0_29 : Int32) (n0_30 : Int32) (f7 : Nat → Int32) (f8 : Nat → Int32) (f9 : Nat → Int32) (f11 : Nat → Int32) (f12 : Nat → Int32) (f13 : Nat → Int32) (p0 : Int32) (p1 : Int32) (hp_n0_6 : rg 0 900 n0_6) (hp_f7 : hsI f7) (hp_f8 : psI f8) (hp_f9 : ar 0 7 f9) (hp_f11 : ar (-1) 7 f11) (hp_f13 : ar (-1) 7 f13) : Met l yX11_ransomed wsX11_ransomed ({ frames := 6, cells := 0, slots := 0, locals := 136 }) (va_Pc [.ref a0, .int p0, .int p1] (wrP G ct [(a0, .inr (11, [.int n0_0, .ref a1, .ref a2, .ref a3, .ref a4, .ref a5, .int n0_6, .int n0_7, .int n0_8, .int n0_9, .int n0_10, .long l0_11, .int n0_12, .int n0_13, .int n0_14, .int n0_15, .ref a6, .ref a7, .ref a8, .ref a9, .ref a10, .ref a11, .ref a12, .ref a13, .int n0_24, .int n0_25, .int n0_26, .int n0_27, .ref a14, .int n0_29, .int n0_30])), (a7, .inl (ct 0, 15, .inl f7)), (a8, .inl (ct 0, 200, .inl f8)), (a9, .inl (ct 0, 1000, .inl f9)), (a11, .inl (ct 0, 8, .inl f11)), (a12, .inl (ct 0, 8, .inl f12)), (a13, .inl (ct 0, 8, .inl f13))])) (va_Qi (fun (r : Int32) (u : SU) => rg (-2) 7 r ∧ (r = 0 → rg 0 7 p0) ∧ (r = (-1) → rg 0 7 p0) ∧ (¬ r = (-2) → rg 0 7 p0) ∧ (r = 0 → rg 0 7 p1) ∧ (r = (-1) → rg 0 7 p1) ∧ (¬ r = (-2) → rg 0 7 p1) ∧ ar (-1) 7 (u.2.1 0) ∧ ar (-1) 7 (u.2.1 2) ∧ rg 0 0 (u.1 0) ∧ True) (fun u t => va_P G vwCl ((fun u : SU => [(a0, .inr (11, [.int (u.1 0), .ref a1, .ref a2, .ref a3, .ref a4, .ref a5, .int n0_6, .int n0_7, .int n0_8, .int n0_9, .int n0_10, .long l0_11, .int n0_12, .int n0_13, .int n0_14, .int n0_15, .ref a6, .ref a7, .ref a8, .ref a9, .ref a10, .ref a11, .ref a12, .ref a13, .int (u.1 1), .int (u.1 2), .int (u.1 3), .int (u.1 4), .ref a14, .int n0_29, .int n0_30])), (a7, .inl (ct 0, 15, .inl f7)), (a8, .inl (ct 0, 200, .inl f8)), (a9, .inl (ct 0, 1000, .inl f9)), (a11, .inl (ct 0, 8, .inl (u.2.1 0))), (a12, .inl (ct 0, 8, .inl (u.2.1 1))), (a13, .inl (ct 0, 8, .inl (u.2.1 2)))]) u) t.heap) (aset [(a0, .inr (11, [.int n0_0, .ref a1, .ref a2, .ref a3, .ref a4, .ref a5, .int n0_6, .int n0_7, .int n0_8, .int n0_9, .int n0_10, .long l0_11, .int n0_12, .int n0_13, .int n0_14, .int n0_15, .ref a6, .ref a7, .ref a8, .ref a9, .ref a10, .ref a11, .ref a12, .ref a13, .int n0_24, .int n0_25, .int n0_26, .int n0_27, .ref a14, .int n0_29, .int n0_30])), (a7, .inl (ct 0, 15, .inl f7)), (a8, .inl (ct 0, 200, .inl f8)), (a9, .inl (ct 0, 1000, .inl f9)), (a11, .inl (ct 0, 8, .inl f11)), (a12, .inl (ct 0, 8, .inl f12)), (a13, .inl (ct 0, 8, .inl f13))])) 0 0 (aset [(a0, .inr (11, [.int n0_0, .ref a1, .ref a2, .ref a3, .ref a4, .ref a5, .int n0_6, .int n0_7, .int n0_8, .int n0_9, .int n0_10, .long l0_11, .int n0_12, .int n0_13, .int n0_14, .int n0_15, .ref a6, .ref a7, .ref a8, .ref a9, .ref a10, .ref a11, .ref a12, .ref a13, .int n0_24, .int n0_25, .int n0_26, .int n0_27, .ref a14, .int n0_29, .int n0_30])), (a7, .inl (ct 0, 15, .inl f7)), (a8, .inl (ct 0, 200, .inl f8)), (a9, .inl (ct 0, 1000, .inl f9)), (a11, .inl (ct 0, 8, .inl f11)), (a12, .inl (ct 0, 8, .inl f12)), (a13, .inl (ct 0, 8, .inl f13))]) := by
  refine Met.ofW (cc := cX11_ransomed) (maxL := 3) (ret := (some .int)) (by decide) rfl ?_
  intro p e s m args below meth c s₁ B hml hv
  obtain ⟨rfl, hP, hK, hD0⟩ := hv
  have hx := B.exec
  have hb := B.bytes
  have hr := B.returns
  have hts := atoms_spec (ws := wsX11_ransomed) B.pre
  have hown : s.vm.findClass RX11 = some m.cls := findClass_of_methodNamed B.named
  have hlocks := B.notSynchronized
  have hD := hD0.aself
  generalize hAe : aset [(a0, .inr (11, [.int n0_0, .ref a1, .ref a2, .ref a3, .ref a4, .ref a5, .int n0_6, .int n0_7, .int n0_8, .int n0_9, .int n0_10, .long l0_11, .int n0_12, .int n0_13, .int n0_14, .int n0_15, .ref a6, .ref a7, .ref a8, .ref a9, .ref a10, .ref a11, .ref a12, .ref a13, .int n0_24, .int n0_25, .int n0_26, .int n0_27, .ref a14, .int n0_29, .int n0_30])), (a7, .inl (ct 0, 15, .inl f7)), (a8, .inl (ct 0, 200, .inl f8)), (a9, .inl (ct 0, 1000, .inl f9)), (a11, .inl (ct 0, 8, .inl f11)), (a12, .inl (ct 0, 8, .inl f12)), (a13, .inl (ct 0, 8, .inl f13))] = A at hD ⊢
  have hS : va_S A s.heap s.heap [] := va_S.rf
  have hl := lv_entry ([.ref a0, .int p0, .int p1]) (n := 3) (Nat.le_of_ble_eq_true rfl)
  rw [lg_entry_eq]
  generalize (lg_sl ([.ref a0, .int p0, .int p1]) ++ List.replicate (3 - (lg_sl ([.ref a0, .int p0, .int p1])).length) Slot.unset).toArray = ls at hl ⊢
  have hl : lv_has ls 3 [(0, .ref a0), (1, .int p0), (2, .int p1)] := hl
  refine lv_aload_n hx hb dX11_ransomed_0 rfl (lv_at hl 0 rfl) ?_
  refine lv_iconst (v := 0) hx hb dX11_ransomed_1 (by decide) ?_
  refine va_put (D := G) (ci := 11) (v := .int 0) (ty := .int) (C := RX11) (T := TX11) (N := 31) hx hb hts (by decide +kernel) tyX11 tyX11_ok nmX11 hown hK.1 hP hD hS 0 rfl rfl 0 (by decide) (hts (.fieldLink RX11 59 "CardHolderModel" "thrown" "I") (by decide +kernel)) (fun _ h9 => h9) rfl (by decide +kernel) rfl rfl (Nat.le_of_ble_eq_true rfl) dX11_ransomed_2 (fun H locs hP hD hS => ?_)
  refine lv_aload_n hx hb dX11_ransomed_5 rfl (lv_at hl 0 rfl) ?_
  refine lv_iload_n hx hb dX11_ransomed_6 rfl (lv_at hl 1 rfl) ?_
  refine lv_iload_n hx hb dX11_ransomed_7 rfl (lv_at hl 2 rfl) ?_
  refine ro_calli (va_runV (As := [.int p0, .int p1]) (rest := []) ⟨hx, hb, hml, hown, hts⟩ (a_X11_arePeople l G ct a0 (0 : Int32) a1 a2 a3 a4 a5 n0_6 n0_7 n0_8 n0_9 n0_10 l0_11 n0_12 n0_13 n0_14 n0_15 a6 a7 a8 a9 a10 a11 a12 a13 n0_24 n0_25 n0_26 n0_27 a14 n0_29 n0_30 f7 p0 p1 hp_n0_6 hp_f7) (cwV 2 hts gX11_ransomed_X11_arePeople rfl rfl rfl (by decide +kernel) ⟨Nat.le_of_ble_eq_true rfl, Nat.le_of_ble_eq_true rfl⟩) (ro_preV 11 0 hK (hP.sub [0, 1] rfl) rfl rfl) rfl rfl hl.1 rfl (lv_room (Nat.le_of_ble_eq_true rfl)) dX11_ransomed_8 ⟨Nat.zero_le _, Nat.zero_le _⟩) hS hP (fun r8 H locs wr8 hP hS => ?_)
  obtain ⟨p_1, p_2, p_3, -⟩ := wr8
  refine lv_if_eq (tgt := 23) hx hb dX11_ransomed_11 (by decide) (fun c11 => ?_) (fun c11 => ?_)
  · have h_4 : rg 0 0 r8 := r_eq_l_i (e := 0) (f := 0) c11 p_1 (rgn 0 (x := 0) (by decide)) (by decide)
    refine lv_bipush (v := (-2)) hx hb dX11_ransomed_23 (by decide) ?_
    exact W.iret (v := (-2)) hx hb hr (fun t ht hW => ⟨⟨(-2), (fun k => ([0, n0_24, n0_25, n0_26, n0_27] : List Int32).getD k 0, fun k => ([f11, f12, f13] : List (Nat → Int32)).getD k (fun _ => 0), fun k => ([] : List (Nat → Int64)).getD k (fun _ => 0)), rfl, ⟨(rg_w (c := (-2)) (d := 7) (rgn (-2) (x := (-2)) (by decide)) (by decide)), (fun hq => absurd hq (rne (rgn (-2) (x := (-2)) (by decide)) (y := 0) (c := 0) (by decide) (by decide))), (fun hq => absurd hq (rne (rgn (-2) (x := (-2)) (by decide)) (y := (-1)) (c := (-1)) (by decide) (by decide))), (fun hq => absurd (req (rgn (-2) (x := (-2)) (by decide)) (y := (-2)) (by decide)) hq), (fun hq => absurd hq (rne (rgn (-2) (x := (-2)) (by decide)) (y := 0) (c := 0) (by decide) (by decide))), (fun hq => absurd hq (rne (rgn (-2) (x := (-2)) (by decide)) (y := (-1)) (c := (-1)) (by decide) (by decide))), (fun hq => absurd (req (rgn (-2) (x := (-2)) (by decide)) (y := (-2)) (by decide)) hq), hp_f11, hp_f13, (rgn 0 (x := 0) (by decide)), trivial⟩, hp_at ht hP⟩, hS.F ht⟩) hS.2.2 dX11_ransomed_25
  · have h_5 : rg 1 1 r8 := r_ne_lo_i c11 p_1 (by decide) (by decide)
    have h_6 : rg 0 7 p0 := (p_2 (rne h_5 (y := 0) (c := 0) (by decide) (by decide)))
    have h_7 : rg 0 7 p1 := (p_3 (rne h_5 (y := 0) (c := 0) (by decide) (by decide)))
    refine lv_aload_n hx hb dX11_ransomed_14 rfl (lv_at hl 0 rfl) ?_
    refine lv_iload_n hx hb dX11_ransomed_15 rfl (lv_at hl 1 rfl) ?_
    refine lv_iload_n hx hb dX11_ransomed_16 rfl (lv_at hl 2 rfl) ?_
    refine wj_calli (wr := []) (w1 := (fun u : SU => [(a0, .inr (11, [.int 0, .ref a1, .ref a2, .ref a3, .ref a4, .ref a5, .int n0_6, .int n0_7, .int n0_8, .int n0_9, .int n0_10, .long l0_11, .int n0_12, .int n0_13, .int n0_14, .int n0_15, .ref a6, .ref a7, .ref a8, .ref a9, .ref a10, .ref a11, .ref a12, .ref a13, .int (u.1 0), .int (u.1 1), .int (u.1 2), .int (u.1 3), .ref a14, .int n0_29, .int n0_30])), (a7, .inl (ct 0, 15, .inl f7)), (a8, .inl (ct 0, 200, .inl f8)), (a9, .inl (ct 0, 1000, .inl f9)), (a11, .inl (ct 0, 8, .inl (u.2.1 0))), (a12, .inl (ct 0, 8, .inl (u.2.1 1))), (a13, .inl (ct 0, 8, .inl (u.2.1 2)))])) (va_runV (As := [.int p0, .int p1]) (rest := []) ⟨hx, hb, hml, hown, hts⟩ (a_X11_ransomOf l G ct a0 (0 : Int32) a1 a2 a3 a4 a5 n0_6 n0_7 n0_8 n0_9 n0_10 l0_11 n0_12 n0_13 n0_14 n0_15 a6 a7 a8 a9 a10 a11 a12 a13 n0_24 n0_25 n0_26 n0_27 a14 n0_29 n0_30 f7 f8 f9 f11 f12 f13 p0 p1 hp_n0_6 hp_f7 hp_f8 hp_f9 hp_f11 hp_f13 h_6 h_7) (cwV 2 hts gX11_ransomed_X11_ransomOf rfl rfl rfl (by decide +kernel) ⟨Nat.le_of_ble_eq_true rfl, Nat.le_of_ble_eq_true rfl⟩) (wr_preV 11 0 hK (hP.sub [0, 1, 2, 3, 4, 5, 6] rfl) (hD.sub [0, 1, 2, 3, 4, 5, 6] (by decide) rfl) rfl rfl) rfl rfl hl.1 rfl (lv_room (Nat.le_of_ble_eq_true rfl)) dX11_ransomed_17 ⟨Nat.zero_le _, Nat.zero_le _⟩) hS hP hD [0, 1, 2, 3, 4, 5, 6] [] rfl rfl (by decide) (fun _ => rfl) (fun r17 ur17 H locs wr17 hP hD hS => ?_)
    have hP : va_P G vwCl [(a0, .inr (11, [.int 0, .ref a1, .ref a2, .ref a3, .ref a4, .ref a5, .int n0_6, .int n0_7, .int n0_8, .int n0_9, .int n0_10, .long l0_11, .int n0_12, .int n0_13, .int n0_14, .int n0_15, .ref a6, .ref a7, .ref a8, .ref a9, .ref a10, .ref a11, .ref a12, .ref a13, .int (ur17.1 0), .int (ur17.1 1), .int (ur17.1 2), .int (ur17.1 3), .ref a14, .int n0_29, .int n0_30])), (a7, .inl (ct 0, 15, .inl f7)), (a8, .inl (ct 0, 200, .inl f8)), (a9, .inl (ct 0, 1000, .inl f9)), (a11, .inl (ct 0, 8, .inl (ur17.2.1 0))), (a12, .inl (ct 0, 8, .inl (ur17.2.1 1))), (a13, .inl (ct 0, 8, .inl (ur17.2.1 2)))] H := hP.sub [0, 1, 2, 3, 4, 5, 6] rfl
    have hD : va_D A [(a0, .inr (11, [.int 0, .ref a1, .ref a2, .ref a3, .ref a4, .ref a5, .int n0_6, .int n0_7, .int n0_8, .int n0_9, .int n0_10, .long l0_11, .int n0_12, .int n0_13, .int n0_14, .int n0_15, .ref a6, .ref a7, .ref a8, .ref a9, .ref a10, .ref a11, .ref a12, .ref a13, .int (ur17.1 0), .int (ur17.1 1), .int (ur17.1 2), .int (ur17.1 3), .ref a14, .int n0_29, .int n0_30])), (a7, .inl (ct 0, 15, .inl f7)), (a8, .inl (ct 0, 200, .inl f8)), (a9, .inl (ct 0, 1000, .inl f9)), (a11, .inl (ct 0, 8, .inl (ur17.2.1 0))), (a12, .inl (ct 0, 8, .inl (ur17.2.1 1))), (a13, .inl (ct 0, 8, .inl (ur17.2.1 2)))] := hD.sub [0, 1, 2, 3, 4, 5, 6] (by decide) rfl
    obtain ⟨p_8, p_9, p_10, -⟩ := wr17
    refine lv_goto (tgt := 25) hx hb dX11_ransomed_20 (by decide) ?_
    exact W.iret (v := r17) hx hb hr (fun t ht hW => ⟨⟨r17, (fun k => ([0, ur17.1 0, ur17.1 1, ur17.1 2, ur17.1 3] : List Int32).getD k 0, fun k => ([ur17.2.1 0, ur17.2.1 1, ur17.2.1 2] : List (Nat → Int32)).getD k (fun _ => 0), fun k => ([] : List (Nat → Int64)).getD k (fun _ => 0)), rfl, ⟨(rg_w (c := (-2)) (d := 7) p_8 (by decide)), (fun _ => h_6), (fun _ => h_6), (fun _ => h_6), (fun _ => h_7), (fun _ => h_7), (fun _ => h_7), p_9, p_10, (rgn 0 (x := 0) (by decide)), trivial⟩, hp_at ht hP⟩, hS.F ht⟩) hS.2.2 dX11_ransomed_25

set_option maxHeartbeats 4000000 in
set_option maxRecDepth 100000 in
theorem a_X11_powerOf (l : Launch) (G : va_G) (ct : Nat → ClassId) (a0 : Nat) (n0_0 : Int32) (a1 : Nat) (a2 : Nat) (a3 : Nat) (a4 : Nat) (a5 : Nat) (n0_6 : Int32) (n0_7 : Int32) (n0_8 : Int32) (n0_9 : Int32) (n0_10 : Int32) (l0_11 : Int64) (n0_12 : Int32) (n0_13 : Int32) (n0_14 : Int32) (n0_15 : Int32) (a6 : Nat) (a7 : Nat) (a8 : Nat) (a9 : Nat) (a10 : Nat) (a11 : Nat) (a12 : Nat) (a13 : Nat) (n0_24 : Int32) (n0_25 : Int32) (n0_26 : Int32) (n0_27 : Int32) (a14 : Nat) (n0_29 : Int32) (n0_30 : Int32) (f7 : Nat → Int32) (f8 : Nat → Int32) (f11 : Nat → Int32) (p0 : Int32) (hp_n0_6 : rg 0 900 n0_6) (hp_f7 : hsI f7) (hp_f8 : psI f8) (hp_f11 : ar (-1) 7 f11) : Met l yX11_powerOf wsX11_powerOf ({ frames := 2, cells := 0, slots := 0, locals := 45 }) (va_Pc [.ref a0, .int p0] (roP G ct [(a0, .inr (11, [.int n0_0, .ref a1, .ref a2, .ref a3, .ref a4, .ref a5, .int n0_6, .int n0_7, .int n0_8, .int n0_9, .int n0_10, .long l0_11, .int n0_12, .int n0_13, .int n0_14, .int n0_15, .ref a6, .ref a7, .ref a8, .ref a9, .ref a10, .ref a11, .ref a12, .ref a13, .int n0_24, .int n0_25, .int n0_26, .int n0_27, .ref a14, .int n0_29, .int n0_30])), (a7, .inl (ct 0, 15, .inl f7)), (a8, .inl (ct 0, 200, .inl f8)), (a11, .inl (ct 0, 8, .inl f11))])) (roQ (fun r => True)) 0 0 no := by
  refine Met.ofW (cc := cX11_powerOf) (maxL := 2) (ret := (some .int)) (by decide) rfl ?_
  intro p e s m args below meth c s₁ B hml hv
  obtain ⟨rfl, hP, hK⟩ := hv
  have hx := B.exec
  have hb := B.bytes
  have hr := B.returns
  have hts := atoms_spec (ws := wsX11_powerOf) B.pre
  have hown : s.vm.findClass RX11 = some m.cls := findClass_of_methodNamed B.named
  have hlocks := B.notSynchronized
  have hS : va_S no s.heap s.heap [] := va_S.rf
  have hl := lv_entry ([.ref a0, .int p0]) (n := 2) (Nat.le_of_ble_eq_true rfl)
  rw [lg_entry_eq]
  generalize (lg_sl ([.ref a0, .int p0]) ++ List.replicate (2 - (lg_sl ([.ref a0, .int p0])).length) Slot.unset).toArray = ls at hl ⊢
  have hl : lv_has ls 2 [(0, .ref a0), (1, .int p0)] := hl
  refine lv_aload_n hx hb dX11_powerOf_0 rfl (lv_at hl 0 rfl) ?_
  refine lv_aload_n hx hb dX11_powerOf_1 rfl (lv_at hl 0 rfl) ?_
  refine lv_iload_n hx hb dX11_powerOf_2 rfl (lv_at hl 1 rfl) ?_
  refine ro_calli (va_runV (As := [.int p0]) (rest := [.ref a0]) ⟨hx, hb, hml, hown, hts⟩ (a_X11_underOf l G ct a0 n0_0 a1 a2 a3 a4 a5 n0_6 n0_7 n0_8 n0_9 n0_10 l0_11 n0_12 n0_13 n0_14 n0_15 a6 a7 a8 a9 a10 a11 a12 a13 n0_24 n0_25 n0_26 n0_27 a14 n0_29 n0_30 f7 f11 p0 hp_n0_6 hp_f7 hp_f11) (cwV 1 hts gX11_powerOf_X11_underOf rfl rfl rfl (by decide +kernel) ⟨Nat.le_of_ble_eq_true rfl, Nat.le_of_ble_eq_true rfl⟩) (ro_preV 11 0 hK (hP.sub [0, 1, 3] rfl) rfl rfl) rfl rfl hl.1 rfl (lv_room (Nat.le_of_ble_eq_true rfl)) dX11_powerOf_3 ⟨Nat.zero_le _, Nat.zero_le _⟩) hS hP (fun r3 H locs wr3 hP hS => ?_)
  obtain ⟨p_1, -⟩ := wr3
  refine ro_calli (va_runV (As := [.int r3]) (rest := []) ⟨hx, hb, hml, hown, hts⟩ (a_X11_doneBy l G ct a0 n0_0 a1 a2 a3 a4 a5 n0_6 n0_7 n0_8 n0_9 n0_10 l0_11 n0_12 n0_13 n0_14 n0_15 a6 a7 a8 a9 a10 a11 a12 a13 n0_24 n0_25 n0_26 n0_27 a14 n0_29 n0_30 f7 f8 r3 hp_n0_6 hp_f7 hp_f8) (cwV 1 hts gX11_powerOf_X11_doneBy rfl rfl rfl (by decide +kernel) ⟨Nat.le_of_ble_eq_true rfl, Nat.le_of_ble_eq_true rfl⟩) (ro_preV 11 0 hK (hP.sub [0, 1, 2] rfl) rfl rfl) rfl rfl hl.1 rfl (lv_room (Nat.le_of_ble_eq_true rfl)) dX11_powerOf_6 ⟨Nat.zero_le _, Nat.zero_le _⟩) hS hP (fun r6 H locs wr6 hP hS => ?_)
  refine ro_calli (va_runS (As := [.int r6]) (rest := []) ⟨hx, hb, hml, hown, hts⟩ (a_X11_sizeOf l G ct r6) (va_cwS 1 hts gX11_powerOf_X11_sizeOf rfl rfl rfl (by decide +kernel) ⟨Nat.le_of_ble_eq_true rfl, Nat.le_of_ble_eq_true rfl⟩) (ro_pre hK (hP.sub [] rfl)) rfl rfl hl.1 rfl (lv_room (Nat.le_of_ble_eq_true rfl)) dX11_powerOf_9 ⟨Nat.zero_le _, Nat.zero_le _⟩) hS hP (fun r9 H locs wr9 hP hS => ?_)
  exact W.iret (v := r9) hx hb hr (fun t ht hW => ⟨⟨r9, (), rfl, trivial, trivial⟩, hS.F ht⟩) hS.2.2 dX11_powerOf_12

set_option maxHeartbeats 4000000 in
set_option maxRecDepth 100000 in
theorem a_X11_power (l : Launch) (G : va_G) (ct : Nat → ClassId) (a0 : Nat) (n0_0 : Int32) (a1 : Nat) (a2 : Nat) (a3 : Nat) (a4 : Nat) (a5 : Nat) (n0_6 : Int32) (n0_7 : Int32) (n0_8 : Int32) (n0_9 : Int32) (n0_10 : Int32) (l0_11 : Int64) (n0_12 : Int32) (n0_13 : Int32) (n0_14 : Int32) (n0_15 : Int32) (a6 : Nat) (a7 : Nat) (a8 : Nat) (a9 : Nat) (a10 : Nat) (a11 : Nat) (a12 : Nat) (a13 : Nat) (n0_24 : Int32) (n0_25 : Int32) (n0_26 : Int32) (n0_27 : Int32) (a14 : Nat) (n0_29 : Int32) (n0_30 : Int32) (f7 : Nat → Int32) (f8 : Nat → Int32) (f9 : Nat → Int32) (f11 : Nat → Int32) (f12 : Nat → Int32) (f13 : Nat → Int32) (p0 : Int32) (hp_n0_6 : rg 0 900 n0_6) (hp_f7 : hsI f7) (hp_f8 : psI f8) (hp_f9 : ar 0 7 f9) (hp_f11 : ar (-1) 7 f11) (hp_f13 : ar (-1) 7 f13) : Met l yX11_power wsX11_power ({ frames := 5, cells := 0, slots := 0, locals := 111 }) (va_Pc [.ref a0, .int p0] (wrP G ct [(a0, .inr (11, [.int n0_0, .ref a1, .ref a2, .ref a3, .ref a4, .ref a5, .int n0_6, .int n0_7, .int n0_8, .int n0_9, .int n0_10, .long l0_11, .int n0_12, .int n0_13, .int n0_14, .int n0_15, .ref a6, .ref a7, .ref a8, .ref a9, .ref a10, .ref a11, .ref a12, .ref a13, .int n0_24, .int n0_25, .int n0_26, .int n0_27, .ref a14, .int n0_29, .int n0_30])), (a7, .inl (ct 0, 15, .inl f7)), (a8, .inl (ct 0, 200, .inl f8)), (a9, .inl (ct 0, 1000, .inl f9)), (a11, .inl (ct 0, 8, .inl f11)), (a12, .inl (ct 0, 8, .inl f12)), (a13, .inl (ct 0, 8, .inl f13))])) (va_Qi (fun (r : Int32) (u : SU) => (r = 0 → rg 0 7 p0) ∧ (r = (-1) → rg 0 7 p0) ∧ (¬ r = (-2) → rg 0 7 p0) ∧ ar (-1) 7 (u.2.1 0) ∧ ar (-1) 7 (u.2.1 2) ∧ rg 0 0 (u.1 0) ∧ True) (fun u t => va_P G vwCl ((fun u : SU => [(a0, .inr (11, [.int (u.1 0), .ref a1, .ref a2, .ref a3, .ref a4, .ref a5, .int n0_6, .int n0_7, .int n0_8, .int n0_9, .int n0_10, .long l0_11, .int n0_12, .int n0_13, .int n0_14, .int n0_15, .ref a6, .ref a7, .ref a8, .ref a9, .ref a10, .ref a11, .ref a12, .ref a13, .int (u.1 1), .int (u.1 2), .int (u.1 3), .int (u.1 4), .ref a14, .int n0_29, .int n0_30])), (a7, .inl (ct 0, 15, .inl f7)), (a8, .inl (ct 0, 200, .inl f8)), (a9, .inl (ct 0, 1000, .inl f9)), (a11, .inl (ct 0, 8, .inl (u.2.1 0))), (a12, .inl (ct 0, 8, .inl (u.2.1 1))), (a13, .inl (ct 0, 8, .inl (u.2.1 2)))]) u) t.heap) (aset [(a0, .inr (11, [.int n0_0, .ref a1, .ref a2, .ref a3, .ref a4, .ref a5, .int n0_6, .int n0_7, .int n0_8, .int n0_9, .int n0_10, .long l0_11, .int n0_12, .int n0_13, .int n0_14, .int n0_15, .ref a6, .ref a7, .ref a8, .ref a9, .ref a10, .ref a11, .ref a12, .ref a13, .int n0_24, .int n0_25, .int n0_26, .int n0_27, .ref a14, .int n0_29, .int n0_30])), (a7, .inl (ct 0, 15, .inl f7)), (a8, .inl (ct 0, 200, .inl f8)), (a9, .inl (ct 0, 1000, .inl f9)), (a11, .inl (ct 0, 8, .inl f11)), (a12, .inl (ct 0, 8, .inl f12)), (a13, .inl (ct 0, 8, .inl f13))])) 0 0 (aset [(a0, .inr (11, [.int n0_0, .ref a1, .ref a2, .ref a3, .ref a4, .ref a5, .int n0_6, .int n0_7, .int n0_8, .int n0_9, .int n0_10, .long l0_11, .int n0_12, .int n0_13, .int n0_14, .int n0_15, .ref a6, .ref a7, .ref a8, .ref a9, .ref a10, .ref a11, .ref a12, .ref a13, .int n0_24, .int n0_25, .int n0_26, .int n0_27, .ref a14, .int n0_29, .int n0_30])), (a7, .inl (ct 0, 15, .inl f7)), (a8, .inl (ct 0, 200, .inl f8)), (a9, .inl (ct 0, 1000, .inl f9)), (a11, .inl (ct 0, 8, .inl f11)), (a12, .inl (ct 0, 8, .inl f12)), (a13, .inl (ct 0, 8, .inl f13))]) := by
  refine Met.ofW (cc := cX11_power) (maxL := 2) (ret := (some .int)) (by decide) rfl ?_
  intro p e s m args below meth c s₁ B hml hv
  obtain ⟨rfl, hP, hK, hD0⟩ := hv
  have hx := B.exec
  have hb := B.bytes
  have hr := B.returns
  have hts := atoms_spec (ws := wsX11_power) B.pre
  have hown : s.vm.findClass RX11 = some m.cls := findClass_of_methodNamed B.named
  have hlocks := B.notSynchronized
  have hD := hD0.aself
  generalize hAe : aset [(a0, .inr (11, [.int n0_0, .ref a1, .ref a2, .ref a3, .ref a4, .ref a5, .int n0_6, .int n0_7, .int n0_8, .int n0_9, .int n0_10, .long l0_11, .int n0_12, .int n0_13, .int n0_14, .int n0_15, .ref a6, .ref a7, .ref a8, .ref a9, .ref a10, .ref a11, .ref a12, .ref a13, .int n0_24, .int n0_25, .int n0_26, .int n0_27, .ref a14, .int n0_29, .int n0_30])), (a7, .inl (ct 0, 15, .inl f7)), (a8, .inl (ct 0, 200, .inl f8)), (a9, .inl (ct 0, 1000, .inl f9)), (a11, .inl (ct 0, 8, .inl f11)), (a12, .inl (ct 0, 8, .inl f12)), (a13, .inl (ct 0, 8, .inl f13))] = A at hD ⊢
  have hS : va_S A s.heap s.heap [] := va_S.rf
  have hl := lv_entry ([.ref a0, .int p0]) (n := 2) (Nat.le_of_ble_eq_true rfl)
  rw [lg_entry_eq]
  generalize (lg_sl ([.ref a0, .int p0]) ++ List.replicate (2 - (lg_sl ([.ref a0, .int p0])).length) Slot.unset).toArray = ls at hl ⊢
  have hl : lv_has ls 2 [(0, .ref a0), (1, .int p0)] := hl
  refine lv_aload_n hx hb dX11_power_0 rfl (lv_at hl 0 rfl) ?_
  refine lv_iconst (v := 0) hx hb dX11_power_1 (by decide) ?_
  refine va_put (D := G) (ci := 11) (v := .int 0) (ty := .int) (C := RX11) (T := TX11) (N := 31) hx hb hts (by decide +kernel) tyX11 tyX11_ok nmX11 hown hK.1 hP hD hS 0 rfl rfl 0 (by decide) (hts (.fieldLink RX11 59 "CardHolderModel" "thrown" "I") (by decide +kernel)) (fun _ h9 => h9) rfl (by decide +kernel) rfl rfl (Nat.le_of_ble_eq_true rfl) dX11_power_2 (fun H locs hP hD hS => ?_)
  refine lv_aload_n hx hb dX11_power_5 rfl (lv_at hl 0 rfl) ?_
  refine lv_iload_n hx hb dX11_power_6 rfl (lv_at hl 1 rfl) ?_
  refine lv_i2l hx hb dX11_power_7 rfl ?_
  refine nl_i2l (rg_t p0) (fun z7 hz7 ez7 => ?_)
  refine ro_calli (va_runV (As := [.long z7]) (rest := []) ⟨hx, hb, hml, hown, hts⟩ (a_X11_isPerson l G ct a0 (0 : Int32) a1 a2 a3 a4 a5 n0_6 n0_7 n0_8 n0_9 n0_10 l0_11 n0_12 n0_13 n0_14 n0_15 a6 a7 a8 a9 a10 a11 a12 a13 n0_24 n0_25 n0_26 n0_27 a14 n0_29 n0_30 f7 z7 hp_n0_6 hp_f7) (cwV 1 hts gX11_power_X11_isPerson rfl rfl rfl (by decide +kernel) ⟨Nat.le_of_ble_eq_true rfl, Nat.le_of_ble_eq_true rfl⟩) (ro_preV 11 0 hK (hP.sub [0, 1] rfl) rfl rfl) rfl rfl hl.1 rfl (lv_room (Nat.le_of_ble_eq_true rfl)) dX11_power_8 ⟨Nat.zero_le _, Nat.zero_le _⟩) hS hP (fun r8 H locs wr8 hP hS => ?_)
  obtain ⟨p_1, p_2, -⟩ := wr8
  refine lv_if_ne (tgt := 17) hx hb dX11_power_11 (by decide) (fun c11 => ?_) (fun c11 => ?_)
  · have h_3 : rg 1 1 r8 := r_ne_lo_i c11 p_1 (by decide) (by decide)
    have h_4 : rl 0 7 z7 := (p_2 (rne h_3 (y := 0) (c := 0) (by decide) (by decide)))
    have h_5 : rg 0 7 p0 := bk_li (a := 0) (b := 7) ez7 h_4 (rg_t p0) (by decide)
    refine lv_aload_n hx hb dX11_power_17 rfl (lv_at hl 0 rfl) ?_
    refine wj_callv (wr := []) (w1 := (fun u : SU => [(a0, .inr (11, [.int 0, .ref a1, .ref a2, .ref a3, .ref a4, .ref a5, .int n0_6, .int n0_7, .int n0_8, .int n0_9, .int n0_10, .long l0_11, .int n0_12, .int n0_13, .int n0_14, .int n0_15, .ref a6, .ref a7, .ref a8, .ref a9, .ref a10, .ref a11, .ref a12, .ref a13, .int (u.1 0), .int (u.1 1), .int (u.1 2), .int (u.1 3), .ref a14, .int n0_29, .int n0_30])), (a7, .inl (ct 0, 15, .inl f7)), (a8, .inl (ct 0, 200, .inl f8)), (a9, .inl (ct 0, 1000, .inl f9)), (a11, .inl (ct 0, 8, .inl (u.2.1 0))), (a12, .inl (ct 0, 8, .inl (u.2.1 1))), (a13, .inl (ct 0, 8, .inl (u.2.1 2)))])) (va_runV (As := []) (rest := []) ⟨hx, hb, hml, hown, hts⟩ (a_X11_laysNow l G ct a0 (0 : Int32) a1 a2 a3 a4 a5 n0_6 n0_7 n0_8 n0_9 n0_10 l0_11 n0_12 n0_13 n0_14 n0_15 a6 a7 a8 a9 a10 a11 a12 a13 n0_24 n0_25 n0_26 n0_27 a14 n0_29 n0_30 f7 f8 f9 f11 f12 f13 hp_n0_6 hp_f7 hp_f8 hp_f9 hp_f11 hp_f13) (cwV 0 hts gX11_power_X11_laysNow rfl rfl rfl (by decide +kernel) ⟨Nat.le_of_ble_eq_true rfl, Nat.le_of_ble_eq_true rfl⟩) (wr_preV 11 0 hK (hP.sub [0, 1, 2, 3, 4, 5, 6] rfl) (hD.sub [0, 1, 2, 3, 4, 5, 6] (by decide) rfl) rfl rfl) rfl rfl hl.1 rfl (lv_room (Nat.le_of_ble_eq_true rfl)) dX11_power_18 ⟨Nat.zero_le _, Nat.zero_le _⟩) hS hP hD [0, 1, 2, 3, 4, 5, 6] [] rfl rfl (by decide) (fun _ => rfl) (fun ur18 H locs wr18 hP hD hS => ?_)
    have hP : va_P G vwCl [(a0, .inr (11, [.int 0, .ref a1, .ref a2, .ref a3, .ref a4, .ref a5, .int n0_6, .int n0_7, .int n0_8, .int n0_9, .int n0_10, .long l0_11, .int n0_12, .int n0_13, .int n0_14, .int n0_15, .ref a6, .ref a7, .ref a8, .ref a9, .ref a10, .ref a11, .ref a12, .ref a13, .int (ur18.1 0), .int (ur18.1 1), .int (ur18.1 2), .int (ur18.1 3), .ref a14, .int n0_29, .int n0_30])), (a7, .inl (ct 0, 15, .inl f7)), (a8, .inl (ct 0, 200, .inl f8)), (a9, .inl (ct 0, 1000, .inl f9)), (a11, .inl (ct 0, 8, .inl (ur18.2.1 0))), (a12, .inl (ct 0, 8, .inl (ur18.2.1 1))), (a13, .inl (ct 0, 8, .inl (ur18.2.1 2)))] H := hP.sub [0, 1, 2, 3, 4, 5, 6] rfl
    have hD : va_D A [(a0, .inr (11, [.int 0, .ref a1, .ref a2, .ref a3, .ref a4, .ref a5, .int n0_6, .int n0_7, .int n0_8, .int n0_9, .int n0_10, .long l0_11, .int n0_12, .int n0_13, .int n0_14, .int n0_15, .ref a6, .ref a7, .ref a8, .ref a9, .ref a10, .ref a11, .ref a12, .ref a13, .int (ur18.1 0), .int (ur18.1 1), .int (ur18.1 2), .int (ur18.1 3), .ref a14, .int n0_29, .int n0_30])), (a7, .inl (ct 0, 15, .inl f7)), (a8, .inl (ct 0, 200, .inl f8)), (a9, .inl (ct 0, 1000, .inl f9)), (a11, .inl (ct 0, 8, .inl (ur18.2.1 0))), (a12, .inl (ct 0, 8, .inl (ur18.2.1 1))), (a13, .inl (ct 0, 8, .inl (ur18.2.1 2)))] := hD.sub [0, 1, 2, 3, 4, 5, 6] (by decide) rfl
    obtain ⟨p_6, p_7, -⟩ := wr18
    refine lv_aload_n hx hb dX11_power_21 rfl (lv_at hl 0 rfl) ?_
    refine lv_iload_n hx hb dX11_power_22 rfl (lv_at hl 1 rfl) ?_
    refine ro_calli (va_runV (As := [.int p0]) (rest := []) ⟨hx, hb, hml, hown, hts⟩ (a_X11_powerOf l G ct a0 (0 : Int32) a1 a2 a3 a4 a5 n0_6 n0_7 n0_8 n0_9 n0_10 l0_11 n0_12 n0_13 n0_14 n0_15 a6 a7 a8 a9 a10 a11 a12 a13 (ur18.1 0) (ur18.1 1) (ur18.1 2) (ur18.1 3) a14 n0_29 n0_30 f7 f8 (ur18.2.1 0) p0 hp_n0_6 hp_f7 hp_f8 p_6) (cwV 1 hts gX11_power_X11_powerOf rfl rfl rfl (by decide +kernel) ⟨Nat.le_of_ble_eq_true rfl, Nat.le_of_ble_eq_true rfl⟩) (ro_preV 11 0 hK (hP.sub [0, 1, 2, 4] rfl) rfl rfl) rfl rfl hl.1 rfl (lv_room (Nat.le_of_ble_eq_true rfl)) dX11_power_23 ⟨Nat.zero_le _, Nat.zero_le _⟩) hS hP (fun r23 H locs wr23 hP hS => ?_)
    exact W.iret (v := r23) hx hb hr (fun t ht hW => ⟨⟨r23, (fun k => ([0, ur18.1 0, ur18.1 1, ur18.1 2, ur18.1 3] : List Int32).getD k 0, fun k => ([ur18.2.1 0, ur18.2.1 1, ur18.2.1 2] : List (Nat → Int32)).getD k (fun _ => 0), fun k => ([] : List (Nat → Int64)).getD k (fun _ => 0)), rfl, ⟨(fun _ => h_5), (fun _ => h_5), (fun _ => h_5), p_6, p_7, (rgn 0 (x := 0) (by decide)), trivial⟩, hp_at ht hP⟩, hS.F ht⟩) hS.2.2 dX11_power_26
  · have h_8 : rg 0 0 r8 := r_eq_l_i (e := 0) (f := 0) c11 p_1 (rgn 0 (x := 0) (by decide)) (by decide)
    refine lv_bipush (v := (-2)) hx hb dX11_power_14 (by decide) ?_
    exact W.iret (v := (-2)) hx hb hr (fun t ht hW => ⟨⟨(-2), (fun k => ([0, n0_24, n0_25, n0_26, n0_27] : List Int32).getD k 0, fun k => ([f11, f12, f13] : List (Nat → Int32)).getD k (fun _ => 0), fun k => ([] : List (Nat → Int64)).getD k (fun _ => 0)), rfl, ⟨(fun hq => absurd hq (rne (rgn (-2) (x := (-2)) (by decide)) (y := 0) (c := 0) (by decide) (by decide))), (fun hq => absurd hq (rne (rgn (-2) (x := (-2)) (by decide)) (y := (-1)) (c := (-1)) (by decide) (by decide))), (fun hq => absurd (req (rgn (-2) (x := (-2)) (by decide)) (y := (-2)) (by decide)) hq), hp_f11, hp_f13, (rgn 0 (x := 0) (by decide)), trivial⟩, hp_at ht hP⟩, hS.F ht⟩) hS.2.2 dX11_power_16

set_option maxHeartbeats 4000000 in
set_option maxRecDepth 100000 in
theorem a_X11_mighty (l : Launch) (G : va_G) (ct : Nat → ClassId) (a0 : Nat) (n0_0 : Int32) (a1 : Nat) (a2 : Nat) (a3 : Nat) (a4 : Nat) (a5 : Nat) (n0_6 : Int32) (n0_7 : Int32) (n0_8 : Int32) (n0_9 : Int32) (n0_10 : Int32) (l0_11 : Int64) (n0_12 : Int32) (n0_13 : Int32) (n0_14 : Int32) (n0_15 : Int32) (a6 : Nat) (a7 : Nat) (a8 : Nat) (a9 : Nat) (a10 : Nat) (a11 : Nat) (a12 : Nat) (a13 : Nat) (n0_24 : Int32) (n0_25 : Int32) (n0_26 : Int32) (n0_27 : Int32) (a14 : Nat) (n0_29 : Int32) (n0_30 : Int32) (f6 : Nat → Int32) (f7 : Nat → Int32) (f8 : Nat → Int32) (f9 : Nat → Int32) (f11 : Nat → Int32) (f12 : Nat → Int32) (f13 : Nat → Int32) (hp_n0_6 : rg 0 900 n0_6) (hp_f7 : hsI f7) (hp_f8 : psI f8) (hp_f9 : ar 0 7 f9) (hp_f11 : ar (-1) 7 f11) (hp_f13 : ar (-1) 7 f13) : Met l yX11_mighty wsX11_mighty ({ frames := 5, cells := 0, slots := 0, locals := 111 }) (va_Pc [.ref a0] (wrP G ct [(a0, .inr (11, [.int n0_0, .ref a1, .ref a2, .ref a3, .ref a4, .ref a5, .int n0_6, .int n0_7, .int n0_8, .int n0_9, .int n0_10, .long l0_11, .int n0_12, .int n0_13, .int n0_14, .int n0_15, .ref a6, .ref a7, .ref a8, .ref a9, .ref a10, .ref a11, .ref a12, .ref a13, .int n0_24, .int n0_25, .int n0_26, .int n0_27, .ref a14, .int n0_29, .int n0_30])), (a6, .inl (ct 0, 5, .inl f6)), (a7, .inl (ct 0, 15, .inl f7)), (a8, .inl (ct 0, 200, .inl f8)), (a9, .inl (ct 0, 1000, .inl f9)), (a11, .inl (ct 0, 8, .inl f11)), (a12, .inl (ct 0, 8, .inl f12)), (a13, .inl (ct 0, 8, .inl f13))])) (va_Qi (fun (r : Int32) (u : SU) => rg (-2) 7 r ∧ ar (-1) 7 (u.2.1 0) ∧ ar (-1) 7 (u.2.1 2) ∧ rg 0 0 (u.1 0) ∧ True) (fun u t => va_P G vwCl ((fun u : SU => [(a0, .inr (11, [.int (u.1 0), .ref a1, .ref a2, .ref a3, .ref a4, .ref a5, .int n0_6, .int n0_7, .int n0_8, .int n0_9, .int n0_10, .long l0_11, .int n0_12, .int n0_13, .int n0_14, .int n0_15, .ref a6, .ref a7, .ref a8, .ref a9, .ref a10, .ref a11, .ref a12, .ref a13, .int (u.1 1), .int (u.1 2), .int (u.1 3), .int (u.1 4), .ref a14, .int n0_29, .int n0_30])), (a6, .inl (ct 0, 5, .inl f6)), (a7, .inl (ct 0, 15, .inl f7)), (a8, .inl (ct 0, 200, .inl f8)), (a9, .inl (ct 0, 1000, .inl f9)), (a11, .inl (ct 0, 8, .inl (u.2.1 0))), (a12, .inl (ct 0, 8, .inl (u.2.1 1))), (a13, .inl (ct 0, 8, .inl (u.2.1 2)))]) u) t.heap) (aset [(a0, .inr (11, [.int n0_0, .ref a1, .ref a2, .ref a3, .ref a4, .ref a5, .int n0_6, .int n0_7, .int n0_8, .int n0_9, .int n0_10, .long l0_11, .int n0_12, .int n0_13, .int n0_14, .int n0_15, .ref a6, .ref a7, .ref a8, .ref a9, .ref a10, .ref a11, .ref a12, .ref a13, .int n0_24, .int n0_25, .int n0_26, .int n0_27, .ref a14, .int n0_29, .int n0_30])), (a6, .inl (ct 0, 5, .inl f6)), (a7, .inl (ct 0, 15, .inl f7)), (a8, .inl (ct 0, 200, .inl f8)), (a9, .inl (ct 0, 1000, .inl f9)), (a11, .inl (ct 0, 8, .inl f11)), (a12, .inl (ct 0, 8, .inl f12)), (a13, .inl (ct 0, 8, .inl f13))])) 0 0 (aset [(a0, .inr (11, [.int n0_0, .ref a1, .ref a2, .ref a3, .ref a4, .ref a5, .int n0_6, .int n0_7, .int n0_8, .int n0_9, .int n0_10, .long l0_11, .int n0_12, .int n0_13, .int n0_14, .int n0_15, .ref a6, .ref a7, .ref a8, .ref a9, .ref a10, .ref a11, .ref a12, .ref a13, .int n0_24, .int n0_25, .int n0_26, .int n0_27, .ref a14, .int n0_29, .int n0_30])), (a6, .inl (ct 0, 5, .inl f6)), (a7, .inl (ct 0, 15, .inl f7)), (a8, .inl (ct 0, 200, .inl f8)), (a9, .inl (ct 0, 1000, .inl f9)), (a11, .inl (ct 0, 8, .inl f11)), (a12, .inl (ct 0, 8, .inl f12)), (a13, .inl (ct 0, 8, .inl f13))]) := by
  refine Met.ofW (cc := cX11_mighty) (maxL := 3) (ret := (some .int)) (by decide) rfl ?_
  intro p e s m args below meth c s₁ B hml hv
  obtain ⟨rfl, hP, hK, hD0⟩ := hv
  have hx := B.exec
  have hb := B.bytes
  have hr := B.returns
  have hts := atoms_spec (ws := wsX11_mighty) B.pre
  have hown : s.vm.findClass RX11 = some m.cls := findClass_of_methodNamed B.named
  have hlocks := B.notSynchronized
  have hD := hD0.aself
  generalize hAe : aset [(a0, .inr (11, [.int n0_0, .ref a1, .ref a2, .ref a3, .ref a4, .ref a5, .int n0_6, .int n0_7, .int n0_8, .int n0_9, .int n0_10, .long l0_11, .int n0_12, .int n0_13, .int n0_14, .int n0_15, .ref a6, .ref a7, .ref a8, .ref a9, .ref a10, .ref a11, .ref a12, .ref a13, .int n0_24, .int n0_25, .int n0_26, .int n0_27, .ref a14, .int n0_29, .int n0_30])), (a6, .inl (ct 0, 5, .inl f6)), (a7, .inl (ct 0, 15, .inl f7)), (a8, .inl (ct 0, 200, .inl f8)), (a9, .inl (ct 0, 1000, .inl f9)), (a11, .inl (ct 0, 8, .inl f11)), (a12, .inl (ct 0, 8, .inl f12)), (a13, .inl (ct 0, 8, .inl f13))] = A at hD ⊢
  have hS : va_S A s.heap s.heap [] := va_S.rf
  have hl := lv_entry ([.ref a0]) (n := 3) (Nat.le_of_ble_eq_true rfl)
  rw [lg_entry_eq]
  generalize (lg_sl ([.ref a0]) ++ List.replicate (3 - (lg_sl ([.ref a0])).length) Slot.unset).toArray = ls at hl ⊢
  have hl : lv_has ls 3 [(0, .ref a0)] := hl
  refine lv_aload_n hx hb dX11_mighty_0 rfl (lv_at hl 0 rfl) ?_
  refine lv_iconst (v := 0) hx hb dX11_mighty_1 (by decide) ?_
  refine va_put (D := G) (ci := 11) (v := .int 0) (ty := .int) (C := RX11) (T := TX11) (N := 31) hx hb hts (by decide +kernel) tyX11 tyX11_ok nmX11 hown hK.1 hP hD hS 0 rfl rfl 0 (by decide) (hts (.fieldLink RX11 59 "CardHolderModel" "thrown" "I") (by decide +kernel)) (fun _ h9 => h9) rfl (by decide +kernel) rfl rfl (Nat.le_of_ble_eq_true rfl) dX11_mighty_2 (fun H locs hP hD hS => ?_)
  refine lv_aload_n hx hb dX11_mighty_5 rfl (lv_at hl 0 rfl) ?_
  refine ro_calli (va_runV (As := []) (rest := []) ⟨hx, hb, hml, hown, hts⟩ (a_X11_isCity l G ct a0 (0 : Int32) a1 a2 a3 a4 a5 n0_6 n0_7 n0_8 n0_9 n0_10 l0_11 n0_12 n0_13 n0_14 n0_15 a6 a7 a8 a9 a10 a11 a12 a13 n0_24 n0_25 n0_26 n0_27 a14 n0_29 n0_30 f6 hp_n0_6) (cwV 0 hts gX11_mighty_X11_isCity rfl rfl rfl (by decide +kernel) ⟨Nat.le_of_ble_eq_true rfl, Nat.le_of_ble_eq_true rfl⟩) (ro_preV 11 0 hK (hP.sub [0, 1] rfl) rfl rfl) rfl rfl hl.1 rfl (lv_room (Nat.le_of_ble_eq_true rfl)) dX11_mighty_6 ⟨Nat.zero_le _, Nat.zero_le _⟩) hS hP (fun r6 H locs wr6 hP hS => ?_)
  obtain ⟨p_1, -⟩ := wr6
  refine lv_if_ne (tgt := 15) hx hb dX11_mighty_9 (by decide) (fun c9 => ?_) (fun c9 => ?_)
  · have h_2 : rg 1 1 r6 := r_ne_lo_i c9 p_1 (by decide) (by decide)
    refine lv_aload_n hx hb dX11_mighty_15 rfl (lv_at hl 0 rfl) ?_
    refine wj_callv (wr := [(a6, .inl (ct 0, 5, .inl f6))]) (w1 := (fun u : SU => [(a0, .inr (11, [.int 0, .ref a1, .ref a2, .ref a3, .ref a4, .ref a5, .int n0_6, .int n0_7, .int n0_8, .int n0_9, .int n0_10, .long l0_11, .int n0_12, .int n0_13, .int n0_14, .int n0_15, .ref a6, .ref a7, .ref a8, .ref a9, .ref a10, .ref a11, .ref a12, .ref a13, .int (u.1 0), .int (u.1 1), .int (u.1 2), .int (u.1 3), .ref a14, .int n0_29, .int n0_30])), (a7, .inl (ct 0, 15, .inl f7)), (a8, .inl (ct 0, 200, .inl f8)), (a9, .inl (ct 0, 1000, .inl f9)), (a11, .inl (ct 0, 8, .inl (u.2.1 0))), (a12, .inl (ct 0, 8, .inl (u.2.1 1))), (a13, .inl (ct 0, 8, .inl (u.2.1 2)))])) (va_runV (As := []) (rest := []) ⟨hx, hb, hml, hown, hts⟩ (a_X11_laysNow l G ct a0 (0 : Int32) a1 a2 a3 a4 a5 n0_6 n0_7 n0_8 n0_9 n0_10 l0_11 n0_12 n0_13 n0_14 n0_15 a6 a7 a8 a9 a10 a11 a12 a13 n0_24 n0_25 n0_26 n0_27 a14 n0_29 n0_30 f7 f8 f9 f11 f12 f13 hp_n0_6 hp_f7 hp_f8 hp_f9 hp_f11 hp_f13) (cwV 0 hts gX11_mighty_X11_laysNow rfl rfl rfl (by decide +kernel) ⟨Nat.le_of_ble_eq_true rfl, Nat.le_of_ble_eq_true rfl⟩) (wr_preV 11 0 hK (hP.sub [0, 2, 3, 4, 5, 6, 7] rfl) (hD.sub [0, 2, 3, 4, 5, 6, 7] (by decide) rfl) rfl rfl) rfl rfl hl.1 rfl (lv_room (Nat.le_of_ble_eq_true rfl)) dX11_mighty_16 ⟨Nat.zero_le _, Nat.zero_le _⟩) hS hP hD [0, 2, 3, 4, 5, 6, 7] [1] rfl rfl (by decide) (fun _ => rfl) (fun ur16 H locs wr16 hP hD hS => ?_)
    have hP : va_P G vwCl [(a0, .inr (11, [.int 0, .ref a1, .ref a2, .ref a3, .ref a4, .ref a5, .int n0_6, .int n0_7, .int n0_8, .int n0_9, .int n0_10, .long l0_11, .int n0_12, .int n0_13, .int n0_14, .int n0_15, .ref a6, .ref a7, .ref a8, .ref a9, .ref a10, .ref a11, .ref a12, .ref a13, .int (ur16.1 0), .int (ur16.1 1), .int (ur16.1 2), .int (ur16.1 3), .ref a14, .int n0_29, .int n0_30])), (a6, .inl (ct 0, 5, .inl f6)), (a7, .inl (ct 0, 15, .inl f7)), (a8, .inl (ct 0, 200, .inl f8)), (a9, .inl (ct 0, 1000, .inl f9)), (a11, .inl (ct 0, 8, .inl (ur16.2.1 0))), (a12, .inl (ct 0, 8, .inl (ur16.2.1 1))), (a13, .inl (ct 0, 8, .inl (ur16.2.1 2)))] H := hP.sub [1, 0, 2, 3, 4, 5, 6, 7] rfl
    have hD : va_D A [(a0, .inr (11, [.int 0, .ref a1, .ref a2, .ref a3, .ref a4, .ref a5, .int n0_6, .int n0_7, .int n0_8, .int n0_9, .int n0_10, .long l0_11, .int n0_12, .int n0_13, .int n0_14, .int n0_15, .ref a6, .ref a7, .ref a8, .ref a9, .ref a10, .ref a11, .ref a12, .ref a13, .int (ur16.1 0), .int (ur16.1 1), .int (ur16.1 2), .int (ur16.1 3), .ref a14, .int n0_29, .int n0_30])), (a6, .inl (ct 0, 5, .inl f6)), (a7, .inl (ct 0, 15, .inl f7)), (a8, .inl (ct 0, 200, .inl f8)), (a9, .inl (ct 0, 1000, .inl f9)), (a11, .inl (ct 0, 8, .inl (ur16.2.1 0))), (a12, .inl (ct 0, 8, .inl (ur16.2.1 1))), (a13, .inl (ct 0, 8, .inl (ur16.2.1 2)))] := hD.sub [1, 0, 2, 3, 4, 5, 6, 7] (by decide) rfl
    obtain ⟨p_3, p_4, -⟩ := wr16
    refine lv_iconst (v := (-1)) hx hb dX11_mighty_19 (by decide) ?_
    refine lv_istore_n (lv' := [(1, .int (-1)), (0, .ref a0)]) hx hb dX11_mighty_20 rfl hl (by decide) rfl (fun ls hl => ?_)
    refine lv_iconst (v := 0) hx hb dX11_mighty_21 (by decide) ?_
    refine lv_istore_n (lv' := [(2, .int 0), (1, .int (-1)), (0, .ref a0)]) hx hb dX11_mighty_22 rfl hl (by decide) rfl (fun ls hl => ?_)
    have j23 : ∀ (n : Nat) (x23_1 : Int32) (x23_2 : Int32) (H : Heap) (locs : List Loc) (ls : Array Slot), 2147483648 ≤ x23_2.toInt + (n : Int) → rg (-1) 7 x23_1 → rg 0 8 x23_2 → va_P G vwCl [(a0, .inr (11, [.int 0, .ref a1, .ref a2, .ref a3, .ref a4, .ref a5, .int n0_6, .int n0_7, .int n0_8, .int n0_9, .int n0_10, .long l0_11, .int n0_12, .int n0_13, .int n0_14, .int n0_15, .ref a6, .ref a7, .ref a8, .ref a9, .ref a10, .ref a11, .ref a12, .ref a13, .int (ur16.1 0), .int (ur16.1 1), .int (ur16.1 2), .int (ur16.1 3), .ref a14, .int n0_29, .int n0_30])), (a6, .inl (ct 0, 5, .inl f6)), (a7, .inl (ct 0, 15, .inl f7)), (a8, .inl (ct 0, 200, .inl f8)), (a9, .inl (ct 0, 1000, .inl f9)), (a11, .inl (ct 0, 8, .inl (ur16.2.1 0))), (a12, .inl (ct 0, 8, .inl (ur16.2.1 1))), (a13, .inl (ct 0, 8, .inl (ur16.2.1 2)))] H → va_D A [(a0, .inr (11, [.int 0, .ref a1, .ref a2, .ref a3, .ref a4, .ref a5, .int n0_6, .int n0_7, .int n0_8, .int n0_9, .int n0_10, .long l0_11, .int n0_12, .int n0_13, .int n0_14, .int n0_15, .ref a6, .ref a7, .ref a8, .ref a9, .ref a10, .ref a11, .ref a12, .ref a13, .int (ur16.1 0), .int (ur16.1 1), .int (ur16.1 2), .int (ur16.1 3), .ref a14, .int n0_29, .int n0_30])), (a6, .inl (ct 0, 5, .inl f6)), (a7, .inl (ct 0, 15, .inl f7)), (a8, .inl (ct 0, 200, .inl f8)), (a9, .inl (ct 0, 1000, .inl f9)), (a11, .inl (ct 0, 8, .inl (ur16.2.1 0))), (a12, .inl (ct 0, 8, .inl (ur16.2.1 1))), (a13, .inl (ct 0, 8, .inl (ur16.2.1 2)))] → va_S A s.heap H locs → lv_has ls 3 [(0, .ref a0), (1, .int x23_1), (2, .int x23_2)] → W p l e (headSpec wsX11_mighty ({ frames := 5, cells := 0, slots := 0, locals := 111 })).room s m ([.ref a0] : List Value).toArray below meth c H locs 0 0 (MQ below (va_Qi (fun (r : Int32) (u : SU) => rg (-2) 7 r ∧ ar (-1) 7 (u.2.1 0) ∧ ar (-1) 7 (u.2.1 2) ∧ rg 0 0 (u.1 0) ∧ True) (fun u t => va_P G vwCl ((fun u : SU => [(a0, .inr (11, [.int (u.1 0), .ref a1, .ref a2, .ref a3, .ref a4, .ref a5, .int n0_6, .int n0_7, .int n0_8, .int n0_9, .int n0_10, .long l0_11, .int n0_12, .int n0_13, .int n0_14, .int n0_15, .ref a6, .ref a7, .ref a8, .ref a9, .ref a10, .ref a11, .ref a12, .ref a13, .int (u.1 1), .int (u.1 2), .int (u.1 3), .int (u.1 4), .ref a14, .int n0_29, .int n0_30])), (a6, .inl (ct 0, 5, .inl f6)), (a7, .inl (ct 0, 15, .inl f7)), (a8, .inl (ct 0, 200, .inl f8)), (a9, .inl (ct 0, 1000, .inl f9)), (a11, .inl (ct 0, 8, .inl (u.2.1 0))), (a12, .inl (ct 0, 8, .inl (u.2.1 1))), (a13, .inl (ct 0, 8, .inl (u.2.1 2)))]) u) t.heap) A) ([.ref a0] : List Value).toArray s 0 0 A) (F0 m 23 ls []) := by
      intro n
      induction n with
      | zero => intro x23_1 x23_2 H locs ls hn23 hx23_1 hx23_2 hP hD hS hl; exact absurd hn23 (by have := Int32.toInt_lt x23_2; have := Int32.le_toInt x23_2; omega)
      | succ n ih23 =>
        intro x23_1 x23_2 H locs ls hn23 hx23_1 hx23_2 hP hD hS hl
        refine lv_iload_n hx hb dX11_mighty_23 rfl (lv_at hl 2 rfl) ?_
        refine lv_aload_n hx hb dX11_mighty_24 rfl (lv_at hl 0 rfl) ?_
        refine va_get (D := G) (ci := 11) (v := .ref a7) (C := RX11) (T := TX11) (N := 31) hx hb hts (by decide +kernel) hown hK.1 hP 0 rfl rfl 17 (by decide) (hts (.fieldLink RX11 34 "CardHolderModel" "has" "[I") (by decide +kernel)) (fun _ h9 => h9) rfl dX11_mighty_25 ?_
        refine lv_iconst (v := 1) hx hb dX11_mighty_28 (by decide) ?_
        refine va_iald hx hb hK.1 hP 2 0 rfl rfl (in_lit (by decide)) dX11_mighty_29 ?_
        refine lv_topi (fun z29 gz29 => ?_)
        have hz29 : rg 0 8 z29 := by rw [gz29]; exact (hp_f7.1 0)
        refine lv_icmp_ge (tgt := 59) hx hb dX11_mighty_30 (by decide) (fun c30 => ?_) (fun c30 => ?_)
        · refine lv_iload_n hx hb dX11_mighty_59 rfl (lv_at hl 1 rfl) ?_
          exact W.iret (v := x23_1) hx hb hr (fun t ht hW => ⟨⟨x23_1, (fun k => ([0, ur16.1 0, ur16.1 1, ur16.1 2, ur16.1 3] : List Int32).getD k 0, fun k => ([ur16.2.1 0, ur16.2.1 1, ur16.2.1 2] : List (Nat → Int32)).getD k (fun _ => 0), fun k => ([] : List (Nat → Int64)).getD k (fun _ => 0)), rfl, ⟨(rg_w (c := (-2)) (d := 7) hx23_1 (by decide)), p_3, p_4, (rgn 0 (x := 0) (by decide)), trivial⟩, hp_at ht hP⟩, hS.F ht⟩) hS.2.2 dX11_mighty_60
        · have h_5 : rg 0 7 x23_2 := r_lt_l_i (nle_i c30) hx23_2 hz29 (by decide)
          have h_6 : rg 1 8 z29 := r_lt_r_i (nle_i c30) hx23_2 hz29 (by decide)
          refine lv_iload_n hx hb dX11_mighty_33 rfl (lv_at hl 1 rfl) ?_
          refine lv_iconst (v := (-1)) hx hb dX11_mighty_34 (by decide) ?_
          have j53 : ∀ (x53_1 : Int32) (H : Heap) (locs : List Loc) (ls : Array Slot), rg 0 7 x53_1 → va_P G vwCl [(a0, .inr (11, [.int 0, .ref a1, .ref a2, .ref a3, .ref a4, .ref a5, .int n0_6, .int n0_7, .int n0_8, .int n0_9, .int n0_10, .long l0_11, .int n0_12, .int n0_13, .int n0_14, .int n0_15, .ref a6, .ref a7, .ref a8, .ref a9, .ref a10, .ref a11, .ref a12, .ref a13, .int (ur16.1 0), .int (ur16.1 1), .int (ur16.1 2), .int (ur16.1 3), .ref a14, .int n0_29, .int n0_30])), (a6, .inl (ct 0, 5, .inl f6)), (a7, .inl (ct 0, 15, .inl f7)), (a8, .inl (ct 0, 200, .inl f8)), (a9, .inl (ct 0, 1000, .inl f9)), (a11, .inl (ct 0, 8, .inl (ur16.2.1 0))), (a12, .inl (ct 0, 8, .inl (ur16.2.1 1))), (a13, .inl (ct 0, 8, .inl (ur16.2.1 2)))] H → va_D A [(a0, .inr (11, [.int 0, .ref a1, .ref a2, .ref a3, .ref a4, .ref a5, .int n0_6, .int n0_7, .int n0_8, .int n0_9, .int n0_10, .long l0_11, .int n0_12, .int n0_13, .int n0_14, .int n0_15, .ref a6, .ref a7, .ref a8, .ref a9, .ref a10, .ref a11, .ref a12, .ref a13, .int (ur16.1 0), .int (ur16.1 1), .int (ur16.1 2), .int (ur16.1 3), .ref a14, .int n0_29, .int n0_30])), (a6, .inl (ct 0, 5, .inl f6)), (a7, .inl (ct 0, 15, .inl f7)), (a8, .inl (ct 0, 200, .inl f8)), (a9, .inl (ct 0, 1000, .inl f9)), (a11, .inl (ct 0, 8, .inl (ur16.2.1 0))), (a12, .inl (ct 0, 8, .inl (ur16.2.1 1))), (a13, .inl (ct 0, 8, .inl (ur16.2.1 2)))] → va_S A s.heap H locs → lv_has ls 3 [(0, .ref a0), (1, .int x53_1), (2, .int x23_2)] → W p l e (headSpec wsX11_mighty ({ frames := 5, cells := 0, slots := 0, locals := 111 })).room s m ([.ref a0] : List Value).toArray below meth c H locs 0 0 (MQ below (va_Qi (fun (r : Int32) (u : SU) => rg (-2) 7 r ∧ ar (-1) 7 (u.2.1 0) ∧ ar (-1) 7 (u.2.1 2) ∧ rg 0 0 (u.1 0) ∧ True) (fun u t => va_P G vwCl ((fun u : SU => [(a0, .inr (11, [.int (u.1 0), .ref a1, .ref a2, .ref a3, .ref a4, .ref a5, .int n0_6, .int n0_7, .int n0_8, .int n0_9, .int n0_10, .long l0_11, .int n0_12, .int n0_13, .int n0_14, .int n0_15, .ref a6, .ref a7, .ref a8, .ref a9, .ref a10, .ref a11, .ref a12, .ref a13, .int (u.1 1), .int (u.1 2), .int (u.1 3), .int (u.1 4), .ref a14, .int n0_29, .int n0_30])), (a6, .inl (ct 0, 5, .inl f6)), (a7, .inl (ct 0, 15, .inl f7)), (a8, .inl (ct 0, 200, .inl f8)), (a9, .inl (ct 0, 1000, .inl f9)), (a11, .inl (ct 0, 8, .inl (u.2.1 0))), (a12, .inl (ct 0, 8, .inl (u.2.1 1))), (a13, .inl (ct 0, 8, .inl (u.2.1 2)))]) u) t.heap) A) ([.ref a0] : List Value).toArray s 0 0 A) (F0 m 53 ls []) := by
            intro x53_1 H locs ls hx53_1 hP hD hS hl
            obtain ⟨z53, qz53⟩ : ∃ y : Int32, y = x23_2 + Int32.ofInt 1 := ⟨_, rfl⟩
            obtain ⟨hz53, ez53⟩ := inc_z (e := 1) (f := 8) h_5 qz53 (by decide)
            refine lv_iinc (v := z53) (lv' := [(2, .int z53), (0, .ref a0), (1, .int x53_1)]) hx hb dX11_mighty_53 hl (k := 2) rfl (qz53.symm) (by decide) rfl (fun ls hl => ?_)
            refine lv_goto (tgt := 23) hx hb dX11_mighty_56 (by decide) ?_
            exact ih23 x53_1 z53 _ _ ls (by have q := hn23; have := ez53; omega) (rg_w (c := (-1)) (d := 7) hx53_1 (by decide)) (rg_w (c := 0) (d := 8) hz53 (by decide)) hP hD hS (lv_sub hl [1, 2, 0] rfl)
          have j51 : ∀ (H : Heap) (locs : List Loc) (ls : Array Slot), va_P G vwCl [(a0, .inr (11, [.int 0, .ref a1, .ref a2, .ref a3, .ref a4, .ref a5, .int n0_6, .int n0_7, .int n0_8, .int n0_9, .int n0_10, .long l0_11, .int n0_12, .int n0_13, .int n0_14, .int n0_15, .ref a6, .ref a7, .ref a8, .ref a9, .ref a10, .ref a11, .ref a12, .ref a13, .int (ur16.1 0), .int (ur16.1 1), .int (ur16.1 2), .int (ur16.1 3), .ref a14, .int n0_29, .int n0_30])), (a6, .inl (ct 0, 5, .inl f6)), (a7, .inl (ct 0, 15, .inl f7)), (a8, .inl (ct 0, 200, .inl f8)), (a9, .inl (ct 0, 1000, .inl f9)), (a11, .inl (ct 0, 8, .inl (ur16.2.1 0))), (a12, .inl (ct 0, 8, .inl (ur16.2.1 1))), (a13, .inl (ct 0, 8, .inl (ur16.2.1 2)))] H → va_D A [(a0, .inr (11, [.int 0, .ref a1, .ref a2, .ref a3, .ref a4, .ref a5, .int n0_6, .int n0_7, .int n0_8, .int n0_9, .int n0_10, .long l0_11, .int n0_12, .int n0_13, .int n0_14, .int n0_15, .ref a6, .ref a7, .ref a8, .ref a9, .ref a10, .ref a11, .ref a12, .ref a13, .int (ur16.1 0), .int (ur16.1 1), .int (ur16.1 2), .int (ur16.1 3), .ref a14, .int n0_29, .int n0_30])), (a6, .inl (ct 0, 5, .inl f6)), (a7, .inl (ct 0, 15, .inl f7)), (a8, .inl (ct 0, 200, .inl f8)), (a9, .inl (ct 0, 1000, .inl f9)), (a11, .inl (ct 0, 8, .inl (ur16.2.1 0))), (a12, .inl (ct 0, 8, .inl (ur16.2.1 1))), (a13, .inl (ct 0, 8, .inl (ur16.2.1 2)))] → va_S A s.heap H locs → lv_has ls 3 [(0, .ref a0), (1, .int x23_1), (2, .int x23_2)] → W p l e (headSpec wsX11_mighty ({ frames := 5, cells := 0, slots := 0, locals := 111 })).room s m ([.ref a0] : List Value).toArray below meth c H locs 0 0 (MQ below (va_Qi (fun (r : Int32) (u : SU) => rg (-2) 7 r ∧ ar (-1) 7 (u.2.1 0) ∧ ar (-1) 7 (u.2.1 2) ∧ rg 0 0 (u.1 0) ∧ True) (fun u t => va_P G vwCl ((fun u : SU => [(a0, .inr (11, [.int (u.1 0), .ref a1, .ref a2, .ref a3, .ref a4, .ref a5, .int n0_6, .int n0_7, .int n0_8, .int n0_9, .int n0_10, .long l0_11, .int n0_12, .int n0_13, .int n0_14, .int n0_15, .ref a6, .ref a7, .ref a8, .ref a9, .ref a10, .ref a11, .ref a12, .ref a13, .int (u.1 1), .int (u.1 2), .int (u.1 3), .int (u.1 4), .ref a14, .int n0_29, .int n0_30])), (a6, .inl (ct 0, 5, .inl f6)), (a7, .inl (ct 0, 15, .inl f7)), (a8, .inl (ct 0, 200, .inl f8)), (a9, .inl (ct 0, 1000, .inl f9)), (a11, .inl (ct 0, 8, .inl (u.2.1 0))), (a12, .inl (ct 0, 8, .inl (u.2.1 1))), (a13, .inl (ct 0, 8, .inl (u.2.1 2)))]) u) t.heap) A) ([.ref a0] : List Value).toArray s 0 0 A) (F0 m 51 ls []) := by
            intro  H locs ls  hP hD hS hl
            refine lv_iload_n hx hb dX11_mighty_51 rfl (lv_at hl 2 rfl) ?_
            refine lv_istore_n (lv' := [(1, .int x23_2), (0, .ref a0), (2, .int x23_2)]) hx hb dX11_mighty_52 rfl hl (by decide) rfl (fun ls hl => ?_)
            exact j53 x23_2 _ _ ls h_5 hP hD hS (lv_sub hl [1, 0, 2] rfl)
          refine lv_icmp_eq (tgt := 51) hx hb dX11_mighty_35 (by decide) (fun c35 => ?_) (fun c35 => ?_)
          · have h_7 : rg (-1) (-1) x23_1 := r_eq_l_i (e := (-1)) (f := (-1)) c35 hx23_1 (rgn (-1) (x := (-1)) (by decide)) (by decide)
            exact j51 _ _ ls hP hD hS (lv_sub hl [0, 1, 2] rfl)
          · have h_8 : rg 0 7 x23_1 := r_ne_lo_i c35 hx23_1 (by decide) (by decide)
            refine lv_aload_n hx hb dX11_mighty_38 rfl (lv_at hl 0 rfl) ?_
            refine lv_iload_n hx hb dX11_mighty_39 rfl (lv_at hl 2 rfl) ?_
            refine ro_calli (va_runV (As := [.int x23_2]) (rest := []) ⟨hx, hb, hml, hown, hts⟩ (a_X11_powerOf l G ct a0 (0 : Int32) a1 a2 a3 a4 a5 n0_6 n0_7 n0_8 n0_9 n0_10 l0_11 n0_12 n0_13 n0_14 n0_15 a6 a7 a8 a9 a10 a11 a12 a13 (ur16.1 0) (ur16.1 1) (ur16.1 2) (ur16.1 3) a14 n0_29 n0_30 f7 f8 (ur16.2.1 0) x23_2 hp_n0_6 hp_f7 hp_f8 p_3) (cwV 1 hts gX11_mighty_X11_powerOf rfl rfl rfl (by decide +kernel) ⟨Nat.le_of_ble_eq_true rfl, Nat.le_of_ble_eq_true rfl⟩) (ro_preV 11 0 hK (hP.sub [0, 2, 3, 5] rfl) rfl rfl) rfl rfl hl.1 rfl (lv_room (Nat.le_of_ble_eq_true rfl)) dX11_mighty_40 ⟨Nat.zero_le _, Nat.zero_le _⟩) hS hP (fun r40 H locs wr40 hP hS => ?_)
            refine lv_aload_n hx hb dX11_mighty_43 rfl (lv_at hl 0 rfl) ?_
            refine lv_iload_n hx hb dX11_mighty_44 rfl (lv_at hl 1 rfl) ?_
            refine ro_calli (va_runV (As := [.int x23_1]) (rest := [.int r40]) ⟨hx, hb, hml, hown, hts⟩ (a_X11_powerOf l G ct a0 (0 : Int32) a1 a2 a3 a4 a5 n0_6 n0_7 n0_8 n0_9 n0_10 l0_11 n0_12 n0_13 n0_14 n0_15 a6 a7 a8 a9 a10 a11 a12 a13 (ur16.1 0) (ur16.1 1) (ur16.1 2) (ur16.1 3) a14 n0_29 n0_30 f7 f8 (ur16.2.1 0) x23_1 hp_n0_6 hp_f7 hp_f8 p_3) (cwV 1 hts gX11_mighty_X11_powerOf rfl rfl rfl (by decide +kernel) ⟨Nat.le_of_ble_eq_true rfl, Nat.le_of_ble_eq_true rfl⟩) (ro_preV 11 0 hK (hP.sub [0, 2, 3, 5] rfl) rfl rfl) rfl rfl hl.1 rfl (lv_room (Nat.le_of_ble_eq_true rfl)) dX11_mighty_45 ⟨Nat.zero_le _, Nat.zero_le _⟩) hS hP (fun r45 H locs wr45 hP hS => ?_)
            refine lv_icmp_le (tgt := 53) hx hb dX11_mighty_48 (by decide) (fun c48 => ?_) (fun c48 => ?_)
            · exact j53 x23_1 _ _ ls h_8 hP hD hS (lv_sub hl [0, 1, 2] rfl)
            · have h_9 : rg (-2147483648) 2147483646 r45 := r_lt_l_i (nle_i c48) (rg_t r45) (rg_t r40) (by decide)
              have h_10 : rg (-2147483647) 2147483647 r40 := r_lt_r_i (nle_i c48) (rg_t r45) (rg_t r40) (by decide)
              exact j51 _ _ ls hP hD hS (lv_sub hl [0, 1, 2] rfl)
    exact j23 4294967296 ((-1) : Int32) (0 : Int32) _ _ ls (ms_e (0 : Int32)) (rg_w (c := (-1)) (d := 7) (rgn (-1) (x := (-1)) (by decide)) (by decide)) (rg_w (c := 0) (d := 8) (rgn 0 (x := 0) (by decide)) (by decide)) hP hD hS (lv_sub hl [2, 1, 0] rfl)
  · have h_11 : rg 0 0 r6 := r_eq_l_i (e := 0) (f := 0) c9 p_1 (rgn 0 (x := 0) (by decide)) (by decide)
    refine lv_bipush (v := (-2)) hx hb dX11_mighty_12 (by decide) ?_
    exact W.iret (v := (-2)) hx hb hr (fun t ht hW => ⟨⟨(-2), (fun k => ([0, n0_24, n0_25, n0_26, n0_27] : List Int32).getD k 0, fun k => ([f11, f12, f13] : List (Nat → Int32)).getD k (fun _ => 0), fun k => ([] : List (Nat → Int64)).getD k (fun _ => 0)), rfl, ⟨(rg_w (c := (-2)) (d := 7) (rgn (-2) (x := (-2)) (by decide)) (by decide)), hp_f11, hp_f13, (rgn 0 (x := 0) (by decide)), trivial⟩, hp_at ht hP⟩, hS.F ht⟩) hS.2.2 dX11_mighty_14
