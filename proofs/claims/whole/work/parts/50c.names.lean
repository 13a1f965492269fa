theorem dX5_lanternTold_100 : decode cX5_lanternTold 100 = .ok (.iaload, 1) := by decide +kernel
theorem dX5_lanternTold_101 : decode cX5_lanternTold 101 = .ok (.iastore, 1) := by decide +kernel
theorem dX5_lanternTold_102 : decode cX5_lanternTold 102 = .ok (.dup, 1) := by decide +kernel
theorem dX5_lanternTold_103 : decode cX5_lanternTold 103 = .ok (.bipush 8, 2) := by decide +kernel
theorem dX5_lanternTold_105 : decode cX5_lanternTold 105 = .ok (.aload_n 0, 1) := by decide +kernel
theorem dX5_lanternTold_106 : decode cX5_lanternTold 106 = .ok (.getfield 24, 3) := by decide +kernel
theorem dX5_lanternTold_109 : decode cX5_lanternTold 109 = .ok (.getfield 100, 3) := by decide +kernel
theorem dX5_lanternTold_112 : decode cX5_lanternTold 112 = .ok (.iload_n 1, 1) := by decide +kernel
theorem dX5_lanternTold_113 : decode cX5_lanternTold 113 = .ok (.iaload, 1) := by decide +kernel
theorem dX5_lanternTold_114 : decode cX5_lanternTold 114 = .ok (.iastore, 1) := by decide +kernel
theorem dX5_lanternTold_115 : decode cX5_lanternTold 115 = .ok (.astore_n 3, 1) := by decide +kernel
theorem dX5_lanternTold_116 : decode cX5_lanternTold 116 = .ok (.aload_n 3, 1) := by decide +kernel
theorem dX5_lanternTold_117 : decode cX5_lanternTold 117 = .ok (.iload_n 2, 1) := by decide +kernel
theorem dX5_lanternTold_118 : decode cX5_lanternTold 118 = .ok (.iaload, 1) := by decide +kernel
theorem dX5_lanternTold_119 : decode cX5_lanternTold 119 = .ok (.ireturn, 1) := by decide +kernel
set_option maxRecDepth 20000 in
theorem ggX5_told_X5_isLantern : GoodIn wsX5_told wsX5_isLantern := goodIn_r _ [6, 7, 8, 9, 5, 10, 20, 21, 22, 23, 24, 25, 26, 27, 28, 29, 30, 31, 32, 33, 34, 35, 36, 37, 38, 39, 40] (by decide +kernel) (by decide +kernel)
set_option maxRecDepth 20000 in
theorem gX5_told_X5_isLantern : GoodIn wsX5_told (wsV RX5 70 RX5 yX5_isLantern wsX5_isLantern) := goodIn_app (goodIn_of _ (by decide +kernel)) ggX5_told_X5_isLantern
set_option maxRecDepth 20000 in
theorem ggX5_told_X5_isIn : GoodIn wsX5_told wsX5_isIn := goodIn_r _ [10] (by decide +kernel) (by decide +kernel)
set_option maxRecDepth 20000 in
theorem gX5_told_X5_isIn : GoodIn wsX5_told (va_wsS RX5 35 yX5_isIn wsX5_isIn) := goodIn_app (goodIn_of _ (by decide +kernel)) ggX5_told_X5_isIn
set_option maxRecDepth 20000 in
theorem ggX5_told_X5_lanternTold : GoodIn wsX5_told wsX5_lanternTold := goodIn_r _ [14, 15, 7, 20, 21, 22, 23, 24, 25, 26, 27, 28, 29, 30, 31, 32, 33, 34, 35, 36, 37, 38, 39, 40] (by decide +kernel) (by decide +kernel)
set_option maxRecDepth 20000 in
theorem gX5_told_X5_lanternTold : GoodIn wsX5_told (wsV RX5 103 RX5 yX5_lanternTold wsX5_lanternTold) := goodIn_app (goodIn_of _ (by decide +kernel)) ggX5_told_X5_lanternTold
set_option maxRecDepth 20000 in
theorem ggX5_told_X5_no : GoodIn wsX5_told wsX5_no := goodIn_r _ [19, 1, 20, 21, 22, 23, 24, 25, 26, 27] (by decide +kernel) (by decide +kernel)
set_option maxRecDepth 20000 in
theorem gX5_told_X5_no : GoodIn wsX5_told (wsV RX5 46 RX5 yX5_no wsX5_no) := goodIn_app (goodIn_of _ (by decide +kernel)) ggX5_told_X5_no
theorem dX5_told_0 : decode cX5_told 0 = .ok (.aload_n 0, 1) := by decide +kernel
theorem dX5_told_1 : decode cX5_told 1 = .ok (.iconst 0, 1) := by decide +kernel
theorem dX5_told_2 : decode cX5_told 2 = .ok (.putfield 31, 3) := by decide +kernel
theorem dX5_told_5 : decode cX5_told 5 = .ok (.aload_n 0, 1) := by decide +kernel
theorem dX5_told_6 : decode cX5_told 6 = .ok (.iload_n 1, 1) := by decide +kernel
theorem dX5_told_7 : decode cX5_told 7 = .ok (.invokevirtual 70, 3) := by decide +kernel
theorem dX5_told_10 : decode cX5_told 10 = .ok (.ifCond .eq 22, 3) := by decide +kernel
theorem dX5_told_13 : decode cX5_told 13 = .ok (.iload_n 2, 1) := by decide +kernel
theorem dX5_told_14 : decode cX5_told 14 = .ok (.iconst 0, 1) := by decide +kernel
theorem dX5_told_15 : decode cX5_told 15 = .ok (.bipush 8, 2) := by decide +kernel
theorem dX5_told_17 : decode cX5_told 17 = .ok (.invokestatic 35, 3) := by decide +kernel
theorem dX5_told_20 : decode cX5_told 20 = .ok (.ifCond .eq 12, 3) := by decide +kernel
theorem dX5_told_23 : decode cX5_told 23 = .ok (.aload_n 0, 1) := by decide +kernel
theorem dX5_told_24 : decode cX5_told 24 = .ok (.iload_n 1, 1) := by decide +kernel
theorem dX5_told_25 : decode cX5_told 25 = .ok (.iload_n 2, 1) := by decide +kernel
theorem dX5_told_26 : decode cX5_told 26 = .ok (.invokevirtual 103, 3) := by decide +kernel
theorem dX5_told_29 : decode cX5_told 29 = .ok (.goto 8, 3) := by decide +kernel
theorem dX5_told_32 : decode cX5_told 32 = .ok (.aload_n 0, 1) := by decide +kernel
theorem dX5_told_33 : decode cX5_told 33 = .ok (.iconst 1, 1) := by decide +kernel
theorem dX5_told_34 : decode cX5_told 34 = .ok (.invokevirtual 46, 3) := by decide +kernel
theorem dX5_told_37 : decode cX5_told 37 = .ok (.ireturn, 1) := by decide +kernel
theorem dX5_nextOf_0 : decode cX5_nextOf 0 = .ok (.aload_n 0, 1) := by decide +kernel
theorem dX5_nextOf_1 : decode cX5_nextOf 1 = .ok (.getfield 24, 3) := by decide +kernel
theorem dX5_nextOf_4 : decode cX5_nextOf 4 = .ok (.getfield 94, 3) := by decide +kernel
theorem dX5_nextOf_7 : decode cX5_nextOf 7 = .ok (.iload_n 1, 1) := by decide +kernel
theorem dX5_nextOf_8 : decode cX5_nextOf 8 = .ok (.iaload, 1) := by decide +kernel
theorem dX5_nextOf_9 : decode cX5_nextOf 9 = .ok (.iconst 1, 1) := by decide +kernel
theorem dX5_nextOf_10 : decode cX5_nextOf 10 = .ok (.iadd, 1) := by decide +kernel
theorem dX5_nextOf_11 : decode cX5_nextOf 11 = .ok (.istore_n 2, 1) := by decide +kernel
theorem dX5_nextOf_12 : decode cX5_nextOf 12 = .ok (.iload_n 2, 1) := by decide +kernel
theorem dX5_nextOf_13 : decode cX5_nextOf 13 = .ok (.bipush 60, 2) := by decide +kernel
theorem dX5_nextOf_15 : decode cX5_nextOf 15 = .ok (.if_icmp .ge 32, 3) := by decide +kernel
theorem dX5_nextOf_18 : decode cX5_nextOf 18 = .ok (.aload_n 0, 1) := by decide +kernel
theorem dX5_nextOf_19 : decode cX5_nextOf 19 = .ok (.getfield 24, 3) := by decide +kernel
theorem dX5_nextOf_22 : decode cX5_nextOf 22 = .ok (.getfield 73, 3) := by decide +kernel
theorem dX5_nextOf_25 : decode cX5_nextOf 25 = .ok (.iload_n 1, 1) := by decide +kernel
theorem dX5_nextOf_26 : decode cX5_nextOf 26 = .ok (.iaload, 1) := by decide +kernel
theorem dX5_nextOf_27 : decode cX5_nextOf 27 = .ok (.ifCond .ne 20, 3) := by decide +kernel
theorem dX5_nextOf_30 : decode cX5_nextOf 30 = .ok (.aload_n 0, 1) := by decide +kernel
theorem dX5_nextOf_31 : decode cX5_nextOf 31 = .ok (.getfield 13, 3) := by decide +kernel
theorem dX5_nextOf_34 : decode cX5_nextOf 34 = .ok (.iload_n 2, 1) := by decide +kernel
theorem dX5_nextOf_35 : decode cX5_nextOf 35 = .ok (.iaload, 1) := by decide +kernel
theorem dX5_nextOf_36 : decode cX5_nextOf 36 = .ok (.ifCond .le 5, 3) := by decide +kernel
theorem dX5_nextOf_39 : decode cX5_nextOf 39 = .ok (.iload_n 2, 1) := by decide +kernel
theorem dX5_nextOf_40 : decode cX5_nextOf 40 = .ok (.ireturn, 1) := by decide +kernel
theorem dX5_nextOf_41 : decode cX5_nextOf 41 = .ok (.iinc 2 1, 3) := by decide +kernel
theorem dX5_nextOf_44 : decode cX5_nextOf 44 = .ok (.goto (-32), 3) := by decide +kernel
theorem dX5_nextOf_47 : decode cX5_nextOf 47 = .ok (.iconst (-1), 1) := by decide +kernel
theorem dX5_nextOf_48 : decode cX5_nextOf 48 = .ok (.ireturn, 1) := by decide +kernel
set_option maxRecDepth 20000 in
theorem ggX5_next_X5_isLantern : GoodIn wsX5_next wsX5_isLantern := goodIn_r _ [6, 7, 8, 9, 5, 10, 20, 21, 22, 23, 24, 25, 26, 27, 28, 29, 30, 31, 32, 33, 34, 35, 36, 37, 38, 39, 40] (by decide +kernel) (by decide +kernel)
set_option maxRecDepth 20000 in
theorem gX5_next_X5_isLantern : GoodIn wsX5_next (wsV RX5 70 RX5 yX5_isLantern wsX5_isLantern) := goodIn_app (goodIn_of _ (by decide +kernel)) ggX5_next_X5_isLantern
set_option maxRecDepth 20000 in
theorem ggX5_next_X5_nextOf : GoodIn wsX5_next wsX5_nextOf := goodIn_r _ [14, 7, 15, 20, 21, 22, 23, 24, 25, 26, 27, 28, 29, 30, 31, 32, 33, 34, 35, 36, 37, 38, 39, 40] (by decide +kernel) (by decide +kernel)
set_option maxRecDepth 20000 in
theorem gX5_next_X5_nextOf : GoodIn wsX5_next (wsV RX5 107 RX5 yX5_nextOf wsX5_nextOf) := goodIn_app (goodIn_of _ (by decide +kernel)) ggX5_next_X5_nextOf
set_option maxRecDepth 20000 in
theorem ggX5_next_X5_no : GoodIn wsX5_next wsX5_no := goodIn_r _ [19, 1, 20, 21, 22, 23, 24, 25, 26, 27] (by decide +kernel) (by decide +kernel)
set_option maxRecDepth 20000 in
theorem gX5_next_X5_no : GoodIn wsX5_next (wsV RX5 46 RX5 yX5_no wsX5_no) := goodIn_app (goodIn_of _ (by decide +kernel)) ggX5_next_X5_no
theorem dX5_next_0 : decode cX5_next 0 = .ok (.aload_n 0, 1) := by decide +kernel
theorem dX5_next_1 : decode cX5_next 1 = .ok (.iconst 0, 1) := by decide +kernel
theorem dX5_next_2 : decode cX5_next 2 = .ok (.putfield 31, 3) := by decide +kernel
theorem dX5_next_5 : decode cX5_next 5 = .ok (.aload_n 0, 1) := by decide +kernel
theorem dX5_next_6 : decode cX5_next 6 = .ok (.iload_n 1, 1) := by decide +kernel
theorem dX5_next_7 : decode cX5_next 7 = .ok (.invokevirtual 70, 3) := by decide +kernel
theorem dX5_next_10 : decode cX5_next 10 = .ok (.ifCond .eq 11, 3) := by decide +kernel
theorem dX5_next_13 : decode cX5_next 13 = .ok (.aload_n 0, 1) := by decide +kernel
theorem dX5_next_14 : decode cX5_next 14 = .ok (.iload_n 1, 1) := by decide +kernel
theorem dX5_next_15 : decode cX5_next 15 = .ok (.invokevirtual 107, 3) := by decide +kernel
theorem dX5_next_18 : decode cX5_next 18 = .ok (.goto 8, 3) := by decide +kernel
theorem dX5_next_21 : decode cX5_next 21 = .ok (.aload_n 0, 1) := by decide +kernel
theorem dX5_next_22 : decode cX5_next 22 = .ok (.iconst 1, 1) := by decide +kernel
theorem dX5_next_23 : decode cX5_next 23 = .ok (.invokevirtual 46, 3) := by decide +kernel
theorem dX5_next_26 : decode cX5_next 26 = .ok (.ireturn, 1) := by decide +kernel
set_option maxRecDepth 20000 in
theorem ggX5_count_X5_isIn : GoodIn wsX5_count wsX5_isIn := goodIn_r _ [6] (by decide +kernel) (by decide +kernel)
set_option maxRecDepth 20000 in
theorem gX5_count_X5_isIn : GoodIn wsX5_count (va_wsS RX5 35 yX5_isIn wsX5_isIn) := goodIn_app (goodIn_of _ (by decide +kernel)) ggX5_count_X5_isIn
set_option maxRecDepth 20000 in
theorem ggX5_count_X4_counted : GoodIn wsX5_count wsX4_counted := goodIn_r _ [11, 12, 13, 14, 15, 16, 17, 18, 31, 32, 33, 34, 35, 36, 37, 38, 39, 40, 41, 42, 43, 23, 24, 25, 26, 27, 28, 29, 30] (by decide +kernel) (by decide +kernel)
set_option maxRecDepth 20000 in
theorem gX5_count_X4_counted : GoodIn wsX5_count (wsV RX5 110 RX4 yX4_counted wsX4_counted) := goodIn_app (goodIn_of _ (by decide +kernel)) ggX5_count_X4_counted
set_option maxRecDepth 20000 in
theorem ggX5_count_X5_no : GoodIn wsX5_count wsX5_no := goodIn_r _ [22, 1, 23, 24, 25, 26, 27, 28, 29, 30] (by decide +kernel) (by decide +kernel)
set_option maxRecDepth 20000 in
theorem gX5_count_X5_no : GoodIn wsX5_count (wsV RX5 46 RX5 yX5_no wsX5_no) := goodIn_app (goodIn_of _ (by decide +kernel)) ggX5_count_X5_no
theorem dX5_count_0 : decode cX5_count 0 = .ok (.aload_n 0, 1) := by decide +kernel
theorem dX5_count_1 : decode cX5_count 1 = .ok (.iconst 0, 1) := by decide +kernel
theorem dX5_count_2 : decode cX5_count 2 = .ok (.putfield 31, 3) := by decide +kernel
theorem dX5_count_5 : decode cX5_count 5 = .ok (.iload_n 1, 1) := by decide +kernel
theorem dX5_count_6 : decode cX5_count 6 = .ok (.iconst 0, 1) := by decide +kernel
theorem dX5_count_7 : decode cX5_count 7 = .ok (.bipush 9, 2) := by decide +kernel
theorem dX5_count_9 : decode cX5_count 9 = .ok (.invokestatic 35, 3) := by decide +kernel
theorem dX5_count_12 : decode cX5_count 12 = .ok (.ifCond .eq 14, 3) := by decide +kernel
theorem dX5_count_15 : decode cX5_count 15 = .ok (.aload_n 0, 1) := by decide +kernel
theorem dX5_count_16 : decode cX5_count 16 = .ok (.getfield 24, 3) := by decide +kernel
theorem dX5_count_19 : decode cX5_count 19 = .ok (.iload_n 1, 1) := by decide +kernel
theorem dX5_count_20 : decode cX5_count 20 = .ok (.invokevirtual 110, 3) := by decide +kernel
theorem dX5_count_23 : decode cX5_count 23 = .ok (.goto 8, 3) := by decide +kernel
theorem dX5_count_26 : decode cX5_count 26 = .ok (.aload_n 0, 1) := by decide +kernel
theorem dX5_count_27 : decode cX5_count 27 = .ok (.iconst 1, 1) := by decide +kernel
theorem dX5_count_28 : decode cX5_count 28 = .ok (.invokevirtual 46, 3) := by decide +kernel
theorem dX5_count_31 : decode cX5_count 31 = .ok (.ireturn, 1) := by decide +kernel
set_option maxRecDepth 20000 in
theorem ggX5_pass_X5_isIn : GoodIn wsX5_pass wsX5_isIn := goodIn_r _ [6] (by decide +kernel) (by decide +kernel)
set_option maxRecDepth 20000 in
theorem gX5_pass_X5_isIn : GoodIn wsX5_pass (va_wsS RX5 35 yX5_isIn wsX5_isIn) := goodIn_app (goodIn_of _ (by decide +kernel)) ggX5_pass_X5_isIn
set_option maxRecDepth 20000 in
theorem ggX5_pass_X5_no : GoodIn wsX5_pass wsX5_no := goodIn_r _ [10, 1, 70, 71, 72, 73, 74, 75, 76, 77] (by decide +kernel) (by decide +kernel)
set_option maxRecDepth 20000 in
theorem gX5_pass_X5_no : GoodIn wsX5_pass (wsV RX5 46 RX5 yX5_no wsX5_no) := goodIn_app (goodIn_of _ (by decide +kernel)) ggX5_pass_X5_no
set_option maxRecDepth 20000 in
theorem ggX5_pass_X4_counted : GoodIn wsX5_pass wsX4_counted := goodIn_r _ [15, 16, 17, 18, 19, 20, 21, 22, 78, 79, 80, 81, 82, 83, 84, 85, 86, 87, 88, 89, 90, 70, 71, 72, 73, 74, 75, 76, 77] (by decide +kernel) (by decide +kernel)
set_option maxRecDepth 20000 in
theorem gX5_pass_X4_counted : GoodIn wsX5_pass (wsV RX5 110 RX4 yX4_counted wsX4_counted) := goodIn_app (goodIn_of _ (by decide +kernel)) ggX5_pass_X4_counted
set_option maxRecDepth 20000 in
theorem ggX5_pass_X4_pass_ : GoodIn wsX5_pass wsX4_pass_ := goodIn_r _ [26, 27, 18, 20, 21, 28, 17, 29, 30, 31, 14, 32, 33, 34, 35, 36, 37, 38, 39, 40, 41, 42, 19, 43, 44, 45, 46, 47, 48, 49, 50, 51, 52, 53, 54, 55, 56, 57, 58, 59, 60, 61, 62, 63, 64, 65, 66, 67, 68, 69, 78, 79, 80, 81, 82, 83, 84, 85, 86, 87, 88, 89, 90, 70, 71, 72, 73, 74, 75, 76, 77] (by decide +kernel) (by decide +kernel)
set_option maxRecDepth 20000 in
theorem gX5_pass_X4_pass_ : GoodIn wsX5_pass (wsV RX5 113 RX4 yX4_pass_ wsX4_pass_) := goodIn_app (goodIn_of _ (by decide +kernel)) ggX5_pass_X4_pass_
theorem dX5_pass_0 : decode cX5_pass 0 = .ok (.aload_n 0, 1) := by decide +kernel
theorem dX5_pass_1 : decode cX5_pass 1 = .ok (.iconst 0, 1) := by decide +kernel
theorem dX5_pass_2 : decode cX5_pass 2 = .ok (.putfield 31, 3) := by decide +kernel
theorem dX5_pass_5 : decode cX5_pass 5 = .ok (.iload_n 1, 1) := by decide +kernel
theorem dX5_pass_6 : decode cX5_pass 6 = .ok (.iconst 1, 1) := by decide +kernel
theorem dX5_pass_7 : decode cX5_pass 7 = .ok (.bipush 90, 2) := by decide +kernel
theorem dX5_pass_9 : decode cX5_pass 9 = .ok (.invokestatic 35, 3) := by decide +kernel
theorem dX5_pass_12 : decode cX5_pass 12 = .ok (.ifCond .ne 9, 3) := by decide +kernel
theorem dX5_pass_15 : decode cX5_pass 15 = .ok (.aload_n 0, 1) := by decide +kernel
theorem dX5_pass_16 : decode cX5_pass 16 = .ok (.iconst 1, 1) := by decide +kernel
theorem dX5_pass_17 : decode cX5_pass 17 = .ok (.invokevirtual 46, 3) := by decide +kernel
theorem dX5_pass_20 : decode cX5_pass 20 = .ok (.ireturn, 1) := by decide +kernel
theorem dX5_pass_21 : decode cX5_pass 21 = .ok (.aload_n 0, 1) := by decide +kernel
theorem dX5_pass_22 : decode cX5_pass 22 = .ok (.getfield 24, 3) := by decide +kernel
theorem dX5_pass_25 : decode cX5_pass 25 = .ok (.iconst 3, 1) := by decide +kernel
theorem dX5_pass_26 : decode cX5_pass 26 = .ok (.invokevirtual 110, 3) := by decide +kernel
theorem dX5_pass_29 : decode cX5_pass 29 = .ok (.istore_n 2, 1) := by decide +kernel
theorem dX5_pass_30 : decode cX5_pass 30 = .ok (.iconst 0, 1) := by decide +kernel
theorem dX5_pass_31 : decode cX5_pass 31 = .ok (.istore_n 3, 1) := by decide +kernel
theorem dX5_pass_32 : decode cX5_pass 32 = .ok (.iload_n 3, 1) := by decide +kernel
theorem dX5_pass_33 : decode cX5_pass 33 = .ok (.iload_n 1, 1) := by decide +kernel
theorem dX5_pass_34 : decode cX5_pass 34 = .ok (.if_icmp .ge 16, 3) := by decide +kernel
theorem dX5_pass_37 : decode cX5_pass 37 = .ok (.aload_n 0, 1) := by decide +kernel
theorem dX5_pass_38 : decode cX5_pass 38 = .ok (.getfield 24, 3) := by decide +kernel
theorem dX5_pass_41 : decode cX5_pass 41 = .ok (.invokevirtual 113, 3) := by decide +kernel
theorem dX5_pass_44 : decode cX5_pass 44 = .ok (.iinc 3 1, 3) := by decide +kernel
theorem dX5_pass_47 : decode cX5_pass 47 = .ok (.goto (-15), 3) := by decide +kernel
theorem dX5_pass_50 : decode cX5_pass 50 = .ok (.aload_n 0, 1) := by decide +kernel
theorem dX5_pass_51 : decode cX5_pass 51 = .ok (.getfield 24, 3) := by decide +kernel
theorem dX5_pass_54 : decode cX5_pass 54 = .ok (.iconst 3, 1) := by decide +kernel
theorem dX5_pass_55 : decode cX5_pass 55 = .ok (.invokevirtual 110, 3) := by decide +kernel
theorem dX5_pass_58 : decode cX5_pass 58 = .ok (.iload_n 2, 1) := by decide +kernel
theorem dX5_pass_59 : decode cX5_pass 59 = .ok (.isub, 1) := by decide +kernel
theorem dX5_pass_60 : decode cX5_pass 60 = .ok (.ireturn, 1) := by decide +kernel
set_option maxRecDepth 20000 in
theorem ggX5_burns_X5_isLantern : GoodIn wsX5_burns wsX5_isLantern := goodIn_r _ [8, 3, 9, 10, 7, 11, 82, 83, 84, 85, 86, 87, 88, 89, 90, 91, 92, 93, 94, 95, 96, 97, 98, 99, 100, 101, 102] (by decide +kernel) (by decide +kernel)
set_option maxRecDepth 20000 in
theorem gX5_burns_X5_isLantern : GoodIn wsX5_burns (wsV RX5 70 RX5 yX5_isLantern wsX5_isLantern) := goodIn_app (goodIn_of _ (by decide +kernel)) ggX5_burns_X5_isLantern
set_option maxRecDepth 20000 in
theorem ggX5_burns_X5_no : GoodIn wsX5_burns wsX5_no := goodIn_r _ [15, 1, 82, 83, 84, 85, 86, 87, 88, 89] (by decide +kernel) (by decide +kernel)
set_option maxRecDepth 20000 in
theorem gX5_burns_X5_no : GoodIn wsX5_burns (wsV RX5 46 RX5 yX5_no wsX5_no) := goodIn_app (goodIn_of _ (by decide +kernel)) ggX5_burns_X5_no
set_option maxRecDepth 20000 in
theorem ggX5_burns_X4_become : GoodIn wsX5_burns wsX4_become := goodIn_r _ [20, 21, 22, 23, 24, 25, 26, 27, 28, 29, 30, 31, 32, 33, 34, 19, 35, 36, 37, 38, 39, 90, 91, 92, 93, 94, 95, 96, 97, 98, 99, 100, 101, 102] (by decide +kernel) (by decide +kernel)
set_option maxRecDepth 20000 in
theorem gX5_burns_X4_become : GoodIn wsX5_burns (wsV RX5 116 RX4 yX4_become wsX4_become) := goodIn_app (goodIn_of _ (by decide +kernel)) ggX5_burns_X4_become
set_option maxRecDepth 20000 in
theorem ggX5_burns_X4_pass_ : GoodIn wsX5_burns wsX4_pass_ := goodIn_r _ [43, 44, 22, 30, 29, 27, 21, 45, 46, 47, 19, 48, 49, 50, 51, 52, 26, 25, 53, 54, 55, 56, 57, 58, 59, 60, 61, 23, 62, 63, 64, 65, 31, 66, 67, 68, 69, 28, 70, 71, 72, 73, 74, 75, 76, 77, 78, 79, 80, 81, 90, 91, 92, 93, 94, 95, 96, 97, 98, 99, 100, 101, 102, 82, 83, 84, 85, 86, 87, 88, 89] (by decide +kernel) (by decide +kernel)
set_option maxRecDepth 20000 in
theorem gX5_burns_X4_pass_ : GoodIn wsX5_burns (wsV RX5 113 RX4 yX4_pass_ wsX4_pass_) := goodIn_app (goodIn_of _ (by decide +kernel)) ggX5_burns_X4_pass_
theorem dX5_burns_0 : decode cX5_burns 0 = .ok (.aload_n 0, 1) := by decide +kernel
theorem dX5_burns_1 : decode cX5_burns 1 = .ok (.iconst 0, 1) := by decide +kernel
theorem dX5_burns_2 : decode cX5_burns 2 = .ok (.putfield 31, 3) := by decide +kernel
theorem dX5_burns_5 : decode cX5_burns 5 = .ok (.aload_n 0, 1) := by decide +kernel
theorem dX5_burns_6 : decode cX5_burns 6 = .ok (.iload_n 1, 1) := by decide +kernel
theorem dX5_burns_7 : decode cX5_burns 7 = .ok (.invokevirtual 70, 3) := by decide +kernel
theorem dX5_burns_10 : decode cX5_burns 10 = .ok (.ifCond .ne 9, 3) := by decide +kernel
theorem dX5_burns_13 : decode cX5_burns 13 = .ok (.aload_n 0, 1) := by decide +kernel
theorem dX5_burns_14 : decode cX5_burns 14 = .ok (.iconst 1, 1) := by decide +kernel
theorem dX5_burns_15 : decode cX5_burns 15 = .ok (.invokevirtual 46, 3) := by decide +kernel
theorem dX5_burns_18 : decode cX5_burns 18 = .ok (.ireturn, 1) := by decide +kernel
theorem dX5_burns_19 : decode cX5_burns 19 = .ok (.aload_n 0, 1) := by decide +kernel
theorem dX5_burns_20 : decode cX5_burns 20 = .ok (.getfield 28, 3) := by decide +kernel
theorem dX5_burns_23 : decode cX5_burns 23 = .ok (.aload_n 0, 1) := by decide +kernel
theorem dX5_burns_24 : decode cX5_burns 24 = .ok (.getfield 24, 3) := by decide +kernel
theorem dX5_burns_27 : decode cX5_burns 27 = .ok (.invokevirtual 116, 3) := by decide +kernel
theorem dX5_burns_30 : decode cX5_burns 30 = .ok (.iconst 0, 1) := by decide +kernel
theorem dX5_burns_31 : decode cX5_burns 31 = .ok (.istore_n 2, 1) := by decide +kernel
theorem dX5_burns_32 : decode cX5_burns 32 = .ok (.iload_n 2, 1) := by decide +kernel
theorem dX5_burns_33 : decode cX5_burns 33 = .ok (.bipush 60, 2) := by decide +kernel
theorem dX5_burns_35 : decode cX5_burns 35 = .ok (.if_icmp .gt 30, 3) := by decide +kernel
theorem dX5_burns_38 : decode cX5_burns 38 = .ok (.aload_n 0, 1) := by decide +kernel
theorem dX5_burns_39 : decode cX5_burns 39 = .ok (.getfield 28, 3) := by decide +kernel
theorem dX5_burns_42 : decode cX5_burns 42 = .ok (.getfield 79, 3) := by decide +kernel
theorem dX5_burns_45 : decode cX5_burns 45 = .ok (.iload_n 1, 1) := by decide +kernel
theorem dX5_burns_46 : decode cX5_burns 46 = .ok (.iaload, 1) := by decide +kernel
theorem dX5_burns_47 : decode cX5_burns 47 = .ok (.ifCond .ne 5, 3) := by decide +kernel
theorem dX5_burns_50 : decode cX5_burns 50 = .ok (.iload_n 2, 1) := by decide +kernel
theorem dX5_burns_51 : decode cX5_burns 51 = .ok (.ireturn, 1) := by decide +kernel
theorem dX5_burns_52 : decode cX5_burns 52 = .ok (.aload_n 0, 1) := by decide +kernel
theorem dX5_burns_53 : decode cX5_burns 53 = .ok (.getfield 28, 3) := by decide +kernel
theorem dX5_burns_56 : decode cX5_burns 56 = .ok (.invokevirtual 113, 3) := by decide +kernel
theorem dX5_burns_59 : decode cX5_burns 59 = .ok (.iinc 2 1, 3) := by decide +kernel
theorem dX5_burns_62 : decode cX5_burns 62 = .ok (.goto (-30), 3) := by decide +kernel
theorem dX5_burns_65 : decode cX5_burns 65 = .ok (.iconst (-1), 1) := by decide +kernel
theorem dX5_burns_66 : decode cX5_burns 66 = .ok (.ireturn, 1) := by decide +kernel
set_option maxRecDepth 20000 in
theorem ggX5_foresee_X5_isIn : GoodIn wsX5_foresee wsX5_isIn := goodIn_r _ [7] (by decide +kernel) (by decide +kernel)
set_option maxRecDepth 20000 in
theorem gX5_foresee_X5_isIn : GoodIn wsX5_foresee (va_wsS RX5 35 yX5_isIn wsX5_isIn) := goodIn_app (goodIn_of _ (by decide +kernel)) ggX5_foresee_X5_isIn
set_option maxRecDepth 20000 in
theorem ggX5_foresee_X5_no : GoodIn wsX5_foresee wsX5_no := goodIn_r _ [11, 1, 83, 84, 85, 86, 87, 88, 89, 90] (by decide +kernel) (by decide +kernel)
set_option maxRecDepth 20000 in
theorem gX5_foresee_X5_no : GoodIn wsX5_foresee (wsV RX5 46 RX5 yX5_no wsX5_no) := goodIn_app (goodIn_of _ (by decide +kernel)) ggX5_foresee_X5_no
set_option maxRecDepth 20000 in
theorem ggX5_foresee_X4_become : GoodIn wsX5_foresee wsX4_become := goodIn_r _ [16, 17, 18, 19, 20, 21, 22, 23, 24, 25, 26, 27, 28, 29, 30, 15, 31, 32, 33, 34, 35, 91, 92, 93, 94, 95, 96, 97, 98, 99, 100, 101, 102, 103] (by decide +kernel) (by decide +kernel)
set_option maxRecDepth 20000 in
theorem gX5_foresee_X4_become : GoodIn wsX5_foresee (wsV RX5 116 RX4 yX4_become wsX4_become) := goodIn_app (goodIn_of _ (by decide +kernel)) ggX5_foresee_X4_become
set_option maxRecDepth 20000 in
theorem ggX5_foresee_X4_pass_ : GoodIn wsX5_foresee wsX4_pass_ := goodIn_r _ [39, 40, 18, 26, 25, 23, 17, 41, 42, 43, 15, 44, 45, 46, 47, 48, 22, 21, 49, 50, 51, 52, 53, 54, 55, 56, 57, 19, 58, 59, 60, 61, 27, 62, 63, 64, 65, 24, 66, 67, 68, 69, 70, 71, 72, 73, 74, 75, 76, 77, 91, 92, 93, 94, 95, 96, 97, 98, 99, 100, 101, 102, 103, 83, 84, 85, 86, 87, 88, 89, 90] (by decide +kernel) (by decide +kernel)
set_option maxRecDepth 20000 in
theorem gX5_foresee_X4_pass_ : GoodIn wsX5_foresee (wsV RX5 113 RX4 yX4_pass_ wsX4_pass_) := goodIn_app (goodIn_of _ (by decide +kernel)) ggX5_foresee_X4_pass_
set_option maxRecDepth 20000 in
theorem ggX5_foresee_X4_counted : GoodIn wsX5_foresee wsX4_counted := goodIn_r _ [81, 82, 17, 18, 53, 26, 25, 20, 91, 92, 93, 94, 95, 96, 97, 98, 99, 100, 101, 102, 103, 83, 84, 85, 86, 87, 88, 89, 90] (by decide +kernel) (by decide +kernel)
set_option maxRecDepth 20000 in
theorem gX5_foresee_X4_counted : GoodIn wsX5_foresee (wsV RX5 110 RX4 yX4_counted wsX4_counted) := goodIn_app (goodIn_of _ (by decide +kernel)) ggX5_foresee_X4_counted
theorem dX5_foresee_0 : decode cX5_foresee 0 = .ok (.aload_n 0, 1) := by decide +kernel
theorem dX5_foresee_1 : decode cX5_foresee 1 = .ok (.iconst 0, 1) := by decide +kernel
theorem dX5_foresee_2 : decode cX5_foresee 2 = .ok (.putfield 31, 3) := by decide +kernel
theorem dX5_foresee_5 : decode cX5_foresee 5 = .ok (.iload_n 1, 1) := by decide +kernel
theorem dX5_foresee_6 : decode cX5_foresee 6 = .ok (.iconst 1, 1) := by decide +kernel
theorem dX5_foresee_7 : decode cX5_foresee 7 = .ok (.bipush 90, 2) := by decide +kernel
theorem dX5_foresee_9 : decode cX5_foresee 9 = .ok (.invokestatic 35, 3) := by decide +kernel
theorem dX5_foresee_12 : decode cX5_foresee 12 = .ok (.ifCond .ne 9, 3) := by decide +kernel
theorem dX5_foresee_15 : decode cX5_foresee 15 = .ok (.aload_n 0, 1) := by decide +kernel
theorem dX5_foresee_16 : decode cX5_foresee 16 = .ok (.iconst 1, 1) := by decide +kernel
theorem dX5_foresee_17 : decode cX5_foresee 17 = .ok (.invokevirtual 46, 3) := by decide +kernel
theorem dX5_foresee_20 : decode cX5_foresee 20 = .ok (.ireturn, 1) := by decide +kernel
theorem dX5_foresee_21 : decode cX5_foresee 21 = .ok (.iload_n 2, 1) := by decide +kernel
theorem dX5_foresee_22 : decode cX5_foresee 22 = .ok (.iconst 2, 1) := by decide +kernel
theorem dX5_foresee_23 : decode cX5_foresee 23 = .ok (.bipush 6, 2) := by decide +kernel
theorem dX5_foresee_25 : decode cX5_foresee 25 = .ok (.invokestatic 35, 3) := by decide +kernel
theorem dX5_foresee_28 : decode cX5_foresee 28 = .ok (.ifCond .ne 15, 3) := by decide +kernel
theorem dX5_foresee_31 : decode cX5_foresee 31 = .ok (.iload_n 2, 1) := by decide +kernel
theorem dX5_foresee_32 : decode cX5_foresee 32 = .ok (.bipush 9, 2) := by decide +kernel
theorem dX5_foresee_34 : decode cX5_foresee 34 = .ok (.if_icmp .eq 9, 3) := by decide +kernel
theorem dX5_foresee_37 : decode cX5_foresee 37 = .ok (.aload_n 0, 1) := by decide +kernel
theorem dX5_foresee_38 : decode cX5_foresee 38 = .ok (.iconst 2, 1) := by decide +kernel
theorem dX5_foresee_39 : decode cX5_foresee 39 = .ok (.invokevirtual 46, 3) := by decide +kernel
theorem dX5_foresee_42 : decode cX5_foresee 42 = .ok (.ireturn, 1) := by decide +kernel
theorem dX5_foresee_43 : decode cX5_foresee 43 = .ok (.aload_n 0, 1) := by decide +kernel
theorem dX5_foresee_44 : decode cX5_foresee 44 = .ok (.getfield 28, 3) := by decide +kernel
theorem dX5_foresee_47 : decode cX5_foresee 47 = .ok (.aload_n 0, 1) := by decide +kernel
theorem dX5_foresee_48 : decode cX5_foresee 48 = .ok (.getfield 24, 3) := by decide +kernel
theorem dX5_foresee_51 : decode cX5_foresee 51 = .ok (.invokevirtual 116, 3) := by decide +kernel
theorem dX5_foresee_54 : decode cX5_foresee 54 = .ok (.iconst 0, 1) := by decide +kernel
theorem dX5_foresee_55 : decode cX5_foresee 55 = .ok (.istore_n 3, 1) := by decide +kernel
theorem dX5_foresee_56 : decode cX5_foresee 56 = .ok (.iload_n 3, 1) := by decide +kernel
theorem dX5_foresee_57 : decode cX5_foresee 57 = .ok (.iload_n 1, 1) := by decide +kernel
theorem dX5_foresee_58 : decode cX5_foresee 58 = .ok (.if_icmp .ge 16, 3) := by decide +kernel
theorem dX5_foresee_61 : decode cX5_foresee 61 = .ok (.aload_n 0, 1) := by decide +kernel
theorem dX5_foresee_62 : decode cX5_foresee 62 = .ok (.getfield 28, 3) := by decide +kernel
theorem dX5_foresee_65 : decode cX5_foresee 65 = .ok (.invokevirtual 113, 3) := by decide +kernel
theorem dX5_foresee_68 : decode cX5_foresee 68 = .ok (.iinc 3 1, 3) := by decide +kernel
theorem dX5_foresee_71 : decode cX5_foresee 71 = .ok (.goto (-15), 3) := by decide +kernel
theorem dX5_foresee_74 : decode cX5_foresee 74 = .ok (.aload_n 0, 1) := by decide +kernel
theorem dX5_foresee_75 : decode cX5_foresee 75 = .ok (.getfield 28, 3) := by decide +kernel
theorem dX5_foresee_78 : decode cX5_foresee 78 = .ok (.iload_n 2, 1) := by decide +kernel
theorem dX5_foresee_79 : decode cX5_foresee 79 = .ok (.invokevirtual 110, 3) := by decide +kernel
theorem dX5_foresee_82 : decode cX5_foresee 82 = .ok (.ireturn, 1) := by decide +kernel
set_option maxRecDepth 20000 in
theorem ggX5_comes_X4_become : GoodIn wsX5_comes wsX4_become := goodIn_r _ [7, 8, 9, 10, 11, 12, 13, 14, 15, 16, 17, 18, 19, 20, 21, 6, 22, 23, 24, 25, 26, 81, 82, 83, 84, 85, 86, 87, 88, 89, 90, 91, 92, 93] (by decide +kernel) (by decide +kernel)
set_option maxRecDepth 20000 in
theorem gX5_comes_X4_become : GoodIn wsX5_comes (wsV RX5 116 RX4 yX4_become wsX4_become) := goodIn_app (goodIn_of _ (by decide +kernel)) ggX5_comes_X4_become
set_option maxRecDepth 20000 in
theorem ggX5_comes_X4_launch : GoodIn wsX5_comes wsX4_launch := goodIn_r _ [30, 10, 9, 11, 12, 13, 14, 15, 16, 17, 18, 81, 82, 83, 84, 85, 86, 87, 88, 89, 90, 91, 92, 93] (by decide +kernel) (by decide +kernel)
set_option maxRecDepth 20000 in
theorem gX5_comes_X4_launch : GoodIn wsX5_comes (wsV RX5 66 RX4 yX4_launch wsX4_launch) := goodIn_app (goodIn_of _ (by decide +kernel)) ggX5_comes_X4_launch
set_option maxRecDepth 20000 in
theorem ggX5_comes_X4_pass_ : GoodIn wsX5_comes wsX4_pass_ := goodIn_r _ [34, 35, 9, 17, 16, 14, 8, 36, 37, 38, 6, 39, 40, 41, 42, 43, 13, 12, 44, 45, 46, 47, 48, 49, 50, 51, 52, 10, 53, 54, 55, 56, 18, 57, 58, 59, 60, 15, 61, 62, 63, 64, 65, 66, 67, 68, 69, 70, 71, 72, 81, 82, 83, 84, 85, 86, 87, 88, 89, 90, 91, 92, 93, 73, 74, 75, 76, 77, 78, 79, 80] (by decide +kernel) (by decide +kernel)
set_option maxRecDepth 20000 in
theorem gX5_comes_X4_pass_ : GoodIn wsX5_comes (wsV RX5 113 RX4 yX4_pass_ wsX4_pass_) := goodIn_app (goodIn_of _ (by decide +kernel)) ggX5_comes_X4_pass_
theorem dX5_comes_0 : decode cX5_comes 0 = .ok (.aload_n 0, 1) := by decide +kernel
theorem dX5_comes_1 : decode cX5_comes 1 = .ok (.getfield 28, 3) := by decide +kernel
theorem dX5_comes_4 : decode cX5_comes 4 = .ok (.aload_n 0, 1) := by decide +kernel
theorem dX5_comes_5 : decode cX5_comes 5 = .ok (.getfield 24, 3) := by decide +kernel
theorem dX5_comes_8 : decode cX5_comes 8 = .ok (.invokevirtual 116, 3) := by decide +kernel
theorem dX5_comes_11 : decode cX5_comes 11 = .ok (.aload_n 0, 1) := by decide +kernel
theorem dX5_comes_12 : decode cX5_comes 12 = .ok (.getfield 28, 3) := by decide +kernel
theorem dX5_comes_15 : decode cX5_comes 15 = .ok (.iload_n 1, 1) := by decide +kernel
theorem dX5_comes_16 : decode cX5_comes 16 = .ok (.iconst 0, 1) := by decide +kernel
theorem dX5_comes_17 : decode cX5_comes 17 = .ok (.iload_n 2, 1) := by decide +kernel
theorem dX5_comes_18 : decode cX5_comes 18 = .ok (.iconst 0, 1) := by decide +kernel
theorem dX5_comes_19 : decode cX5_comes 19 = .ok (.invokevirtual 66, 3) := by decide +kernel
theorem dX5_comes_22 : decode cX5_comes 22 = .ok (.istore_n 3, 1) := by decide +kernel
theorem dX5_comes_23 : decode cX5_comes 23 = .ok (.iconst 1, 1) := by decide +kernel
theorem dX5_comes_24 : decode cX5_comes 24 = .ok (.istore 4, 2) := by decide +kernel
theorem dX5_comes_26 : decode cX5_comes 26 = .ok (.iload 4, 2) := by decide +kernel
theorem dX5_comes_28 : decode cX5_comes 28 = .ok (.bipush 60, 2) := by decide +kernel
theorem dX5_comes_30 : decode cX5_comes 30 = .ok (.if_icmp .gt 45, 3) := by decide +kernel
theorem dX5_comes_33 : decode cX5_comes 33 = .ok (.aload_n 0, 1) := by decide +kernel
theorem dX5_comes_34 : decode cX5_comes 34 = .ok (.getfield 28, 3) := by decide +kernel
theorem dX5_comes_37 : decode cX5_comes 37 = .ok (.invokevirtual 113, 3) := by decide +kernel
theorem dX5_comes_40 : decode cX5_comes 40 = .ok (.aload_n 0, 1) := by decide +kernel
theorem dX5_comes_41 : decode cX5_comes 41 = .ok (.getfield 28, 3) := by decide +kernel
theorem dX5_comes_44 : decode cX5_comes 44 = .ok (.getfield 73, 3) := by decide +kernel
theorem dX5_comes_47 : decode cX5_comes 47 = .ok (.iload_n 3, 1) := by decide +kernel
theorem dX5_comes_48 : decode cX5_comes 48 = .ok (.iaload, 1) := by decide +kernel
theorem dX5_comes_49 : decode cX5_comes 49 = .ok (.iconst 1, 1) := by decide +kernel
theorem dX5_comes_50 : decode cX5_comes 50 = .ok (.if_icmp .ne 19, 3) := by decide +kernel
theorem dX5_comes_53 : decode cX5_comes 53 = .ok (.aload_n 0, 1) := by decide +kernel
theorem dX5_comes_54 : decode cX5_comes 54 = .ok (.getfield 28, 3) := by decide +kernel
theorem dX5_comes_57 : decode cX5_comes 57 = .ok (.getfield 79, 3) := by decide +kernel
theorem dX5_comes_60 : decode cX5_comes 60 = .ok (.iload_n 3, 1) := by decide +kernel
theorem dX5_comes_61 : decode cX5_comes 61 = .ok (.iaload, 1) := by decide +kernel
theorem dX5_comes_62 : decode cX5_comes 62 = .ok (.iconst 1, 1) := by decide +kernel
theorem dX5_comes_63 : decode cX5_comes 63 = .ok (.if_icmp .ne 6, 3) := by decide +kernel
theorem dX5_comes_66 : decode cX5_comes 66 = .ok (.iload 4, 2) := by decide +kernel
theorem dX5_comes_68 : decode cX5_comes 68 = .ok (.ireturn, 1) := by decide +kernel
theorem dX5_comes_69 : decode cX5_comes 69 = .ok (.iinc 4 1, 3) := by decide +kernel
theorem dX5_comes_72 : decode cX5_comes 72 = .ok (.goto (-46), 3) := by decide +kernel
theorem dX5_comes_75 : decode cX5_comes 75 = .ok (.bipush 61, 2) := by decide +kernel
theorem dX5_comes_77 : decode cX5_comes 77 = .ok (.ireturn, 1) := by decide +kernel
set_option maxRecDepth 20000 in
theorem ggX5_advise_X5_isIn : GoodIn wsX5_advise wsX5_isIn := goodIn_r _ [5] (by decide +kernel) (by decide +kernel)
set_option maxRecDepth 20000 in
theorem gX5_advise_X5_isIn : GoodIn wsX5_advise (va_wsS RX5 35 yX5_isIn wsX5_isIn) := goodIn_app (goodIn_of _ (by decide +kernel)) ggX5_advise_X5_isIn
set_option maxRecDepth 20000 in
theorem ggX5_advise_X5_no : GoodIn wsX5_advise wsX5_no := goodIn_r _ [9, 1, 86, 87, 88, 89, 90, 91, 92, 93] (by decide +kernel) (by decide +kernel)
set_option maxRecDepth 20000 in
theorem gX5_advise_X5_no : GoodIn wsX5_advise (wsV RX5 46 RX5 yX5_no wsX5_no) := goodIn_app (goodIn_of _ (by decide +kernel)) ggX5_advise_X5_no
set_option maxRecDepth 20000 in
theorem ggX5_advise_X5_comes : GoodIn wsX5_advise wsX5_comes := goodIn_r _ [13, 14, 15, 16, 17, 18, 19, 20, 21, 22, 23, 24, 25, 26, 27, 28, 29, 30, 31, 32, 33, 34, 35, 36, 37, 38, 39, 40, 41, 42, 43, 44, 45, 46, 47, 48, 49, 50, 51, 52, 53, 54, 55, 56, 57, 58, 59, 60, 61, 62, 63, 64, 65, 66, 67, 68, 69, 70, 71, 72, 73, 74, 75, 76, 77, 78, 79, 80, 81, 82, 83, 84, 85, 86, 87, 88, 89, 90, 91, 92, 93, 94, 95, 96, 97, 98, 99, 100, 101, 102, 103, 104, 105, 106] (by decide +kernel) (by decide +kernel)
set_option maxRecDepth 20000 in
theorem gX5_advise_X5_comes : GoodIn wsX5_advise (wsV RX5 120 RX5 yX5_comes wsX5_comes) := goodIn_app (goodIn_of _ (by decide +kernel)) ggX5_advise_X5_comes
theorem dX5_advise_0 : decode cX5_advise 0 = .ok (.aload_n 0, 1) := by decide +kernel
theorem dX5_advise_1 : decode cX5_advise 1 = .ok (.iconst 0, 1) := by decide +kernel
theorem dX5_advise_2 : decode cX5_advise 2 = .ok (.putfield 31, 3) := by decide +kernel
theorem dX5_advise_5 : decode cX5_advise 5 = .ok (.iload_n 1, 1) := by decide +kernel
theorem dX5_advise_6 : decode cX5_advise 6 = .ok (.iconst 0, 1) := by decide +kernel
theorem dX5_advise_7 : decode cX5_advise 7 = .ok (.iconst 2, 1) := by decide +kernel
theorem dX5_advise_8 : decode cX5_advise 8 = .ok (.invokestatic 35, 3) := by decide +kernel
theorem dX5_advise_11 : decode cX5_advise 11 = .ok (.ifCond .ne 9, 3) := by decide +kernel
theorem dX5_advise_14 : decode cX5_advise 14 = .ok (.aload_n 0, 1) := by decide +kernel
theorem dX5_advise_15 : decode cX5_advise 15 = .ok (.iconst 1, 1) := by decide +kernel
theorem dX5_advise_16 : decode cX5_advise 16 = .ok (.invokevirtual 46, 3) := by decide +kernel
theorem dX5_advise_19 : decode cX5_advise 19 = .ok (.ireturn, 1) := by decide +kernel
theorem dX5_advise_20 : decode cX5_advise 20 = .ok (.iconst (-1), 1) := by decide +kernel
theorem dX5_advise_21 : decode cX5_advise 21 = .ok (.istore_n 2, 1) := by decide +kernel
theorem dX5_advise_22 : decode cX5_advise 22 = .ok (.bipush 61, 2) := by decide +kernel
theorem dX5_advise_24 : decode cX5_advise 24 = .ok (.istore_n 3, 1) := by decide +kernel
theorem dX5_advise_25 : decode cX5_advise 25 = .ok (.iconst 0, 1) := by decide +kernel
theorem dX5_advise_26 : decode cX5_advise 26 = .ok (.istore 4, 2) := by decide +kernel
theorem dX5_advise_28 : decode cX5_advise 28 = .ok (.iload 4, 2) := by decide +kernel
theorem dX5_advise_30 : decode cX5_advise 30 = .ok (.iconst 3, 1) := by decide +kernel
theorem dX5_advise_31 : decode cX5_advise 31 = .ok (.if_icmp .ge 33, 3) := by decide +kernel
theorem dX5_advise_34 : decode cX5_advise 34 = .ok (.aload_n 0, 1) := by decide +kernel
theorem dX5_advise_35 : decode cX5_advise 35 = .ok (.iload_n 1, 1) := by decide +kernel
theorem dX5_advise_36 : decode cX5_advise 36 = .ok (.iload 4, 2) := by decide +kernel
theorem dX5_advise_38 : decode cX5_advise 38 = .ok (.invokevirtual 120, 3) := by decide +kernel
theorem dX5_advise_41 : decode cX5_advise 41 = .ok (.istore 5, 2) := by decide +kernel
theorem dX5_advise_43 : decode cX5_advise 43 = .ok (.iload 5, 2) := by decide +kernel
theorem dX5_advise_45 : decode cX5_advise 45 = .ok (.iload_n 3, 1) := by decide +kernel
theorem dX5_advise_46 : decode cX5_advise 46 = .ok (.if_icmp .lt 6, 3) := by decide +kernel
theorem dX5_advise_49 : decode cX5_advise 49 = .ok (.goto 9, 3) := by decide +kernel
theorem dX5_advise_52 : decode cX5_advise 52 = .ok (.iload 5, 2) := by decide +kernel
theorem dX5_advise_54 : decode cX5_advise 54 = .ok (.istore_n 3, 1) := by decide +kernel
theorem dX5_advise_55 : decode cX5_advise 55 = .ok (.iload 4, 2) := by decide +kernel
theorem dX5_advise_57 : decode cX5_advise 57 = .ok (.istore_n 2, 1) := by decide +kernel
theorem dX5_advise_58 : decode cX5_advise 58 = .ok (.iinc 4 1, 3) := by decide +kernel
theorem dX5_advise_61 : decode cX5_advise 61 = .ok (.goto (-33), 3) := by decide +kernel
theorem dX5_advise_64 : decode cX5_advise 64 = .ok (.iload_n 2, 1) := by decide +kernel
theorem dX5_advise_65 : decode cX5_advise 65 = .ok (.ireturn, 1) := by decide +kernel
set_option maxRecDepth 20000 in
theorem ggX5_mean_X4_counted : GoodIn wsX5_mean wsX4_counted := goodIn_r _ [7, 8, 9, 10, 11, 12, 13, 14, 23, 24, 25, 26, 27, 28, 29, 30, 31, 32, 33, 34, 35, 15, 16, 17, 18, 19, 20, 21, 22] (by decide +kernel) (by decide +kernel)
set_option maxRecDepth 20000 in
theorem gX5_mean_X4_counted : GoodIn wsX5_mean (wsV RX5 110 RX4 yX4_counted wsX4_counted) := goodIn_app (goodIn_of _ (by decide +kernel)) ggX5_mean_X4_counted
theorem dX5_mean_0 : decode cX5_mean 0 = .ok (.aload_n 0, 1) := by decide +kernel
theorem dX5_mean_1 : decode cX5_mean 1 = .ok (.iconst 0, 1) := by decide +kernel
theorem dX5_mean_2 : decode cX5_mean 2 = .ok (.putfield 31, 3) := by decide +kernel
theorem dX5_mean_5 : decode cX5_mean 5 = .ok (.aload_n 0, 1) := by decide +kernel
theorem dX5_mean_6 : decode cX5_mean 6 = .ok (.getfield 24, 3) := by decide +kernel
theorem dX5_mean_9 : decode cX5_mean 9 = .ok (.iconst 2, 1) := by decide +kernel
theorem dX5_mean_10 : decode cX5_mean 10 = .ok (.invokevirtual 110, 3) := by decide +kernel
theorem dX5_mean_13 : decode cX5_mean 13 = .ok (.istore_n 1, 1) := by decide +kernel
theorem dX5_mean_14 : decode cX5_mean 14 = .ok (.iconst 0, 1) := by decide +kernel
theorem dX5_mean_15 : decode cX5_mean 15 = .ok (.istore_n 2, 1) := by decide +kernel
theorem dX5_mean_16 : decode cX5_mean 16 = .ok (.iconst 0, 1) := by decide +kernel
theorem dX5_mean_17 : decode cX5_mean 17 = .ok (.istore_n 3, 1) := by decide +kernel
theorem dX5_mean_18 : decode cX5_mean 18 = .ok (.iload_n 3, 1) := by decide +kernel
theorem dX5_mean_19 : decode cX5_mean 19 = .ok (.aload_n 0, 1) := by decide +kernel
theorem dX5_mean_20 : decode cX5_mean 20 = .ok (.getfield 24, 3) := by decide +kernel
theorem dX5_mean_23 : decode cX5_mean 23 = .ok (.getfield 39, 3) := by decide +kernel
theorem dX5_mean_26 : decode cX5_mean 26 = .ok (.if_icmp .ge 37, 3) := by decide +kernel
theorem dX5_mean_29 : decode cX5_mean 29 = .ok (.iload_n 2, 1) := by decide +kernel
theorem dX5_mean_30 : decode cX5_mean 30 = .ok (.aload_n 0, 1) := by decide +kernel
theorem dX5_mean_31 : decode cX5_mean 31 = .ok (.getfield 24, 3) := by decide +kernel
theorem dX5_mean_34 : decode cX5_mean 34 = .ok (.getfield 73, 3) := by decide +kernel
theorem dX5_mean_37 : decode cX5_mean 37 = .ok (.iload_n 3, 1) := by decide +kernel
theorem dX5_mean_38 : decode cX5_mean 38 = .ok (.iaload, 1) := by decide +kernel
theorem dX5_mean_39 : decode cX5_mean 39 = .ok (.ifCond .ne 15, 3) := by decide +kernel
theorem dX5_mean_42 : decode cX5_mean 42 = .ok (.aload_n 0, 1) := by decide +kernel
theorem dX5_mean_43 : decode cX5_mean 43 = .ok (.getfield 24, 3) := by decide +kernel
theorem dX5_mean_46 : decode cX5_mean 46 = .ok (.getfield 94, 3) := by decide +kernel
theorem dX5_mean_49 : decode cX5_mean 49 = .ok (.iload_n 3, 1) := by decide +kernel
theorem dX5_mean_50 : decode cX5_mean 50 = .ok (.iaload, 1) := by decide +kernel
theorem dX5_mean_51 : decode cX5_mean 51 = .ok (.goto 4, 3) := by decide +kernel
theorem dX5_mean_54 : decode cX5_mean 54 = .ok (.iconst 0, 1) := by decide +kernel
theorem dX5_mean_55 : decode cX5_mean 55 = .ok (.iadd, 1) := by decide +kernel
theorem dX5_mean_56 : decode cX5_mean 56 = .ok (.istore_n 2, 1) := by decide +kernel
theorem dX5_mean_57 : decode cX5_mean 57 = .ok (.iinc 3 1, 3) := by decide +kernel
theorem dX5_mean_60 : decode cX5_mean 60 = .ok (.goto (-42), 3) := by decide +kernel
theorem dX5_mean_63 : decode cX5_mean 63 = .ok (.iload_n 1, 1) := by decide +kernel
theorem dX5_mean_64 : decode cX5_mean 64 = .ok (.ifCond .ne 7, 3) := by decide +kernel
theorem dX5_mean_67 : decode cX5_mean 67 = .ok (.dconst 0, 1) := by decide +kernel
theorem dX5_mean_68 : decode cX5_mean 68 = .ok (.goto 8, 3) := by decide +kernel
theorem dX5_mean_71 : decode cX5_mean 71 = .ok (.iload_n 2, 1) := by decide +kernel
theorem dX5_mean_72 : decode cX5_mean 72 = .ok (.i2d, 1) := by decide +kernel
theorem dX5_mean_73 : decode cX5_mean 73 = .ok (.iload_n 1, 1) := by decide +kernel
theorem dX5_mean_74 : decode cX5_mean 74 = .ok (.i2d, 1) := by decide +kernel
theorem dX5_mean_75 : decode cX5_mean 75 = .ok (.ddiv, 1) := by decide +kernel
theorem dX5_mean_76 : decode cX5_mean 76 = .ok (.dreturn, 1) := by decide +kernel
set_option maxRecDepth 20000 in
theorem ggX5_digest_X4_counted : GoodIn wsX5_digest wsX4_counted := goodIn_r _ [10, 11, 12, 13, 14, 15, 16, 17, 47, 48, 49, 50, 51, 52, 53, 54, 55, 56, 57, 58, 59, 39, 40, 41, 42, 43, 44, 45, 46] (by decide +kernel) (by decide +kernel)
set_option maxRecDepth 20000 in
theorem gX5_digest_X4_counted : GoodIn wsX5_digest (wsV RX5 110 RX4 yX4_counted wsX4_counted) := goodIn_app (goodIn_of _ (by decide +kernel)) ggX5_digest_X4_counted
set_option maxRecDepth 20000 in
theorem ggX5_digest_X5_riverTold : GoodIn wsX5_digest wsX5_riverTold := goodIn_r _ [22, 4, 23, 24, 25, 26, 27, 9, 28, 13, 15, 29, 30, 39, 40, 41, 42, 43, 44, 45, 46, 47, 48, 49, 50, 51, 52, 53, 54, 55, 56, 57, 58, 59] (by decide +kernel) (by decide +kernel)
set_option maxRecDepth 20000 in
theorem gX5_digest_X5_riverTold : GoodIn wsX5_digest (wsV RX5 63 RX5 yX5_riverTold wsX5_riverTold) := goodIn_app (goodIn_of _ (by decide +kernel)) ggX5_digest_X5_riverTold
set_option maxRecDepth 20000 in
theorem ggX5_digest_X5_lanternTold : GoodIn wsX5_digest wsX5_lanternTold := goodIn_r _ [34, 11, 4, 39, 40, 41, 42, 43, 44, 45, 46, 47, 48, 49, 50, 51, 52, 53, 54, 55, 56, 57, 58, 59] (by decide +kernel) (by decide +kernel)
set_option maxRecDepth 20000 in
theorem gX5_digest_X5_lanternTold : GoodIn wsX5_digest (wsV RX5 103 RX5 yX5_lanternTold wsX5_lanternTold) := goodIn_app (goodIn_of _ (by decide +kernel)) ggX5_digest_X5_lanternTold
set_option maxRecDepth 20000 in
theorem ggX5_digest_X5_nextOf : GoodIn wsX5_digest wsX5_nextOf := goodIn_r _ [38, 4, 23, 39, 40, 41, 42, 43, 44, 45, 46, 47, 48, 49, 50, 51, 52, 53, 54, 55, 56, 57, 58, 59] (by decide +kernel) (by decide +kernel)
set_option maxRecDepth 20000 in
theorem gX5_digest_X5_nextOf : GoodIn wsX5_digest (wsV RX5 107 RX5 yX5_nextOf wsX5_nextOf) := goodIn_app (goodIn_of _ (by decide +kernel)) ggX5_digest_X5_nextOf
theorem dX5_digest_0 : decode cX5_digest 0 = .ok (.aload_n 0, 1) := by decide +kernel
theorem dX5_digest_1 : decode cX5_digest 1 = .ok (.iconst 0, 1) := by decide +kernel
theorem dX5_digest_2 : decode cX5_digest 2 = .ok (.putfield 31, 3) := by decide +kernel
theorem dX5_digest_5 : decode cX5_digest 5 = .ok (.ldc2_w 123, 3) := by decide +kernel
theorem dX5_digest_8 : decode cX5_digest 8 = .ok (.lstore_n 1, 1) := by decide +kernel
theorem dX5_digest_9 : decode cX5_digest 9 = .ok (.iconst 0, 1) := by decide +kernel
theorem dX5_digest_10 : decode cX5_digest 10 = .ok (.istore_n 3, 1) := by decide +kernel
theorem dX5_digest_11 : decode cX5_digest 11 = .ok (.iload_n 3, 1) := by decide +kernel
theorem dX5_digest_12 : decode cX5_digest 12 = .ok (.bipush 9, 2) := by decide +kernel
theorem dX5_digest_14 : decode cX5_digest 14 = .ok (.if_icmp .gt 25, 3) := by decide +kernel
theorem dX5_digest_17 : decode cX5_digest 17 = .ok (.lload_n 1, 1) := by decide +kernel
theorem dX5_digest_18 : decode cX5_digest 18 = .ok (.ldc2_w 125, 3) := by decide +kernel
theorem dX5_digest_21 : decode cX5_digest 21 = .ok (.lmul, 1) := by decide +kernel
theorem dX5_digest_22 : decode cX5_digest 22 = .ok (.aload_n 0, 1) := by decide +kernel
theorem dX5_digest_23 : decode cX5_digest 23 = .ok (.getfield 24, 3) := by decide +kernel
theorem dX5_digest_26 : decode cX5_digest 26 = .ok (.iload_n 3, 1) := by decide +kernel
theorem dX5_digest_27 : decode cX5_digest 27 = .ok (.invokevirtual 110, 3) := by decide +kernel
theorem dX5_digest_30 : decode cX5_digest 30 = .ok (.i2l, 1) := by decide +kernel
theorem dX5_digest_31 : decode cX5_digest 31 = .ok (.ladd, 1) := by decide +kernel
theorem dX5_digest_32 : decode cX5_digest 32 = .ok (.lstore_n 1, 1) := by decide +kernel
theorem dX5_digest_33 : decode cX5_digest 33 = .ok (.iinc 3 1, 3) := by decide +kernel
theorem dX5_digest_36 : decode cX5_digest 36 = .ok (.goto (-25), 3) := by decide +kernel
theorem dX5_digest_39 : decode cX5_digest 39 = .ok (.aload_n 0, 1) := by decide +kernel
theorem dX5_digest_40 : decode cX5_digest 40 = .ok (.getfield 7, 3) := by decide +kernel
theorem dX5_digest_43 : decode cX5_digest 43 = .ok (.astore_n 3, 1) := by decide +kernel
theorem dX5_digest_44 : decode cX5_digest 44 = .ok (.aload_n 3, 1) := by decide +kernel
theorem dX5_digest_45 : decode cX5_digest 45 = .ok (.arraylength, 1) := by decide +kernel
theorem dX5_digest_46 : decode cX5_digest 46 = .ok (.istore 4, 2) := by decide +kernel
theorem dX5_digest_48 : decode cX5_digest 48 = .ok (.iconst 0, 1) := by decide +kernel
theorem dX5_digest_49 : decode cX5_digest 49 = .ok (.istore 5, 2) := by decide +kernel
theorem dX5_digest_51 : decode cX5_digest 51 = .ok (.iload 5, 2) := by decide +kernel
theorem dX5_digest_53 : decode cX5_digest 53 = .ok (.iload 4, 2) := by decide +kernel
theorem dX5_digest_55 : decode cX5_digest 55 = .ok (.if_icmp .ge 25, 3) := by decide +kernel
theorem dX5_digest_58 : decode cX5_digest 58 = .ok (.aload_n 3, 1) := by decide +kernel
theorem dX5_digest_59 : decode cX5_digest 59 = .ok (.iload 5, 2) := by decide +kernel
theorem dX5_digest_61 : decode cX5_digest 61 = .ok (.iaload, 1) := by decide +kernel
theorem dX5_digest_62 : decode cX5_digest 62 = .ok (.istore 6, 2) := by decide +kernel
theorem dX5_digest_64 : decode cX5_digest 64 = .ok (.lload_n 1, 1) := by decide +kernel
theorem dX5_digest_65 : decode cX5_digest 65 = .ok (.ldc2_w 125, 3) := by decide +kernel
theorem dX5_digest_68 : decode cX5_digest 68 = .ok (.lmul, 1) := by decide +kernel
theorem dX5_digest_69 : decode cX5_digest 69 = .ok (.iload 6, 2) := by decide +kernel
theorem dX5_digest_71 : decode cX5_digest 71 = .ok (.i2l, 1) := by decide +kernel
theorem dX5_digest_72 : decode cX5_digest 72 = .ok (.ladd, 1) := by decide +kernel
theorem dX5_digest_73 : decode cX5_digest 73 = .ok (.lstore_n 1, 1) := by decide +kernel
theorem dX5_digest_74 : decode cX5_digest 74 = .ok (.iinc 5 1, 3) := by decide +kernel
theorem dX5_digest_77 : decode cX5_digest 77 = .ok (.goto (-26), 3) := by decide +kernel
theorem dX5_digest_80 : decode cX5_digest 80 = .ok (.iconst 0, 1) := by decide +kernel
theorem dX5_digest_81 : decode cX5_digest 81 = .ok (.istore_n 3, 1) := by decide +kernel
theorem dX5_digest_82 : decode cX5_digest 82 = .ok (.iload_n 3, 1) := by decide +kernel
theorem dX5_digest_83 : decode cX5_digest 83 = .ok (.bipush 60, 2) := by decide +kernel
theorem dX5_digest_85 : decode cX5_digest 85 = .ok (.if_icmp .ge 56, 3) := by decide +kernel
theorem dX5_digest_88 : decode cX5_digest 88 = .ok (.iconst 0, 1) := by decide +kernel
theorem dX5_digest_89 : decode cX5_digest 89 = .ok (.istore 4, 2) := by decide +kernel
theorem dX5_digest_91 : decode cX5_digest 91 = .ok (.iload 4, 2) := by decide +kernel
theorem dX5_digest_93 : decode cX5_digest 93 = .ok (.iconst 3, 1) := by decide +kernel
theorem dX5_digest_94 : decode cX5_digest 94 = .ok (.if_icmp .ge 41, 3) := by decide +kernel
theorem dX5_digest_97 : decode cX5_digest 97 = .ok (.iconst 0, 1) := by decide +kernel
theorem dX5_digest_98 : decode cX5_digest 98 = .ok (.istore 5, 2) := by decide +kernel
theorem dX5_digest_100 : decode cX5_digest 100 = .ok (.iload 5, 2) := by decide +kernel
theorem dX5_digest_102 : decode cX5_digest 102 = .ok (.iconst 3, 1) := by decide +kernel
theorem dX5_digest_103 : decode cX5_digest 103 = .ok (.if_icmp .gt 26, 3) := by decide +kernel
theorem dX5_digest_106 : decode cX5_digest 106 = .ok (.lload_n 1, 1) := by decide +kernel
theorem dX5_digest_107 : decode cX5_digest 107 = .ok (.ldc2_w 125, 3) := by decide +kernel
theorem dX5_digest_110 : decode cX5_digest 110 = .ok (.lmul, 1) := by decide +kernel
theorem dX5_digest_111 : decode cX5_digest 111 = .ok (.aload_n 0, 1) := by decide +kernel
theorem dX5_digest_112 : decode cX5_digest 112 = .ok (.iload 4, 2) := by decide +kernel
theorem dX5_digest_114 : decode cX5_digest 114 = .ok (.iload_n 3, 1) := by decide +kernel
theorem dX5_digest_115 : decode cX5_digest 115 = .ok (.iload 5, 2) := by decide +kernel
theorem dX5_digest_117 : decode cX5_digest 117 = .ok (.invokevirtual 63, 3) := by decide +kernel
theorem dX5_digest_120 : decode cX5_digest 120 = .ok (.i2l, 1) := by decide +kernel
theorem dX5_digest_121 : decode cX5_digest 121 = .ok (.ladd, 1) := by decide +kernel
theorem dX5_digest_122 : decode cX5_digest 122 = .ok (.lstore_n 1, 1) := by decide +kernel
theorem dX5_digest_123 : decode cX5_digest 123 = .ok (.iinc 5 1, 3) := by decide +kernel
theorem dX5_digest_126 : decode cX5_digest 126 = .ok (.goto (-26), 3) := by decide +kernel
theorem dX5_digest_129 : decode cX5_digest 129 = .ok (.iinc 4 1, 3) := by decide +kernel
theorem dX5_digest_132 : decode cX5_digest 132 = .ok (.goto (-41), 3) := by decide +kernel
theorem dX5_digest_135 : decode cX5_digest 135 = .ok (.iinc 3 1, 3) := by decide +kernel
theorem dX5_digest_138 : decode cX5_digest 138 = .ok (.goto (-56), 3) := by decide +kernel
theorem dX5_digest_141 : decode cX5_digest 141 = .ok (.iconst 0, 1) := by decide +kernel
theorem dX5_digest_142 : decode cX5_digest 142 = .ok (.istore_n 3, 1) := by decide +kernel
theorem dX5_digest_143 : decode cX5_digest 143 = .ok (.iload_n 3, 1) := by decide +kernel
theorem dX5_digest_144 : decode cX5_digest 144 = .ok (.aload_n 0, 1) := by decide +kernel
theorem dX5_digest_145 : decode cX5_digest 145 = .ok (.getfield 24, 3) := by decide +kernel
theorem dX5_digest_148 : decode cX5_digest 148 = .ok (.getfield 39, 3) := by decide +kernel
theorem dX5_digest_151 : decode cX5_digest 151 = .ok (.if_icmp .ge 53, 3) := by decide +kernel
theorem dX5_digest_154 : decode cX5_digest 154 = .ok (.iconst 0, 1) := by decide +kernel
theorem dX5_digest_155 : decode cX5_digest 155 = .ok (.istore 4, 2) := by decide +kernel
theorem dX5_digest_157 : decode cX5_digest 157 = .ok (.iload 4, 2) := by decide +kernel
theorem dX5_digest_159 : decode cX5_digest 159 = .ok (.bipush 8, 2) := by decide +kernel
theorem dX5_digest_161 : decode cX5_digest 161 = .ok (.if_icmp .gt 24, 3) := by decide +kernel
theorem dX5_digest_164 : decode cX5_digest 164 = .ok (.lload_n 1, 1) := by decide +kernel
theorem dX5_digest_165 : decode cX5_digest 165 = .ok (.ldc2_w 125, 3) := by decide +kernel
theorem dX5_digest_168 : decode cX5_digest 168 = .ok (.lmul, 1) := by decide +kernel
theorem dX5_digest_169 : decode cX5_digest 169 = .ok (.aload_n 0, 1) := by decide +kernel
theorem dX5_digest_170 : decode cX5_digest 170 = .ok (.iload_n 3, 1) := by decide +kernel
theorem dX5_digest_171 : decode cX5_digest 171 = .ok (.iload 4, 2) := by decide +kernel
theorem dX5_digest_173 : decode cX5_digest 173 = .ok (.invokevirtual 103, 3) := by decide +kernel
theorem dX5_digest_176 : decode cX5_digest 176 = .ok (.i2l, 1) := by decide +kernel
theorem dX5_digest_177 : decode cX5_digest 177 = .ok (.ladd, 1) := by decide +kernel
theorem dX5_digest_178 : decode cX5_digest 178 = .ok (.lstore_n 1, 1) := by decide +kernel
theorem dX5_digest_179 : decode cX5_digest 179 = .ok (.iinc 4 1, 3) := by decide +kernel
theorem dX5_digest_182 : decode cX5_digest 182 = .ok (.goto (-25), 3) := by decide +kernel
theorem dX5_digest_185 : decode cX5_digest 185 = .ok (.lload_n 1, 1) := by decide +kernel
theorem dX5_digest_186 : decode cX5_digest 186 = .ok (.ldc2_w 125, 3) := by decide +kernel
theorem dX5_digest_189 : decode cX5_digest 189 = .ok (.lmul, 1) := by decide +kernel
theorem dX5_digest_190 : decode cX5_digest 190 = .ok (.aload_n 0, 1) := by decide +kernel
theorem dX5_digest_191 : decode cX5_digest 191 = .ok (.iload_n 3, 1) := by decide +kernel
theorem dX5_digest_192 : decode cX5_digest 192 = .ok (.invokevirtual 107, 3) := by decide +kernel
theorem dX5_digest_195 : decode cX5_digest 195 = .ok (.i2l, 1) := by decide +kernel
theorem dX5_digest_196 : decode cX5_digest 196 = .ok (.ladd, 1) := by decide +kernel
theorem dX5_digest_197 : decode cX5_digest 197 = .ok (.lstore_n 1, 1) := by decide +kernel
theorem dX5_digest_198 : decode cX5_digest 198 = .ok (.iinc 3 1, 3) := by decide +kernel
theorem dX5_digest_201 : decode cX5_digest 201 = .ok (.goto (-58), 3) := by decide +kernel
theorem dX5_digest_204 : decode cX5_digest 204 = .ok (.lload_n 1, 1) := by decide +kernel
theorem dX5_digest_205 : decode cX5_digest 205 = .ok (.lreturn, 1) := by decide +kernel
