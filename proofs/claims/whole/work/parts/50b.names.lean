set_option maxRecDepth 20000 in
theorem ggX5_init_X4_init : GoodIn wsX5_init wsX4_init := goodIn_r _ [14, 15, 16, 2, 3, 4, 17, 18, 19, 20, 21, 22, 23, 24, 25, 26, 35, 36, 37, 38, 39, 40, 41, 42, 43, 44, 45, 46, 47] (by decide +kernel) (by decide +kernel)
set_option maxRecDepth 20000 in
theorem gX5_init_X4_init_n21 : GoodIn wsX5_init (wsX4_init) := ggX5_init_X4_init
theorem dX5_init_0 : decode cX5_init 0 = .ok (.aload_n 0, 1) := by decide +kernel
theorem dX5_init_1 : decode cX5_init 1 = .ok (.invokespecial 1, 3) := by decide +kernel
theorem dX5_init_4 : decode cX5_init 4 = .ok (.aload_n 0, 1) := by decide +kernel
theorem dX5_init_5 : decode cX5_init 5 = .ok (.iconst 3, 1) := by decide +kernel
theorem dX5_init_6 : decode cX5_init 6 = .ok (.newarray .int, 2) := by decide +kernel
theorem dX5_init_8 : decode cX5_init 8 = .ok (.dup, 1) := by decide +kernel
theorem dX5_init_9 : decode cX5_init 9 = .ok (.iconst 0, 1) := by decide +kernel
theorem dX5_init_10 : decode cX5_init 10 = .ok (.iconst 2, 1) := by decide +kernel
theorem dX5_init_11 : decode cX5_init 11 = .ok (.iastore, 1) := by decide +kernel
theorem dX5_init_12 : decode cX5_init 12 = .ok (.dup, 1) := by decide +kernel
theorem dX5_init_13 : decode cX5_init 13 = .ok (.iconst 1, 1) := by decide +kernel
theorem dX5_init_14 : decode cX5_init 14 = .ok (.iconst 3, 1) := by decide +kernel
theorem dX5_init_15 : decode cX5_init 15 = .ok (.iastore, 1) := by decide +kernel
theorem dX5_init_16 : decode cX5_init 16 = .ok (.dup, 1) := by decide +kernel
theorem dX5_init_17 : decode cX5_init 17 = .ok (.iconst 2, 1) := by decide +kernel
theorem dX5_init_18 : decode cX5_init 18 = .ok (.iconst 2, 1) := by decide +kernel
theorem dX5_init_19 : decode cX5_init 19 = .ok (.iastore, 1) := by decide +kernel
theorem dX5_init_20 : decode cX5_init 20 = .ok (.putfield 7, 3) := by decide +kernel
theorem dX5_init_23 : decode cX5_init 23 = .ok (.aload_n 0, 1) := by decide +kernel
theorem dX5_init_24 : decode cX5_init 24 = .ok (.bipush 60, 2) := by decide +kernel
theorem dX5_init_26 : decode cX5_init 26 = .ok (.newarray .int, 2) := by decide +kernel
theorem dX5_init_28 : decode cX5_init 28 = .ok (.putfield 13, 3) := by decide +kernel
theorem dX5_init_31 : decode cX5_init 31 = .ok (.aload_n 0, 1) := by decide +kernel
theorem dX5_init_32 : decode cX5_init 32 = .ok (.sipush 180, 3) := by decide +kernel
theorem dX5_init_35 : decode cX5_init 35 = .ok (.newarray .int, 2) := by decide +kernel
theorem dX5_init_37 : decode cX5_init 37 = .ok (.putfield 16, 3) := by decide +kernel
theorem dX5_init_40 : decode cX5_init 40 = .ok (.aload_n 0, 1) := by decide +kernel
theorem dX5_init_41 : decode cX5_init 41 = .ok (.new 19, 3) := by decide +kernel
theorem dX5_init_44 : decode cX5_init 44 = .ok (.dup, 1) := by decide +kernel
theorem dX5_init_45 : decode cX5_init 45 = .ok (.aload_n 0, 1) := by decide +kernel
theorem dX5_init_46 : decode cX5_init 46 = .ok (.invokespecial 21, 3) := by decide +kernel
theorem dX5_init_49 : decode cX5_init 49 = .ok (.putfield 24, 3) := by decide +kernel
theorem dX5_init_52 : decode cX5_init 52 = .ok (.aload_n 0, 1) := by decide +kernel
theorem dX5_init_53 : decode cX5_init 53 = .ok (.new 19, 3) := by decide +kernel
theorem dX5_init_56 : decode cX5_init 56 = .ok (.dup, 1) := by decide +kernel
theorem dX5_init_57 : decode cX5_init 57 = .ok (.aload_n 0, 1) := by decide +kernel
theorem dX5_init_58 : decode cX5_init 58 = .ok (.invokespecial 21, 3) := by decide +kernel
theorem dX5_init_61 : decode cX5_init 61 = .ok (.putfield 28, 3) := by decide +kernel
theorem dX5_init_64 : decode cX5_init 64 = .ok (.return_, 1) := by decide +kernel
theorem dX5_thrown_0 : decode cX5_thrown 0 = .ok (.aload_n 0, 1) := by decide +kernel
theorem dX5_thrown_1 : decode cX5_thrown 1 = .ok (.getfield 31, 3) := by decide +kernel
theorem dX5_thrown_4 : decode cX5_thrown 4 = .ok (.ireturn, 1) := by decide +kernel
theorem dX5_no_0 : decode cX5_no 0 = .ok (.aload_n 0, 1) := by decide +kernel
theorem dX5_no_1 : decode cX5_no 1 = .ok (.iload_n 1, 1) := by decide +kernel
theorem dX5_no_2 : decode cX5_no 2 = .ok (.putfield 31, 3) := by decide +kernel
theorem dX5_no_5 : decode cX5_no 5 = .ok (.iconst 0, 1) := by decide +kernel
theorem dX5_no_6 : decode cX5_no 6 = .ok (.ireturn, 1) := by decide +kernel
theorem dX5_isIn_0 : decode cX5_isIn 0 = .ok (.iload_n 0, 1) := by decide +kernel
theorem dX5_isIn_1 : decode cX5_isIn 1 = .ok (.iload_n 1, 1) := by decide +kernel
theorem dX5_isIn_2 : decode cX5_isIn 2 = .ok (.if_icmp .lt 12, 3) := by decide +kernel
theorem dX5_isIn_5 : decode cX5_isIn 5 = .ok (.iload_n 0, 1) := by decide +kernel
theorem dX5_isIn_6 : decode cX5_isIn 6 = .ok (.iload_n 2, 1) := by decide +kernel
theorem dX5_isIn_7 : decode cX5_isIn 7 = .ok (.if_icmp .gt 7, 3) := by decide +kernel
theorem dX5_isIn_10 : decode cX5_isIn 10 = .ok (.iconst 1, 1) := by decide +kernel
theorem dX5_isIn_11 : decode cX5_isIn 11 = .ok (.goto 4, 3) := by decide +kernel
theorem dX5_isIn_14 : decode cX5_isIn 14 = .ok (.iconst 0, 1) := by decide +kernel
theorem dX5_isIn_15 : decode cX5_isIn 15 = .ok (.ireturn, 1) := by decide +kernel
set_option maxRecDepth 20000 in
theorem ggX5_isLane_X5_isIn : GoodIn wsX5_isLane wsX5_isIn := goodIn_r _ [4] (by decide +kernel) (by decide +kernel)
set_option maxRecDepth 20000 in
theorem gX5_isLane_X5_isIn : GoodIn wsX5_isLane (va_wsS RX5 35 yX5_isIn wsX5_isIn) := goodIn_app (goodIn_of _ (by decide +kernel)) ggX5_isLane_X5_isIn
theorem dX5_isLane_0 : decode cX5_isLane 0 = .ok (.iload_n 0, 1) := by decide +kernel
theorem dX5_isLane_1 : decode cX5_isLane 1 = .ok (.iconst 0, 1) := by decide +kernel
theorem dX5_isLane_2 : decode cX5_isLane 2 = .ok (.iconst 2, 1) := by decide +kernel
theorem dX5_isLane_3 : decode cX5_isLane 3 = .ok (.invokestatic 35, 3) := by decide +kernel
theorem dX5_isLane_6 : decode cX5_isLane 6 = .ok (.ireturn, 1) := by decide +kernel
set_option maxRecDepth 20000 in
theorem ggX5_isPlace_X5_isIn : GoodIn wsX5_isPlace wsX5_isIn := goodIn_r _ [4] (by decide +kernel) (by decide +kernel)
set_option maxRecDepth 20000 in
theorem gX5_isPlace_X5_isIn : GoodIn wsX5_isPlace (va_wsS RX5 35 yX5_isIn wsX5_isIn) := goodIn_app (goodIn_of _ (by decide +kernel)) ggX5_isPlace_X5_isIn
theorem dX5_isPlace_0 : decode cX5_isPlace 0 = .ok (.iload_n 0, 1) := by decide +kernel
theorem dX5_isPlace_1 : decode cX5_isPlace 1 = .ok (.iconst 0, 1) := by decide +kernel
theorem dX5_isPlace_2 : decode cX5_isPlace 2 = .ok (.bipush 59, 2) := by decide +kernel
theorem dX5_isPlace_4 : decode cX5_isPlace 4 = .ok (.invokestatic 35, 3) := by decide +kernel
theorem dX5_isPlace_7 : decode cX5_isPlace 7 = .ok (.ireturn, 1) := by decide +kernel
set_option maxRecDepth 20000 in
theorem ggX5_isLantern_X5_isIn : GoodIn wsX5_isLantern wsX5_isIn := goodIn_r _ [5] (by decide +kernel) (by decide +kernel)
set_option maxRecDepth 20000 in
theorem gX5_isLantern_X5_isIn : GoodIn wsX5_isLantern (va_wsS RX5 35 yX5_isIn wsX5_isIn) := goodIn_app (goodIn_of _ (by decide +kernel)) ggX5_isLantern_X5_isIn
theorem dX5_isLantern_0 : decode cX5_isLantern 0 = .ok (.iload_n 1, 1) := by decide +kernel
theorem dX5_isLantern_1 : decode cX5_isLantern 1 = .ok (.iconst 0, 1) := by decide +kernel
theorem dX5_isLantern_2 : decode cX5_isLantern 2 = .ok (.aload_n 0, 1) := by decide +kernel
theorem dX5_isLantern_3 : decode cX5_isLantern 3 = .ok (.getfield 24, 3) := by decide +kernel
theorem dX5_isLantern_6 : decode cX5_isLantern 6 = .ok (.getfield 39, 3) := by decide +kernel
theorem dX5_isLantern_9 : decode cX5_isLantern 9 = .ok (.iconst 1, 1) := by decide +kernel
theorem dX5_isLantern_10 : decode cX5_isLantern 10 = .ok (.isub, 1) := by decide +kernel
theorem dX5_isLantern_11 : decode cX5_isLantern 11 = .ok (.invokestatic 35, 3) := by decide +kernel
theorem dX5_isLantern_14 : decode cX5_isLantern 14 = .ok (.ireturn, 1) := by decide +kernel
set_option maxRecDepth 20000 in
theorem ggX5_setCurrent_X5_isLane : GoodIn wsX5_setCurrent wsX5_isLane := goodIn_r _ [6, 7, 8, 5, 9] (by decide +kernel) (by decide +kernel)
set_option maxRecDepth 20000 in
theorem gX5_setCurrent_X5_isLane : GoodIn wsX5_setCurrent (va_wsS RX5 42 yX5_isLane wsX5_isLane) := goodIn_app (goodIn_of _ (by decide +kernel)) ggX5_setCurrent_X5_isLane
set_option maxRecDepth 20000 in
theorem ggX5_setCurrent_X5_no : GoodIn wsX5_setCurrent wsX5_no := goodIn_r _ [13, 1, 14, 15, 16, 17, 18, 19, 20, 21] (by decide +kernel) (by decide +kernel)
set_option maxRecDepth 20000 in
theorem gX5_setCurrent_X5_no : GoodIn wsX5_setCurrent (wsV RX5 46 RX5 yX5_no wsX5_no) := goodIn_app (goodIn_of _ (by decide +kernel)) ggX5_setCurrent_X5_no
set_option maxRecDepth 20000 in
theorem ggX5_setCurrent_X5_isIn : GoodIn wsX5_setCurrent wsX5_isIn := goodIn_r _ [9] (by decide +kernel) (by decide +kernel)
set_option maxRecDepth 20000 in
theorem gX5_setCurrent_X5_isIn : GoodIn wsX5_setCurrent (va_wsS RX5 35 yX5_isIn wsX5_isIn) := goodIn_app (goodIn_of _ (by decide +kernel)) ggX5_setCurrent_X5_isIn
theorem dX5_setCurrent_0 : decode cX5_setCurrent 0 = .ok (.aload_n 0, 1) := by decide +kernel
theorem dX5_setCurrent_1 : decode cX5_setCurrent 1 = .ok (.iconst 0, 1) := by decide +kernel
theorem dX5_setCurrent_2 : decode cX5_setCurrent 2 = .ok (.putfield 31, 3) := by decide +kernel
theorem dX5_setCurrent_5 : decode cX5_setCurrent 5 = .ok (.iload_n 1, 1) := by decide +kernel
theorem dX5_setCurrent_6 : decode cX5_setCurrent 6 = .ok (.invokestatic 42, 3) := by decide +kernel
theorem dX5_setCurrent_9 : decode cX5_setCurrent 9 = .ok (.ifCond .ne 9, 3) := by decide +kernel
theorem dX5_setCurrent_12 : decode cX5_setCurrent 12 = .ok (.aload_n 0, 1) := by decide +kernel
theorem dX5_setCurrent_13 : decode cX5_setCurrent 13 = .ok (.iconst 1, 1) := by decide +kernel
theorem dX5_setCurrent_14 : decode cX5_setCurrent 14 = .ok (.invokevirtual 46, 3) := by decide +kernel
theorem dX5_setCurrent_17 : decode cX5_setCurrent 17 = .ok (.ireturn, 1) := by decide +kernel
theorem dX5_setCurrent_18 : decode cX5_setCurrent 18 = .ok (.iload_n 2, 1) := by decide +kernel
theorem dX5_setCurrent_19 : decode cX5_setCurrent 19 = .ok (.iconst 1, 1) := by decide +kernel
theorem dX5_setCurrent_20 : decode cX5_setCurrent 20 = .ok (.iconst 5, 1) := by decide +kernel
theorem dX5_setCurrent_21 : decode cX5_setCurrent 21 = .ok (.invokestatic 35, 3) := by decide +kernel
theorem dX5_setCurrent_24 : decode cX5_setCurrent 24 = .ok (.ifCond .ne 9, 3) := by decide +kernel
theorem dX5_setCurrent_27 : decode cX5_setCurrent 27 = .ok (.aload_n 0, 1) := by decide +kernel
theorem dX5_setCurrent_28 : decode cX5_setCurrent 28 = .ok (.iconst 2, 1) := by decide +kernel
theorem dX5_setCurrent_29 : decode cX5_setCurrent 29 = .ok (.invokevirtual 46, 3) := by decide +kernel
theorem dX5_setCurrent_32 : decode cX5_setCurrent 32 = .ok (.ireturn, 1) := by decide +kernel
theorem dX5_setCurrent_33 : decode cX5_setCurrent 33 = .ok (.aload_n 0, 1) := by decide +kernel
theorem dX5_setCurrent_34 : decode cX5_setCurrent 34 = .ok (.getfield 7, 3) := by decide +kernel
theorem dX5_setCurrent_37 : decode cX5_setCurrent 37 = .ok (.iload_n 1, 1) := by decide +kernel
theorem dX5_setCurrent_38 : decode cX5_setCurrent 38 = .ok (.iaload, 1) := by decide +kernel
theorem dX5_setCurrent_39 : decode cX5_setCurrent 39 = .ok (.istore_n 3, 1) := by decide +kernel
theorem dX5_setCurrent_40 : decode cX5_setCurrent 40 = .ok (.aload_n 0, 1) := by decide +kernel
theorem dX5_setCurrent_41 : decode cX5_setCurrent 41 = .ok (.getfield 7, 3) := by decide +kernel
theorem dX5_setCurrent_44 : decode cX5_setCurrent 44 = .ok (.iload_n 1, 1) := by decide +kernel
theorem dX5_setCurrent_45 : decode cX5_setCurrent 45 = .ok (.iload_n 2, 1) := by decide +kernel
theorem dX5_setCurrent_46 : decode cX5_setCurrent 46 = .ok (.iastore, 1) := by decide +kernel
theorem dX5_setCurrent_47 : decode cX5_setCurrent 47 = .ok (.iload_n 3, 1) := by decide +kernel
theorem dX5_setCurrent_48 : decode cX5_setCurrent 48 = .ok (.ireturn, 1) := by decide +kernel
set_option maxRecDepth 20000 in
theorem ggX5_weir_X5_isPlace : GoodIn wsX5_weir wsX5_isPlace := goodIn_r _ [7, 8, 9, 6, 10] (by decide +kernel) (by decide +kernel)
set_option maxRecDepth 20000 in
theorem gX5_weir_X5_isPlace : GoodIn wsX5_weir (va_wsS RX5 50 yX5_isPlace wsX5_isPlace) := goodIn_app (goodIn_of _ (by decide +kernel)) ggX5_weir_X5_isPlace
set_option maxRecDepth 20000 in
theorem ggX5_weir_X5_no : GoodIn wsX5_weir wsX5_no := goodIn_r _ [14, 1, 15, 16, 17, 18, 19, 20, 21, 22] (by decide +kernel) (by decide +kernel)
set_option maxRecDepth 20000 in
theorem gX5_weir_X5_no : GoodIn wsX5_weir (wsV RX5 46 RX5 yX5_no wsX5_no) := goodIn_app (goodIn_of _ (by decide +kernel)) ggX5_weir_X5_no
set_option maxRecDepth 20000 in
theorem ggX5_weir_X5_isIn : GoodIn wsX5_weir wsX5_isIn := goodIn_r _ [10] (by decide +kernel) (by decide +kernel)
set_option maxRecDepth 20000 in
theorem gX5_weir_X5_isIn : GoodIn wsX5_weir (va_wsS RX5 35 yX5_isIn wsX5_isIn) := goodIn_app (goodIn_of _ (by decide +kernel)) ggX5_weir_X5_isIn
theorem dX5_weir_0 : decode cX5_weir 0 = .ok (.aload_n 0, 1) := by decide +kernel
theorem dX5_weir_1 : decode cX5_weir 1 = .ok (.iconst 0, 1) := by decide +kernel
theorem dX5_weir_2 : decode cX5_weir 2 = .ok (.putfield 31, 3) := by decide +kernel
theorem dX5_weir_5 : decode cX5_weir 5 = .ok (.iload_n 1, 1) := by decide +kernel
theorem dX5_weir_6 : decode cX5_weir 6 = .ok (.invokestatic 50, 3) := by decide +kernel
theorem dX5_weir_9 : decode cX5_weir 9 = .ok (.ifCond .eq 7, 3) := by decide +kernel
theorem dX5_weir_12 : decode cX5_weir 12 = .ok (.iload_n 1, 1) := by decide +kernel
theorem dX5_weir_13 : decode cX5_weir 13 = .ok (.ifCond .ne 9, 3) := by decide +kernel
theorem dX5_weir_16 : decode cX5_weir 16 = .ok (.aload_n 0, 1) := by decide +kernel
theorem dX5_weir_17 : decode cX5_weir 17 = .ok (.iconst 1, 1) := by decide +kernel
theorem dX5_weir_18 : decode cX5_weir 18 = .ok (.invokevirtual 46, 3) := by decide +kernel
theorem dX5_weir_21 : decode cX5_weir 21 = .ok (.ireturn, 1) := by decide +kernel
theorem dX5_weir_22 : decode cX5_weir 22 = .ok (.iload_n 2, 1) := by decide +kernel
theorem dX5_weir_23 : decode cX5_weir 23 = .ok (.iconst 1, 1) := by decide +kernel
theorem dX5_weir_24 : decode cX5_weir 24 = .ok (.bipush 9, 2) := by decide +kernel
theorem dX5_weir_26 : decode cX5_weir 26 = .ok (.invokestatic 35, 3) := by decide +kernel
theorem dX5_weir_29 : decode cX5_weir 29 = .ok (.ifCond .ne 9, 3) := by decide +kernel
theorem dX5_weir_32 : decode cX5_weir 32 = .ok (.aload_n 0, 1) := by decide +kernel
theorem dX5_weir_33 : decode cX5_weir 33 = .ok (.iconst 2, 1) := by decide +kernel
theorem dX5_weir_34 : decode cX5_weir 34 = .ok (.invokevirtual 46, 3) := by decide +kernel
theorem dX5_weir_37 : decode cX5_weir 37 = .ok (.ireturn, 1) := by decide +kernel
theorem dX5_weir_38 : decode cX5_weir 38 = .ok (.aload_n 0, 1) := by decide +kernel
theorem dX5_weir_39 : decode cX5_weir 39 = .ok (.getfield 53, 3) := by decide +kernel
theorem dX5_weir_42 : decode cX5_weir 42 = .ok (.bipush 6, 2) := by decide +kernel
theorem dX5_weir_44 : decode cX5_weir 44 = .ok (.if_icmp .eq 12, 3) := by decide +kernel
theorem dX5_weir_47 : decode cX5_weir 47 = .ok (.aload_n 0, 1) := by decide +kernel
theorem dX5_weir_48 : decode cX5_weir 48 = .ok (.getfield 13, 3) := by decide +kernel
theorem dX5_weir_51 : decode cX5_weir 51 = .ok (.iload_n 1, 1) := by decide +kernel
theorem dX5_weir_52 : decode cX5_weir 52 = .ok (.iaload, 1) := by decide +kernel
theorem dX5_weir_53 : decode cX5_weir 53 = .ok (.ifCond .le 9, 3) := by decide +kernel
theorem dX5_weir_56 : decode cX5_weir 56 = .ok (.aload_n 0, 1) := by decide +kernel
theorem dX5_weir_57 : decode cX5_weir 57 = .ok (.iconst 3, 1) := by decide +kernel
theorem dX5_weir_58 : decode cX5_weir 58 = .ok (.invokevirtual 46, 3) := by decide +kernel
theorem dX5_weir_61 : decode cX5_weir 61 = .ok (.ireturn, 1) := by decide +kernel
theorem dX5_weir_62 : decode cX5_weir 62 = .ok (.aload_n 0, 1) := by decide +kernel
theorem dX5_weir_63 : decode cX5_weir 63 = .ok (.getfield 13, 3) := by decide +kernel
theorem dX5_weir_66 : decode cX5_weir 66 = .ok (.iload_n 1, 1) := by decide +kernel
theorem dX5_weir_67 : decode cX5_weir 67 = .ok (.iload_n 2, 1) := by decide +kernel
theorem dX5_weir_68 : decode cX5_weir 68 = .ok (.iastore, 1) := by decide +kernel
theorem dX5_weir_69 : decode cX5_weir 69 = .ok (.aload_n 0, 1) := by decide +kernel
theorem dX5_weir_70 : decode cX5_weir 70 = .ok (.dup, 1) := by decide +kernel
theorem dX5_weir_71 : decode cX5_weir 71 = .ok (.getfield 53, 3) := by decide +kernel
theorem dX5_weir_74 : decode cX5_weir 74 = .ok (.iconst 1, 1) := by decide +kernel
theorem dX5_weir_75 : decode cX5_weir 75 = .ok (.iadd, 1) := by decide +kernel
theorem dX5_weir_76 : decode cX5_weir 76 = .ok (.putfield 53, 3) := by decide +kernel
theorem dX5_weir_79 : decode cX5_weir 79 = .ok (.aload_n 0, 1) := by decide +kernel
theorem dX5_weir_80 : decode cX5_weir 80 = .ok (.getfield 53, 3) := by decide +kernel
theorem dX5_weir_83 : decode cX5_weir 83 = .ok (.ireturn, 1) := by decide +kernel
set_option maxRecDepth 20000 in
theorem ggX5_net_X5_isLane : GoodIn wsX5_net wsX5_isLane := goodIn_r _ [7, 8, 9, 6, 10] (by decide +kernel) (by decide +kernel)
set_option maxRecDepth 20000 in
theorem gX5_net_X5_isLane : GoodIn wsX5_net (va_wsS RX5 42 yX5_isLane wsX5_isLane) := goodIn_app (goodIn_of _ (by decide +kernel)) ggX5_net_X5_isLane
set_option maxRecDepth 20000 in
theorem ggX5_net_X5_isPlace : GoodIn wsX5_net wsX5_isPlace := goodIn_r _ [13, 8, 9, 6, 10] (by decide +kernel) (by decide +kernel)
set_option maxRecDepth 20000 in
theorem gX5_net_X5_isPlace : GoodIn wsX5_net (va_wsS RX5 50 yX5_isPlace wsX5_isPlace) := goodIn_app (goodIn_of _ (by decide +kernel)) ggX5_net_X5_isPlace
set_option maxRecDepth 20000 in
theorem ggX5_net_X5_no : GoodIn wsX5_net wsX5_no := goodIn_r _ [17, 1, 18, 19, 20, 21, 22, 23, 24, 25] (by decide +kernel) (by decide +kernel)
set_option maxRecDepth 20000 in
theorem gX5_net_X5_no : GoodIn wsX5_net (wsV RX5 46 RX5 yX5_no wsX5_no) := goodIn_app (goodIn_of _ (by decide +kernel)) ggX5_net_X5_no
theorem dX5_net_0 : decode cX5_net 0 = .ok (.aload_n 0, 1) := by decide +kernel
theorem dX5_net_1 : decode cX5_net 1 = .ok (.iconst 0, 1) := by decide +kernel
theorem dX5_net_2 : decode cX5_net 2 = .ok (.putfield 31, 3) := by decide +kernel
theorem dX5_net_5 : decode cX5_net 5 = .ok (.iload_n 1, 1) := by decide +kernel
theorem dX5_net_6 : decode cX5_net 6 = .ok (.invokestatic 42, 3) := by decide +kernel
theorem dX5_net_9 : decode cX5_net 9 = .ok (.ifCond .eq 14, 3) := by decide +kernel
theorem dX5_net_12 : decode cX5_net 12 = .ok (.iload_n 2, 1) := by decide +kernel
theorem dX5_net_13 : decode cX5_net 13 = .ok (.invokestatic 50, 3) := by decide +kernel
theorem dX5_net_16 : decode cX5_net 16 = .ok (.ifCond .eq 7, 3) := by decide +kernel
theorem dX5_net_19 : decode cX5_net 19 = .ok (.iload_n 2, 1) := by decide +kernel
theorem dX5_net_20 : decode cX5_net 20 = .ok (.ifCond .ne 9, 3) := by decide +kernel
theorem dX5_net_23 : decode cX5_net 23 = .ok (.aload_n 0, 1) := by decide +kernel
theorem dX5_net_24 : decode cX5_net 24 = .ok (.iconst 1, 1) := by decide +kernel
theorem dX5_net_25 : decode cX5_net 25 = .ok (.invokevirtual 46, 3) := by decide +kernel
theorem dX5_net_28 : decode cX5_net 28 = .ok (.ireturn, 1) := by decide +kernel
theorem dX5_net_29 : decode cX5_net 29 = .ok (.aload_n 0, 1) := by decide +kernel
theorem dX5_net_30 : decode cX5_net 30 = .ok (.getfield 56, 3) := by decide +kernel
theorem dX5_net_33 : decode cX5_net 33 = .ok (.iconst 4, 1) := by decide +kernel
theorem dX5_net_34 : decode cX5_net 34 = .ok (.if_icmp .eq 18, 3) := by decide +kernel
theorem dX5_net_37 : decode cX5_net 37 = .ok (.aload_n 0, 1) := by decide +kernel
theorem dX5_net_38 : decode cX5_net 38 = .ok (.getfield 16, 3) := by decide +kernel
theorem dX5_net_41 : decode cX5_net 41 = .ok (.bipush 60, 2) := by decide +kernel
theorem dX5_net_43 : decode cX5_net 43 = .ok (.iload_n 1, 1) := by decide +kernel
theorem dX5_net_44 : decode cX5_net 44 = .ok (.imul, 1) := by decide +kernel
theorem dX5_net_45 : decode cX5_net 45 = .ok (.iload_n 2, 1) := by decide +kernel
theorem dX5_net_46 : decode cX5_net 46 = .ok (.iadd, 1) := by decide +kernel
theorem dX5_net_47 : decode cX5_net 47 = .ok (.iaload, 1) := by decide +kernel
theorem dX5_net_48 : decode cX5_net 48 = .ok (.iconst 1, 1) := by decide +kernel
theorem dX5_net_49 : decode cX5_net 49 = .ok (.if_icmp .ne 9, 3) := by decide +kernel
theorem dX5_net_52 : decode cX5_net 52 = .ok (.aload_n 0, 1) := by decide +kernel
theorem dX5_net_53 : decode cX5_net 53 = .ok (.iconst 2, 1) := by decide +kernel
theorem dX5_net_54 : decode cX5_net 54 = .ok (.invokevirtual 46, 3) := by decide +kernel
theorem dX5_net_57 : decode cX5_net 57 = .ok (.ireturn, 1) := by decide +kernel
theorem dX5_net_58 : decode cX5_net 58 = .ok (.aload_n 0, 1) := by decide +kernel
theorem dX5_net_59 : decode cX5_net 59 = .ok (.getfield 16, 3) := by decide +kernel
theorem dX5_net_62 : decode cX5_net 62 = .ok (.bipush 60, 2) := by decide +kernel
theorem dX5_net_64 : decode cX5_net 64 = .ok (.iload_n 1, 1) := by decide +kernel
theorem dX5_net_65 : decode cX5_net 65 = .ok (.imul, 1) := by decide +kernel
theorem dX5_net_66 : decode cX5_net 66 = .ok (.iload_n 2, 1) := by decide +kernel
theorem dX5_net_67 : decode cX5_net 67 = .ok (.iadd, 1) := by decide +kernel
theorem dX5_net_68 : decode cX5_net 68 = .ok (.iconst 1, 1) := by decide +kernel
theorem dX5_net_69 : decode cX5_net 69 = .ok (.iastore, 1) := by decide +kernel
theorem dX5_net_70 : decode cX5_net 70 = .ok (.aload_n 0, 1) := by decide +kernel
theorem dX5_net_71 : decode cX5_net 71 = .ok (.dup, 1) := by decide +kernel
theorem dX5_net_72 : decode cX5_net 72 = .ok (.getfield 56, 3) := by decide +kernel
theorem dX5_net_75 : decode cX5_net 75 = .ok (.iconst 1, 1) := by decide +kernel
theorem dX5_net_76 : decode cX5_net 76 = .ok (.iadd, 1) := by decide +kernel
theorem dX5_net_77 : decode cX5_net 77 = .ok (.putfield 56, 3) := by decide +kernel
theorem dX5_net_80 : decode cX5_net 80 = .ok (.aload_n 0, 1) := by decide +kernel
theorem dX5_net_81 : decode cX5_net 81 = .ok (.getfield 56, 3) := by decide +kernel
theorem dX5_net_84 : decode cX5_net 84 = .ok (.ireturn, 1) := by decide +kernel
set_option maxRecDepth 20000 in
theorem ggX5_riverTold_X4_at : GoodIn wsX5_riverTold wsX4_at := goodIn_r _ [8, 9, 10, 11, 12, 21, 22, 23, 24, 25, 26, 27, 28, 29, 30, 31, 32, 33] (by decide +kernel) (by decide +kernel)
set_option maxRecDepth 20000 in
theorem gX5_riverTold_X4_at : GoodIn wsX5_riverTold (wsV RX5 59 RX4 yX4_at wsX4_at) := goodIn_app (goodIn_of _ (by decide +kernel)) ggX5_riverTold_X4_at
theorem dX5_riverTold_0 : decode cX5_riverTold 0 = .ok (.iload_n 3, 1) := by decide +kernel
theorem dX5_riverTold_1 : decode cX5_riverTold 1 = .ok (.tableswitch 57 0 2 #[27, 38, 45], 27) := by decide +kernel
theorem dX5_riverTold_28 : decode cX5_riverTold 28 = .ok (.aload_n 0, 1) := by decide +kernel
theorem dX5_riverTold_29 : decode cX5_riverTold 29 = .ok (.getfield 24, 3) := by decide +kernel
theorem dX5_riverTold_32 : decode cX5_riverTold 32 = .ok (.iload_n 1, 1) := by decide +kernel
theorem dX5_riverTold_33 : decode cX5_riverTold 33 = .ok (.iload_n 2, 1) := by decide +kernel
theorem dX5_riverTold_34 : decode cX5_riverTold 34 = .ok (.iconst 0, 1) := by decide +kernel
theorem dX5_riverTold_35 : decode cX5_riverTold 35 = .ok (.invokevirtual 59, 3) := by decide +kernel
theorem dX5_riverTold_38 : decode cX5_riverTold 38 = .ok (.ireturn, 1) := by decide +kernel
theorem dX5_riverTold_39 : decode cX5_riverTold 39 = .ok (.aload_n 0, 1) := by decide +kernel
theorem dX5_riverTold_40 : decode cX5_riverTold 40 = .ok (.getfield 13, 3) := by decide +kernel
theorem dX5_riverTold_43 : decode cX5_riverTold 43 = .ok (.iload_n 2, 1) := by decide +kernel
theorem dX5_riverTold_44 : decode cX5_riverTold 44 = .ok (.iaload, 1) := by decide +kernel
theorem dX5_riverTold_45 : decode cX5_riverTold 45 = .ok (.ireturn, 1) := by decide +kernel
theorem dX5_riverTold_46 : decode cX5_riverTold 46 = .ok (.aload_n 0, 1) := by decide +kernel
theorem dX5_riverTold_47 : decode cX5_riverTold 47 = .ok (.getfield 16, 3) := by decide +kernel
theorem dX5_riverTold_50 : decode cX5_riverTold 50 = .ok (.bipush 60, 2) := by decide +kernel
theorem dX5_riverTold_52 : decode cX5_riverTold 52 = .ok (.iload_n 1, 1) := by decide +kernel
theorem dX5_riverTold_53 : decode cX5_riverTold 53 = .ok (.imul, 1) := by decide +kernel
theorem dX5_riverTold_54 : decode cX5_riverTold 54 = .ok (.iload_n 2, 1) := by decide +kernel
theorem dX5_riverTold_55 : decode cX5_riverTold 55 = .ok (.iadd, 1) := by decide +kernel
theorem dX5_riverTold_56 : decode cX5_riverTold 56 = .ok (.iaload, 1) := by decide +kernel
theorem dX5_riverTold_57 : decode cX5_riverTold 57 = .ok (.ireturn, 1) := by decide +kernel
theorem dX5_riverTold_58 : decode cX5_riverTold 58 = .ok (.aload_n 0, 1) := by decide +kernel
theorem dX5_riverTold_59 : decode cX5_riverTold 59 = .ok (.getfield 24, 3) := by decide +kernel
theorem dX5_riverTold_62 : decode cX5_riverTold 62 = .ok (.iload_n 1, 1) := by decide +kernel
theorem dX5_riverTold_63 : decode cX5_riverTold 63 = .ok (.iload_n 2, 1) := by decide +kernel
theorem dX5_riverTold_64 : decode cX5_riverTold 64 = .ok (.iconst 1, 1) := by decide +kernel
theorem dX5_riverTold_65 : decode cX5_riverTold 65 = .ok (.invokevirtual 59, 3) := by decide +kernel
theorem dX5_riverTold_68 : decode cX5_riverTold 68 = .ok (.ireturn, 1) := by decide +kernel
set_option maxRecDepth 20000 in
theorem ggX5_river_X5_isLane : GoodIn wsX5_river wsX5_isLane := goodIn_r _ [5, 6, 7, 4, 8] (by decide +kernel) (by decide +kernel)
set_option maxRecDepth 20000 in
theorem gX5_river_X5_isLane : GoodIn wsX5_river (va_wsS RX5 42 yX5_isLane wsX5_isLane) := goodIn_app (goodIn_of _ (by decide +kernel)) ggX5_river_X5_isLane
set_option maxRecDepth 20000 in
theorem ggX5_river_X5_isPlace : GoodIn wsX5_river wsX5_isPlace := goodIn_r _ [11, 6, 7, 4, 8] (by decide +kernel) (by decide +kernel)
set_option maxRecDepth 20000 in
theorem gX5_river_X5_isPlace : GoodIn wsX5_river (va_wsS RX5 50 yX5_isPlace wsX5_isPlace) := goodIn_app (goodIn_of _ (by decide +kernel)) ggX5_river_X5_isPlace
set_option maxRecDepth 20000 in
theorem ggX5_river_X5_isIn : GoodIn wsX5_river wsX5_isIn := goodIn_r _ [8] (by decide +kernel) (by decide +kernel)
set_option maxRecDepth 20000 in
theorem gX5_river_X5_isIn : GoodIn wsX5_river (va_wsS RX5 35 yX5_isIn wsX5_isIn) := goodIn_app (goodIn_of _ (by decide +kernel)) ggX5_river_X5_isIn
set_option maxRecDepth 20000 in
theorem ggX5_river_X5_riverTold : GoodIn wsX5_river wsX5_riverTold := goodIn_r _ [15, 16, 17, 18, 19, 20, 21, 22, 23, 24, 25, 26, 27, 32, 33, 34, 35, 36, 37, 38, 39, 40, 41, 42, 43, 44, 45, 46, 47, 48, 49, 50, 51, 52] (by decide +kernel) (by decide +kernel)
set_option maxRecDepth 20000 in
theorem gX5_river_X5_riverTold : GoodIn wsX5_river (wsV RX5 63 RX5 yX5_riverTold wsX5_riverTold) := goodIn_app (goodIn_of _ (by decide +kernel)) ggX5_river_X5_riverTold
set_option maxRecDepth 20000 in
theorem ggX5_river_X5_no : GoodIn wsX5_river wsX5_no := goodIn_r _ [31, 1, 32, 33, 34, 35, 36, 37, 38, 39] (by decide +kernel) (by decide +kernel)
set_option maxRecDepth 20000 in
theorem gX5_river_X5_no : GoodIn wsX5_river (wsV RX5 46 RX5 yX5_no wsX5_no) := goodIn_app (goodIn_of _ (by decide +kernel)) ggX5_river_X5_no
theorem dX5_river_0 : decode cX5_river 0 = .ok (.aload_n 0, 1) := by decide +kernel
theorem dX5_river_1 : decode cX5_river 1 = .ok (.iconst 0, 1) := by decide +kernel
theorem dX5_river_2 : decode cX5_river 2 = .ok (.putfield 31, 3) := by decide +kernel
theorem dX5_river_5 : decode cX5_river 5 = .ok (.iload_n 1, 1) := by decide +kernel
theorem dX5_river_6 : decode cX5_river 6 = .ok (.invokestatic 42, 3) := by decide +kernel
theorem dX5_river_9 : decode cX5_river 9 = .ok (.ifCond .eq 29, 3) := by decide +kernel
theorem dX5_river_12 : decode cX5_river 12 = .ok (.iload_n 2, 1) := by decide +kernel
theorem dX5_river_13 : decode cX5_river 13 = .ok (.invokestatic 50, 3) := by decide +kernel
theorem dX5_river_16 : decode cX5_river 16 = .ok (.ifCond .eq 22, 3) := by decide +kernel
theorem dX5_river_19 : decode cX5_river 19 = .ok (.iload_n 3, 1) := by decide +kernel
theorem dX5_river_20 : decode cX5_river 20 = .ok (.iconst 0, 1) := by decide +kernel
theorem dX5_river_21 : decode cX5_river 21 = .ok (.iconst 3, 1) := by decide +kernel
theorem dX5_river_22 : decode cX5_river 22 = .ok (.invokestatic 35, 3) := by decide +kernel
theorem dX5_river_25 : decode cX5_river 25 = .ok (.ifCond .eq 13, 3) := by decide +kernel
theorem dX5_river_28 : decode cX5_river 28 = .ok (.aload_n 0, 1) := by decide +kernel
theorem dX5_river_29 : decode cX5_river 29 = .ok (.iload_n 1, 1) := by decide +kernel
theorem dX5_river_30 : decode cX5_river 30 = .ok (.iload_n 2, 1) := by decide +kernel
theorem dX5_river_31 : decode cX5_river 31 = .ok (.iload_n 3, 1) := by decide +kernel
theorem dX5_river_32 : decode cX5_river 32 = .ok (.invokevirtual 63, 3) := by decide +kernel
theorem dX5_river_35 : decode cX5_river 35 = .ok (.goto 8, 3) := by decide +kernel
theorem dX5_river_38 : decode cX5_river 38 = .ok (.aload_n 0, 1) := by decide +kernel
theorem dX5_river_39 : decode cX5_river 39 = .ok (.iconst 1, 1) := by decide +kernel
theorem dX5_river_40 : decode cX5_river 40 = .ok (.invokevirtual 46, 3) := by decide +kernel
theorem dX5_river_43 : decode cX5_river 43 = .ok (.ireturn, 1) := by decide +kernel
set_option maxRecDepth 20000 in
theorem ggX5_launch_X5_isIn : GoodIn wsX5_launch wsX5_isIn := goodIn_r _ [6] (by decide +kernel) (by decide +kernel)
set_option maxRecDepth 20000 in
theorem gX5_launch_X5_isIn : GoodIn wsX5_launch (va_wsS RX5 35 yX5_isIn wsX5_isIn) := goodIn_app (goodIn_of _ (by decide +kernel)) ggX5_launch_X5_isIn
set_option maxRecDepth 20000 in
theorem ggX5_launch_X5_isLane : GoodIn wsX5_launch wsX5_isLane := goodIn_r _ [9, 3, 4, 5, 6] (by decide +kernel) (by decide +kernel)
set_option maxRecDepth 20000 in
theorem gX5_launch_X5_isLane : GoodIn wsX5_launch (va_wsS RX5 42 yX5_isLane wsX5_isLane) := goodIn_app (goodIn_of _ (by decide +kernel)) ggX5_launch_X5_isLane
set_option maxRecDepth 20000 in
theorem ggX5_launch_X5_isPlace : GoodIn wsX5_launch wsX5_isPlace := goodIn_r _ [12, 3, 4, 5, 6] (by decide +kernel) (by decide +kernel)
set_option maxRecDepth 20000 in
theorem gX5_launch_X5_isPlace : GoodIn wsX5_launch (va_wsS RX5 50 yX5_isPlace wsX5_isPlace) := goodIn_app (goodIn_of _ (by decide +kernel)) ggX5_launch_X5_isPlace
set_option maxRecDepth 20000 in
theorem ggX5_launch_X5_no : GoodIn wsX5_launch wsX5_no := goodIn_r _ [16, 1, 32, 33, 34, 35, 36, 37, 38, 39] (by decide +kernel) (by decide +kernel)
set_option maxRecDepth 20000 in
theorem gX5_launch_X5_no : GoodIn wsX5_launch (wsV RX5 46 RX5 yX5_no wsX5_no) := goodIn_app (goodIn_of _ (by decide +kernel)) ggX5_launch_X5_no
set_option maxRecDepth 20000 in
theorem ggX5_launch_X4_launch : GoodIn wsX5_launch wsX4_launch := goodIn_r _ [21, 22, 23, 24, 25, 26, 27, 28, 29, 30, 31, 40, 41, 42, 43, 44, 45, 46, 47, 48, 49, 50, 51, 52] (by decide +kernel) (by decide +kernel)
set_option maxRecDepth 20000 in
theorem gX5_launch_X4_launch : GoodIn wsX5_launch (wsV RX5 66 RX4 yX4_launch wsX4_launch) := goodIn_app (goodIn_of _ (by decide +kernel)) ggX5_launch_X4_launch
theorem dX5_launch_0 : decode cX5_launch 0 = .ok (.aload_n 0, 1) := by decide +kernel
theorem dX5_launch_1 : decode cX5_launch 1 = .ok (.iconst 0, 1) := by decide +kernel
theorem dX5_launch_2 : decode cX5_launch 2 = .ok (.putfield 31, 3) := by decide +kernel
theorem dX5_launch_5 : decode cX5_launch 5 = .ok (.iload_n 1, 1) := by decide +kernel
theorem dX5_launch_6 : decode cX5_launch 6 = .ok (.iconst 0, 1) := by decide +kernel
theorem dX5_launch_7 : decode cX5_launch 7 = .ok (.iconst 2, 1) := by decide +kernel
theorem dX5_launch_8 : decode cX5_launch 8 = .ok (.invokestatic 35, 3) := by decide +kernel
theorem dX5_launch_11 : decode cX5_launch 11 = .ok (.ifCond .eq 18, 3) := by decide +kernel
theorem dX5_launch_14 : decode cX5_launch 14 = .ok (.iload_n 3, 1) := by decide +kernel
theorem dX5_launch_15 : decode cX5_launch 15 = .ok (.invokestatic 42, 3) := by decide +kernel
theorem dX5_launch_18 : decode cX5_launch 18 = .ok (.ifCond .eq 11, 3) := by decide +kernel
theorem dX5_launch_21 : decode cX5_launch 21 = .ok (.iload 4, 2) := by decide +kernel
theorem dX5_launch_23 : decode cX5_launch 23 = .ok (.invokestatic 50, 3) := by decide +kernel
theorem dX5_launch_26 : decode cX5_launch 26 = .ok (.ifCond .ne 9, 3) := by decide +kernel
theorem dX5_launch_29 : decode cX5_launch 29 = .ok (.aload_n 0, 1) := by decide +kernel
theorem dX5_launch_30 : decode cX5_launch 30 = .ok (.iconst 1, 1) := by decide +kernel
theorem dX5_launch_31 : decode cX5_launch 31 = .ok (.invokevirtual 46, 3) := by decide +kernel
theorem dX5_launch_34 : decode cX5_launch 34 = .ok (.ireturn, 1) := by decide +kernel
theorem dX5_launch_35 : decode cX5_launch 35 = .ok (.iload_n 2, 1) := by decide +kernel
theorem dX5_launch_36 : decode cX5_launch 36 = .ok (.iconst 0, 1) := by decide +kernel
theorem dX5_launch_37 : decode cX5_launch 37 = .ok (.sipush 999, 3) := by decide +kernel
theorem dX5_launch_40 : decode cX5_launch 40 = .ok (.invokestatic 35, 3) := by decide +kernel
theorem dX5_launch_43 : decode cX5_launch 43 = .ok (.ifCond .ne 9, 3) := by decide +kernel
theorem dX5_launch_46 : decode cX5_launch 46 = .ok (.aload_n 0, 1) := by decide +kernel
theorem dX5_launch_47 : decode cX5_launch 47 = .ok (.iconst 2, 1) := by decide +kernel
theorem dX5_launch_48 : decode cX5_launch 48 = .ok (.invokevirtual 46, 3) := by decide +kernel
theorem dX5_launch_51 : decode cX5_launch 51 = .ok (.ireturn, 1) := by decide +kernel
theorem dX5_launch_52 : decode cX5_launch 52 = .ok (.aload_n 0, 1) := by decide +kernel
theorem dX5_launch_53 : decode cX5_launch 53 = .ok (.getfield 24, 3) := by decide +kernel
theorem dX5_launch_56 : decode cX5_launch 56 = .ok (.getfield 39, 3) := by decide +kernel
theorem dX5_launch_59 : decode cX5_launch 59 = .ok (.bipush 40, 2) := by decide +kernel
theorem dX5_launch_61 : decode cX5_launch 61 = .ok (.if_icmp .ne 11, 3) := by decide +kernel
theorem dX5_launch_64 : decode cX5_launch 64 = .ok (.aload_n 0, 1) := by decide +kernel
theorem dX5_launch_65 : decode cX5_launch 65 = .ok (.iconst 3, 1) := by decide +kernel
theorem dX5_launch_66 : decode cX5_launch 66 = .ok (.invokevirtual 46, 3) := by decide +kernel
theorem dX5_launch_69 : decode cX5_launch 69 = .ok (.goto 15, 3) := by decide +kernel
theorem dX5_launch_72 : decode cX5_launch 72 = .ok (.aload_n 0, 1) := by decide +kernel
theorem dX5_launch_73 : decode cX5_launch 73 = .ok (.getfield 24, 3) := by decide +kernel
theorem dX5_launch_76 : decode cX5_launch 76 = .ok (.iload_n 1, 1) := by decide +kernel
theorem dX5_launch_77 : decode cX5_launch 77 = .ok (.iload_n 2, 1) := by decide +kernel
theorem dX5_launch_78 : decode cX5_launch 78 = .ok (.iload_n 3, 1) := by decide +kernel
theorem dX5_launch_79 : decode cX5_launch 79 = .ok (.iload 4, 2) := by decide +kernel
theorem dX5_launch_81 : decode cX5_launch 81 = .ok (.invokevirtual 66, 3) := by decide +kernel
theorem dX5_launch_84 : decode cX5_launch 84 = .ok (.ireturn, 1) := by decide +kernel
set_option maxRecDepth 20000 in
theorem ggX5_push_X5_isLantern : GoodIn wsX5_push wsX5_isLantern := goodIn_r _ [7, 2, 8, 9, 6, 10, 18, 19, 20, 21, 22, 23, 24, 25, 26, 27, 28, 29, 30, 31, 32, 33, 34, 35, 36, 37, 38] (by decide +kernel) (by decide +kernel)
set_option maxRecDepth 20000 in
theorem gX5_push_X5_isLantern : GoodIn wsX5_push (wsV RX5 70 RX5 yX5_isLantern wsX5_isLantern) := goodIn_app (goodIn_of _ (by decide +kernel)) ggX5_push_X5_isLantern
set_option maxRecDepth 20000 in
theorem ggX5_push_X5_isLane : GoodIn wsX5_push wsX5_isLane := goodIn_r _ [13, 8, 9, 6, 10] (by decide +kernel) (by decide +kernel)
set_option maxRecDepth 20000 in
theorem gX5_push_X5_isLane : GoodIn wsX5_push (va_wsS RX5 42 yX5_isLane wsX5_isLane) := goodIn_app (goodIn_of _ (by decide +kernel)) ggX5_push_X5_isLane
set_option maxRecDepth 20000 in
theorem ggX5_push_X5_no : GoodIn wsX5_push wsX5_no := goodIn_r _ [17, 1, 18, 19, 20, 21, 22, 23, 24, 25] (by decide +kernel) (by decide +kernel)
set_option maxRecDepth 20000 in
theorem gX5_push_X5_no : GoodIn wsX5_push (wsV RX5 46 RX5 yX5_no wsX5_no) := goodIn_app (goodIn_of _ (by decide +kernel)) ggX5_push_X5_no
theorem dX5_push_0 : decode cX5_push 0 = .ok (.aload_n 0, 1) := by decide +kernel
theorem dX5_push_1 : decode cX5_push 1 = .ok (.iconst 0, 1) := by decide +kernel
theorem dX5_push_2 : decode cX5_push 2 = .ok (.putfield 31, 3) := by decide +kernel
theorem dX5_push_5 : decode cX5_push 5 = .ok (.aload_n 0, 1) := by decide +kernel
theorem dX5_push_6 : decode cX5_push 6 = .ok (.iload_n 1, 1) := by decide +kernel
theorem dX5_push_7 : decode cX5_push 7 = .ok (.invokevirtual 70, 3) := by decide +kernel
theorem dX5_push_10 : decode cX5_push 10 = .ok (.ifCond .eq 10, 3) := by decide +kernel
theorem dX5_push_13 : decode cX5_push 13 = .ok (.iload_n 2, 1) := by decide +kernel
theorem dX5_push_14 : decode cX5_push 14 = .ok (.invokestatic 42, 3) := by decide +kernel
theorem dX5_push_17 : decode cX5_push 17 = .ok (.ifCond .ne 9, 3) := by decide +kernel
theorem dX5_push_20 : decode cX5_push 20 = .ok (.aload_n 0, 1) := by decide +kernel
theorem dX5_push_21 : decode cX5_push 21 = .ok (.iconst 1, 1) := by decide +kernel
theorem dX5_push_22 : decode cX5_push 22 = .ok (.invokevirtual 46, 3) := by decide +kernel
theorem dX5_push_25 : decode cX5_push 25 = .ok (.ireturn, 1) := by decide +kernel
theorem dX5_push_26 : decode cX5_push 26 = .ok (.aload_n 0, 1) := by decide +kernel
theorem dX5_push_27 : decode cX5_push 27 = .ok (.getfield 24, 3) := by decide +kernel
theorem dX5_push_30 : decode cX5_push 30 = .ok (.getfield 73, 3) := by decide +kernel
theorem dX5_push_33 : decode cX5_push 33 = .ok (.iload_n 1, 1) := by decide +kernel
theorem dX5_push_34 : decode cX5_push 34 = .ok (.iaload, 1) := by decide +kernel
theorem dX5_push_35 : decode cX5_push 35 = .ok (.ifCond .eq 9, 3) := by decide +kernel
theorem dX5_push_38 : decode cX5_push 38 = .ok (.aload_n 0, 1) := by decide +kernel
theorem dX5_push_39 : decode cX5_push 39 = .ok (.iconst 2, 1) := by decide +kernel
theorem dX5_push_40 : decode cX5_push 40 = .ok (.invokevirtual 46, 3) := by decide +kernel
theorem dX5_push_43 : decode cX5_push 43 = .ok (.ireturn, 1) := by decide +kernel
theorem dX5_push_44 : decode cX5_push 44 = .ok (.aload_n 0, 1) := by decide +kernel
theorem dX5_push_45 : decode cX5_push 45 = .ok (.getfield 24, 3) := by decide +kernel
theorem dX5_push_48 : decode cX5_push 48 = .ok (.getfield 76, 3) := by decide +kernel
theorem dX5_push_51 : decode cX5_push 51 = .ok (.iload_n 1, 1) := by decide +kernel
theorem dX5_push_52 : decode cX5_push 52 = .ok (.iaload, 1) := by decide +kernel
theorem dX5_push_53 : decode cX5_push 53 = .ok (.istore_n 3, 1) := by decide +kernel
theorem dX5_push_54 : decode cX5_push 54 = .ok (.aload_n 0, 1) := by decide +kernel
theorem dX5_push_55 : decode cX5_push 55 = .ok (.getfield 24, 3) := by decide +kernel
theorem dX5_push_58 : decode cX5_push 58 = .ok (.getfield 76, 3) := by decide +kernel
theorem dX5_push_61 : decode cX5_push 61 = .ok (.iload_n 1, 1) := by decide +kernel
theorem dX5_push_62 : decode cX5_push 62 = .ok (.iload_n 2, 1) := by decide +kernel
theorem dX5_push_63 : decode cX5_push 63 = .ok (.iastore, 1) := by decide +kernel
theorem dX5_push_64 : decode cX5_push 64 = .ok (.iload_n 3, 1) := by decide +kernel
theorem dX5_push_65 : decode cX5_push 65 = .ok (.ireturn, 1) := by decide +kernel
set_option maxRecDepth 20000 in
theorem ggX5_light_X5_isLantern : GoodIn wsX5_light wsX5_isLantern := goodIn_r _ [7, 2, 8, 9, 6, 10, 22, 23, 24, 25, 26, 27, 28, 29, 30, 31, 32, 33, 34, 35, 36, 37, 38, 39, 40, 41, 42] (by decide +kernel) (by decide +kernel)
set_option maxRecDepth 20000 in
theorem gX5_light_X5_isLantern : GoodIn wsX5_light (wsV RX5 70 RX5 yX5_isLantern wsX5_isLantern) := goodIn_app (goodIn_of _ (by decide +kernel)) ggX5_light_X5_isLantern
set_option maxRecDepth 20000 in
theorem ggX5_light_X5_no : GoodIn wsX5_light wsX5_no := goodIn_r _ [14, 1, 22, 23, 24, 25, 26, 27, 28, 29] (by decide +kernel) (by decide +kernel)
set_option maxRecDepth 20000 in
theorem gX5_light_X5_no : GoodIn wsX5_light (wsV RX5 46 RX5 yX5_no wsX5_no) := goodIn_app (goodIn_of _ (by decide +kernel)) ggX5_light_X5_no
set_option maxRecDepth 20000 in
theorem ggX5_light_X4_isSoaked : GoodIn wsX5_light wsX4_isSoaked := goodIn_r _ [19, 20, 21, 30, 31, 32, 33, 34, 35, 36, 37, 38, 39, 40, 41, 42] (by decide +kernel) (by decide +kernel)
set_option maxRecDepth 20000 in
theorem gX5_light_X4_isSoaked : GoodIn wsX5_light (wsV RX5 82 RX4 yX4_isSoaked wsX4_isSoaked) := goodIn_app (goodIn_of _ (by decide +kernel)) ggX5_light_X4_isSoaked
theorem dX5_light_0 : decode cX5_light 0 = .ok (.aload_n 0, 1) := by decide +kernel
theorem dX5_light_1 : decode cX5_light 1 = .ok (.iconst 0, 1) := by decide +kernel
theorem dX5_light_2 : decode cX5_light 2 = .ok (.putfield 31, 3) := by decide +kernel
theorem dX5_light_5 : decode cX5_light 5 = .ok (.aload_n 0, 1) := by decide +kernel
theorem dX5_light_6 : decode cX5_light 6 = .ok (.iload_n 1, 1) := by decide +kernel
theorem dX5_light_7 : decode cX5_light 7 = .ok (.invokevirtual 70, 3) := by decide +kernel
theorem dX5_light_10 : decode cX5_light 10 = .ok (.ifCond .ne 9, 3) := by decide +kernel
theorem dX5_light_13 : decode cX5_light 13 = .ok (.aload_n 0, 1) := by decide +kernel
theorem dX5_light_14 : decode cX5_light 14 = .ok (.iconst 1, 1) := by decide +kernel
theorem dX5_light_15 : decode cX5_light 15 = .ok (.invokevirtual 46, 3) := by decide +kernel
theorem dX5_light_18 : decode cX5_light 18 = .ok (.ireturn, 1) := by decide +kernel
theorem dX5_light_19 : decode cX5_light 19 = .ok (.aload_n 0, 1) := by decide +kernel
theorem dX5_light_20 : decode cX5_light 20 = .ok (.getfield 24, 3) := by decide +kernel
theorem dX5_light_23 : decode cX5_light 23 = .ok (.getfield 73, 3) := by decide +kernel
theorem dX5_light_26 : decode cX5_light 26 = .ok (.iload_n 1, 1) := by decide +kernel
theorem dX5_light_27 : decode cX5_light 27 = .ok (.iaload, 1) := by decide +kernel
theorem dX5_light_28 : decode cX5_light 28 = .ok (.ifCond .ne 39, 3) := by decide +kernel
theorem dX5_light_31 : decode cX5_light 31 = .ok (.aload_n 0, 1) := by decide +kernel
theorem dX5_light_32 : decode cX5_light 32 = .ok (.getfield 24, 3) := by decide +kernel
theorem dX5_light_35 : decode cX5_light 35 = .ok (.getfield 79, 3) := by decide +kernel
theorem dX5_light_38 : decode cX5_light 38 = .ok (.iload_n 1, 1) := by decide +kernel
theorem dX5_light_39 : decode cX5_light 39 = .ok (.iaload, 1) := by decide +kernel
theorem dX5_light_40 : decode cX5_light 40 = .ok (.iconst 1, 1) := by decide +kernel
theorem dX5_light_41 : decode cX5_light 41 = .ok (.if_icmp .eq 26, 3) := by decide +kernel
theorem dX5_light_44 : decode cX5_light 44 = .ok (.aload_n 0, 1) := by decide +kernel
theorem dX5_light_45 : decode cX5_light 45 = .ok (.getfield 24, 3) := by decide +kernel
theorem dX5_light_48 : decode cX5_light 48 = .ok (.iload_n 1, 1) := by decide +kernel
theorem dX5_light_49 : decode cX5_light 49 = .ok (.invokevirtual 82, 3) := by decide +kernel
theorem dX5_light_52 : decode cX5_light 52 = .ok (.ifCond .ne 15, 3) := by decide +kernel
theorem dX5_light_55 : decode cX5_light 55 = .ok (.aload_n 0, 1) := by decide +kernel
theorem dX5_light_56 : decode cX5_light 56 = .ok (.getfield 24, 3) := by decide +kernel
theorem dX5_light_59 : decode cX5_light 59 = .ok (.getfield 85, 3) := by decide +kernel
theorem dX5_light_62 : decode cX5_light 62 = .ok (.iload_n 1, 1) := by decide +kernel
theorem dX5_light_63 : decode cX5_light 63 = .ok (.iaload, 1) := by decide +kernel
theorem dX5_light_64 : decode cX5_light 64 = .ok (.ifCond .ne 9, 3) := by decide +kernel
theorem dX5_light_67 : decode cX5_light 67 = .ok (.aload_n 0, 1) := by decide +kernel
theorem dX5_light_68 : decode cX5_light 68 = .ok (.iconst 2, 1) := by decide +kernel
theorem dX5_light_69 : decode cX5_light 69 = .ok (.invokevirtual 46, 3) := by decide +kernel
theorem dX5_light_72 : decode cX5_light 72 = .ok (.ireturn, 1) := by decide +kernel
theorem dX5_light_73 : decode cX5_light 73 = .ok (.aload_n 0, 1) := by decide +kernel
theorem dX5_light_74 : decode cX5_light 74 = .ok (.getfield 24, 3) := by decide +kernel
theorem dX5_light_77 : decode cX5_light 77 = .ok (.getfield 79, 3) := by decide +kernel
theorem dX5_light_80 : decode cX5_light 80 = .ok (.iload_n 1, 1) := by decide +kernel
theorem dX5_light_81 : decode cX5_light 81 = .ok (.iconst 1, 1) := by decide +kernel
theorem dX5_light_82 : decode cX5_light 82 = .ok (.iastore, 1) := by decide +kernel
theorem dX5_light_83 : decode cX5_light 83 = .ok (.aload_n 0, 1) := by decide +kernel
theorem dX5_light_84 : decode cX5_light 84 = .ok (.getfield 24, 3) := by decide +kernel
theorem dX5_light_87 : decode cX5_light 87 = .ok (.getfield 85, 3) := by decide +kernel
theorem dX5_light_90 : decode cX5_light 90 = .ok (.iload_n 1, 1) := by decide +kernel
theorem dX5_light_91 : decode cX5_light 91 = .ok (.iaload, 1) := by decide +kernel
theorem dX5_light_92 : decode cX5_light 92 = .ok (.ireturn, 1) := by decide +kernel
set_option maxRecDepth 20000 in
theorem ggX5_blow_X5_isLantern : GoodIn wsX5_blow wsX5_isLantern := goodIn_r _ [7, 2, 8, 9, 6, 10, 15, 16, 17, 18, 19, 20, 21, 22, 23, 24, 25, 26, 27, 28, 29, 30, 31, 32, 33, 34, 35] (by decide +kernel) (by decide +kernel)
set_option maxRecDepth 20000 in
theorem gX5_blow_X5_isLantern : GoodIn wsX5_blow (wsV RX5 70 RX5 yX5_isLantern wsX5_isLantern) := goodIn_app (goodIn_of _ (by decide +kernel)) ggX5_blow_X5_isLantern
set_option maxRecDepth 20000 in
theorem ggX5_blow_X5_no : GoodIn wsX5_blow wsX5_no := goodIn_r _ [14, 1, 15, 16, 17, 18, 19, 20, 21, 22] (by decide +kernel) (by decide +kernel)
set_option maxRecDepth 20000 in
theorem gX5_blow_X5_no : GoodIn wsX5_blow (wsV RX5 46 RX5 yX5_no wsX5_no) := goodIn_app (goodIn_of _ (by decide +kernel)) ggX5_blow_X5_no
theorem dX5_blow_0 : decode cX5_blow 0 = .ok (.aload_n 0, 1) := by decide +kernel
theorem dX5_blow_1 : decode cX5_blow 1 = .ok (.iconst 0, 1) := by decide +kernel
theorem dX5_blow_2 : decode cX5_blow 2 = .ok (.putfield 31, 3) := by decide +kernel
theorem dX5_blow_5 : decode cX5_blow 5 = .ok (.aload_n 0, 1) := by decide +kernel
theorem dX5_blow_6 : decode cX5_blow 6 = .ok (.iload_n 1, 1) := by decide +kernel
theorem dX5_blow_7 : decode cX5_blow 7 = .ok (.invokevirtual 70, 3) := by decide +kernel
theorem dX5_blow_10 : decode cX5_blow 10 = .ok (.ifCond .ne 9, 3) := by decide +kernel
theorem dX5_blow_13 : decode cX5_blow 13 = .ok (.aload_n 0, 1) := by decide +kernel
theorem dX5_blow_14 : decode cX5_blow 14 = .ok (.iconst 1, 1) := by decide +kernel
theorem dX5_blow_15 : decode cX5_blow 15 = .ok (.invokevirtual 46, 3) := by decide +kernel
theorem dX5_blow_18 : decode cX5_blow 18 = .ok (.ireturn, 1) := by decide +kernel
theorem dX5_blow_19 : decode cX5_blow 19 = .ok (.aload_n 0, 1) := by decide +kernel
theorem dX5_blow_20 : decode cX5_blow 20 = .ok (.getfield 24, 3) := by decide +kernel
theorem dX5_blow_23 : decode cX5_blow 23 = .ok (.getfield 73, 3) := by decide +kernel
theorem dX5_blow_26 : decode cX5_blow 26 = .ok (.iload_n 1, 1) := by decide +kernel
theorem dX5_blow_27 : decode cX5_blow 27 = .ok (.iaload, 1) := by decide +kernel
theorem dX5_blow_28 : decode cX5_blow 28 = .ok (.ifCond .ne 15, 3) := by decide +kernel
theorem dX5_blow_31 : decode cX5_blow 31 = .ok (.aload_n 0, 1) := by decide +kernel
theorem dX5_blow_32 : decode cX5_blow 32 = .ok (.getfield 24, 3) := by decide +kernel
theorem dX5_blow_35 : decode cX5_blow 35 = .ok (.getfield 79, 3) := by decide +kernel
theorem dX5_blow_38 : decode cX5_blow 38 = .ok (.iload_n 1, 1) := by decide +kernel
theorem dX5_blow_39 : decode cX5_blow 39 = .ok (.iaload, 1) := by decide +kernel
theorem dX5_blow_40 : decode cX5_blow 40 = .ok (.ifCond .ne 9, 3) := by decide +kernel
theorem dX5_blow_43 : decode cX5_blow 43 = .ok (.aload_n 0, 1) := by decide +kernel
theorem dX5_blow_44 : decode cX5_blow 44 = .ok (.iconst 2, 1) := by decide +kernel
theorem dX5_blow_45 : decode cX5_blow 45 = .ok (.invokevirtual 46, 3) := by decide +kernel
theorem dX5_blow_48 : decode cX5_blow 48 = .ok (.ireturn, 1) := by decide +kernel
theorem dX5_blow_49 : decode cX5_blow 49 = .ok (.aload_n 0, 1) := by decide +kernel
theorem dX5_blow_50 : decode cX5_blow 50 = .ok (.getfield 24, 3) := by decide +kernel
theorem dX5_blow_53 : decode cX5_blow 53 = .ok (.getfield 79, 3) := by decide +kernel
theorem dX5_blow_56 : decode cX5_blow 56 = .ok (.iload_n 1, 1) := by decide +kernel
theorem dX5_blow_57 : decode cX5_blow 57 = .ok (.iconst 0, 1) := by decide +kernel
theorem dX5_blow_58 : decode cX5_blow 58 = .ok (.iastore, 1) := by decide +kernel
theorem dX5_blow_59 : decode cX5_blow 59 = .ok (.aload_n 0, 1) := by decide +kernel
theorem dX5_blow_60 : decode cX5_blow 60 = .ok (.getfield 24, 3) := by decide +kernel
theorem dX5_blow_63 : decode cX5_blow 63 = .ok (.getfield 85, 3) := by decide +kernel
theorem dX5_blow_66 : decode cX5_blow 66 = .ok (.iload_n 1, 1) := by decide +kernel
theorem dX5_blow_67 : decode cX5_blow 67 = .ok (.iaload, 1) := by decide +kernel
theorem dX5_blow_68 : decode cX5_blow 68 = .ok (.ireturn, 1) := by decide +kernel
theorem dX5_lanternTold_0 : decode cX5_lanternTold 0 = .ok (.bipush 9, 2) := by decide +kernel
theorem dX5_lanternTold_2 : decode cX5_lanternTold 2 = .ok (.newarray .int, 2) := by decide +kernel
theorem dX5_lanternTold_4 : decode cX5_lanternTold 4 = .ok (.dup, 1) := by decide +kernel
theorem dX5_lanternTold_5 : decode cX5_lanternTold 5 = .ok (.iconst 0, 1) := by decide +kernel
theorem dX5_lanternTold_6 : decode cX5_lanternTold 6 = .ok (.aload_n 0, 1) := by decide +kernel
theorem dX5_lanternTold_7 : decode cX5_lanternTold 7 = .ok (.getfield 24, 3) := by decide +kernel
theorem dX5_lanternTold_10 : decode cX5_lanternTold 10 = .ok (.getfield 88, 3) := by decide +kernel
theorem dX5_lanternTold_13 : decode cX5_lanternTold 13 = .ok (.iload_n 1, 1) := by decide +kernel
theorem dX5_lanternTold_14 : decode cX5_lanternTold 14 = .ok (.iaload, 1) := by decide +kernel
theorem dX5_lanternTold_15 : decode cX5_lanternTold 15 = .ok (.iastore, 1) := by decide +kernel
theorem dX5_lanternTold_16 : decode cX5_lanternTold 16 = .ok (.dup, 1) := by decide +kernel
theorem dX5_lanternTold_17 : decode cX5_lanternTold 17 = .ok (.iconst 1, 1) := by decide +kernel
theorem dX5_lanternTold_18 : decode cX5_lanternTold 18 = .ok (.aload_n 0, 1) := by decide +kernel
theorem dX5_lanternTold_19 : decode cX5_lanternTold 19 = .ok (.getfield 24, 3) := by decide +kernel
theorem dX5_lanternTold_22 : decode cX5_lanternTold 22 = .ok (.getfield 91, 3) := by decide +kernel
theorem dX5_lanternTold_25 : decode cX5_lanternTold 25 = .ok (.iload_n 1, 1) := by decide +kernel
theorem dX5_lanternTold_26 : decode cX5_lanternTold 26 = .ok (.iaload, 1) := by decide +kernel
theorem dX5_lanternTold_27 : decode cX5_lanternTold 27 = .ok (.iastore, 1) := by decide +kernel
theorem dX5_lanternTold_28 : decode cX5_lanternTold 28 = .ok (.dup, 1) := by decide +kernel
theorem dX5_lanternTold_29 : decode cX5_lanternTold 29 = .ok (.iconst 2, 1) := by decide +kernel
theorem dX5_lanternTold_30 : decode cX5_lanternTold 30 = .ok (.aload_n 0, 1) := by decide +kernel
theorem dX5_lanternTold_31 : decode cX5_lanternTold 31 = .ok (.getfield 24, 3) := by decide +kernel
theorem dX5_lanternTold_34 : decode cX5_lanternTold 34 = .ok (.getfield 76, 3) := by decide +kernel
theorem dX5_lanternTold_37 : decode cX5_lanternTold 37 = .ok (.iload_n 1, 1) := by decide +kernel
theorem dX5_lanternTold_38 : decode cX5_lanternTold 38 = .ok (.iaload, 1) := by decide +kernel
theorem dX5_lanternTold_39 : decode cX5_lanternTold 39 = .ok (.iastore, 1) := by decide +kernel
theorem dX5_lanternTold_40 : decode cX5_lanternTold 40 = .ok (.dup, 1) := by decide +kernel
theorem dX5_lanternTold_41 : decode cX5_lanternTold 41 = .ok (.iconst 3, 1) := by decide +kernel
theorem dX5_lanternTold_42 : decode cX5_lanternTold 42 = .ok (.aload_n 0, 1) := by decide +kernel
theorem dX5_lanternTold_43 : decode cX5_lanternTold 43 = .ok (.getfield 24, 3) := by decide +kernel
theorem dX5_lanternTold_46 : decode cX5_lanternTold 46 = .ok (.getfield 94, 3) := by decide +kernel
theorem dX5_lanternTold_49 : decode cX5_lanternTold 49 = .ok (.iload_n 1, 1) := by decide +kernel
theorem dX5_lanternTold_50 : decode cX5_lanternTold 50 = .ok (.iaload, 1) := by decide +kernel
theorem dX5_lanternTold_51 : decode cX5_lanternTold 51 = .ok (.iastore, 1) := by decide +kernel
theorem dX5_lanternTold_52 : decode cX5_lanternTold 52 = .ok (.dup, 1) := by decide +kernel
theorem dX5_lanternTold_53 : decode cX5_lanternTold 53 = .ok (.iconst 4, 1) := by decide +kernel
theorem dX5_lanternTold_54 : decode cX5_lanternTold 54 = .ok (.aload_n 0, 1) := by decide +kernel
theorem dX5_lanternTold_55 : decode cX5_lanternTold 55 = .ok (.getfield 24, 3) := by decide +kernel
theorem dX5_lanternTold_58 : decode cX5_lanternTold 58 = .ok (.getfield 85, 3) := by decide +kernel
theorem dX5_lanternTold_61 : decode cX5_lanternTold 61 = .ok (.iload_n 1, 1) := by decide +kernel
theorem dX5_lanternTold_62 : decode cX5_lanternTold 62 = .ok (.iaload, 1) := by decide +kernel
theorem dX5_lanternTold_63 : decode cX5_lanternTold 63 = .ok (.iastore, 1) := by decide +kernel
theorem dX5_lanternTold_64 : decode cX5_lanternTold 64 = .ok (.dup, 1) := by decide +kernel
theorem dX5_lanternTold_65 : decode cX5_lanternTold 65 = .ok (.iconst 5, 1) := by decide +kernel
theorem dX5_lanternTold_66 : decode cX5_lanternTold 66 = .ok (.aload_n 0, 1) := by decide +kernel
theorem dX5_lanternTold_67 : decode cX5_lanternTold 67 = .ok (.getfield 24, 3) := by decide +kernel
theorem dX5_lanternTold_70 : decode cX5_lanternTold 70 = .ok (.getfield 97, 3) := by decide +kernel
theorem dX5_lanternTold_73 : decode cX5_lanternTold 73 = .ok (.iload_n 1, 1) := by decide +kernel
theorem dX5_lanternTold_74 : decode cX5_lanternTold 74 = .ok (.iaload, 1) := by decide +kernel
theorem dX5_lanternTold_75 : decode cX5_lanternTold 75 = .ok (.iastore, 1) := by decide +kernel
theorem dX5_lanternTold_76 : decode cX5_lanternTold 76 = .ok (.dup, 1) := by decide +kernel
theorem dX5_lanternTold_77 : decode cX5_lanternTold 77 = .ok (.bipush 6, 2) := by decide +kernel
theorem dX5_lanternTold_79 : decode cX5_lanternTold 79 = .ok (.aload_n 0, 1) := by decide +kernel
theorem dX5_lanternTold_80 : decode cX5_lanternTold 80 = .ok (.getfield 24, 3) := by decide +kernel
theorem dX5_lanternTold_83 : decode cX5_lanternTold 83 = .ok (.getfield 79, 3) := by decide +kernel
theorem dX5_lanternTold_86 : decode cX5_lanternTold 86 = .ok (.iload_n 1, 1) := by decide +kernel
theorem dX5_lanternTold_87 : decode cX5_lanternTold 87 = .ok (.iaload, 1) := by decide +kernel
theorem dX5_lanternTold_88 : decode cX5_lanternTold 88 = .ok (.iastore, 1) := by decide +kernel
theorem dX5_lanternTold_89 : decode cX5_lanternTold 89 = .ok (.dup, 1) := by decide +kernel
theorem dX5_lanternTold_90 : decode cX5_lanternTold 90 = .ok (.bipush 7, 2) := by decide +kernel
theorem dX5_lanternTold_92 : decode cX5_lanternTold 92 = .ok (.aload_n 0, 1) := by decide +kernel
theorem dX5_lanternTold_93 : decode cX5_lanternTold 93 = .ok (.getfield 24, 3) := by decide +kernel
theorem dX5_lanternTold_96 : decode cX5_lanternTold 96 = .ok (.getfield 73, 3) := by decide +kernel
theorem dX5_lanternTold_99 : decode cX5_lanternTold 99 = .ok (.iload_n 1, 1) := by decide +kernel
