set_option maxRecDepth 20000 in
theorem ggX3_init_X0_init : GoodIn wsX3_init wsX0_init := goodIn_r _ [15, 16, 2, 3, 17, 18, 19, 20, 21, 22, 23, 24, 25, 26, 27, 28, 29, 30, 31, 32, 70, 49, 50, 51, 52, 53] (by decide +kernel) (by decide +kernel)
set_option maxRecDepth 20000 in
theorem gX3_init_X0_init : GoodIn wsX3_init (wsX0_init) := ggX3_init_X0_init
set_option maxRecDepth 20000 in
theorem ggX3_init_X1_init : GoodIn wsX3_init wsX1_init := goodIn_r _ [34, 35, 2, 3, 36, 18, 19, 37, 38, 39, 40, 41, 42, 43, 44, 45, 46, 47, 48, 24, 25, 26, 27, 28, 70, 57, 58, 59, 60, 61, 62, 63, 64, 65, 66, 67, 68, 69] (by decide +kernel) (by decide +kernel)
set_option maxRecDepth 20000 in
theorem gX3_init_X1_init_n18 : GoodIn wsX3_init (wsX1_init) := ggX3_init_X1_init
theorem dX3_init_0 : decode cX3_init 0 = .ok (.aload_n 0, 1) := by decide +kernel
theorem dX3_init_1 : decode cX3_init 1 = .ok (.invokespecial 1, 3) := by decide +kernel
theorem dX3_init_4 : decode cX3_init 4 = .ok (.aload_n 0, 1) := by decide +kernel
theorem dX3_init_5 : decode cX3_init 5 = .ok (.new 7, 3) := by decide +kernel
theorem dX3_init_8 : decode cX3_init 8 = .ok (.dup, 1) := by decide +kernel
theorem dX3_init_9 : decode cX3_init 9 = .ok (.invokespecial 9, 3) := by decide +kernel
theorem dX3_init_12 : decode cX3_init 12 = .ok (.putfield 10, 3) := by decide +kernel
theorem dX3_init_15 : decode cX3_init 15 = .ok (.aload_n 0, 1) := by decide +kernel
theorem dX3_init_16 : decode cX3_init 16 = .ok (.new 16, 3) := by decide +kernel
theorem dX3_init_19 : decode cX3_init 19 = .ok (.dup, 1) := by decide +kernel
theorem dX3_init_20 : decode cX3_init 20 = .ok (.invokespecial 18, 3) := by decide +kernel
theorem dX3_init_23 : decode cX3_init 23 = .ok (.putfield 19, 3) := by decide +kernel
theorem dX3_init_26 : decode cX3_init 26 = .ok (.aload_n 0, 1) := by decide +kernel
theorem dX3_init_27 : decode cX3_init 27 = .ok (.new 16, 3) := by decide +kernel
theorem dX3_init_30 : decode cX3_init 30 = .ok (.dup, 1) := by decide +kernel
theorem dX3_init_31 : decode cX3_init 31 = .ok (.invokespecial 18, 3) := by decide +kernel
theorem dX3_init_34 : decode cX3_init 34 = .ok (.putfield 23, 3) := by decide +kernel
theorem dX3_init_37 : decode cX3_init 37 = .ok (.return_, 1) := by decide +kernel
set_option maxRecDepth 20000 in
theorem ggX3_setCurrent_X3_isLane : GoodIn wsX3_setCurrent wsX3_isLane := goodIn_r _ [10, 11, 12, 9, 13] (by decide +kernel) (by decide +kernel)
set_option maxRecDepth 20000 in
theorem gX3_setCurrent_X3_isLane : GoodIn wsX3_setCurrent (va_wsS RX3 26 yX3_isLane wsX3_isLane) := goodIn_app (goodIn_of _ (by decide +kernel)) ggX3_setCurrent_X3_isLane
set_option maxRecDepth 20000 in
theorem ggX3_setCurrent_X3_isWithin : GoodIn wsX3_setCurrent wsX3_isWithin := goodIn_r _ [13] (by decide +kernel) (by decide +kernel)
set_option maxRecDepth 20000 in
theorem gX3_setCurrent_X3_isWithin : GoodIn wsX3_setCurrent (va_wsS RX3 37 yX3_isWithin wsX3_isWithin) := goodIn_app (goodIn_of _ (by decide +kernel)) ggX3_setCurrent_X3_isWithin
set_option maxRecDepth 20000 in
theorem ggX3_setCurrent_X2_get : GoodIn wsX3_setCurrent wsX2_get := goodIn_r _ [18, 19, 32] (by decide +kernel) (by decide +kernel)
set_option maxRecDepth 20000 in
theorem gX3_setCurrent_X2_get : GoodIn wsX3_setCurrent (wsV RX3 50 RX2 yX2_get wsX2_get) := goodIn_app (goodIn_of _ (by decide +kernel)) ggX3_setCurrent_X2_get
set_option maxRecDepth 20000 in
theorem ggX3_setCurrent_X2_put : GoodIn wsX3_setCurrent wsX2_put := goodIn_r _ [23, 19, 32] (by decide +kernel) (by decide +kernel)
set_option maxRecDepth 20000 in
theorem gX3_setCurrent_X2_put : GoodIn wsX3_setCurrent (wsV RX3 56 RX2 yX2_put wsX2_put) := goodIn_app (goodIn_of _ (by decide +kernel)) ggX3_setCurrent_X2_put
theorem dX3_setCurrent_0 : decode cX3_setCurrent 0 = .ok (.iload_n 1, 1) := by decide +kernel
theorem dX3_setCurrent_1 : decode cX3_setCurrent 1 = .ok (.invokestatic 26, 3) := by decide +kernel
theorem dX3_setCurrent_4 : decode cX3_setCurrent 4 = .ok (.ifCond .ne 13, 3) := by decide +kernel
theorem dX3_setCurrent_7 : decode cX3_setCurrent 7 = .ok (.new 30, 3) := by decide +kernel
theorem dX3_setCurrent_10 : decode cX3_setCurrent 10 = .ok (.dup, 1) := by decide +kernel
theorem dX3_setCurrent_11 : decode cX3_setCurrent 11 = .ok (.ldc 32, 2) := by decide +kernel
theorem dX3_setCurrent_13 : decode cX3_setCurrent 13 = .ok (.invokespecial 34, 3) := by decide +kernel
theorem dX3_setCurrent_16 : decode cX3_setCurrent 16 = .ok (.athrow, 1) := by decide +kernel
theorem dX3_setCurrent_17 : decode cX3_setCurrent 17 = .ok (.iload_n 2, 1) := by decide +kernel
theorem dX3_setCurrent_18 : decode cX3_setCurrent 18 = .ok (.iconst 1, 1) := by decide +kernel
theorem dX3_setCurrent_19 : decode cX3_setCurrent 19 = .ok (.iconst 5, 1) := by decide +kernel
theorem dX3_setCurrent_20 : decode cX3_setCurrent 20 = .ok (.invokestatic 37, 3) := by decide +kernel
theorem dX3_setCurrent_23 : decode cX3_setCurrent 23 = .ok (.ifCond .ne 13, 3) := by decide +kernel
theorem dX3_setCurrent_26 : decode cX3_setCurrent 26 = .ok (.new 41, 3) := by decide +kernel
theorem dX3_setCurrent_29 : decode cX3_setCurrent 29 = .ok (.dup, 1) := by decide +kernel
theorem dX3_setCurrent_30 : decode cX3_setCurrent 30 = .ok (.ldc 43, 2) := by decide +kernel
theorem dX3_setCurrent_32 : decode cX3_setCurrent 32 = .ok (.invokespecial 45, 3) := by decide +kernel
theorem dX3_setCurrent_35 : decode cX3_setCurrent 35 = .ok (.athrow, 1) := by decide +kernel
theorem dX3_setCurrent_36 : decode cX3_setCurrent 36 = .ok (.aload_n 0, 1) := by decide +kernel
theorem dX3_setCurrent_37 : decode cX3_setCurrent 37 = .ok (.getfield 10, 3) := by decide +kernel
theorem dX3_setCurrent_40 : decode cX3_setCurrent 40 = .ok (.getfield 46, 3) := by decide +kernel
theorem dX3_setCurrent_43 : decode cX3_setCurrent 43 = .ok (.iload_n 1, 1) := by decide +kernel
theorem dX3_setCurrent_44 : decode cX3_setCurrent 44 = .ok (.invokevirtual 50, 3) := by decide +kernel
theorem dX3_setCurrent_47 : decode cX3_setCurrent 47 = .ok (.istore_n 3, 1) := by decide +kernel
theorem dX3_setCurrent_48 : decode cX3_setCurrent 48 = .ok (.aload_n 0, 1) := by decide +kernel
theorem dX3_setCurrent_49 : decode cX3_setCurrent 49 = .ok (.getfield 10, 3) := by decide +kernel
theorem dX3_setCurrent_52 : decode cX3_setCurrent 52 = .ok (.getfield 46, 3) := by decide +kernel
theorem dX3_setCurrent_55 : decode cX3_setCurrent 55 = .ok (.iload_n 1, 1) := by decide +kernel
theorem dX3_setCurrent_56 : decode cX3_setCurrent 56 = .ok (.iload_n 2, 1) := by decide +kernel
theorem dX3_setCurrent_57 : decode cX3_setCurrent 57 = .ok (.invokevirtual 56, 3) := by decide +kernel
theorem dX3_setCurrent_60 : decode cX3_setCurrent 60 = .ok (.iload_n 3, 1) := by decide +kernel
theorem dX3_setCurrent_61 : decode cX3_setCurrent 61 = .ok (.ireturn, 1) := by decide +kernel
set_option maxRecDepth 20000 in
theorem ggX3_weir_X3_isWithin : GoodIn wsX3_weir wsX3_isWithin := goodIn_r _ [13] (by decide +kernel) (by decide +kernel)
set_option maxRecDepth 20000 in
theorem gX3_weir_X3_isWithin : GoodIn wsX3_weir (va_wsS RX3 37 yX3_isWithin wsX3_isWithin) := goodIn_app (goodIn_of _ (by decide +kernel)) ggX3_weir_X3_isWithin
set_option maxRecDepth 20000 in
theorem ggX3_weir_X2_get : GoodIn wsX3_weir wsX2_get := goodIn_r _ [18, 19, 39] (by decide +kernel) (by decide +kernel)
set_option maxRecDepth 20000 in
theorem gX3_weir_X2_get : GoodIn wsX3_weir (wsV RX3 50 RX2 yX2_get wsX2_get) := goodIn_app (goodIn_of _ (by decide +kernel)) ggX3_weir_X2_get
set_option maxRecDepth 20000 in
theorem ggX3_weir_X0_addWeir : GoodIn wsX3_weir wsX0_addWeir := goodIn_r _ [24, 25, 26, 27, 28, 29, 17, 30, 19, 34, 35, 36, 37, 38, 39] (by decide +kernel) (by decide +kernel)
set_option maxRecDepth 20000 in
theorem gX3_weir_X0_addWeir : GoodIn wsX3_weir (wsV RX3 76 RX0 yX0_addWeir wsX0_addWeir) := goodIn_app (goodIn_of _ (by decide +kernel)) ggX3_weir_X0_addWeir
theorem dX3_weir_0 : decode cX3_weir 0 = .ok (.iload_n 1, 1) := by decide +kernel
theorem dX3_weir_1 : decode cX3_weir 1 = .ok (.iconst 1, 1) := by decide +kernel
theorem dX3_weir_2 : decode cX3_weir 2 = .ok (.bipush 59, 2) := by decide +kernel
theorem dX3_weir_4 : decode cX3_weir 4 = .ok (.invokestatic 37, 3) := by decide +kernel
theorem dX3_weir_7 : decode cX3_weir 7 = .ok (.ifCond .ne 13, 3) := by decide +kernel
theorem dX3_weir_10 : decode cX3_weir 10 = .ok (.new 30, 3) := by decide +kernel
theorem dX3_weir_13 : decode cX3_weir 13 = .ok (.dup, 1) := by decide +kernel
theorem dX3_weir_14 : decode cX3_weir 14 = .ok (.ldc 60, 2) := by decide +kernel
theorem dX3_weir_16 : decode cX3_weir 16 = .ok (.invokespecial 34, 3) := by decide +kernel
theorem dX3_weir_19 : decode cX3_weir 19 = .ok (.athrow, 1) := by decide +kernel
theorem dX3_weir_20 : decode cX3_weir 20 = .ok (.iload_n 2, 1) := by decide +kernel
theorem dX3_weir_21 : decode cX3_weir 21 = .ok (.iconst 1, 1) := by decide +kernel
theorem dX3_weir_22 : decode cX3_weir 22 = .ok (.bipush 9, 2) := by decide +kernel
theorem dX3_weir_24 : decode cX3_weir 24 = .ok (.invokestatic 37, 3) := by decide +kernel
theorem dX3_weir_27 : decode cX3_weir 27 = .ok (.ifCond .ne 13, 3) := by decide +kernel
theorem dX3_weir_30 : decode cX3_weir 30 = .ok (.new 41, 3) := by decide +kernel
theorem dX3_weir_33 : decode cX3_weir 33 = .ok (.dup, 1) := by decide +kernel
theorem dX3_weir_34 : decode cX3_weir 34 = .ok (.ldc 62, 2) := by decide +kernel
theorem dX3_weir_36 : decode cX3_weir 36 = .ok (.invokespecial 45, 3) := by decide +kernel
theorem dX3_weir_39 : decode cX3_weir 39 = .ok (.athrow, 1) := by decide +kernel
theorem dX3_weir_40 : decode cX3_weir 40 = .ok (.aload_n 0, 1) := by decide +kernel
theorem dX3_weir_41 : decode cX3_weir 41 = .ok (.getfield 10, 3) := by decide +kernel
theorem dX3_weir_44 : decode cX3_weir 44 = .ok (.getfield 64, 3) := by decide +kernel
theorem dX3_weir_47 : decode cX3_weir 47 = .ok (.bipush 6, 2) := by decide +kernel
theorem dX3_weir_49 : decode cX3_weir 49 = .ok (.if_icmp .ge 17, 3) := by decide +kernel
theorem dX3_weir_52 : decode cX3_weir 52 = .ok (.aload_n 0, 1) := by decide +kernel
theorem dX3_weir_53 : decode cX3_weir 53 = .ok (.getfield 10, 3) := by decide +kernel
theorem dX3_weir_56 : decode cX3_weir 56 = .ok (.getfield 68, 3) := by decide +kernel
theorem dX3_weir_59 : decode cX3_weir 59 = .ok (.iload_n 1, 1) := by decide +kernel
theorem dX3_weir_60 : decode cX3_weir 60 = .ok (.invokevirtual 50, 3) := by decide +kernel
theorem dX3_weir_63 : decode cX3_weir 63 = .ok (.ifCond .le 13, 3) := by decide +kernel
theorem dX3_weir_66 : decode cX3_weir 66 = .ok (.new 71, 3) := by decide +kernel
theorem dX3_weir_69 : decode cX3_weir 69 = .ok (.dup, 1) := by decide +kernel
theorem dX3_weir_70 : decode cX3_weir 70 = .ok (.ldc 73, 2) := by decide +kernel
theorem dX3_weir_72 : decode cX3_weir 72 = .ok (.invokespecial 75, 3) := by decide +kernel
theorem dX3_weir_75 : decode cX3_weir 75 = .ok (.athrow, 1) := by decide +kernel
theorem dX3_weir_76 : decode cX3_weir 76 = .ok (.aload_n 0, 1) := by decide +kernel
theorem dX3_weir_77 : decode cX3_weir 77 = .ok (.getfield 10, 3) := by decide +kernel
theorem dX3_weir_80 : decode cX3_weir 80 = .ok (.iload_n 1, 1) := by decide +kernel
theorem dX3_weir_81 : decode cX3_weir 81 = .ok (.iload_n 2, 1) := by decide +kernel
theorem dX3_weir_82 : decode cX3_weir 82 = .ok (.invokevirtual 76, 3) := by decide +kernel
theorem dX3_weir_85 : decode cX3_weir 85 = .ok (.ireturn, 1) := by decide +kernel
set_option maxRecDepth 20000 in
theorem ggX3_net_X3_isLane : GoodIn wsX3_net wsX3_isLane := goodIn_r _ [10, 11, 12, 9, 13] (by decide +kernel) (by decide +kernel)
set_option maxRecDepth 20000 in
theorem gX3_net_X3_isLane : GoodIn wsX3_net (va_wsS RX3 26 yX3_isLane wsX3_isLane) := goodIn_app (goodIn_of _ (by decide +kernel)) ggX3_net_X3_isLane
set_option maxRecDepth 20000 in
theorem ggX3_net_X3_isWithin : GoodIn wsX3_net wsX3_isWithin := goodIn_r _ [13] (by decide +kernel) (by decide +kernel)
set_option maxRecDepth 20000 in
theorem gX3_net_X3_isWithin : GoodIn wsX3_net (va_wsS RX3 37 yX3_isWithin wsX3_isWithin) := goodIn_app (goodIn_of _ (by decide +kernel)) ggX3_net_X3_isWithin
set_option maxRecDepth 20000 in
theorem ggX3_net_X0_hasNet : GoodIn wsX3_net wsX0_hasNet := goodIn_r _ [18, 19, 20, 21, 22, 23, 24, 25, 38, 39, 40, 41, 42, 43] (by decide +kernel) (by decide +kernel)
set_option maxRecDepth 20000 in
theorem gX3_net_X0_hasNet : GoodIn wsX3_net (wsV RX3 85 RX0 yX0_hasNet wsX0_hasNet) := goodIn_app (goodIn_of _ (by decide +kernel)) ggX3_net_X0_hasNet
set_option maxRecDepth 20000 in
theorem ggX3_net_X0_addNet : GoodIn wsX3_net wsX0_addNet := goodIn_r _ [29, 19, 30, 31, 32, 33, 23, 34, 25, 38, 39, 40, 41, 42, 43] (by decide +kernel) (by decide +kernel)
set_option maxRecDepth 20000 in
theorem gX3_net_X0_addNet : GoodIn wsX3_net (wsV RX3 91 RX0 yX0_addNet wsX0_addNet) := goodIn_app (goodIn_of _ (by decide +kernel)) ggX3_net_X0_addNet
theorem dX3_net_0 : decode cX3_net 0 = .ok (.iload_n 1, 1) := by decide +kernel
theorem dX3_net_1 : decode cX3_net 1 = .ok (.invokestatic 26, 3) := by decide +kernel
theorem dX3_net_4 : decode cX3_net 4 = .ok (.ifCond .eq 13, 3) := by decide +kernel
theorem dX3_net_7 : decode cX3_net 7 = .ok (.iload_n 2, 1) := by decide +kernel
theorem dX3_net_8 : decode cX3_net 8 = .ok (.iconst 1, 1) := by decide +kernel
theorem dX3_net_9 : decode cX3_net 9 = .ok (.bipush 59, 2) := by decide +kernel
theorem dX3_net_11 : decode cX3_net 11 = .ok (.invokestatic 37, 3) := by decide +kernel
theorem dX3_net_14 : decode cX3_net 14 = .ok (.ifCond .ne 13, 3) := by decide +kernel
theorem dX3_net_17 : decode cX3_net 17 = .ok (.new 30, 3) := by decide +kernel
theorem dX3_net_20 : decode cX3_net 20 = .ok (.dup, 1) := by decide +kernel
theorem dX3_net_21 : decode cX3_net 21 = .ok (.ldc 80, 2) := by decide +kernel
theorem dX3_net_23 : decode cX3_net 23 = .ok (.invokespecial 34, 3) := by decide +kernel
theorem dX3_net_26 : decode cX3_net 26 = .ok (.athrow, 1) := by decide +kernel
theorem dX3_net_27 : decode cX3_net 27 = .ok (.aload_n 0, 1) := by decide +kernel
theorem dX3_net_28 : decode cX3_net 28 = .ok (.getfield 10, 3) := by decide +kernel
theorem dX3_net_31 : decode cX3_net 31 = .ok (.getfield 82, 3) := by decide +kernel
theorem dX3_net_34 : decode cX3_net 34 = .ok (.iconst 4, 1) := by decide +kernel
theorem dX3_net_35 : decode cX3_net 35 = .ok (.if_icmp .ge 15, 3) := by decide +kernel
theorem dX3_net_38 : decode cX3_net 38 = .ok (.aload_n 0, 1) := by decide +kernel
theorem dX3_net_39 : decode cX3_net 39 = .ok (.getfield 10, 3) := by decide +kernel
theorem dX3_net_42 : decode cX3_net 42 = .ok (.iload_n 1, 1) := by decide +kernel
theorem dX3_net_43 : decode cX3_net 43 = .ok (.iload_n 2, 1) := by decide +kernel
theorem dX3_net_44 : decode cX3_net 44 = .ok (.invokevirtual 85, 3) := by decide +kernel
theorem dX3_net_47 : decode cX3_net 47 = .ok (.ifCond .eq 13, 3) := by decide +kernel
theorem dX3_net_50 : decode cX3_net 50 = .ok (.new 71, 3) := by decide +kernel
theorem dX3_net_53 : decode cX3_net 53 = .ok (.dup, 1) := by decide +kernel
theorem dX3_net_54 : decode cX3_net 54 = .ok (.ldc 89, 2) := by decide +kernel
theorem dX3_net_56 : decode cX3_net 56 = .ok (.invokespecial 75, 3) := by decide +kernel
theorem dX3_net_59 : decode cX3_net 59 = .ok (.athrow, 1) := by decide +kernel
theorem dX3_net_60 : decode cX3_net 60 = .ok (.aload_n 0, 1) := by decide +kernel
theorem dX3_net_61 : decode cX3_net 61 = .ok (.getfield 10, 3) := by decide +kernel
theorem dX3_net_64 : decode cX3_net 64 = .ok (.iload_n 1, 1) := by decide +kernel
theorem dX3_net_65 : decode cX3_net 65 = .ok (.iload_n 2, 1) := by decide +kernel
theorem dX3_net_66 : decode cX3_net 66 = .ok (.invokevirtual 91, 3) := by decide +kernel
theorem dX3_net_69 : decode cX3_net 69 = .ok (.ireturn, 1) := by decide +kernel
set_option maxRecDepth 20000 in
theorem ggX3_river_X3_isLane : GoodIn wsX3_river wsX3_isLane := goodIn_r _ [6, 7, 8, 5, 9] (by decide +kernel) (by decide +kernel)
set_option maxRecDepth 20000 in
theorem gX3_river_X3_isLane : GoodIn wsX3_river (va_wsS RX3 26 yX3_isLane wsX3_isLane) := goodIn_app (goodIn_of _ (by decide +kernel)) ggX3_river_X3_isLane
set_option maxRecDepth 20000 in
theorem ggX3_river_X3_isPlace : GoodIn wsX3_river wsX3_isPlace := goodIn_r _ [12, 7, 8, 5, 9] (by decide +kernel) (by decide +kernel)
set_option maxRecDepth 20000 in
theorem gX3_river_X3_isPlace : GoodIn wsX3_river (va_wsS RX3 94 yX3_isPlace wsX3_isPlace) := goodIn_app (goodIn_of _ (by decide +kernel)) ggX3_river_X3_isPlace
set_option maxRecDepth 20000 in
theorem ggX3_river_X3_isWithin : GoodIn wsX3_river wsX3_isWithin := goodIn_r _ [9] (by decide +kernel) (by decide +kernel)
set_option maxRecDepth 20000 in
theorem gX3_river_X3_isWithin : GoodIn wsX3_river (va_wsS RX3 37 yX3_isWithin wsX3_isWithin) := goodIn_app (goodIn_of _ (by decide +kernel)) ggX3_river_X3_isWithin
set_option maxRecDepth 20000 in
theorem ggX3_river_X3_riverFact : GoodIn wsX3_river wsX3_riverFact := goodIn_r _ [16, 17, 18, 19, 20, 21, 22, 23, 24, 25, 26, 27, 28, 29, 30, 31, 32, 33, 34, 35, 36, 37, 38, 39, 40, 41, 42, 43, 44, 45, 46, 47, 48, 49, 50, 51, 52, 53, 54, 55, 56, 57, 58, 59, 60, 61, 62, 63, 64, 65, 66, 67, 68, 69, 70, 71, 72] (by decide +kernel) (by decide +kernel)
set_option maxRecDepth 20000 in
theorem gX3_river_X3_riverFact : GoodIn wsX3_river (wsV RX3 99 RX3 yX3_riverFact wsX3_riverFact) := goodIn_app (goodIn_of _ (by decide +kernel)) ggX3_river_X3_riverFact
theorem dX3_river_0 : decode cX3_river 0 = .ok (.iload_n 1, 1) := by decide +kernel
theorem dX3_river_1 : decode cX3_river 1 = .ok (.invokestatic 26, 3) := by decide +kernel
theorem dX3_river_4 : decode cX3_river 4 = .ok (.ifCond .eq 19, 3) := by decide +kernel
theorem dX3_river_7 : decode cX3_river 7 = .ok (.iload_n 2, 1) := by decide +kernel
theorem dX3_river_8 : decode cX3_river 8 = .ok (.invokestatic 94, 3) := by decide +kernel
theorem dX3_river_11 : decode cX3_river 11 = .ok (.ifCond .eq 12, 3) := by decide +kernel
theorem dX3_river_14 : decode cX3_river 14 = .ok (.iload_n 3, 1) := by decide +kernel
theorem dX3_river_15 : decode cX3_river 15 = .ok (.iconst 0, 1) := by decide +kernel
theorem dX3_river_16 : decode cX3_river 16 = .ok (.iconst 3, 1) := by decide +kernel
theorem dX3_river_17 : decode cX3_river 17 = .ok (.invokestatic 37, 3) := by decide +kernel
theorem dX3_river_20 : decode cX3_river 20 = .ok (.ifCond .ne 13, 3) := by decide +kernel
theorem dX3_river_23 : decode cX3_river 23 = .ok (.new 30, 3) := by decide +kernel
theorem dX3_river_26 : decode cX3_river 26 = .ok (.dup, 1) := by decide +kernel
theorem dX3_river_27 : decode cX3_river 27 = .ok (.ldc 97, 2) := by decide +kernel
theorem dX3_river_29 : decode cX3_river 29 = .ok (.invokespecial 34, 3) := by decide +kernel
theorem dX3_river_32 : decode cX3_river 32 = .ok (.athrow, 1) := by decide +kernel
theorem dX3_river_33 : decode cX3_river 33 = .ok (.aload_n 0, 1) := by decide +kernel
theorem dX3_river_34 : decode cX3_river 34 = .ok (.iload_n 1, 1) := by decide +kernel
theorem dX3_river_35 : decode cX3_river 35 = .ok (.iload_n 2, 1) := by decide +kernel
theorem dX3_river_36 : decode cX3_river 36 = .ok (.iload_n 3, 1) := by decide +kernel
theorem dX3_river_37 : decode cX3_river 37 = .ok (.invokevirtual 99, 3) := by decide +kernel
theorem dX3_river_40 : decode cX3_river 40 = .ok (.ireturn, 1) := by decide +kernel
set_option maxRecDepth 20000 in
theorem ggX3_launch_X3_isFrame : GoodIn wsX3_launch wsX3_isFrame := goodIn_r _ [12, 13, 14, 11, 15] (by decide +kernel) (by decide +kernel)
set_option maxRecDepth 20000 in
theorem gX3_launch_X3_isFrame : GoodIn wsX3_launch (va_wsS RX3 103 yX3_isFrame wsX3_isFrame) := goodIn_app (goodIn_of _ (by decide +kernel)) ggX3_launch_X3_isFrame
set_option maxRecDepth 20000 in
theorem ggX3_launch_X3_isLane : GoodIn wsX3_launch wsX3_isLane := goodIn_r _ [18, 13, 14, 11, 15] (by decide +kernel) (by decide +kernel)
set_option maxRecDepth 20000 in
theorem gX3_launch_X3_isLane : GoodIn wsX3_launch (va_wsS RX3 26 yX3_isLane wsX3_isLane) := goodIn_app (goodIn_of _ (by decide +kernel)) ggX3_launch_X3_isLane
set_option maxRecDepth 20000 in
theorem ggX3_launch_X3_isPlace : GoodIn wsX3_launch wsX3_isPlace := goodIn_r _ [21, 13, 14, 11, 15] (by decide +kernel) (by decide +kernel)
set_option maxRecDepth 20000 in
theorem gX3_launch_X3_isPlace : GoodIn wsX3_launch (va_wsS RX3 94 yX3_isPlace wsX3_isPlace) := goodIn_app (goodIn_of _ (by decide +kernel)) ggX3_launch_X3_isPlace
set_option maxRecDepth 20000 in
theorem ggX3_launch_X3_isWithin : GoodIn wsX3_launch wsX3_isWithin := goodIn_r _ [15] (by decide +kernel) (by decide +kernel)
set_option maxRecDepth 20000 in
theorem gX3_launch_X3_isWithin : GoodIn wsX3_launch (va_wsS RX3 37 yX3_isWithin wsX3_isWithin) := goodIn_app (goodIn_of _ (by decide +kernel)) ggX3_launch_X3_isWithin
set_option maxRecDepth 20000 in
theorem ggX3_launch_X1_add : GoodIn wsX3_launch wsX1_add := goodIn_r _ [26, 27, 28, 29, 30, 31, 32, 33, 34, 35, 36, 37, 38, 39, 40, 41, 42, 43, 11, 44, 45, 46, 47, 25, 48, 49, 50, 51, 52, 53, 54, 55, 56, 60, 61, 62, 63, 64, 65, 66, 67, 68, 69, 70, 71, 72, 73] (by decide +kernel) (by decide +kernel)
set_option maxRecDepth 20000 in
theorem gX3_launch_X1_add : GoodIn wsX3_launch (wsV RX3 115 RX1 yX1_add wsX1_add) := goodIn_app (goodIn_of _ (by decide +kernel)) ggX3_launch_X1_add
theorem dX3_launch_0 : decode cX3_launch 0 = .ok (.iload_n 1, 1) := by decide +kernel
theorem dX3_launch_1 : decode cX3_launch 1 = .ok (.invokestatic 103, 3) := by decide +kernel
theorem dX3_launch_4 : decode cX3_launch 4 = .ok (.ifCond .eq 18, 3) := by decide +kernel
theorem dX3_launch_7 : decode cX3_launch 7 = .ok (.iload_n 3, 1) := by decide +kernel
theorem dX3_launch_8 : decode cX3_launch 8 = .ok (.invokestatic 26, 3) := by decide +kernel
theorem dX3_launch_11 : decode cX3_launch 11 = .ok (.ifCond .eq 11, 3) := by decide +kernel
theorem dX3_launch_14 : decode cX3_launch 14 = .ok (.iload 4, 2) := by decide +kernel
theorem dX3_launch_16 : decode cX3_launch 16 = .ok (.invokestatic 94, 3) := by decide +kernel
theorem dX3_launch_19 : decode cX3_launch 19 = .ok (.ifCond .ne 13, 3) := by decide +kernel
theorem dX3_launch_22 : decode cX3_launch 22 = .ok (.new 30, 3) := by decide +kernel
theorem dX3_launch_25 : decode cX3_launch 25 = .ok (.dup, 1) := by decide +kernel
theorem dX3_launch_26 : decode cX3_launch 26 = .ok (.ldc 106, 2) := by decide +kernel
theorem dX3_launch_28 : decode cX3_launch 28 = .ok (.invokespecial 34, 3) := by decide +kernel
theorem dX3_launch_31 : decode cX3_launch 31 = .ok (.athrow, 1) := by decide +kernel
theorem dX3_launch_32 : decode cX3_launch 32 = .ok (.iload_n 2, 1) := by decide +kernel
theorem dX3_launch_33 : decode cX3_launch 33 = .ok (.iconst 0, 1) := by decide +kernel
theorem dX3_launch_34 : decode cX3_launch 34 = .ok (.sipush 999, 3) := by decide +kernel
theorem dX3_launch_37 : decode cX3_launch 37 = .ok (.invokestatic 37, 3) := by decide +kernel
theorem dX3_launch_40 : decode cX3_launch 40 = .ok (.ifCond .ne 13, 3) := by decide +kernel
theorem dX3_launch_43 : decode cX3_launch 43 = .ok (.new 41, 3) := by decide +kernel
theorem dX3_launch_46 : decode cX3_launch 46 = .ok (.dup, 1) := by decide +kernel
theorem dX3_launch_47 : decode cX3_launch 47 = .ok (.ldc 108, 2) := by decide +kernel
theorem dX3_launch_49 : decode cX3_launch 49 = .ok (.invokespecial 45, 3) := by decide +kernel
theorem dX3_launch_52 : decode cX3_launch 52 = .ok (.athrow, 1) := by decide +kernel
theorem dX3_launch_53 : decode cX3_launch 53 = .ok (.aload_n 0, 1) := by decide +kernel
theorem dX3_launch_54 : decode cX3_launch 54 = .ok (.getfield 19, 3) := by decide +kernel
theorem dX3_launch_57 : decode cX3_launch 57 = .ok (.getfield 110, 3) := by decide +kernel
theorem dX3_launch_60 : decode cX3_launch 60 = .ok (.bipush 40, 2) := by decide +kernel
theorem dX3_launch_62 : decode cX3_launch 62 = .ok (.if_icmp .lt 13, 3) := by decide +kernel
theorem dX3_launch_65 : decode cX3_launch 65 = .ok (.new 71, 3) := by decide +kernel
theorem dX3_launch_68 : decode cX3_launch 68 = .ok (.dup, 1) := by decide +kernel
theorem dX3_launch_69 : decode cX3_launch 69 = .ok (.ldc 113, 2) := by decide +kernel
theorem dX3_launch_71 : decode cX3_launch 71 = .ok (.invokespecial 75, 3) := by decide +kernel
theorem dX3_launch_74 : decode cX3_launch 74 = .ok (.athrow, 1) := by decide +kernel
theorem dX3_launch_75 : decode cX3_launch 75 = .ok (.aload_n 0, 1) := by decide +kernel
theorem dX3_launch_76 : decode cX3_launch 76 = .ok (.getfield 19, 3) := by decide +kernel
theorem dX3_launch_79 : decode cX3_launch 79 = .ok (.iload_n 1, 1) := by decide +kernel
theorem dX3_launch_80 : decode cX3_launch 80 = .ok (.iload_n 2, 1) := by decide +kernel
theorem dX3_launch_81 : decode cX3_launch 81 = .ok (.iload_n 3, 1) := by decide +kernel
theorem dX3_launch_82 : decode cX3_launch 82 = .ok (.iload 4, 2) := by decide +kernel
theorem dX3_launch_84 : decode cX3_launch 84 = .ok (.invokevirtual 115, 3) := by decide +kernel
theorem dX3_launch_87 : decode cX3_launch 87 = .ok (.ireturn, 1) := by decide +kernel
set_option maxRecDepth 20000 in
theorem ggX3_push_X1_has : GoodIn wsX3_push wsX1_has := goodIn_r _ [12, 13, 14, 15, 16, 56, 57, 58, 59, 60, 61, 62, 63, 64, 65, 66, 67, 68] (by decide +kernel) (by decide +kernel)
set_option maxRecDepth 20000 in
theorem gX3_push_X1_has : GoodIn wsX3_push (wsV RX3 119 RX1 yX1_has wsX1_has) := goodIn_app (goodIn_of _ (by decide +kernel)) ggX3_push_X1_has
set_option maxRecDepth 20000 in
theorem ggX3_push_X3_isLane : GoodIn wsX3_push wsX3_isLane := goodIn_r _ [19, 20, 14, 15, 16] (by decide +kernel) (by decide +kernel)
set_option maxRecDepth 20000 in
theorem gX3_push_X3_isLane : GoodIn wsX3_push (va_wsS RX3 26 yX3_isLane wsX3_isLane) := goodIn_app (goodIn_of _ (by decide +kernel)) ggX3_push_X3_isLane
set_option maxRecDepth 20000 in
theorem ggX3_push_X1_isAfloat : GoodIn wsX3_push wsX1_isAfloat := goodIn_r _ [24, 25, 26, 9, 10, 11, 12, 13, 14, 15, 16, 27, 28, 29, 30, 31, 32, 56, 57, 58, 59, 60, 61, 62, 63, 64, 65, 66, 67, 68, 69] (by decide +kernel) (by decide +kernel)
set_option maxRecDepth 20000 in
theorem gX3_push_X1_isAfloat : GoodIn wsX3_push (wsV RX3 124 RX1 yX1_isAfloat wsX1_isAfloat) := goodIn_app (goodIn_of _ (by decide +kernel)) ggX3_push_X1_isAfloat
set_option maxRecDepth 20000 in
theorem ggX3_push_X2_get : GoodIn wsX3_push wsX2_get := goodIn_r _ [31, 32, 69] (by decide +kernel) (by decide +kernel)
set_option maxRecDepth 20000 in
theorem gX3_push_X2_get : GoodIn wsX3_push (wsV RX3 50 RX2 yX2_get wsX2_get) := goodIn_app (goodIn_of _ (by decide +kernel)) ggX3_push_X2_get
set_option maxRecDepth 20000 in
theorem ggX3_push_X1_moveTo : GoodIn wsX3_push wsX1_moveTo := goodIn_r _ [37, 38, 39, 40, 41, 42, 11, 43, 44, 45, 27, 28, 29, 30, 31, 32, 46, 47, 48, 49, 50, 51, 52, 56, 57, 58, 59, 60, 61, 62, 63, 64, 65, 66, 67, 68, 69] (by decide +kernel) (by decide +kernel)
set_option maxRecDepth 20000 in
theorem gX3_push_X1_moveTo : GoodIn wsX3_push (wsV RX3 135 RX1 yX1_moveTo wsX1_moveTo) := goodIn_app (goodIn_of _ (by decide +kernel)) ggX3_push_X1_moveTo
theorem dX3_push_0 : decode cX3_push 0 = .ok (.aload_n 0, 1) := by decide +kernel
theorem dX3_push_1 : decode cX3_push 1 = .ok (.getfield 19, 3) := by decide +kernel
theorem dX3_push_4 : decode cX3_push 4 = .ok (.iload_n 1, 1) := by decide +kernel
theorem dX3_push_5 : decode cX3_push 5 = .ok (.invokevirtual 119, 3) := by decide +kernel
theorem dX3_push_8 : decode cX3_push 8 = .ok (.ifCond .eq 10, 3) := by decide +kernel
theorem dX3_push_11 : decode cX3_push 11 = .ok (.iload_n 2, 1) := by decide +kernel
theorem dX3_push_12 : decode cX3_push 12 = .ok (.invokestatic 26, 3) := by decide +kernel
theorem dX3_push_15 : decode cX3_push 15 = .ok (.ifCond .ne 13, 3) := by decide +kernel
theorem dX3_push_18 : decode cX3_push 18 = .ok (.new 30, 3) := by decide +kernel
theorem dX3_push_21 : decode cX3_push 21 = .ok (.dup, 1) := by decide +kernel
theorem dX3_push_22 : decode cX3_push 22 = .ok (.ldc 122, 2) := by decide +kernel
theorem dX3_push_24 : decode cX3_push 24 = .ok (.invokespecial 34, 3) := by decide +kernel
theorem dX3_push_27 : decode cX3_push 27 = .ok (.athrow, 1) := by decide +kernel
theorem dX3_push_28 : decode cX3_push 28 = .ok (.aload_n 0, 1) := by decide +kernel
theorem dX3_push_29 : decode cX3_push 29 = .ok (.getfield 19, 3) := by decide +kernel
theorem dX3_push_32 : decode cX3_push 32 = .ok (.iload_n 1, 1) := by decide +kernel
theorem dX3_push_33 : decode cX3_push 33 = .ok (.invokevirtual 124, 3) := by decide +kernel
theorem dX3_push_36 : decode cX3_push 36 = .ok (.ifCond .ne 13, 3) := by decide +kernel
theorem dX3_push_39 : decode cX3_push 39 = .ok (.new 71, 3) := by decide +kernel
theorem dX3_push_42 : decode cX3_push 42 = .ok (.dup, 1) := by decide +kernel
theorem dX3_push_43 : decode cX3_push 43 = .ok (.ldc 127, 2) := by decide +kernel
theorem dX3_push_45 : decode cX3_push 45 = .ok (.invokespecial 75, 3) := by decide +kernel
theorem dX3_push_48 : decode cX3_push 48 = .ok (.athrow, 1) := by decide +kernel
theorem dX3_push_49 : decode cX3_push 49 = .ok (.aload_n 0, 1) := by decide +kernel
theorem dX3_push_50 : decode cX3_push 50 = .ok (.getfield 19, 3) := by decide +kernel
theorem dX3_push_53 : decode cX3_push 53 = .ok (.getfield 129, 3) := by decide +kernel
theorem dX3_push_56 : decode cX3_push 56 = .ok (.iload_n 1, 1) := by decide +kernel
theorem dX3_push_57 : decode cX3_push 57 = .ok (.invokevirtual 50, 3) := by decide +kernel
theorem dX3_push_60 : decode cX3_push 60 = .ok (.istore_n 3, 1) := by decide +kernel
theorem dX3_push_61 : decode cX3_push 61 = .ok (.aload_n 0, 1) := by decide +kernel
theorem dX3_push_62 : decode cX3_push 62 = .ok (.getfield 19, 3) := by decide +kernel
theorem dX3_push_65 : decode cX3_push 65 = .ok (.iload_n 1, 1) := by decide +kernel
theorem dX3_push_66 : decode cX3_push 66 = .ok (.iload_n 2, 1) := by decide +kernel
theorem dX3_push_67 : decode cX3_push 67 = .ok (.aload_n 0, 1) := by decide +kernel
theorem dX3_push_68 : decode cX3_push 68 = .ok (.getfield 19, 3) := by decide +kernel
theorem dX3_push_71 : decode cX3_push 71 = .ok (.getfield 132, 3) := by decide +kernel
theorem dX3_push_74 : decode cX3_push 74 = .ok (.iload_n 1, 1) := by decide +kernel
theorem dX3_push_75 : decode cX3_push 75 = .ok (.invokevirtual 50, 3) := by decide +kernel
theorem dX3_push_78 : decode cX3_push 78 = .ok (.invokevirtual 135, 3) := by decide +kernel
theorem dX3_push_81 : decode cX3_push 81 = .ok (.iload_n 3, 1) := by decide +kernel
theorem dX3_push_82 : decode cX3_push 82 = .ok (.ireturn, 1) := by decide +kernel
set_option maxRecDepth 20000 in
theorem ggX3_light_X1_has : GoodIn wsX3_light wsX1_has := goodIn_r _ [12, 13, 14, 15, 16, 55, 56, 57, 58, 59, 60, 61, 62, 63, 64, 65, 66, 67] (by decide +kernel) (by decide +kernel)
set_option maxRecDepth 20000 in
theorem gX3_light_X1_has : GoodIn wsX3_light (wsV RX3 119 RX1 yX1_has wsX1_has) := goodIn_app (goodIn_of _ (by decide +kernel)) ggX3_light_X1_has
set_option maxRecDepth 20000 in
theorem ggX3_light_X1_isAfloat : GoodIn wsX3_light wsX1_isAfloat := goodIn_r _ [20, 21, 22, 9, 10, 11, 12, 13, 14, 15, 16, 23, 24, 25, 26, 27, 28, 55, 56, 57, 58, 59, 60, 61, 62, 63, 64, 65, 66, 67, 68] (by decide +kernel) (by decide +kernel)
set_option maxRecDepth 20000 in
theorem gX3_light_X1_isAfloat : GoodIn wsX3_light (wsV RX3 124 RX1 yX1_isAfloat wsX1_isAfloat) := goodIn_app (goodIn_of _ (by decide +kernel)) ggX3_light_X1_isAfloat
set_option maxRecDepth 20000 in
theorem ggX3_light_X1_canBeLit : GoodIn wsX3_light wsX1_canBeLit := goodIn_r _ [32, 33, 34, 35, 36, 11, 37, 38, 22, 9, 10, 12, 13, 14, 15, 16, 23, 24, 25, 26, 27, 28, 39, 40, 41, 42, 43, 44, 45, 46, 55, 56, 57, 58, 59, 60, 61, 62, 63, 64, 65, 66, 67, 68] (by decide +kernel) (by decide +kernel)
set_option maxRecDepth 20000 in
theorem gX3_light_X1_canBeLit : GoodIn wsX3_light (wsV RX3 141 RX1 yX1_canBeLit wsX1_canBeLit) := goodIn_app (goodIn_of _ (by decide +kernel)) ggX3_light_X1_canBeLit
set_option maxRecDepth 20000 in
theorem ggX3_light_X2_put : GoodIn wsX3_light wsX2_put := goodIn_r _ [50, 28, 68] (by decide +kernel) (by decide +kernel)
set_option maxRecDepth 20000 in
theorem gX3_light_X2_put : GoodIn wsX3_light (wsV RX3 56 RX2 yX2_put wsX2_put) := goodIn_app (goodIn_of _ (by decide +kernel)) ggX3_light_X2_put
set_option maxRecDepth 20000 in
theorem ggX3_light_X2_get : GoodIn wsX3_light wsX2_get := goodIn_r _ [27, 28, 68] (by decide +kernel) (by decide +kernel)
set_option maxRecDepth 20000 in
theorem gX3_light_X2_get : GoodIn wsX3_light (wsV RX3 50 RX2 yX2_get wsX2_get) := goodIn_app (goodIn_of _ (by decide +kernel)) ggX3_light_X2_get
theorem dX3_light_0 : decode cX3_light 0 = .ok (.aload_n 0, 1) := by decide +kernel
theorem dX3_light_1 : decode cX3_light 1 = .ok (.getfield 19, 3) := by decide +kernel
theorem dX3_light_4 : decode cX3_light 4 = .ok (.iload_n 1, 1) := by decide +kernel
theorem dX3_light_5 : decode cX3_light 5 = .ok (.invokevirtual 119, 3) := by decide +kernel
theorem dX3_light_8 : decode cX3_light 8 = .ok (.ifCond .ne 13, 3) := by decide +kernel
theorem dX3_light_11 : decode cX3_light 11 = .ok (.new 30, 3) := by decide +kernel
theorem dX3_light_14 : decode cX3_light 14 = .ok (.dup, 1) := by decide +kernel
theorem dX3_light_15 : decode cX3_light 15 = .ok (.ldc 139, 2) := by decide +kernel
theorem dX3_light_17 : decode cX3_light 17 = .ok (.invokespecial 34, 3) := by decide +kernel
theorem dX3_light_20 : decode cX3_light 20 = .ok (.athrow, 1) := by decide +kernel
theorem dX3_light_21 : decode cX3_light 21 = .ok (.aload_n 0, 1) := by decide +kernel
theorem dX3_light_22 : decode cX3_light 22 = .ok (.getfield 19, 3) := by decide +kernel
theorem dX3_light_25 : decode cX3_light 25 = .ok (.iload_n 1, 1) := by decide +kernel
theorem dX3_light_26 : decode cX3_light 26 = .ok (.invokevirtual 124, 3) := by decide +kernel
theorem dX3_light_29 : decode cX3_light 29 = .ok (.ifCond .eq 14, 3) := by decide +kernel
theorem dX3_light_32 : decode cX3_light 32 = .ok (.aload_n 0, 1) := by decide +kernel
theorem dX3_light_33 : decode cX3_light 33 = .ok (.getfield 19, 3) := by decide +kernel
theorem dX3_light_36 : decode cX3_light 36 = .ok (.iload_n 1, 1) := by decide +kernel
theorem dX3_light_37 : decode cX3_light 37 = .ok (.invokevirtual 141, 3) := by decide +kernel
theorem dX3_light_40 : decode cX3_light 40 = .ok (.ifCond .ne 13, 3) := by decide +kernel
theorem dX3_light_43 : decode cX3_light 43 = .ok (.new 71, 3) := by decide +kernel
theorem dX3_light_46 : decode cX3_light 46 = .ok (.dup, 1) := by decide +kernel
theorem dX3_light_47 : decode cX3_light 47 = .ok (.ldc 144, 2) := by decide +kernel
theorem dX3_light_49 : decode cX3_light 49 = .ok (.invokespecial 75, 3) := by decide +kernel
theorem dX3_light_52 : decode cX3_light 52 = .ok (.athrow, 1) := by decide +kernel
theorem dX3_light_53 : decode cX3_light 53 = .ok (.aload_n 0, 1) := by decide +kernel
theorem dX3_light_54 : decode cX3_light 54 = .ok (.getfield 19, 3) := by decide +kernel
theorem dX3_light_57 : decode cX3_light 57 = .ok (.getfield 146, 3) := by decide +kernel
theorem dX3_light_60 : decode cX3_light 60 = .ok (.iload_n 1, 1) := by decide +kernel
theorem dX3_light_61 : decode cX3_light 61 = .ok (.iconst 1, 1) := by decide +kernel
theorem dX3_light_62 : decode cX3_light 62 = .ok (.invokevirtual 56, 3) := by decide +kernel
theorem dX3_light_65 : decode cX3_light 65 = .ok (.aload_n 0, 1) := by decide +kernel
theorem dX3_light_66 : decode cX3_light 66 = .ok (.getfield 19, 3) := by decide +kernel
theorem dX3_light_69 : decode cX3_light 69 = .ok (.getfield 149, 3) := by decide +kernel
theorem dX3_light_72 : decode cX3_light 72 = .ok (.iload_n 1, 1) := by decide +kernel
theorem dX3_light_73 : decode cX3_light 73 = .ok (.invokevirtual 50, 3) := by decide +kernel
theorem dX3_light_76 : decode cX3_light 76 = .ok (.ireturn, 1) := by decide +kernel
set_option maxRecDepth 20000 in
theorem ggX3_blow_X1_has : GoodIn wsX3_blow wsX1_has := goodIn_r _ [12, 13, 14, 15, 16, 42, 43, 44, 45, 46, 47, 48, 49, 50, 51, 52, 53, 54] (by decide +kernel) (by decide +kernel)
set_option maxRecDepth 20000 in
theorem gX3_blow_X1_has : GoodIn wsX3_blow (wsV RX3 119 RX1 yX1_has wsX1_has) := goodIn_app (goodIn_of _ (by decide +kernel)) ggX3_blow_X1_has
set_option maxRecDepth 20000 in
theorem ggX3_blow_X1_isAfloat : GoodIn wsX3_blow wsX1_isAfloat := goodIn_r _ [20, 21, 22, 9, 10, 11, 12, 13, 14, 15, 16, 23, 24, 25, 26, 27, 28, 42, 43, 44, 45, 46, 47, 48, 49, 50, 51, 52, 53, 54, 55] (by decide +kernel) (by decide +kernel)
set_option maxRecDepth 20000 in
theorem gX3_blow_X1_isAfloat : GoodIn wsX3_blow (wsV RX3 124 RX1 yX1_isAfloat wsX1_isAfloat) := goodIn_app (goodIn_of _ (by decide +kernel)) ggX3_blow_X1_isAfloat
set_option maxRecDepth 20000 in
theorem ggX3_blow_X1_isBurning : GoodIn wsX3_blow wsX1_isBurning := goodIn_r _ [32, 33, 22, 9, 10, 11, 12, 13, 14, 15, 16, 23, 24, 25, 26, 27, 28, 42, 43, 44, 45, 46, 47, 48, 49, 50, 51, 52, 53, 54, 55] (by decide +kernel) (by decide +kernel)
set_option maxRecDepth 20000 in
theorem gX3_blow_X1_isBurning : GoodIn wsX3_blow (wsV RX3 152 RX1 yX1_isBurning wsX1_isBurning) := goodIn_app (goodIn_of _ (by decide +kernel)) ggX3_blow_X1_isBurning
set_option maxRecDepth 20000 in
theorem ggX3_blow_X2_put : GoodIn wsX3_blow wsX2_put := goodIn_r _ [37, 28, 55] (by decide +kernel) (by decide +kernel)
set_option maxRecDepth 20000 in
theorem gX3_blow_X2_put : GoodIn wsX3_blow (wsV RX3 56 RX2 yX2_put wsX2_put) := goodIn_app (goodIn_of _ (by decide +kernel)) ggX3_blow_X2_put
set_option maxRecDepth 20000 in
theorem ggX3_blow_X2_get : GoodIn wsX3_blow wsX2_get := goodIn_r _ [27, 28, 55] (by decide +kernel) (by decide +kernel)
set_option maxRecDepth 20000 in
theorem gX3_blow_X2_get : GoodIn wsX3_blow (wsV RX3 50 RX2 yX2_get wsX2_get) := goodIn_app (goodIn_of _ (by decide +kernel)) ggX3_blow_X2_get
theorem dX3_blow_0 : decode cX3_blow 0 = .ok (.aload_n 0, 1) := by decide +kernel
theorem dX3_blow_1 : decode cX3_blow 1 = .ok (.getfield 19, 3) := by decide +kernel
theorem dX3_blow_4 : decode cX3_blow 4 = .ok (.iload_n 1, 1) := by decide +kernel
theorem dX3_blow_5 : decode cX3_blow 5 = .ok (.invokevirtual 119, 3) := by decide +kernel
theorem dX3_blow_8 : decode cX3_blow 8 = .ok (.ifCond .ne 13, 3) := by decide +kernel
theorem dX3_blow_11 : decode cX3_blow 11 = .ok (.new 30, 3) := by decide +kernel
theorem dX3_blow_14 : decode cX3_blow 14 = .ok (.dup, 1) := by decide +kernel
theorem dX3_blow_15 : decode cX3_blow 15 = .ok (.ldc 139, 2) := by decide +kernel
theorem dX3_blow_17 : decode cX3_blow 17 = .ok (.invokespecial 34, 3) := by decide +kernel
theorem dX3_blow_20 : decode cX3_blow 20 = .ok (.athrow, 1) := by decide +kernel
theorem dX3_blow_21 : decode cX3_blow 21 = .ok (.aload_n 0, 1) := by decide +kernel
theorem dX3_blow_22 : decode cX3_blow 22 = .ok (.getfield 19, 3) := by decide +kernel
theorem dX3_blow_25 : decode cX3_blow 25 = .ok (.iload_n 1, 1) := by decide +kernel
theorem dX3_blow_26 : decode cX3_blow 26 = .ok (.invokevirtual 124, 3) := by decide +kernel
theorem dX3_blow_29 : decode cX3_blow 29 = .ok (.ifCond .eq 14, 3) := by decide +kernel
theorem dX3_blow_32 : decode cX3_blow 32 = .ok (.aload_n 0, 1) := by decide +kernel
theorem dX3_blow_33 : decode cX3_blow 33 = .ok (.getfield 19, 3) := by decide +kernel
theorem dX3_blow_36 : decode cX3_blow 36 = .ok (.iload_n 1, 1) := by decide +kernel
theorem dX3_blow_37 : decode cX3_blow 37 = .ok (.invokevirtual 152, 3) := by decide +kernel
theorem dX3_blow_40 : decode cX3_blow 40 = .ok (.ifCond .ne 13, 3) := by decide +kernel
theorem dX3_blow_43 : decode cX3_blow 43 = .ok (.new 71, 3) := by decide +kernel
theorem dX3_blow_46 : decode cX3_blow 46 = .ok (.dup, 1) := by decide +kernel
theorem dX3_blow_47 : decode cX3_blow 47 = .ok (.ldc 155, 2) := by decide +kernel
theorem dX3_blow_49 : decode cX3_blow 49 = .ok (.invokespecial 75, 3) := by decide +kernel
theorem dX3_blow_52 : decode cX3_blow 52 = .ok (.athrow, 1) := by decide +kernel
theorem dX3_blow_53 : decode cX3_blow 53 = .ok (.aload_n 0, 1) := by decide +kernel
theorem dX3_blow_54 : decode cX3_blow 54 = .ok (.getfield 19, 3) := by decide +kernel
theorem dX3_blow_57 : decode cX3_blow 57 = .ok (.getfield 146, 3) := by decide +kernel
theorem dX3_blow_60 : decode cX3_blow 60 = .ok (.iload_n 1, 1) := by decide +kernel
theorem dX3_blow_61 : decode cX3_blow 61 = .ok (.iconst 0, 1) := by decide +kernel
theorem dX3_blow_62 : decode cX3_blow 62 = .ok (.invokevirtual 56, 3) := by decide +kernel
theorem dX3_blow_65 : decode cX3_blow 65 = .ok (.aload_n 0, 1) := by decide +kernel
theorem dX3_blow_66 : decode cX3_blow 66 = .ok (.getfield 19, 3) := by decide +kernel
theorem dX3_blow_69 : decode cX3_blow 69 = .ok (.getfield 149, 3) := by decide +kernel
theorem dX3_blow_72 : decode cX3_blow 72 = .ok (.iload_n 1, 1) := by decide +kernel
theorem dX3_blow_73 : decode cX3_blow 73 = .ok (.invokevirtual 50, 3) := by decide +kernel
theorem dX3_blow_76 : decode cX3_blow 76 = .ok (.ireturn, 1) := by decide +kernel
set_option maxRecDepth 20000 in
theorem ggX3_told_X1_has : GoodIn wsX3_told wsX1_has := goodIn_r _ [8, 9, 10, 11, 12, 36, 37, 38, 39, 40, 41, 42, 43, 44, 45, 46, 47, 48] (by decide +kernel) (by decide +kernel)
set_option maxRecDepth 20000 in
theorem gX3_told_X1_has : GoodIn wsX3_told (wsV RX3 119 RX1 yX1_has wsX1_has) := goodIn_app (goodIn_of _ (by decide +kernel)) ggX3_told_X1_has
set_option maxRecDepth 20000 in
theorem ggX3_told_X3_isWithin : GoodIn wsX3_told wsX3_isWithin := goodIn_r _ [12] (by decide +kernel) (by decide +kernel)
set_option maxRecDepth 20000 in
theorem gX3_told_X3_isWithin : GoodIn wsX3_told (va_wsS RX3 37 yX3_isWithin wsX3_isWithin) := goodIn_app (goodIn_of _ (by decide +kernel)) ggX3_told_X3_isWithin
set_option maxRecDepth 20000 in
theorem ggX3_told_X1_fact : GoodIn wsX3_told wsX1_fact := goodIn_r _ [17, 18, 19, 20, 21, 22, 23, 24, 25, 26, 27, 28, 29, 30, 31, 32, 36, 37, 38, 39, 40, 41, 42, 43, 44, 45, 46, 47, 48, 49] (by decide +kernel) (by decide +kernel)
set_option maxRecDepth 20000 in
theorem gX3_told_X1_fact : GoodIn wsX3_told (wsV RX3 159 RX1 yX1_fact wsX1_fact) := goodIn_app (goodIn_of _ (by decide +kernel)) ggX3_told_X1_fact
theorem dX3_told_0 : decode cX3_told 0 = .ok (.aload_n 0, 1) := by decide +kernel
theorem dX3_told_1 : decode cX3_told 1 = .ok (.getfield 19, 3) := by decide +kernel
theorem dX3_told_4 : decode cX3_told 4 = .ok (.iload_n 1, 1) := by decide +kernel
theorem dX3_told_5 : decode cX3_told 5 = .ok (.invokevirtual 119, 3) := by decide +kernel
theorem dX3_told_8 : decode cX3_told 8 = .ok (.ifCond .eq 13, 3) := by decide +kernel
theorem dX3_told_11 : decode cX3_told 11 = .ok (.iload_n 2, 1) := by decide +kernel
theorem dX3_told_12 : decode cX3_told 12 = .ok (.iconst 0, 1) := by decide +kernel
theorem dX3_told_13 : decode cX3_told 13 = .ok (.bipush 8, 2) := by decide +kernel
theorem dX3_told_15 : decode cX3_told 15 = .ok (.invokestatic 37, 3) := by decide +kernel
theorem dX3_told_18 : decode cX3_told 18 = .ok (.ifCond .ne 13, 3) := by decide +kernel
theorem dX3_told_21 : decode cX3_told 21 = .ok (.new 30, 3) := by decide +kernel
theorem dX3_told_24 : decode cX3_told 24 = .ok (.dup, 1) := by decide +kernel
theorem dX3_told_25 : decode cX3_told 25 = .ok (.ldc 157, 2) := by decide +kernel
theorem dX3_told_27 : decode cX3_told 27 = .ok (.invokespecial 34, 3) := by decide +kernel
theorem dX3_told_30 : decode cX3_told 30 = .ok (.athrow, 1) := by decide +kernel
theorem dX3_told_31 : decode cX3_told 31 = .ok (.aload_n 0, 1) := by decide +kernel
theorem dX3_told_32 : decode cX3_told 32 = .ok (.getfield 19, 3) := by decide +kernel
theorem dX3_told_35 : decode cX3_told 35 = .ok (.iload_n 1, 1) := by decide +kernel
theorem dX3_told_36 : decode cX3_told 36 = .ok (.iload_n 2, 1) := by decide +kernel
theorem dX3_told_37 : decode cX3_told 37 = .ok (.invokevirtual 159, 3) := by decide +kernel
theorem dX3_told_40 : decode cX3_told 40 = .ok (.ireturn, 1) := by decide +kernel
set_option maxRecDepth 20000 in
theorem ggX3_next_X1_has : GoodIn wsX3_next wsX1_has := goodIn_r _ [8, 9, 10, 11, 12, 36, 37, 38, 39, 40, 41, 42, 43, 44, 45, 46, 47, 48] (by decide +kernel) (by decide +kernel)
set_option maxRecDepth 20000 in
theorem gX3_next_X1_has : GoodIn wsX3_next (wsV RX3 119 RX1 yX1_has wsX1_has) := goodIn_app (goodIn_of _ (by decide +kernel)) ggX3_next_X1_has
set_option maxRecDepth 20000 in
theorem ggX3_next_X3_nextWeir : GoodIn wsX3_next wsX3_nextWeir := goodIn_r _ [16, 3, 17, 18, 19, 20, 21, 22, 7, 23, 24, 25, 5, 6, 8, 9, 10, 11, 12, 26, 27, 28, 29, 30, 31, 32, 33, 34, 35, 36, 37, 38, 39, 40, 41, 42, 43, 44, 45, 46, 47, 48, 49, 50, 51, 52, 53, 54] (by decide +kernel) (by decide +kernel)
set_option maxRecDepth 20000 in
theorem gX3_next_X3_nextWeir : GoodIn wsX3_next (wsV RX3 162 RX3 yX3_nextWeir wsX3_nextWeir) := goodIn_app (goodIn_of _ (by decide +kernel)) ggX3_next_X3_nextWeir
theorem dX3_next_0 : decode cX3_next 0 = .ok (.aload_n 0, 1) := by decide +kernel
theorem dX3_next_1 : decode cX3_next 1 = .ok (.getfield 19, 3) := by decide +kernel
theorem dX3_next_4 : decode cX3_next 4 = .ok (.iload_n 1, 1) := by decide +kernel
theorem dX3_next_5 : decode cX3_next 5 = .ok (.invokevirtual 119, 3) := by decide +kernel
theorem dX3_next_8 : decode cX3_next 8 = .ok (.ifCond .ne 13, 3) := by decide +kernel
theorem dX3_next_11 : decode cX3_next 11 = .ok (.new 30, 3) := by decide +kernel
theorem dX3_next_14 : decode cX3_next 14 = .ok (.dup, 1) := by decide +kernel
theorem dX3_next_15 : decode cX3_next 15 = .ok (.ldc 139, 2) := by decide +kernel
theorem dX3_next_17 : decode cX3_next 17 = .ok (.invokespecial 34, 3) := by decide +kernel
theorem dX3_next_20 : decode cX3_next 20 = .ok (.athrow, 1) := by decide +kernel
theorem dX3_next_21 : decode cX3_next 21 = .ok (.aload_n 0, 1) := by decide +kernel
theorem dX3_next_22 : decode cX3_next 22 = .ok (.iload_n 1, 1) := by decide +kernel
theorem dX3_next_23 : decode cX3_next 23 = .ok (.invokevirtual 162, 3) := by decide +kernel
theorem dX3_next_26 : decode cX3_next 26 = .ok (.ireturn, 1) := by decide +kernel
set_option maxRecDepth 20000 in
theorem ggX3_count_X3_isWithin : GoodIn wsX3_count wsX3_isWithin := goodIn_r _ [6] (by decide +kernel) (by decide +kernel)
set_option maxRecDepth 20000 in
theorem gX3_count_X3_isWithin : GoodIn wsX3_count (va_wsS RX3 37 yX3_isWithin wsX3_isWithin) := goodIn_app (goodIn_of _ (by decide +kernel)) ggX3_count_X3_isWithin
set_option maxRecDepth 20000 in
theorem ggX3_count_X3_counted : GoodIn wsX3_count wsX3_counted := goodIn_r _ [10, 11, 12, 13, 14, 15, 16, 17, 18, 19, 20, 21, 22, 23, 24, 25, 26, 27, 28, 29, 30, 31, 32, 33, 34, 35, 36, 37, 38, 39, 40, 41, 42, 43, 44, 45, 46, 47, 48, 49, 50, 51, 52, 53, 54, 55, 56, 57] (by decide +kernel) (by decide +kernel)
set_option maxRecDepth 20000 in
theorem gX3_count_X3_counted : GoodIn wsX3_count (wsV RX3 167 RX3 yX3_counted wsX3_counted) := goodIn_app (goodIn_of _ (by decide +kernel)) ggX3_count_X3_counted
theorem dX3_count_0 : decode cX3_count 0 = .ok (.iload_n 1, 1) := by decide +kernel
theorem dX3_count_1 : decode cX3_count 1 = .ok (.iconst 0, 1) := by decide +kernel
theorem dX3_count_2 : decode cX3_count 2 = .ok (.bipush 9, 2) := by decide +kernel
theorem dX3_count_4 : decode cX3_count 4 = .ok (.invokestatic 37, 3) := by decide +kernel
theorem dX3_count_7 : decode cX3_count 7 = .ok (.ifCond .ne 13, 3) := by decide +kernel
theorem dX3_count_10 : decode cX3_count 10 = .ok (.new 30, 3) := by decide +kernel
theorem dX3_count_13 : decode cX3_count 13 = .ok (.dup, 1) := by decide +kernel
theorem dX3_count_14 : decode cX3_count 14 = .ok (.ldc 165, 2) := by decide +kernel
theorem dX3_count_16 : decode cX3_count 16 = .ok (.invokespecial 34, 3) := by decide +kernel
theorem dX3_count_19 : decode cX3_count 19 = .ok (.athrow, 1) := by decide +kernel
theorem dX3_count_20 : decode cX3_count 20 = .ok (.aload_n 0, 1) := by decide +kernel
theorem dX3_count_21 : decode cX3_count 21 = .ok (.iload_n 1, 1) := by decide +kernel
theorem dX3_count_22 : decode cX3_count 22 = .ok (.invokevirtual 167, 3) := by decide +kernel
theorem dX3_count_25 : decode cX3_count 25 = .ok (.ireturn, 1) := by decide +kernel
set_option maxRecDepth 20000 in
theorem ggX3_pass_X3_isWithin : GoodIn wsX3_pass wsX3_isWithin := goodIn_r _ [8] (by decide +kernel) (by decide +kernel)
set_option maxRecDepth 20000 in
theorem gX3_pass_X3_isWithin : GoodIn wsX3_pass (va_wsS RX3 37 yX3_isWithin wsX3_isWithin) := goodIn_app (goodIn_of _ (by decide +kernel)) ggX3_pass_X3_isWithin
set_option maxRecDepth 20000 in
theorem ggX3_pass_X1_tally : GoodIn wsX3_pass wsX1_tally := goodIn_r _ [13, 14, 15, 16, 17, 12, 18, 19, 20, 21, 22, 23, 24, 25, 26, 27, 110, 111, 112, 113, 114, 115, 116, 117, 118, 119, 120, 121, 122, 123] (by decide +kernel) (by decide +kernel)
set_option maxRecDepth 20000 in
theorem gX3_pass_X1_tally : GoodIn wsX3_pass (wsV RX3 172 RX1 yX1_tally wsX1_tally) := goodIn_app (goodIn_of _ (by decide +kernel)) ggX3_pass_X1_tally
set_option maxRecDepth 20000 in
theorem ggX3_pass_X1_passMinutes : GoodIn wsX3_pass wsX1_passMinutes := goodIn_r _ [31, 32, 33, 34, 35, 36, 12, 37, 14, 38, 39, 40, 41, 42, 43, 19, 44, 45, 46, 47, 6, 7, 8, 22, 23, 24, 25, 26, 27, 48, 49, 50, 51, 52, 53, 54, 55, 56, 20, 57, 58, 59, 60, 61, 62, 63, 64, 65, 66, 67, 68, 69, 70, 71, 72, 73, 74, 75, 76, 77, 78, 79, 80, 81, 82, 83, 84, 85, 86, 87, 88, 89, 90, 91, 92, 93, 94, 95, 96, 97, 98, 99, 100, 101, 102, 103, 104, 105, 106, 110, 111, 112, 113, 114, 115, 116, 117, 118, 119, 120, 121, 122, 123, 124, 125, 126, 127, 128] (by decide +kernel) (by decide +kernel)
set_option maxRecDepth 20000 in
theorem gX3_pass_X1_passMinutes : GoodIn wsX3_pass (wsV RX3 175 RX1 yX1_passMinutes wsX1_passMinutes) := goodIn_app (goodIn_of _ (by decide +kernel)) ggX3_pass_X1_passMinutes
theorem dX3_pass_0 : decode cX3_pass 0 = .ok (.iload_n 1, 1) := by decide +kernel
theorem dX3_pass_1 : decode cX3_pass 1 = .ok (.iconst 1, 1) := by decide +kernel
theorem dX3_pass_2 : decode cX3_pass 2 = .ok (.bipush 90, 2) := by decide +kernel
theorem dX3_pass_4 : decode cX3_pass 4 = .ok (.invokestatic 37, 3) := by decide +kernel
theorem dX3_pass_7 : decode cX3_pass 7 = .ok (.ifCond .ne 13, 3) := by decide +kernel
theorem dX3_pass_10 : decode cX3_pass 10 = .ok (.new 41, 3) := by decide +kernel
theorem dX3_pass_13 : decode cX3_pass 13 = .ok (.dup, 1) := by decide +kernel
theorem dX3_pass_14 : decode cX3_pass 14 = .ok (.ldc 170, 2) := by decide +kernel
theorem dX3_pass_16 : decode cX3_pass 16 = .ok (.invokespecial 45, 3) := by decide +kernel
theorem dX3_pass_19 : decode cX3_pass 19 = .ok (.athrow, 1) := by decide +kernel
theorem dX3_pass_20 : decode cX3_pass 20 = .ok (.aload_n 0, 1) := by decide +kernel
theorem dX3_pass_21 : decode cX3_pass 21 = .ok (.getfield 19, 3) := by decide +kernel
theorem dX3_pass_24 : decode cX3_pass 24 = .ok (.iconst 3, 1) := by decide +kernel
theorem dX3_pass_25 : decode cX3_pass 25 = .ok (.invokevirtual 172, 3) := by decide +kernel
theorem dX3_pass_28 : decode cX3_pass 28 = .ok (.istore_n 2, 1) := by decide +kernel
theorem dX3_pass_29 : decode cX3_pass 29 = .ok (.aload_n 0, 1) := by decide +kernel
theorem dX3_pass_30 : decode cX3_pass 30 = .ok (.getfield 19, 3) := by decide +kernel
theorem dX3_pass_33 : decode cX3_pass 33 = .ok (.iload_n 1, 1) := by decide +kernel
theorem dX3_pass_34 : decode cX3_pass 34 = .ok (.aload_n 0, 1) := by decide +kernel
theorem dX3_pass_35 : decode cX3_pass 35 = .ok (.getfield 10, 3) := by decide +kernel
theorem dX3_pass_38 : decode cX3_pass 38 = .ok (.invokevirtual 175, 3) := by decide +kernel
theorem dX3_pass_41 : decode cX3_pass 41 = .ok (.aload_n 0, 1) := by decide +kernel
theorem dX3_pass_42 : decode cX3_pass 42 = .ok (.getfield 19, 3) := by decide +kernel
theorem dX3_pass_45 : decode cX3_pass 45 = .ok (.iconst 3, 1) := by decide +kernel
theorem dX3_pass_46 : decode cX3_pass 46 = .ok (.invokevirtual 172, 3) := by decide +kernel
theorem dX3_pass_49 : decode cX3_pass 49 = .ok (.iload_n 2, 1) := by decide +kernel
theorem dX3_pass_50 : decode cX3_pass 50 = .ok (.isub, 1) := by decide +kernel
theorem dX3_pass_51 : decode cX3_pass 51 = .ok (.ireturn, 1) := by decide +kernel
set_option maxRecDepth 20000 in
theorem ggX3_burns_X1_has : GoodIn wsX3_burns wsX1_has := goodIn_r _ [10, 11, 12, 13, 14, 113, 114, 115, 116, 117, 118, 119, 120, 121, 122, 123, 124, 125] (by decide +kernel) (by decide +kernel)
set_option maxRecDepth 20000 in
theorem gX3_burns_X1_has : GoodIn wsX3_burns (wsV RX3 119 RX1 yX1_has wsX1_has) := goodIn_app (goodIn_of _ (by decide +kernel)) ggX3_burns_X1_has
set_option maxRecDepth 20000 in
theorem ggX3_burns_X1_copy : GoodIn wsX3_burns wsX1_copy := goodIn_r _ [18, 19, 20, 21, 22, 23, 24, 25, 26, 27, 28, 11, 29, 30, 31, 32, 33, 34, 35, 36, 37, 38, 39, 113, 114, 115, 116, 117, 118, 119, 120, 121, 122, 123, 124, 125, 126] (by decide +kernel) (by decide +kernel)
set_option maxRecDepth 20000 in
theorem gX3_burns_X1_copy : GoodIn wsX3_burns (wsV RX3 179 RX1 yX1_copy wsX1_copy) := goodIn_app (goodIn_of _ (by decide +kernel)) ggX3_burns_X1_copy
set_option maxRecDepth 20000 in
theorem ggX3_burns_X1_isBurning : GoodIn wsX3_burns wsX1_isBurning := goodIn_r _ [43, 25, 44, 7, 8, 9, 10, 11, 12, 13, 14, 45, 37, 38, 33, 39, 35, 113, 114, 115, 116, 117, 118, 119, 120, 121, 122, 123, 124, 125, 126] (by decide +kernel) (by decide +kernel)
set_option maxRecDepth 20000 in
theorem gX3_burns_X1_isBurning : GoodIn wsX3_burns (wsV RX3 152 RX1 yX1_isBurning wsX1_isBurning) := goodIn_app (goodIn_of _ (by decide +kernel)) ggX3_burns_X1_isBurning
set_option maxRecDepth 20000 in
theorem ggX3_burns_X1_passMinutes : GoodIn wsX3_burns wsX1_passMinutes := goodIn_r _ [49, 50, 29, 51, 52, 53, 9, 54, 11, 22, 21, 55, 56, 57, 58, 26, 44, 7, 8, 10, 12, 13, 14, 45, 37, 38, 33, 39, 35, 59, 60, 61, 62, 63, 64, 65, 66, 67, 25, 68, 69, 70, 71, 72, 19, 28, 73, 74, 75, 76, 77, 78, 79, 80, 81, 82, 83, 84, 85, 86, 87, 27, 88, 89, 90, 91, 24, 92, 93, 94, 95, 96, 97, 98, 99, 100, 101, 102, 103, 104, 105, 106, 107, 108, 23, 109, 41, 42, 43, 113, 114, 115, 116, 117, 118, 119, 120, 121, 122, 123, 124, 125, 126, 127, 128, 129, 130, 131] (by decide +kernel) (by decide +kernel)
set_option maxRecDepth 20000 in
theorem gX3_burns_X1_passMinutes : GoodIn wsX3_burns (wsV RX3 175 RX1 yX1_passMinutes wsX1_passMinutes) := goodIn_app (goodIn_of _ (by decide +kernel)) ggX3_burns_X1_passMinutes
theorem dX3_burns_0 : decode cX3_burns 0 = .ok (.aload_n 0, 1) := by decide +kernel
theorem dX3_burns_1 : decode cX3_burns 1 = .ok (.getfield 19, 3) := by decide +kernel
theorem dX3_burns_4 : decode cX3_burns 4 = .ok (.iload_n 1, 1) := by decide +kernel
theorem dX3_burns_5 : decode cX3_burns 5 = .ok (.invokevirtual 119, 3) := by decide +kernel
theorem dX3_burns_8 : decode cX3_burns 8 = .ok (.ifCond .ne 13, 3) := by decide +kernel
theorem dX3_burns_11 : decode cX3_burns 11 = .ok (.new 30, 3) := by decide +kernel
theorem dX3_burns_14 : decode cX3_burns 14 = .ok (.dup, 1) := by decide +kernel
theorem dX3_burns_15 : decode cX3_burns 15 = .ok (.ldc 139, 2) := by decide +kernel
theorem dX3_burns_17 : decode cX3_burns 17 = .ok (.invokespecial 34, 3) := by decide +kernel
theorem dX3_burns_20 : decode cX3_burns 20 = .ok (.athrow, 1) := by decide +kernel
theorem dX3_burns_21 : decode cX3_burns 21 = .ok (.aload_n 0, 1) := by decide +kernel
theorem dX3_burns_22 : decode cX3_burns 22 = .ok (.getfield 23, 3) := by decide +kernel
theorem dX3_burns_25 : decode cX3_burns 25 = .ok (.aload_n 0, 1) := by decide +kernel
theorem dX3_burns_26 : decode cX3_burns 26 = .ok (.getfield 19, 3) := by decide +kernel
theorem dX3_burns_29 : decode cX3_burns 29 = .ok (.invokevirtual 179, 3) := by decide +kernel
theorem dX3_burns_32 : decode cX3_burns 32 = .ok (.iconst 0, 1) := by decide +kernel
theorem dX3_burns_33 : decode cX3_burns 33 = .ok (.istore_n 2, 1) := by decide +kernel
theorem dX3_burns_34 : decode cX3_burns 34 = .ok (.iload_n 2, 1) := by decide +kernel
theorem dX3_burns_35 : decode cX3_burns 35 = .ok (.bipush 60, 2) := by decide +kernel
theorem dX3_burns_37 : decode cX3_burns 37 = .ok (.if_icmp .gt 34, 3) := by decide +kernel
theorem dX3_burns_40 : decode cX3_burns 40 = .ok (.aload_n 0, 1) := by decide +kernel
theorem dX3_burns_41 : decode cX3_burns 41 = .ok (.getfield 23, 3) := by decide +kernel
theorem dX3_burns_44 : decode cX3_burns 44 = .ok (.iload_n 1, 1) := by decide +kernel
theorem dX3_burns_45 : decode cX3_burns 45 = .ok (.invokevirtual 152, 3) := by decide +kernel
theorem dX3_burns_48 : decode cX3_burns 48 = .ok (.ifCond .ne 5, 3) := by decide +kernel
theorem dX3_burns_51 : decode cX3_burns 51 = .ok (.iload_n 2, 1) := by decide +kernel
theorem dX3_burns_52 : decode cX3_burns 52 = .ok (.ireturn, 1) := by decide +kernel
theorem dX3_burns_53 : decode cX3_burns 53 = .ok (.aload_n 0, 1) := by decide +kernel
theorem dX3_burns_54 : decode cX3_burns 54 = .ok (.getfield 23, 3) := by decide +kernel
theorem dX3_burns_57 : decode cX3_burns 57 = .ok (.iconst 1, 1) := by decide +kernel
theorem dX3_burns_58 : decode cX3_burns 58 = .ok (.aload_n 0, 1) := by decide +kernel
theorem dX3_burns_59 : decode cX3_burns 59 = .ok (.getfield 10, 3) := by decide +kernel
theorem dX3_burns_62 : decode cX3_burns 62 = .ok (.invokevirtual 175, 3) := by decide +kernel
theorem dX3_burns_65 : decode cX3_burns 65 = .ok (.iinc 2 1, 3) := by decide +kernel
theorem dX3_burns_68 : decode cX3_burns 68 = .ok (.goto (-34), 3) := by decide +kernel
theorem dX3_burns_71 : decode cX3_burns 71 = .ok (.iconst (-1), 1) := by decide +kernel
theorem dX3_burns_72 : decode cX3_burns 72 = .ok (.ireturn, 1) := by decide +kernel
set_option maxRecDepth 20000 in
theorem ggX3_foresee_X3_isWithin : GoodIn wsX3_foresee wsX3_isWithin := goodIn_r _ [11] (by decide +kernel) (by decide +kernel)
set_option maxRecDepth 20000 in
theorem gX3_foresee_X3_isWithin : GoodIn wsX3_foresee (va_wsS RX3 37 yX3_isWithin wsX3_isWithin) := goodIn_app (goodIn_of _ (by decide +kernel)) ggX3_foresee_X3_isWithin
set_option maxRecDepth 20000 in
theorem ggX3_foresee_X1_copy : GoodIn wsX3_foresee wsX1_copy := goodIn_r _ [16, 17, 18, 19, 20, 21, 22, 23, 24, 25, 26, 27, 28, 29, 30, 31, 32, 33, 34, 35, 36, 37, 38, 122, 123, 124, 125, 126, 127, 128, 129, 130, 131, 132, 133, 134, 135] (by decide +kernel) (by decide +kernel)
set_option maxRecDepth 20000 in
theorem gX3_foresee_X1_copy : GoodIn wsX3_foresee (wsV RX3 179 RX1 yX1_copy wsX1_copy) := goodIn_app (goodIn_of _ (by decide +kernel)) ggX3_foresee_X1_copy
set_option maxRecDepth 20000 in
theorem ggX3_foresee_X1_passMinutes : GoodIn wsX3_foresee wsX1_passMinutes := goodIn_r _ [42, 43, 28, 44, 45, 46, 15, 47, 27, 20, 19, 48, 49, 50, 51, 24, 52, 53, 54, 55, 9, 10, 11, 56, 36, 37, 32, 38, 34, 57, 58, 59, 60, 61, 62, 63, 64, 65, 23, 66, 67, 68, 69, 70, 17, 26, 71, 72, 73, 74, 75, 76, 77, 78, 79, 80, 81, 82, 83, 84, 85, 25, 86, 87, 88, 89, 22, 90, 91, 92, 93, 94, 95, 96, 97, 98, 99, 100, 101, 102, 103, 104, 105, 106, 21, 107, 108, 109, 110, 122, 123, 124, 125, 126, 127, 128, 129, 130, 131, 132, 133, 134, 135, 136, 137, 138, 139, 140] (by decide +kernel) (by decide +kernel)
set_option maxRecDepth 20000 in
theorem gX3_foresee_X1_passMinutes : GoodIn wsX3_foresee (wsV RX3 175 RX1 yX1_passMinutes wsX1_passMinutes) := goodIn_app (goodIn_of _ (by decide +kernel)) ggX3_foresee_X1_passMinutes
set_option maxRecDepth 20000 in
theorem ggX3_foresee_X1_tally : GoodIn wsX3_foresee wsX1_tally := goodIn_r _ [114, 27, 115, 116, 117, 15, 118, 24, 23, 18, 56, 36, 37, 32, 38, 34, 122, 123, 124, 125, 126, 127, 128, 129, 130, 131, 132, 133, 134, 135] (by decide +kernel) (by decide +kernel)
set_option maxRecDepth 20000 in
theorem gX3_foresee_X1_tally : GoodIn wsX3_foresee (wsV RX3 172 RX1 yX1_tally wsX1_tally) := goodIn_app (goodIn_of _ (by decide +kernel)) ggX3_foresee_X1_tally
theorem dX3_foresee_0 : decode cX3_foresee 0 = .ok (.iload_n 1, 1) := by decide +kernel
theorem dX3_foresee_1 : decode cX3_foresee 1 = .ok (.iconst 1, 1) := by decide +kernel
theorem dX3_foresee_2 : decode cX3_foresee 2 = .ok (.bipush 90, 2) := by decide +kernel
theorem dX3_foresee_4 : decode cX3_foresee 4 = .ok (.invokestatic 37, 3) := by decide +kernel
theorem dX3_foresee_7 : decode cX3_foresee 7 = .ok (.ifCond .ne 13, 3) := by decide +kernel
theorem dX3_foresee_10 : decode cX3_foresee 10 = .ok (.new 41, 3) := by decide +kernel
theorem dX3_foresee_13 : decode cX3_foresee 13 = .ok (.dup, 1) := by decide +kernel
theorem dX3_foresee_14 : decode cX3_foresee 14 = .ok (.ldc 170, 2) := by decide +kernel
theorem dX3_foresee_16 : decode cX3_foresee 16 = .ok (.invokespecial 45, 3) := by decide +kernel
theorem dX3_foresee_19 : decode cX3_foresee 19 = .ok (.athrow, 1) := by decide +kernel
theorem dX3_foresee_20 : decode cX3_foresee 20 = .ok (.iload_n 2, 1) := by decide +kernel
theorem dX3_foresee_21 : decode cX3_foresee 21 = .ok (.iconst 2, 1) := by decide +kernel
theorem dX3_foresee_22 : decode cX3_foresee 22 = .ok (.bipush 6, 2) := by decide +kernel
theorem dX3_foresee_24 : decode cX3_foresee 24 = .ok (.invokestatic 37, 3) := by decide +kernel
theorem dX3_foresee_27 : decode cX3_foresee 27 = .ok (.ifCond .ne 19, 3) := by decide +kernel
theorem dX3_foresee_30 : decode cX3_foresee 30 = .ok (.iload_n 2, 1) := by decide +kernel
theorem dX3_foresee_31 : decode cX3_foresee 31 = .ok (.bipush 9, 2) := by decide +kernel
theorem dX3_foresee_33 : decode cX3_foresee 33 = .ok (.if_icmp .eq 13, 3) := by decide +kernel
theorem dX3_foresee_36 : decode cX3_foresee 36 = .ok (.new 30, 3) := by decide +kernel
theorem dX3_foresee_39 : decode cX3_foresee 39 = .ok (.dup, 1) := by decide +kernel
theorem dX3_foresee_40 : decode cX3_foresee 40 = .ok (.ldc 183, 2) := by decide +kernel
theorem dX3_foresee_42 : decode cX3_foresee 42 = .ok (.invokespecial 34, 3) := by decide +kernel
theorem dX3_foresee_45 : decode cX3_foresee 45 = .ok (.athrow, 1) := by decide +kernel
theorem dX3_foresee_46 : decode cX3_foresee 46 = .ok (.aload_n 0, 1) := by decide +kernel
theorem dX3_foresee_47 : decode cX3_foresee 47 = .ok (.getfield 23, 3) := by decide +kernel
theorem dX3_foresee_50 : decode cX3_foresee 50 = .ok (.aload_n 0, 1) := by decide +kernel
theorem dX3_foresee_51 : decode cX3_foresee 51 = .ok (.getfield 19, 3) := by decide +kernel
theorem dX3_foresee_54 : decode cX3_foresee 54 = .ok (.invokevirtual 179, 3) := by decide +kernel
theorem dX3_foresee_57 : decode cX3_foresee 57 = .ok (.aload_n 0, 1) := by decide +kernel
theorem dX3_foresee_58 : decode cX3_foresee 58 = .ok (.getfield 23, 3) := by decide +kernel
