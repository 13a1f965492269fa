theorem dX2_init_0 : decode cX2_init 0 = .ok (.aload_n 0, 1) := by decide +kernel
theorem dX2_init_1 : decode cX2_init 1 = .ok (.invokespecial 1, 3) := by decide +kernel
theorem dX2_init_4 : decode cX2_init 4 = .ok (.aload_n 0, 1) := by decide +kernel
theorem dX2_init_5 : decode cX2_init 5 = .ok (.iload_n 1, 1) := by decide +kernel
theorem dX2_init_6 : decode cX2_init 6 = .ok (.ifCond .le 7, 3) := by decide +kernel
theorem dX2_init_9 : decode cX2_init 9 = .ok (.iload_n 1, 1) := by decide +kernel
theorem dX2_init_10 : decode cX2_init 10 = .ok (.goto 4, 3) := by decide +kernel
theorem dX2_init_13 : decode cX2_init 13 = .ok (.iconst 0, 1) := by decide +kernel
theorem dX2_init_14 : decode cX2_init 14 = .ok (.newarray .int, 2) := by decide +kernel
theorem dX2_init_16 : decode cX2_init 16 = .ok (.putfield 7, 3) := by decide +kernel
theorem dX2_init_19 : decode cX2_init 19 = .ok (.return_, 1) := by decide +kernel
theorem dX2_get_0 : decode cX2_get 0 = .ok (.iload_n 1, 1) := by decide +kernel
theorem dX2_get_1 : decode cX2_get 1 = .ok (.ifCond .lt 21, 3) := by decide +kernel
theorem dX2_get_4 : decode cX2_get 4 = .ok (.iload_n 1, 1) := by decide +kernel
theorem dX2_get_5 : decode cX2_get 5 = .ok (.aload_n 0, 1) := by decide +kernel
theorem dX2_get_6 : decode cX2_get 6 = .ok (.getfield 7, 3) := by decide +kernel
theorem dX2_get_9 : decode cX2_get 9 = .ok (.arraylength, 1) := by decide +kernel
theorem dX2_get_10 : decode cX2_get 10 = .ok (.if_icmp .ge 12, 3) := by decide +kernel
theorem dX2_get_13 : decode cX2_get 13 = .ok (.aload_n 0, 1) := by decide +kernel
theorem dX2_get_14 : decode cX2_get 14 = .ok (.getfield 7, 3) := by decide +kernel
theorem dX2_get_17 : decode cX2_get 17 = .ok (.iload_n 1, 1) := by decide +kernel
theorem dX2_get_18 : decode cX2_get 18 = .ok (.iaload, 1) := by decide +kernel
theorem dX2_get_19 : decode cX2_get 19 = .ok (.goto 4, 3) := by decide +kernel
theorem dX2_get_22 : decode cX2_get 22 = .ok (.iconst 0, 1) := by decide +kernel
theorem dX2_get_23 : decode cX2_get 23 = .ok (.ireturn, 1) := by decide +kernel
theorem dX2_put_0 : decode cX2_put 0 = .ok (.iload_n 1, 1) := by decide +kernel
theorem dX2_put_1 : decode cX2_put 1 = .ok (.ifCond .lt 19, 3) := by decide +kernel
theorem dX2_put_4 : decode cX2_put 4 = .ok (.iload_n 1, 1) := by decide +kernel
theorem dX2_put_5 : decode cX2_put 5 = .ok (.aload_n 0, 1) := by decide +kernel
theorem dX2_put_6 : decode cX2_put 6 = .ok (.getfield 7, 3) := by decide +kernel
theorem dX2_put_9 : decode cX2_put 9 = .ok (.arraylength, 1) := by decide +kernel
theorem dX2_put_10 : decode cX2_put 10 = .ok (.if_icmp .ge 10, 3) := by decide +kernel
theorem dX2_put_13 : decode cX2_put 13 = .ok (.aload_n 0, 1) := by decide +kernel
theorem dX2_put_14 : decode cX2_put 14 = .ok (.getfield 7, 3) := by decide +kernel
theorem dX2_put_17 : decode cX2_put 17 = .ok (.iload_n 1, 1) := by decide +kernel
theorem dX2_put_18 : decode cX2_put 18 = .ok (.iload_n 2, 1) := by decide +kernel
theorem dX2_put_19 : decode cX2_put 19 = .ok (.iastore, 1) := by decide +kernel
theorem dX2_put_20 : decode cX2_put 20 = .ok (.return_, 1) := by decide +kernel
set_option maxRecDepth 20000 in
theorem ggX2_copy_X2_get : GoodIn wsX2_copy wsX2_get := goodIn_r _ [6, 1, 7] (by decide +kernel) (by decide +kernel)
set_option maxRecDepth 20000 in
theorem gX2_copy_X2_get : GoodIn wsX2_copy (wsV RX2 13 RX2 yX2_get wsX2_get) := goodIn_app (goodIn_of _ (by decide +kernel)) ggX2_copy_X2_get
theorem dX2_copy_0 : decode cX2_copy 0 = .ok (.iconst 0, 1) := by decide +kernel
theorem dX2_copy_1 : decode cX2_copy 1 = .ok (.istore_n 2, 1) := by decide +kernel
theorem dX2_copy_2 : decode cX2_copy 2 = .ok (.iload_n 2, 1) := by decide +kernel
theorem dX2_copy_3 : decode cX2_copy 3 = .ok (.aload_n 0, 1) := by decide +kernel
theorem dX2_copy_4 : decode cX2_copy 4 = .ok (.getfield 7, 3) := by decide +kernel
theorem dX2_copy_7 : decode cX2_copy 7 = .ok (.arraylength, 1) := by decide +kernel
theorem dX2_copy_8 : decode cX2_copy 8 = .ok (.if_icmp .ge 20, 3) := by decide +kernel
theorem dX2_copy_11 : decode cX2_copy 11 = .ok (.aload_n 0, 1) := by decide +kernel
theorem dX2_copy_12 : decode cX2_copy 12 = .ok (.getfield 7, 3) := by decide +kernel
theorem dX2_copy_15 : decode cX2_copy 15 = .ok (.iload_n 2, 1) := by decide +kernel
theorem dX2_copy_16 : decode cX2_copy 16 = .ok (.aload_n 1, 1) := by decide +kernel
theorem dX2_copy_17 : decode cX2_copy 17 = .ok (.iload_n 2, 1) := by decide +kernel
theorem dX2_copy_18 : decode cX2_copy 18 = .ok (.invokevirtual 13, 3) := by decide +kernel
theorem dX2_copy_21 : decode cX2_copy 21 = .ok (.iastore, 1) := by decide +kernel
theorem dX2_copy_22 : decode cX2_copy 22 = .ok (.iinc 2 1, 3) := by decide +kernel
theorem dX2_copy_25 : decode cX2_copy 25 = .ok (.goto (-23), 3) := by decide +kernel
theorem dX2_copy_28 : decode cX2_copy 28 = .ok (.return_, 1) := by decide +kernel
set_option maxRecDepth 20000 in
theorem ggX0_init_X2_init : GoodIn wsX0_init wsX2_init := goodIn_r _ [12, 13, 2, 3, 14, 15, 20] (by decide +kernel) (by decide +kernel)
set_option maxRecDepth 20000 in
theorem gX0_init_X2_init : GoodIn wsX0_init (wsX2_init) := ggX0_init_X2_init
set_option maxRecDepth 20000 in
theorem ggX0_init_X2_put : GoodIn wsX0_init wsX2_put := goodIn_r _ [19, 15, 20] (by decide +kernel) (by decide +kernel)
set_option maxRecDepth 20000 in
theorem gX0_init_X2_put : GoodIn wsX0_init (wsV RX0 26 RX2 yX2_put wsX2_put) := goodIn_app (goodIn_of _ (by decide +kernel)) ggX0_init_X2_put
theorem dX0_init_0 : decode cX0_init 0 = .ok (.aload_n 0, 1) := by decide +kernel
theorem dX0_init_1 : decode cX0_init 1 = .ok (.invokespecial 3, 3) := by decide +kernel
theorem dX0_init_4 : decode cX0_init 4 = .ok (.aload_n 0, 1) := by decide +kernel
theorem dX0_init_5 : decode cX0_init 5 = .ok (.new 9, 3) := by decide +kernel
theorem dX0_init_8 : decode cX0_init 8 = .ok (.dup, 1) := by decide +kernel
theorem dX0_init_9 : decode cX0_init 9 = .ok (.iconst 3, 1) := by decide +kernel
theorem dX0_init_10 : decode cX0_init 10 = .ok (.invokespecial 11, 3) := by decide +kernel
theorem dX0_init_13 : decode cX0_init 13 = .ok (.putfield 14, 3) := by decide +kernel
theorem dX0_init_16 : decode cX0_init 16 = .ok (.aload_n 0, 1) := by decide +kernel
theorem dX0_init_17 : decode cX0_init 17 = .ok (.new 9, 3) := by decide +kernel
theorem dX0_init_20 : decode cX0_init 20 = .ok (.dup, 1) := by decide +kernel
theorem dX0_init_21 : decode cX0_init 21 = .ok (.bipush 60, 2) := by decide +kernel
theorem dX0_init_23 : decode cX0_init 23 = .ok (.invokespecial 11, 3) := by decide +kernel
theorem dX0_init_26 : decode cX0_init 26 = .ok (.putfield 20, 3) := by decide +kernel
theorem dX0_init_29 : decode cX0_init 29 = .ok (.aload_n 0, 1) := by decide +kernel
theorem dX0_init_30 : decode cX0_init 30 = .ok (.new 9, 3) := by decide +kernel
theorem dX0_init_33 : decode cX0_init 33 = .ok (.dup, 1) := by decide +kernel
theorem dX0_init_34 : decode cX0_init 34 = .ok (.sipush 180, 3) := by decide +kernel
theorem dX0_init_37 : decode cX0_init 37 = .ok (.invokespecial 11, 3) := by decide +kernel
theorem dX0_init_40 : decode cX0_init 40 = .ok (.putfield 23, 3) := by decide +kernel
theorem dX0_init_43 : decode cX0_init 43 = .ok (.aload_n 0, 1) := by decide +kernel
theorem dX0_init_44 : decode cX0_init 44 = .ok (.getfield 14, 3) := by decide +kernel
theorem dX0_init_47 : decode cX0_init 47 = .ok (.iconst 0, 1) := by decide +kernel
theorem dX0_init_48 : decode cX0_init 48 = .ok (.iconst 2, 1) := by decide +kernel
theorem dX0_init_49 : decode cX0_init 49 = .ok (.invokevirtual 26, 3) := by decide +kernel
theorem dX0_init_52 : decode cX0_init 52 = .ok (.aload_n 0, 1) := by decide +kernel
theorem dX0_init_53 : decode cX0_init 53 = .ok (.getfield 14, 3) := by decide +kernel
theorem dX0_init_56 : decode cX0_init 56 = .ok (.iconst 1, 1) := by decide +kernel
theorem dX0_init_57 : decode cX0_init 57 = .ok (.iconst 3, 1) := by decide +kernel
theorem dX0_init_58 : decode cX0_init 58 = .ok (.invokevirtual 26, 3) := by decide +kernel
theorem dX0_init_61 : decode cX0_init 61 = .ok (.aload_n 0, 1) := by decide +kernel
theorem dX0_init_62 : decode cX0_init 62 = .ok (.getfield 14, 3) := by decide +kernel
theorem dX0_init_65 : decode cX0_init 65 = .ok (.iconst 2, 1) := by decide +kernel
theorem dX0_init_66 : decode cX0_init 66 = .ok (.iconst 2, 1) := by decide +kernel
theorem dX0_init_67 : decode cX0_init 67 = .ok (.invokevirtual 26, 3) := by decide +kernel
theorem dX0_init_70 : decode cX0_init 70 = .ok (.return_, 1) := by decide +kernel
set_option maxRecDepth 20000 in
theorem ggX0_addWeir_X2_put : GoodIn wsX0_addWeir wsX2_put := goodIn_r _ [7, 8, 14] (by decide +kernel) (by decide +kernel)
set_option maxRecDepth 20000 in
theorem gX0_addWeir_X2_put : GoodIn wsX0_addWeir (wsV RX0 26 RX2 yX2_put wsX2_put) := goodIn_app (goodIn_of _ (by decide +kernel)) ggX0_addWeir_X2_put
theorem dX0_addWeir_0 : decode cX0_addWeir 0 = .ok (.aload_n 0, 1) := by decide +kernel
theorem dX0_addWeir_1 : decode cX0_addWeir 1 = .ok (.getfield 20, 3) := by decide +kernel
theorem dX0_addWeir_4 : decode cX0_addWeir 4 = .ok (.iload_n 1, 1) := by decide +kernel
theorem dX0_addWeir_5 : decode cX0_addWeir 5 = .ok (.iload_n 2, 1) := by decide +kernel
theorem dX0_addWeir_6 : decode cX0_addWeir 6 = .ok (.invokevirtual 26, 3) := by decide +kernel
theorem dX0_addWeir_9 : decode cX0_addWeir 9 = .ok (.aload_n 0, 1) := by decide +kernel
theorem dX0_addWeir_10 : decode cX0_addWeir 10 = .ok (.dup, 1) := by decide +kernel
theorem dX0_addWeir_11 : decode cX0_addWeir 11 = .ok (.getfield 30, 3) := by decide +kernel
theorem dX0_addWeir_14 : decode cX0_addWeir 14 = .ok (.iconst 1, 1) := by decide +kernel
theorem dX0_addWeir_15 : decode cX0_addWeir 15 = .ok (.iadd, 1) := by decide +kernel
theorem dX0_addWeir_16 : decode cX0_addWeir 16 = .ok (.putfield 30, 3) := by decide +kernel
theorem dX0_addWeir_19 : decode cX0_addWeir 19 = .ok (.aload_n 0, 1) := by decide +kernel
theorem dX0_addWeir_20 : decode cX0_addWeir 20 = .ok (.getfield 30, 3) := by decide +kernel
theorem dX0_addWeir_23 : decode cX0_addWeir 23 = .ok (.ireturn, 1) := by decide +kernel
set_option maxRecDepth 20000 in
theorem ggX0_addNet_X2_put : GoodIn wsX0_addNet wsX2_put := goodIn_r _ [7, 8, 14] (by decide +kernel) (by decide +kernel)
set_option maxRecDepth 20000 in
theorem gX0_addNet_X2_put : GoodIn wsX0_addNet (wsV RX0 26 RX2 yX2_put wsX2_put) := goodIn_app (goodIn_of _ (by decide +kernel)) ggX0_addNet_X2_put
theorem dX0_addNet_0 : decode cX0_addNet 0 = .ok (.aload_n 0, 1) := by decide +kernel
theorem dX0_addNet_1 : decode cX0_addNet 1 = .ok (.getfield 23, 3) := by decide +kernel
theorem dX0_addNet_4 : decode cX0_addNet 4 = .ok (.iload_n 1, 1) := by decide +kernel
theorem dX0_addNet_5 : decode cX0_addNet 5 = .ok (.bipush 60, 2) := by decide +kernel
theorem dX0_addNet_7 : decode cX0_addNet 7 = .ok (.imul, 1) := by decide +kernel
theorem dX0_addNet_8 : decode cX0_addNet 8 = .ok (.iload_n 2, 1) := by decide +kernel
theorem dX0_addNet_9 : decode cX0_addNet 9 = .ok (.iadd, 1) := by decide +kernel
theorem dX0_addNet_10 : decode cX0_addNet 10 = .ok (.iconst 1, 1) := by decide +kernel
theorem dX0_addNet_11 : decode cX0_addNet 11 = .ok (.invokevirtual 26, 3) := by decide +kernel
theorem dX0_addNet_14 : decode cX0_addNet 14 = .ok (.aload_n 0, 1) := by decide +kernel
theorem dX0_addNet_15 : decode cX0_addNet 15 = .ok (.dup, 1) := by decide +kernel
theorem dX0_addNet_16 : decode cX0_addNet 16 = .ok (.getfield 34, 3) := by decide +kernel
theorem dX0_addNet_19 : decode cX0_addNet 19 = .ok (.iconst 1, 1) := by decide +kernel
theorem dX0_addNet_20 : decode cX0_addNet 20 = .ok (.iadd, 1) := by decide +kernel
theorem dX0_addNet_21 : decode cX0_addNet 21 = .ok (.putfield 34, 3) := by decide +kernel
theorem dX0_addNet_24 : decode cX0_addNet 24 = .ok (.aload_n 0, 1) := by decide +kernel
theorem dX0_addNet_25 : decode cX0_addNet 25 = .ok (.getfield 34, 3) := by decide +kernel
theorem dX0_addNet_28 : decode cX0_addNet 28 = .ok (.ireturn, 1) := by decide +kernel
set_option maxRecDepth 20000 in
theorem ggX0_hasNet_X2_get : GoodIn wsX0_hasNet wsX2_get := goodIn_r _ [6, 7, 13] (by decide +kernel) (by decide +kernel)
set_option maxRecDepth 20000 in
theorem gX0_hasNet_X2_get : GoodIn wsX0_hasNet (wsV RX0 37 RX2 yX2_get wsX2_get) := goodIn_app (goodIn_of _ (by decide +kernel)) ggX0_hasNet_X2_get
theorem dX0_hasNet_0 : decode cX0_hasNet 0 = .ok (.aload_n 0, 1) := by decide +kernel
theorem dX0_hasNet_1 : decode cX0_hasNet 1 = .ok (.getfield 23, 3) := by decide +kernel
theorem dX0_hasNet_4 : decode cX0_hasNet 4 = .ok (.iload_n 1, 1) := by decide +kernel
theorem dX0_hasNet_5 : decode cX0_hasNet 5 = .ok (.bipush 60, 2) := by decide +kernel
theorem dX0_hasNet_7 : decode cX0_hasNet 7 = .ok (.imul, 1) := by decide +kernel
theorem dX0_hasNet_8 : decode cX0_hasNet 8 = .ok (.iload_n 2, 1) := by decide +kernel
theorem dX0_hasNet_9 : decode cX0_hasNet 9 = .ok (.iadd, 1) := by decide +kernel
theorem dX0_hasNet_10 : decode cX0_hasNet 10 = .ok (.invokevirtual 37, 3) := by decide +kernel
theorem dX0_hasNet_13 : decode cX0_hasNet 13 = .ok (.iconst 1, 1) := by decide +kernel
theorem dX0_hasNet_14 : decode cX0_hasNet 14 = .ok (.if_icmp .ne 7, 3) := by decide +kernel
theorem dX0_hasNet_17 : decode cX0_hasNet 17 = .ok (.iconst 1, 1) := by decide +kernel
theorem dX0_hasNet_18 : decode cX0_hasNet 18 = .ok (.goto 4, 3) := by decide +kernel
theorem dX0_hasNet_21 : decode cX0_hasNet 21 = .ok (.iconst 0, 1) := by decide +kernel
theorem dX0_hasNet_22 : decode cX0_hasNet 22 = .ok (.ireturn, 1) := by decide +kernel
theorem dX3_isWithin_0 : decode cX3_isWithin 0 = .ok (.iload_n 0, 1) := by decide +kernel
theorem dX3_isWithin_1 : decode cX3_isWithin 1 = .ok (.iload_n 1, 1) := by decide +kernel
theorem dX3_isWithin_2 : decode cX3_isWithin 2 = .ok (.if_icmp .lt 12, 3) := by decide +kernel
theorem dX3_isWithin_5 : decode cX3_isWithin 5 = .ok (.iload_n 0, 1) := by decide +kernel
theorem dX3_isWithin_6 : decode cX3_isWithin 6 = .ok (.iload_n 2, 1) := by decide +kernel
theorem dX3_isWithin_7 : decode cX3_isWithin 7 = .ok (.if_icmp .gt 7, 3) := by decide +kernel
theorem dX3_isWithin_10 : decode cX3_isWithin 10 = .ok (.iconst 1, 1) := by decide +kernel
theorem dX3_isWithin_11 : decode cX3_isWithin 11 = .ok (.goto 4, 3) := by decide +kernel
theorem dX3_isWithin_14 : decode cX3_isWithin 14 = .ok (.iconst 0, 1) := by decide +kernel
theorem dX3_isWithin_15 : decode cX3_isWithin 15 = .ok (.ireturn, 1) := by decide +kernel
set_option maxRecDepth 20000 in
theorem ggX3_isLane_X3_isWithin : GoodIn wsX3_isLane wsX3_isWithin := goodIn_r _ [4] (by decide +kernel) (by decide +kernel)
set_option maxRecDepth 20000 in
theorem gX3_isLane_X3_isWithin : GoodIn wsX3_isLane (va_wsS RX3 37 yX3_isWithin wsX3_isWithin) := goodIn_app (goodIn_of _ (by decide +kernel)) ggX3_isLane_X3_isWithin
theorem dX3_isLane_0 : decode cX3_isLane 0 = .ok (.iload_n 0, 1) := by decide +kernel
theorem dX3_isLane_1 : decode cX3_isLane 1 = .ok (.iconst 0, 1) := by decide +kernel
theorem dX3_isLane_2 : decode cX3_isLane 2 = .ok (.iconst 2, 1) := by decide +kernel
theorem dX3_isLane_3 : decode cX3_isLane 3 = .ok (.invokestatic 37, 3) := by decide +kernel
theorem dX3_isLane_6 : decode cX3_isLane 6 = .ok (.ireturn, 1) := by decide +kernel
set_option maxRecDepth 20000 in
theorem ggX3_isPlace_X3_isWithin : GoodIn wsX3_isPlace wsX3_isWithin := goodIn_r _ [4] (by decide +kernel) (by decide +kernel)
set_option maxRecDepth 20000 in
theorem gX3_isPlace_X3_isWithin : GoodIn wsX3_isPlace (va_wsS RX3 37 yX3_isWithin wsX3_isWithin) := goodIn_app (goodIn_of _ (by decide +kernel)) ggX3_isPlace_X3_isWithin
theorem dX3_isPlace_0 : decode cX3_isPlace 0 = .ok (.iload_n 0, 1) := by decide +kernel
theorem dX3_isPlace_1 : decode cX3_isPlace 1 = .ok (.iconst 0, 1) := by decide +kernel
theorem dX3_isPlace_2 : decode cX3_isPlace 2 = .ok (.bipush 59, 2) := by decide +kernel
theorem dX3_isPlace_4 : decode cX3_isPlace 4 = .ok (.invokestatic 37, 3) := by decide +kernel
theorem dX3_isPlace_7 : decode cX3_isPlace 7 = .ok (.ireturn, 1) := by decide +kernel
set_option maxRecDepth 20000 in
theorem ggX3_isFrame_X3_isWithin : GoodIn wsX3_isFrame wsX3_isWithin := goodIn_r _ [4] (by decide +kernel) (by decide +kernel)
set_option maxRecDepth 20000 in
theorem gX3_isFrame_X3_isWithin : GoodIn wsX3_isFrame (va_wsS RX3 37 yX3_isWithin wsX3_isWithin) := goodIn_app (goodIn_of _ (by decide +kernel)) ggX3_isFrame_X3_isWithin
theorem dX3_isFrame_0 : decode cX3_isFrame 0 = .ok (.iload_n 0, 1) := by decide +kernel
theorem dX3_isFrame_1 : decode cX3_isFrame 1 = .ok (.iconst 0, 1) := by decide +kernel
theorem dX3_isFrame_2 : decode cX3_isFrame 2 = .ok (.iconst 2, 1) := by decide +kernel
theorem dX3_isFrame_3 : decode cX3_isFrame 3 = .ok (.invokestatic 37, 3) := by decide +kernel
theorem dX3_isFrame_6 : decode cX3_isFrame 6 = .ok (.ireturn, 1) := by decide +kernel
theorem dX3_waxOf_0 : decode cX3_waxOf 0 = .ok (.iload_n 0, 1) := by decide +kernel
theorem dX3_waxOf_1 : decode cX3_waxOf 1 = .ok (.ifCond .ne 8, 3) := by decide +kernel
theorem dX3_waxOf_4 : decode cX3_waxOf 4 = .ok (.bipush 20, 2) := by decide +kernel
theorem dX3_waxOf_6 : decode cX3_waxOf 6 = .ok (.goto 15, 3) := by decide +kernel
theorem dX3_waxOf_9 : decode cX3_waxOf 9 = .ok (.iload_n 0, 1) := by decide +kernel
theorem dX3_waxOf_10 : decode cX3_waxOf 10 = .ok (.iconst 1, 1) := by decide +kernel
theorem dX3_waxOf_11 : decode cX3_waxOf 11 = .ok (.if_icmp .ne 8, 3) := by decide +kernel
theorem dX3_waxOf_14 : decode cX3_waxOf 14 = .ok (.bipush 30, 2) := by decide +kernel
theorem dX3_waxOf_16 : decode cX3_waxOf 16 = .ok (.goto 5, 3) := by decide +kernel
theorem dX3_waxOf_19 : decode cX3_waxOf 19 = .ok (.bipush 45, 2) := by decide +kernel
theorem dX3_waxOf_21 : decode cX3_waxOf 21 = .ok (.ireturn, 1) := by decide +kernel
theorem dX3_sprayTakenBy_0 : decode cX3_sprayTakenBy 0 = .ok (.iload_n 0, 1) := by decide +kernel
theorem dX3_sprayTakenBy_1 : decode cX3_sprayTakenBy 1 = .ok (.ifCond .ne 8, 3) := by decide +kernel
theorem dX3_sprayTakenBy_4 : decode cX3_sprayTakenBy 4 = .ok (.bipush 12, 2) := by decide +kernel
theorem dX3_sprayTakenBy_6 : decode cX3_sprayTakenBy 6 = .ok (.goto 14, 3) := by decide +kernel
theorem dX3_sprayTakenBy_9 : decode cX3_sprayTakenBy 9 = .ok (.iload_n 0, 1) := by decide +kernel
theorem dX3_sprayTakenBy_10 : decode cX3_sprayTakenBy 10 = .ok (.iconst 1, 1) := by decide +kernel
theorem dX3_sprayTakenBy_11 : decode cX3_sprayTakenBy 11 = .ok (.if_icmp .ne 8, 3) := by decide +kernel
theorem dX3_sprayTakenBy_14 : decode cX3_sprayTakenBy 14 = .ok (.bipush 8, 2) := by decide +kernel
theorem dX3_sprayTakenBy_16 : decode cX3_sprayTakenBy 16 = .ok (.goto 4, 3) := by decide +kernel
theorem dX3_sprayTakenBy_19 : decode cX3_sprayTakenBy 19 = .ok (.iconst 5, 1) := by decide +kernel
theorem dX3_sprayTakenBy_20 : decode cX3_sprayTakenBy 20 = .ok (.ireturn, 1) := by decide +kernel
