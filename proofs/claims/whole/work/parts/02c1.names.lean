theorem dX1_lineUp_14 : decode cX1_lineUp 14 = .ok (.invokevirtual 111, 3) := by decide +kernel
theorem dX1_lineUp_17 : decode cX1_lineUp 17 = .ok (.ifCond .eq 98, 3) := by decide +kernel
theorem dX1_lineUp_20 : decode cX1_lineUp 20 = .ok (.bipush 59, 2) := by decide +kernel
theorem dX1_lineUp_22 : decode cX1_lineUp 22 = .ok (.aload_n 0, 1) := by decide +kernel
theorem dX1_lineUp_23 : decode cX1_lineUp 23 = .ok (.getfield 26, 3) := by decide +kernel
theorem dX1_lineUp_26 : decode cX1_lineUp 26 = .ok (.iload_n 2, 1) := by decide +kernel
theorem dX1_lineUp_27 : decode cX1_lineUp 27 = .ok (.invokevirtual 80, 3) := by decide +kernel
theorem dX1_lineUp_30 : decode cX1_lineUp 30 = .ok (.isub, 1) := by decide +kernel
theorem dX1_lineUp_31 : decode cX1_lineUp 31 = .ok (.iconst 3, 1) := by decide +kernel
theorem dX1_lineUp_32 : decode cX1_lineUp 32 = .ok (.imul, 1) := by decide +kernel
theorem dX1_lineUp_33 : decode cX1_lineUp 33 = .ok (.aload_n 0, 1) := by decide +kernel
theorem dX1_lineUp_34 : decode cX1_lineUp 34 = .ok (.getfield 23, 3) := by decide +kernel
theorem dX1_lineUp_37 : decode cX1_lineUp 37 = .ok (.iload_n 2, 1) := by decide +kernel
theorem dX1_lineUp_38 : decode cX1_lineUp 38 = .ok (.invokevirtual 80, 3) := by decide +kernel
theorem dX1_lineUp_41 : decode cX1_lineUp 41 = .ok (.iadd, 1) := by decide +kernel
theorem dX1_lineUp_42 : decode cX1_lineUp 42 = .ok (.istore_n 3, 1) := by decide +kernel
theorem dX1_lineUp_43 : decode cX1_lineUp 43 = .ok (.iload_n 3, 1) := by decide +kernel
theorem dX1_lineUp_44 : decode cX1_lineUp 44 = .ok (.bipush 64, 2) := by decide +kernel
theorem dX1_lineUp_46 : decode cX1_lineUp 46 = .ok (.imul, 1) := by decide +kernel
theorem dX1_lineUp_47 : decode cX1_lineUp 47 = .ok (.iload_n 2, 1) := by decide +kernel
theorem dX1_lineUp_48 : decode cX1_lineUp 48 = .ok (.iadd, 1) := by decide +kernel
theorem dX1_lineUp_49 : decode cX1_lineUp 49 = .ok (.istore 4, 2) := by decide +kernel
theorem dX1_lineUp_51 : decode cX1_lineUp 51 = .ok (.iload_n 1, 1) := by decide +kernel
theorem dX1_lineUp_52 : decode cX1_lineUp 52 = .ok (.istore 5, 2) := by decide +kernel
theorem dX1_lineUp_54 : decode cX1_lineUp 54 = .ok (.iload 5, 2) := by decide +kernel
theorem dX1_lineUp_56 : decode cX1_lineUp 56 = .ok (.ifCond .le 45, 3) := by decide +kernel
theorem dX1_lineUp_59 : decode cX1_lineUp 59 = .ok (.aload_n 0, 1) := by decide +kernel
theorem dX1_lineUp_60 : decode cX1_lineUp 60 = .ok (.getfield 47, 3) := by decide +kernel
theorem dX1_lineUp_63 : decode cX1_lineUp 63 = .ok (.iload 5, 2) := by decide +kernel
theorem dX1_lineUp_65 : decode cX1_lineUp 65 = .ok (.iconst 1, 1) := by decide +kernel
theorem dX1_lineUp_66 : decode cX1_lineUp 66 = .ok (.isub, 1) := by decide +kernel
theorem dX1_lineUp_67 : decode cX1_lineUp 67 = .ok (.invokevirtual 80, 3) := by decide +kernel
theorem dX1_lineUp_70 : decode cX1_lineUp 70 = .ok (.iload 4, 2) := by decide +kernel
theorem dX1_lineUp_72 : decode cX1_lineUp 72 = .ok (.if_icmp .le 29, 3) := by decide +kernel
theorem dX1_lineUp_75 : decode cX1_lineUp 75 = .ok (.aload_n 0, 1) := by decide +kernel
theorem dX1_lineUp_76 : decode cX1_lineUp 76 = .ok (.getfield 47, 3) := by decide +kernel
theorem dX1_lineUp_79 : decode cX1_lineUp 79 = .ok (.iload 5, 2) := by decide +kernel
theorem dX1_lineUp_81 : decode cX1_lineUp 81 = .ok (.aload_n 0, 1) := by decide +kernel
theorem dX1_lineUp_82 : decode cX1_lineUp 82 = .ok (.getfield 47, 3) := by decide +kernel
theorem dX1_lineUp_85 : decode cX1_lineUp 85 = .ok (.iload 5, 2) := by decide +kernel
theorem dX1_lineUp_87 : decode cX1_lineUp 87 = .ok (.iconst 1, 1) := by decide +kernel
theorem dX1_lineUp_88 : decode cX1_lineUp 88 = .ok (.isub, 1) := by decide +kernel
theorem dX1_lineUp_89 : decode cX1_lineUp 89 = .ok (.invokevirtual 80, 3) := by decide +kernel
theorem dX1_lineUp_92 : decode cX1_lineUp 92 = .ok (.invokevirtual 61, 3) := by decide +kernel
theorem dX1_lineUp_95 : decode cX1_lineUp 95 = .ok (.iinc 5 (-1), 3) := by decide +kernel
theorem dX1_lineUp_98 : decode cX1_lineUp 98 = .ok (.goto (-44), 3) := by decide +kernel
theorem dX1_lineUp_101 : decode cX1_lineUp 101 = .ok (.aload_n 0, 1) := by decide +kernel
theorem dX1_lineUp_102 : decode cX1_lineUp 102 = .ok (.getfield 47, 3) := by decide +kernel
theorem dX1_lineUp_105 : decode cX1_lineUp 105 = .ok (.iload 5, 2) := by decide +kernel
theorem dX1_lineUp_107 : decode cX1_lineUp 107 = .ok (.iload 4, 2) := by decide +kernel
theorem dX1_lineUp_109 : decode cX1_lineUp 109 = .ok (.invokevirtual 61, 3) := by decide +kernel
theorem dX1_lineUp_112 : decode cX1_lineUp 112 = .ok (.iinc 1 1, 3) := by decide +kernel
theorem dX1_lineUp_115 : decode cX1_lineUp 115 = .ok (.iinc 2 1, 3) := by decide +kernel
theorem dX1_lineUp_118 : decode cX1_lineUp 118 = .ok (.goto (-114), 3) := by decide +kernel
theorem dX1_lineUp_121 : decode cX1_lineUp 121 = .ok (.iload_n 1, 1) := by decide +kernel
theorem dX1_lineUp_122 : decode cX1_lineUp 122 = .ok (.ireturn, 1) := by decide +kernel
set_option maxRecDepth 20000 in
theorem ggX1_drift_X2_get : GoodIn wsX1_drift wsX2_get := goodIn_r _ [10, 11, 89] (by decide +kernel) (by decide +kernel)
set_option maxRecDepth 20000 in
theorem gX1_drift_X2_get : GoodIn wsX1_drift (wsV RX1 80 RX2 yX2_get wsX2_get) := goodIn_app (goodIn_of _ (by decide +kernel)) ggX1_drift_X2_get
set_option maxRecDepth 20000 in
theorem ggX1_drift_X1_isAfloat : GoodIn wsX1_drift wsX1_isAfloat := goodIn_r _ [16, 17, 18, 19, 20, 15, 21, 22, 23, 24, 25, 6, 7, 8, 9, 10, 11, 71, 72, 73, 74, 75, 76, 77, 78, 79, 80, 81, 82, 83, 89] (by decide +kernel) (by decide +kernel)
set_option maxRecDepth 20000 in
theorem gX1_drift_X1_isAfloat : GoodIn wsX1_drift (wsV RX1 111 RX1 yX1_isAfloat wsX1_isAfloat) := goodIn_app (goodIn_of _ (by decide +kernel)) ggX1_drift_X1_isAfloat
set_option maxRecDepth 20000 in
theorem ggX1_drift_X1_catchesAhead : GoodIn wsX1_drift wsX1_catchesAhead := goodIn_r _ [29, 3, 30, 31, 1, 6, 7, 8, 9, 10, 11, 32, 33, 15, 34, 71, 72, 73, 74, 75, 76, 77, 78, 79, 80, 81, 82, 83, 89] (by decide +kernel) (by decide +kernel)
set_option maxRecDepth 20000 in
theorem gX1_drift_X1_catchesAhead : GoodIn wsX1_drift (wsV RX1 119 RX1 yX1_catchesAhead wsX1_catchesAhead) := goodIn_app (goodIn_of _ (by decide +kernel)) ggX1_drift_X1_catchesAhead
set_option maxRecDepth 20000 in
theorem ggX1_drift_X1_moveTo : GoodIn wsX1_drift wsX1_moveTo := goodIn_r _ [38, 1, 3, 39, 40, 41, 15, 42, 30, 31, 6, 7, 8, 9, 10, 11, 32, 33, 34, 43, 44, 45, 46, 71, 72, 73, 74, 75, 76, 77, 78, 79, 80, 81, 82, 83, 89] (by decide +kernel) (by decide +kernel)
set_option maxRecDepth 20000 in
theorem gX1_drift_X1_moveTo : GoodIn wsX1_drift (wsV RX1 122 RX1 yX1_moveTo wsX1_moveTo) := goodIn_app (goodIn_of _ (by decide +kernel)) ggX1_drift_X1_moveTo
set_option maxRecDepth 20000 in
theorem ggX1_drift_X2_put : GoodIn wsX1_drift wsX2_put := goodIn_r _ [46, 11, 89] (by decide +kernel) (by decide +kernel)
set_option maxRecDepth 20000 in
theorem gX1_drift_X2_put : GoodIn wsX1_drift (wsV RX1 61 RX2 yX2_put wsX2_put) := goodIn_app (goodIn_of _ (by decide +kernel)) ggX1_drift_X2_put
set_option maxRecDepth 20000 in
theorem ggX1_drift_X1_leave : GoodIn wsX1_drift wsX1_leave := goodIn_r _ [50, 17, 51, 52, 39, 40, 41, 15, 42, 1, 3, 30, 31, 6, 7, 8, 9, 10, 11, 32, 33, 34, 43, 44, 45, 46, 71, 72, 73, 74, 75, 76, 77, 78, 79, 80, 81, 82, 83, 89] (by decide +kernel) (by decide +kernel)
set_option maxRecDepth 20000 in
theorem gX1_drift_X1_leave : GoodIn wsX1_drift (wsV RX1 126 RX1 yX1_leave wsX1_leave) := goodIn_app (goodIn_of _ (by decide +kernel)) ggX1_drift_X1_leave
set_option maxRecDepth 20000 in
theorem ggX1_drift_X1_meetWeir : GoodIn wsX1_drift wsX1_meetWeir := goodIn_r _ [56, 31, 1, 3, 57, 4, 6, 7, 8, 9, 10, 11, 32, 33, 15, 34, 43, 44, 45, 46, 58, 59, 60, 61, 30, 62, 24, 63, 71, 72, 73, 74, 75, 76, 77, 78, 79, 80, 81, 82, 83, 89] (by decide +kernel) (by decide +kernel)
set_option maxRecDepth 20000 in
theorem gX1_drift_X1_meetWeir : GoodIn wsX1_drift (wsV RX1 132 RX1 yX1_meetWeir wsX1_meetWeir) := goodIn_app (goodIn_of _ (by decide +kernel)) ggX1_drift_X1_meetWeir
set_option maxRecDepth 20000 in
theorem ggX1_drift_X0_hasNet : GoodIn wsX1_drift wsX0_hasNet := goodIn_r _ [68, 69, 70, 7, 8, 9, 10, 11, 84, 85, 86, 87, 88, 89] (by decide +kernel) (by decide +kernel)
set_option maxRecDepth 20000 in
theorem gX1_drift_X0_hasNet : GoodIn wsX1_drift (wsV RX1 135 RX0 yX0_hasNet wsX0_hasNet) := goodIn_app (goodIn_of _ (by decide +kernel)) ggX1_drift_X0_hasNet
theorem dX1_drift_0 : decode cX1_drift 0 = .ok (.aload_n 0, 1) := by decide +kernel
theorem dX1_drift_1 : decode cX1_drift 1 = .ok (.getfield 23, 3) := by decide +kernel
theorem dX1_drift_4 : decode cX1_drift 4 = .ok (.iload_n 1, 1) := by decide +kernel
theorem dX1_drift_5 : decode cX1_drift 5 = .ok (.invokevirtual 80, 3) := by decide +kernel
theorem dX1_drift_8 : decode cX1_drift 8 = .ok (.istore_n 3, 1) := by decide +kernel
theorem dX1_drift_9 : decode cX1_drift 9 = .ok (.aload_n 2, 1) := by decide +kernel
theorem dX1_drift_10 : decode cX1_drift 10 = .ok (.getfield 114, 3) := by decide +kernel
theorem dX1_drift_13 : decode cX1_drift 13 = .ok (.iload_n 3, 1) := by decide +kernel
theorem dX1_drift_14 : decode cX1_drift 14 = .ok (.invokevirtual 80, 3) := by decide +kernel
theorem dX1_drift_17 : decode cX1_drift 17 = .ok (.istore 4, 2) := by decide +kernel
theorem dX1_drift_19 : decode cX1_drift 19 = .ok (.iconst 0, 1) := by decide +kernel
theorem dX1_drift_20 : decode cX1_drift 20 = .ok (.istore 5, 2) := by decide +kernel
theorem dX1_drift_22 : decode cX1_drift 22 = .ok (.iload 5, 2) := by decide +kernel
theorem dX1_drift_24 : decode cX1_drift 24 = .ok (.iload 4, 2) := by decide +kernel
theorem dX1_drift_26 : decode cX1_drift 26 = .ok (.if_icmp .ge 100, 3) := by decide +kernel
theorem dX1_drift_29 : decode cX1_drift 29 = .ok (.aload_n 0, 1) := by decide +kernel
theorem dX1_drift_30 : decode cX1_drift 30 = .ok (.iload_n 1, 1) := by decide +kernel
theorem dX1_drift_31 : decode cX1_drift 31 = .ok (.invokevirtual 111, 3) := by decide +kernel
theorem dX1_drift_34 : decode cX1_drift 34 = .ok (.ifCond .eq 92, 3) := by decide +kernel
theorem dX1_drift_37 : decode cX1_drift 37 = .ok (.aload_n 0, 1) := by decide +kernel
theorem dX1_drift_38 : decode cX1_drift 38 = .ok (.iload_n 1, 1) := by decide +kernel
theorem dX1_drift_39 : decode cX1_drift 39 = .ok (.invokevirtual 119, 3) := by decide +kernel
theorem dX1_drift_42 : decode cX1_drift 42 = .ok (.ifCond .ne 84, 3) := by decide +kernel
theorem dX1_drift_45 : decode cX1_drift 45 = .ok (.aload_n 0, 1) := by decide +kernel
theorem dX1_drift_46 : decode cX1_drift 46 = .ok (.getfield 26, 3) := by decide +kernel
theorem dX1_drift_49 : decode cX1_drift 49 = .ok (.iload_n 1, 1) := by decide +kernel
theorem dX1_drift_50 : decode cX1_drift 50 = .ok (.invokevirtual 80, 3) := by decide +kernel
theorem dX1_drift_53 : decode cX1_drift 53 = .ok (.iconst 1, 1) := by decide +kernel
theorem dX1_drift_54 : decode cX1_drift 54 = .ok (.iadd, 1) := by decide +kernel
theorem dX1_drift_55 : decode cX1_drift 55 = .ok (.istore 6, 2) := by decide +kernel
theorem dX1_drift_57 : decode cX1_drift 57 = .ok (.aload_n 0, 1) := by decide +kernel
theorem dX1_drift_58 : decode cX1_drift 58 = .ok (.iload_n 1, 1) := by decide +kernel
theorem dX1_drift_59 : decode cX1_drift 59 = .ok (.iload_n 3, 1) := by decide +kernel
theorem dX1_drift_60 : decode cX1_drift 60 = .ok (.iload 6, 2) := by decide +kernel
theorem dX1_drift_62 : decode cX1_drift 62 = .ok (.invokevirtual 122, 3) := by decide +kernel
theorem dX1_drift_65 : decode cX1_drift 65 = .ok (.iload 6, 2) := by decide +kernel
theorem dX1_drift_67 : decode cX1_drift 67 = .ok (.bipush 60, 2) := by decide +kernel
theorem dX1_drift_69 : decode cX1_drift 69 = .ok (.if_icmp .lt 21, 3) := by decide +kernel
theorem dX1_drift_72 : decode cX1_drift 72 = .ok (.aload_n 0, 1) := by decide +kernel
theorem dX1_drift_73 : decode cX1_drift 73 = .ok (.getfield 35, 3) := by decide +kernel
theorem dX1_drift_76 : decode cX1_drift 76 = .ok (.iload_n 1, 1) := by decide +kernel
theorem dX1_drift_77 : decode cX1_drift 77 = .ok (.iconst 0, 1) := by decide +kernel
theorem dX1_drift_78 : decode cX1_drift 78 = .ok (.invokevirtual 61, 3) := by decide +kernel
theorem dX1_drift_81 : decode cX1_drift 81 = .ok (.aload_n 0, 1) := by decide +kernel
theorem dX1_drift_82 : decode cX1_drift 82 = .ok (.iload_n 1, 1) := by decide +kernel
theorem dX1_drift_83 : decode cX1_drift 83 = .ok (.iconst 2, 1) := by decide +kernel
theorem dX1_drift_84 : decode cX1_drift 84 = .ok (.invokevirtual 126, 3) := by decide +kernel
theorem dX1_drift_87 : decode cX1_drift 87 = .ok (.goto 33, 3) := by decide +kernel
theorem dX1_drift_90 : decode cX1_drift 90 = .ok (.aload_n 0, 1) := by decide +kernel
theorem dX1_drift_91 : decode cX1_drift 91 = .ok (.iload_n 1, 1) := by decide +kernel
theorem dX1_drift_92 : decode cX1_drift 92 = .ok (.aload_n 2, 1) := by decide +kernel
theorem dX1_drift_93 : decode cX1_drift 93 = .ok (.getfield 129, 3) := by decide +kernel
theorem dX1_drift_96 : decode cX1_drift 96 = .ok (.iload 6, 2) := by decide +kernel
theorem dX1_drift_98 : decode cX1_drift 98 = .ok (.invokevirtual 80, 3) := by decide +kernel
theorem dX1_drift_101 : decode cX1_drift 101 = .ok (.invokevirtual 132, 3) := by decide +kernel
theorem dX1_drift_104 : decode cX1_drift 104 = .ok (.aload_n 2, 1) := by decide +kernel
theorem dX1_drift_105 : decode cX1_drift 105 = .ok (.iload_n 3, 1) := by decide +kernel
theorem dX1_drift_106 : decode cX1_drift 106 = .ok (.iload 6, 2) := by decide +kernel
theorem dX1_drift_108 : decode cX1_drift 108 = .ok (.invokevirtual 135, 3) := by decide +kernel
theorem dX1_drift_111 : decode cX1_drift 111 = .ok (.ifCond .eq 9, 3) := by decide +kernel
theorem dX1_drift_114 : decode cX1_drift 114 = .ok (.aload_n 0, 1) := by decide +kernel
theorem dX1_drift_115 : decode cX1_drift 115 = .ok (.iload_n 1, 1) := by decide +kernel
theorem dX1_drift_116 : decode cX1_drift 116 = .ok (.iconst 1, 1) := by decide +kernel
theorem dX1_drift_117 : decode cX1_drift 117 = .ok (.invokevirtual 126, 3) := by decide +kernel
theorem dX1_drift_120 : decode cX1_drift 120 = .ok (.iinc 5 1, 3) := by decide +kernel
theorem dX1_drift_123 : decode cX1_drift 123 = .ok (.goto (-101), 3) := by decide +kernel
theorem dX1_drift_126 : decode cX1_drift 126 = .ok (.return_, 1) := by decide +kernel
set_option maxRecDepth 20000 in
theorem ggX1_catchesAhead_X2_get : GoodIn wsX1_catchesAhead wsX2_get := goodIn_r _ [9, 10, 28] (by decide +kernel) (by decide +kernel)
set_option maxRecDepth 20000 in
theorem gX1_catchesAhead_X2_get : GoodIn wsX1_catchesAhead (wsV RX1 80 RX2 yX2_get wsX2_get) := goodIn_app (goodIn_of _ (by decide +kernel)) ggX1_catchesAhead_X2_get
set_option maxRecDepth 20000 in
theorem ggX1_catchesAhead_X1_cell : GoodIn wsX1_catchesAhead wsX1_cell := goodIn_r _ [14] (by decide +kernel) (by decide +kernel)
set_option maxRecDepth 20000 in
theorem gX1_catchesAhead_X1_cell : GoodIn wsX1_catchesAhead (va_wsS RX1 92 yX1_cell wsX1_cell) := goodIn_app (goodIn_of _ (by decide +kernel)) ggX1_catchesAhead_X1_cell
theorem dX1_catchesAhead_0 : decode cX1_catchesAhead 0 = .ok (.aload_n 0, 1) := by decide +kernel
theorem dX1_catchesAhead_1 : decode cX1_catchesAhead 1 = .ok (.getfield 26, 3) := by decide +kernel
theorem dX1_catchesAhead_4 : decode cX1_catchesAhead 4 = .ok (.iload_n 1, 1) := by decide +kernel
theorem dX1_catchesAhead_5 : decode cX1_catchesAhead 5 = .ok (.invokevirtual 80, 3) := by decide +kernel
theorem dX1_catchesAhead_8 : decode cX1_catchesAhead 8 = .ok (.iconst 1, 1) := by decide +kernel
theorem dX1_catchesAhead_9 : decode cX1_catchesAhead 9 = .ok (.iadd, 1) := by decide +kernel
theorem dX1_catchesAhead_10 : decode cX1_catchesAhead 10 = .ok (.istore_n 2, 1) := by decide +kernel
theorem dX1_catchesAhead_11 : decode cX1_catchesAhead 11 = .ok (.iconst 0, 1) := by decide +kernel
theorem dX1_catchesAhead_12 : decode cX1_catchesAhead 12 = .ok (.istore_n 3, 1) := by decide +kernel
theorem dX1_catchesAhead_13 : decode cX1_catchesAhead 13 = .ok (.iload_n 3, 1) := by decide +kernel
theorem dX1_catchesAhead_14 : decode cX1_catchesAhead 14 = .ok (.iconst 3, 1) := by decide +kernel
theorem dX1_catchesAhead_15 : decode cX1_catchesAhead 15 = .ok (.if_icmp .ge 46, 3) := by decide +kernel
theorem dX1_catchesAhead_18 : decode cX1_catchesAhead 18 = .ok (.iload_n 3, 1) := by decide +kernel
theorem dX1_catchesAhead_19 : decode cX1_catchesAhead 19 = .ok (.aload_n 0, 1) := by decide +kernel
theorem dX1_catchesAhead_20 : decode cX1_catchesAhead 20 = .ok (.getfield 16, 3) := by decide +kernel
theorem dX1_catchesAhead_23 : decode cX1_catchesAhead 23 = .ok (.iload_n 1, 1) := by decide +kernel
theorem dX1_catchesAhead_24 : decode cX1_catchesAhead 24 = .ok (.invokevirtual 80, 3) := by decide +kernel
theorem dX1_catchesAhead_27 : decode cX1_catchesAhead 27 = .ok (.if_icmp .eq 28, 3) := by decide +kernel
theorem dX1_catchesAhead_30 : decode cX1_catchesAhead 30 = .ok (.aload_n 0, 1) := by decide +kernel
theorem dX1_catchesAhead_31 : decode cX1_catchesAhead 31 = .ok (.getfield 44, 3) := by decide +kernel
theorem dX1_catchesAhead_34 : decode cX1_catchesAhead 34 = .ok (.aload_n 0, 1) := by decide +kernel
theorem dX1_catchesAhead_35 : decode cX1_catchesAhead 35 = .ok (.getfield 23, 3) := by decide +kernel
theorem dX1_catchesAhead_38 : decode cX1_catchesAhead 38 = .ok (.iload_n 1, 1) := by decide +kernel
theorem dX1_catchesAhead_39 : decode cX1_catchesAhead 39 = .ok (.invokevirtual 80, 3) := by decide +kernel
theorem dX1_catchesAhead_42 : decode cX1_catchesAhead 42 = .ok (.iload_n 2, 1) := by decide +kernel
theorem dX1_catchesAhead_43 : decode cX1_catchesAhead 43 = .ok (.iload_n 3, 1) := by decide +kernel
theorem dX1_catchesAhead_44 : decode cX1_catchesAhead 44 = .ok (.invokestatic 92, 3) := by decide +kernel
theorem dX1_catchesAhead_47 : decode cX1_catchesAhead 47 = .ok (.invokevirtual 80, 3) := by decide +kernel
theorem dX1_catchesAhead_50 : decode cX1_catchesAhead 50 = .ok (.ifCond .le 5, 3) := by decide +kernel
theorem dX1_catchesAhead_53 : decode cX1_catchesAhead 53 = .ok (.iconst 1, 1) := by decide +kernel
theorem dX1_catchesAhead_54 : decode cX1_catchesAhead 54 = .ok (.ireturn, 1) := by decide +kernel
theorem dX1_catchesAhead_55 : decode cX1_catchesAhead 55 = .ok (.iinc 3 1, 3) := by decide +kernel
theorem dX1_catchesAhead_58 : decode cX1_catchesAhead 58 = .ok (.goto (-45), 3) := by decide +kernel
theorem dX1_catchesAhead_61 : decode cX1_catchesAhead 61 = .ok (.iconst 0, 1) := by decide +kernel
theorem dX1_catchesAhead_62 : decode cX1_catchesAhead 62 = .ok (.ireturn, 1) := by decide +kernel
set_option maxRecDepth 20000 in
theorem ggX1_meetWeir_X2_get : GoodIn wsX1_meetWeir wsX2_get := goodIn_r _ [10, 11, 41] (by decide +kernel) (by decide +kernel)
set_option maxRecDepth 20000 in
theorem gX1_meetWeir_X2_get : GoodIn wsX1_meetWeir (wsV RX1 80 RX2 yX2_get wsX2_get) := goodIn_app (goodIn_of _ (by decide +kernel)) ggX1_meetWeir_X2_get
set_option maxRecDepth 20000 in
theorem ggX1_meetWeir_X1_cell : GoodIn wsX1_meetWeir wsX1_cell := goodIn_r _ [15] (by decide +kernel) (by decide +kernel)
set_option maxRecDepth 20000 in
theorem gX1_meetWeir_X1_cell : GoodIn wsX1_meetWeir (va_wsS RX1 92 yX1_cell wsX1_cell) := goodIn_app (goodIn_of _ (by decide +kernel)) ggX1_meetWeir_X1_cell
set_option maxRecDepth 20000 in
theorem ggX1_meetWeir_X2_put : GoodIn wsX1_meetWeir wsX2_put := goodIn_r _ [19, 11, 41] (by decide +kernel) (by decide +kernel)
set_option maxRecDepth 20000 in
theorem gX1_meetWeir_X2_put : GoodIn wsX1_meetWeir (wsV RX1 61 RX2 yX2_put wsX2_put) := goodIn_app (goodIn_of _ (by decide +kernel)) ggX1_meetWeir_X2_put
set_option maxRecDepth 20000 in
theorem ggX1_meetWeir_X1_isSoaked : GoodIn wsX1_meetWeir wsX1_isSoaked := goodIn_r _ [23, 4, 24, 6, 7, 8, 9, 10, 11, 25, 26, 27, 28, 29, 30, 31, 32, 33, 34, 35, 36, 37, 38, 39, 40, 41] (by decide +kernel) (by decide +kernel)
set_option maxRecDepth 20000 in
theorem gX1_meetWeir_X1_isSoaked : GoodIn wsX1_meetWeir (wsV RX1 89 RX1 yX1_isSoaked wsX1_isSoaked) := goodIn_app (goodIn_of _ (by decide +kernel)) ggX1_meetWeir_X1_isSoaked
theorem dX1_meetWeir_0 : decode cX1_meetWeir 0 = .ok (.iload_n 2, 1) := by decide +kernel
theorem dX1_meetWeir_1 : decode cX1_meetWeir 1 = .ok (.ifCond .gt 4, 3) := by decide +kernel
theorem dX1_meetWeir_4 : decode cX1_meetWeir 4 = .ok (.return_, 1) := by decide +kernel
theorem dX1_meetWeir_5 : decode cX1_meetWeir 5 = .ok (.iload_n 2, 1) := by decide +kernel
theorem dX1_meetWeir_6 : decode cX1_meetWeir 6 = .ok (.istore_n 3, 1) := by decide +kernel
theorem dX1_meetWeir_7 : decode cX1_meetWeir 7 = .ok (.iconst 1, 1) := by decide +kernel
theorem dX1_meetWeir_8 : decode cX1_meetWeir 8 = .ok (.istore 4, 2) := by decide +kernel
theorem dX1_meetWeir_10 : decode cX1_meetWeir 10 = .ok (.iload 4, 2) := by decide +kernel
theorem dX1_meetWeir_12 : decode cX1_meetWeir 12 = .ok (.iconst 3, 1) := by decide +kernel
theorem dX1_meetWeir_13 : decode cX1_meetWeir 13 = .ok (.if_icmp .gt 58, 3) := by decide +kernel
theorem dX1_meetWeir_16 : decode cX1_meetWeir 16 = .ok (.iconst 0, 1) := by decide +kernel
theorem dX1_meetWeir_17 : decode cX1_meetWeir 17 = .ok (.istore 5, 2) := by decide +kernel
theorem dX1_meetWeir_19 : decode cX1_meetWeir 19 = .ok (.iload 5, 2) := by decide +kernel
theorem dX1_meetWeir_21 : decode cX1_meetWeir 21 = .ok (.iconst 3, 1) := by decide +kernel
theorem dX1_meetWeir_22 : decode cX1_meetWeir 22 = .ok (.if_icmp .ge 43, 3) := by decide +kernel
theorem dX1_meetWeir_25 : decode cX1_meetWeir 25 = .ok (.iload_n 3, 1) := by decide +kernel
theorem dX1_meetWeir_26 : decode cX1_meetWeir 26 = .ok (.aload_n 0, 1) := by decide +kernel
theorem dX1_meetWeir_27 : decode cX1_meetWeir 27 = .ok (.getfield 44, 3) := by decide +kernel
theorem dX1_meetWeir_30 : decode cX1_meetWeir 30 = .ok (.aload_n 0, 1) := by decide +kernel
theorem dX1_meetWeir_31 : decode cX1_meetWeir 31 = .ok (.getfield 23, 3) := by decide +kernel
theorem dX1_meetWeir_34 : decode cX1_meetWeir 34 = .ok (.iload_n 1, 1) := by decide +kernel
theorem dX1_meetWeir_35 : decode cX1_meetWeir 35 = .ok (.invokevirtual 80, 3) := by decide +kernel
theorem dX1_meetWeir_38 : decode cX1_meetWeir 38 = .ok (.aload_n 0, 1) := by decide +kernel
theorem dX1_meetWeir_39 : decode cX1_meetWeir 39 = .ok (.getfield 26, 3) := by decide +kernel
theorem dX1_meetWeir_42 : decode cX1_meetWeir 42 = .ok (.iload_n 1, 1) := by decide +kernel
theorem dX1_meetWeir_43 : decode cX1_meetWeir 43 = .ok (.invokevirtual 80, 3) := by decide +kernel
theorem dX1_meetWeir_46 : decode cX1_meetWeir 46 = .ok (.iload 4, 2) := by decide +kernel
theorem dX1_meetWeir_48 : decode cX1_meetWeir 48 = .ok (.iadd, 1) := by decide +kernel
theorem dX1_meetWeir_49 : decode cX1_meetWeir 49 = .ok (.iload 5, 2) := by decide +kernel
theorem dX1_meetWeir_51 : decode cX1_meetWeir 51 = .ok (.invokestatic 92, 3) := by decide +kernel
theorem dX1_meetWeir_54 : decode cX1_meetWeir 54 = .ok (.invokevirtual 80, 3) := by decide +kernel
theorem dX1_meetWeir_57 : decode cX1_meetWeir 57 = .ok (.isub, 1) := by decide +kernel
theorem dX1_meetWeir_58 : decode cX1_meetWeir 58 = .ok (.istore_n 3, 1) := by decide +kernel
theorem dX1_meetWeir_59 : decode cX1_meetWeir 59 = .ok (.iinc 5 1, 3) := by decide +kernel
theorem dX1_meetWeir_62 : decode cX1_meetWeir 62 = .ok (.goto (-43), 3) := by decide +kernel
theorem dX1_meetWeir_65 : decode cX1_meetWeir 65 = .ok (.iinc 4 1, 3) := by decide +kernel
theorem dX1_meetWeir_68 : decode cX1_meetWeir 68 = .ok (.goto (-58), 3) := by decide +kernel
theorem dX1_meetWeir_71 : decode cX1_meetWeir 71 = .ok (.aload_n 0, 1) := by decide +kernel
theorem dX1_meetWeir_72 : decode cX1_meetWeir 72 = .ok (.getfield 32, 3) := by decide +kernel
theorem dX1_meetWeir_75 : decode cX1_meetWeir 75 = .ok (.iload_n 1, 1) := by decide +kernel
theorem dX1_meetWeir_76 : decode cX1_meetWeir 76 = .ok (.aload_n 0, 1) := by decide +kernel
theorem dX1_meetWeir_77 : decode cX1_meetWeir 77 = .ok (.getfield 32, 3) := by decide +kernel
theorem dX1_meetWeir_80 : decode cX1_meetWeir 80 = .ok (.iload_n 1, 1) := by decide +kernel
theorem dX1_meetWeir_81 : decode cX1_meetWeir 81 = .ok (.invokevirtual 80, 3) := by decide +kernel
theorem dX1_meetWeir_84 : decode cX1_meetWeir 84 = .ok (.iload_n 3, 1) := by decide +kernel
theorem dX1_meetWeir_85 : decode cX1_meetWeir 85 = .ok (.iconst 1, 1) := by decide +kernel
theorem dX1_meetWeir_86 : decode cX1_meetWeir 86 = .ok (.if_icmp .le 7, 3) := by decide +kernel
theorem dX1_meetWeir_89 : decode cX1_meetWeir 89 = .ok (.iload_n 3, 1) := by decide +kernel
theorem dX1_meetWeir_90 : decode cX1_meetWeir 90 = .ok (.goto 4, 3) := by decide +kernel
theorem dX1_meetWeir_93 : decode cX1_meetWeir 93 = .ok (.iconst 1, 1) := by decide +kernel
theorem dX1_meetWeir_94 : decode cX1_meetWeir 94 = .ok (.iadd, 1) := by decide +kernel
theorem dX1_meetWeir_95 : decode cX1_meetWeir 95 = .ok (.invokevirtual 61, 3) := by decide +kernel
theorem dX1_meetWeir_98 : decode cX1_meetWeir 98 = .ok (.aload_n 0, 1) := by decide +kernel
theorem dX1_meetWeir_99 : decode cX1_meetWeir 99 = .ok (.iload_n 1, 1) := by decide +kernel
theorem dX1_meetWeir_100 : decode cX1_meetWeir 100 = .ok (.invokevirtual 89, 3) := by decide +kernel
theorem dX1_meetWeir_103 : decode cX1_meetWeir 103 = .ok (.ifCond .eq 12, 3) := by decide +kernel
theorem dX1_meetWeir_106 : decode cX1_meetWeir 106 = .ok (.aload_n 0, 1) := by decide +kernel
theorem dX1_meetWeir_107 : decode cX1_meetWeir 107 = .ok (.getfield 35, 3) := by decide +kernel
theorem dX1_meetWeir_110 : decode cX1_meetWeir 110 = .ok (.iload_n 1, 1) := by decide +kernel
theorem dX1_meetWeir_111 : decode cX1_meetWeir 111 = .ok (.iconst 0, 1) := by decide +kernel
theorem dX1_meetWeir_112 : decode cX1_meetWeir 112 = .ok (.invokevirtual 61, 3) := by decide +kernel
theorem dX1_meetWeir_115 : decode cX1_meetWeir 115 = .ok (.return_, 1) := by decide +kernel
set_option maxRecDepth 20000 in
theorem ggX1_leave_X1_crowdBy : GoodIn wsX1_leave wsX1_crowdBy := goodIn_r _ [8, 9, 10, 11, 12, 13, 14, 15, 16, 17, 18, 19, 20, 7, 21, 22, 23, 24, 25, 26, 27, 28, 29, 30, 31, 32, 33, 34, 35, 36, 37, 38, 39] (by decide +kernel) (by decide +kernel)
set_option maxRecDepth 20000 in
theorem gX1_leave_X1_crowdBy : GoodIn wsX1_leave (wsV RX1 69 RX1 yX1_crowdBy wsX1_crowdBy) := goodIn_app (goodIn_of _ (by decide +kernel)) ggX1_leave_X1_crowdBy
set_option maxRecDepth 20000 in
theorem ggX1_leave_X2_put : GoodIn wsX1_leave wsX2_put := goodIn_r _ [25, 18, 39] (by decide +kernel) (by decide +kernel)
set_option maxRecDepth 20000 in
theorem gX1_leave_X2_put : GoodIn wsX1_leave (wsV RX1 61 RX2 yX2_put wsX2_put) := goodIn_app (goodIn_of _ (by decide +kernel)) ggX1_leave_X2_put
theorem dX1_leave_0 : decode cX1_leave 0 = .ok (.aload_n 0, 1) := by decide +kernel
theorem dX1_leave_1 : decode cX1_leave 1 = .ok (.iload_n 1, 1) := by decide +kernel
theorem dX1_leave_2 : decode cX1_leave 2 = .ok (.iconst (-1), 1) := by decide +kernel
theorem dX1_leave_3 : decode cX1_leave 3 = .ok (.invokevirtual 69, 3) := by decide +kernel
theorem dX1_leave_6 : decode cX1_leave 6 = .ok (.aload_n 0, 1) := by decide +kernel
theorem dX1_leave_7 : decode cX1_leave 7 = .ok (.getfield 38, 3) := by decide +kernel
theorem dX1_leave_10 : decode cX1_leave 10 = .ok (.iload_n 1, 1) := by decide +kernel
theorem dX1_leave_11 : decode cX1_leave 11 = .ok (.iload_n 2, 1) := by decide +kernel
theorem dX1_leave_12 : decode cX1_leave 12 = .ok (.invokevirtual 61, 3) := by decide +kernel
theorem dX1_leave_15 : decode cX1_leave 15 = .ok (.aload_n 0, 1) := by decide +kernel
theorem dX1_leave_16 : decode cX1_leave 16 = .ok (.getfield 41, 3) := by decide +kernel
theorem dX1_leave_19 : decode cX1_leave 19 = .ok (.iload_n 1, 1) := by decide +kernel
theorem dX1_leave_20 : decode cX1_leave 20 = .ok (.aload_n 0, 1) := by decide +kernel
theorem dX1_leave_21 : decode cX1_leave 21 = .ok (.getfield 58, 3) := by decide +kernel
theorem dX1_leave_24 : decode cX1_leave 24 = .ok (.invokevirtual 61, 3) := by decide +kernel
theorem dX1_leave_27 : decode cX1_leave 27 = .ok (.return_, 1) := by decide +kernel
set_option maxRecDepth 20000 in
theorem ggX1_useWax_X1_isAfloat : GoodIn wsX1_useWax wsX1_isAfloat := goodIn_r _ [8, 9, 10, 11, 12, 7, 13, 1, 14, 15, 16, 17, 18, 19, 20, 21, 22, 31, 32, 33, 34, 35, 36, 37, 38, 39, 40, 41, 42, 43, 44] (by decide +kernel) (by decide +kernel)
set_option maxRecDepth 20000 in
theorem gX1_useWax_X1_isAfloat : GoodIn wsX1_useWax (wsV RX1 111 RX1 yX1_isAfloat wsX1_isAfloat) := goodIn_app (goodIn_of _ (by decide +kernel)) ggX1_useWax_X1_isAfloat
set_option maxRecDepth 20000 in
theorem ggX1_useWax_X1_isBurning : GoodIn wsX1_useWax wsX1_isBurning := goodIn_r _ [26, 3, 10, 11, 12, 7, 13, 1, 14, 15, 16, 17, 18, 19, 20, 21, 22, 31, 32, 33, 34, 35, 36, 37, 38, 39, 40, 41, 42, 43, 44] (by decide +kernel) (by decide +kernel)
set_option maxRecDepth 20000 in
theorem gX1_useWax_X1_isBurning : GoodIn wsX1_useWax (wsV RX1 86 RX1 yX1_isBurning wsX1_isBurning) := goodIn_app (goodIn_of _ (by decide +kernel)) ggX1_useWax_X1_isBurning
set_option maxRecDepth 20000 in
theorem ggX1_useWax_X2_get : GoodIn wsX1_useWax wsX2_get := goodIn_r _ [21, 22, 44] (by decide +kernel) (by decide +kernel)
set_option maxRecDepth 20000 in
theorem gX1_useWax_X2_get : GoodIn wsX1_useWax (wsV RX1 80 RX2 yX2_get wsX2_get) := goodIn_app (goodIn_of _ (by decide +kernel)) ggX1_useWax_X2_get
set_option maxRecDepth 20000 in
theorem ggX1_useWax_X2_put : GoodIn wsX1_useWax wsX2_put := goodIn_r _ [30, 22, 44] (by decide +kernel) (by decide +kernel)
set_option maxRecDepth 20000 in
theorem gX1_useWax_X2_put : GoodIn wsX1_useWax (wsV RX1 61 RX2 yX2_put wsX2_put) := goodIn_app (goodIn_of _ (by decide +kernel)) ggX1_useWax_X2_put
theorem dX1_useWax_0 : decode cX1_useWax 0 = .ok (.iconst 0, 1) := by decide +kernel
theorem dX1_useWax_1 : decode cX1_useWax 1 = .ok (.istore_n 1, 1) := by decide +kernel
theorem dX1_useWax_2 : decode cX1_useWax 2 = .ok (.iload_n 1, 1) := by decide +kernel
theorem dX1_useWax_3 : decode cX1_useWax 3 = .ok (.aload_n 0, 1) := by decide +kernel
theorem dX1_useWax_4 : decode cX1_useWax 4 = .ok (.getfield 54, 3) := by decide +kernel
theorem dX1_useWax_7 : decode cX1_useWax 7 = .ok (.if_icmp .ge 58, 3) := by decide +kernel
theorem dX1_useWax_10 : decode cX1_useWax 10 = .ok (.aload_n 0, 1) := by decide +kernel
theorem dX1_useWax_11 : decode cX1_useWax 11 = .ok (.iload_n 1, 1) := by decide +kernel
theorem dX1_useWax_12 : decode cX1_useWax 12 = .ok (.invokevirtual 111, 3) := by decide +kernel
theorem dX1_useWax_15 : decode cX1_useWax 15 = .ok (.ifCond .eq 44, 3) := by decide +kernel
theorem dX1_useWax_18 : decode cX1_useWax 18 = .ok (.aload_n 0, 1) := by decide +kernel
theorem dX1_useWax_19 : decode cX1_useWax 19 = .ok (.iload_n 1, 1) := by decide +kernel
theorem dX1_useWax_20 : decode cX1_useWax 20 = .ok (.invokevirtual 86, 3) := by decide +kernel
theorem dX1_useWax_23 : decode cX1_useWax 23 = .ok (.ifCond .eq 36, 3) := by decide +kernel
theorem dX1_useWax_26 : decode cX1_useWax 26 = .ok (.aload_n 0, 1) := by decide +kernel
theorem dX1_useWax_27 : decode cX1_useWax 27 = .ok (.getfield 29, 3) := by decide +kernel
theorem dX1_useWax_30 : decode cX1_useWax 30 = .ok (.iload_n 1, 1) := by decide +kernel
theorem dX1_useWax_31 : decode cX1_useWax 31 = .ok (.invokevirtual 80, 3) := by decide +kernel
theorem dX1_useWax_34 : decode cX1_useWax 34 = .ok (.iconst 1, 1) := by decide +kernel
theorem dX1_useWax_35 : decode cX1_useWax 35 = .ok (.isub, 1) := by decide +kernel
theorem dX1_useWax_36 : decode cX1_useWax 36 = .ok (.istore_n 2, 1) := by decide +kernel
theorem dX1_useWax_37 : decode cX1_useWax 37 = .ok (.aload_n 0, 1) := by decide +kernel
theorem dX1_useWax_38 : decode cX1_useWax 38 = .ok (.getfield 29, 3) := by decide +kernel
theorem dX1_useWax_41 : decode cX1_useWax 41 = .ok (.iload_n 1, 1) := by decide +kernel
theorem dX1_useWax_42 : decode cX1_useWax 42 = .ok (.iload_n 2, 1) := by decide +kernel
theorem dX1_useWax_43 : decode cX1_useWax 43 = .ok (.invokevirtual 61, 3) := by decide +kernel
theorem dX1_useWax_46 : decode cX1_useWax 46 = .ok (.iload_n 2, 1) := by decide +kernel
theorem dX1_useWax_47 : decode cX1_useWax 47 = .ok (.ifCond .gt 12, 3) := by decide +kernel
theorem dX1_useWax_50 : decode cX1_useWax 50 = .ok (.aload_n 0, 1) := by decide +kernel
theorem dX1_useWax_51 : decode cX1_useWax 51 = .ok (.getfield 35, 3) := by decide +kernel
theorem dX1_useWax_54 : decode cX1_useWax 54 = .ok (.iload_n 1, 1) := by decide +kernel
theorem dX1_useWax_55 : decode cX1_useWax 55 = .ok (.iconst 0, 1) := by decide +kernel
theorem dX1_useWax_56 : decode cX1_useWax 56 = .ok (.invokevirtual 61, 3) := by decide +kernel
theorem dX1_useWax_59 : decode cX1_useWax 59 = .ok (.iinc 1 1, 3) := by decide +kernel
theorem dX1_useWax_62 : decode cX1_useWax 62 = .ok (.goto (-60), 3) := by decide +kernel
theorem dX1_useWax_65 : decode cX1_useWax 65 = .ok (.return_, 1) := by decide +kernel
set_option maxRecDepth 20000 in
theorem ggX1_crowdBy_X2_get : GoodIn wsX1_crowdBy wsX2_get := goodIn_r _ [9, 10, 32] (by decide +kernel) (by decide +kernel)
set_option maxRecDepth 20000 in
theorem gX1_crowdBy_X2_get : GoodIn wsX1_crowdBy (wsV RX1 80 RX2 yX2_get wsX2_get) := goodIn_app (goodIn_of _ (by decide +kernel)) ggX1_crowdBy_X2_get
set_option maxRecDepth 20000 in
theorem ggX1_crowdBy_X1_cell : GoodIn wsX1_crowdBy wsX1_cell := goodIn_r _ [14] (by decide +kernel) (by decide +kernel)
set_option maxRecDepth 20000 in
theorem gX1_crowdBy_X1_cell : GoodIn wsX1_crowdBy (va_wsS RX1 92 yX1_cell wsX1_cell) := goodIn_app (goodIn_of _ (by decide +kernel)) ggX1_crowdBy_X1_cell
set_option maxRecDepth 20000 in
theorem ggX1_crowdBy_X2_put : GoodIn wsX1_crowdBy wsX2_put := goodIn_r _ [18, 10, 32] (by decide +kernel) (by decide +kernel)
set_option maxRecDepth 20000 in
theorem gX1_crowdBy_X2_put : GoodIn wsX1_crowdBy (wsV RX1 61 RX2 yX2_put wsX2_put) := goodIn_app (goodIn_of _ (by decide +kernel)) ggX1_crowdBy_X2_put
theorem dX1_crowdBy_0 : decode cX1_crowdBy 0 = .ok (.aload_n 0, 1) := by decide +kernel
theorem dX1_crowdBy_1 : decode cX1_crowdBy 1 = .ok (.getfield 23, 3) := by decide +kernel
theorem dX1_crowdBy_4 : decode cX1_crowdBy 4 = .ok (.iload_n 1, 1) := by decide +kernel
theorem dX1_crowdBy_5 : decode cX1_crowdBy 5 = .ok (.invokevirtual 80, 3) := by decide +kernel
theorem dX1_crowdBy_8 : decode cX1_crowdBy 8 = .ok (.aload_n 0, 1) := by decide +kernel
theorem dX1_crowdBy_9 : decode cX1_crowdBy 9 = .ok (.getfield 26, 3) := by decide +kernel
theorem dX1_crowdBy_12 : decode cX1_crowdBy 12 = .ok (.iload_n 1, 1) := by decide +kernel
theorem dX1_crowdBy_13 : decode cX1_crowdBy 13 = .ok (.invokevirtual 80, 3) := by decide +kernel
theorem dX1_crowdBy_16 : decode cX1_crowdBy 16 = .ok (.aload_n 0, 1) := by decide +kernel
theorem dX1_crowdBy_17 : decode cX1_crowdBy 17 = .ok (.getfield 16, 3) := by decide +kernel
theorem dX1_crowdBy_20 : decode cX1_crowdBy 20 = .ok (.iload_n 1, 1) := by decide +kernel
theorem dX1_crowdBy_21 : decode cX1_crowdBy 21 = .ok (.invokevirtual 80, 3) := by decide +kernel
theorem dX1_crowdBy_24 : decode cX1_crowdBy 24 = .ok (.invokestatic 92, 3) := by decide +kernel
theorem dX1_crowdBy_27 : decode cX1_crowdBy 27 = .ok (.istore_n 3, 1) := by decide +kernel
theorem dX1_crowdBy_28 : decode cX1_crowdBy 28 = .ok (.aload_n 0, 1) := by decide +kernel
theorem dX1_crowdBy_29 : decode cX1_crowdBy 29 = .ok (.getfield 44, 3) := by decide +kernel
theorem dX1_crowdBy_32 : decode cX1_crowdBy 32 = .ok (.iload_n 3, 1) := by decide +kernel
theorem dX1_crowdBy_33 : decode cX1_crowdBy 33 = .ok (.aload_n 0, 1) := by decide +kernel
theorem dX1_crowdBy_34 : decode cX1_crowdBy 34 = .ok (.getfield 44, 3) := by decide +kernel
theorem dX1_crowdBy_37 : decode cX1_crowdBy 37 = .ok (.iload_n 3, 1) := by decide +kernel
theorem dX1_crowdBy_38 : decode cX1_crowdBy 38 = .ok (.invokevirtual 80, 3) := by decide +kernel
theorem dX1_crowdBy_41 : decode cX1_crowdBy 41 = .ok (.iload_n 2, 1) := by decide +kernel
theorem dX1_crowdBy_42 : decode cX1_crowdBy 42 = .ok (.iadd, 1) := by decide +kernel
theorem dX1_crowdBy_43 : decode cX1_crowdBy 43 = .ok (.invokevirtual 61, 3) := by decide +kernel
theorem dX1_crowdBy_46 : decode cX1_crowdBy 46 = .ok (.return_, 1) := by decide +kernel
theorem dX1_cell_0 : decode cX1_cell 0 = .ok (.iload_n 1, 1) := by decide +kernel
theorem dX1_cell_1 : decode cX1_cell 1 = .ok (.bipush 60, 2) := by decide +kernel
theorem dX1_cell_3 : decode cX1_cell 3 = .ok (.if_icmp .ge 16, 3) := by decide +kernel
theorem dX1_cell_6 : decode cX1_cell 6 = .ok (.iload_n 0, 1) := by decide +kernel
theorem dX1_cell_7 : decode cX1_cell 7 = .ok (.bipush 60, 2) := by decide +kernel
theorem dX1_cell_9 : decode cX1_cell 9 = .ok (.imul, 1) := by decide +kernel
theorem dX1_cell_10 : decode cX1_cell 10 = .ok (.iload_n 1, 1) := by decide +kernel
theorem dX1_cell_11 : decode cX1_cell 11 = .ok (.iadd, 1) := by decide +kernel
theorem dX1_cell_12 : decode cX1_cell 12 = .ok (.iconst 3, 1) := by decide +kernel
theorem dX1_cell_13 : decode cX1_cell 13 = .ok (.imul, 1) := by decide +kernel
theorem dX1_cell_14 : decode cX1_cell 14 = .ok (.iload_n 2, 1) := by decide +kernel
theorem dX1_cell_15 : decode cX1_cell 15 = .ok (.iadd, 1) := by decide +kernel
theorem dX1_cell_16 : decode cX1_cell 16 = .ok (.goto 4, 3) := by decide +kernel
theorem dX1_cell_19 : decode cX1_cell 19 = .ok (.iconst (-1), 1) := by decide +kernel
theorem dX1_cell_20 : decode cX1_cell 20 = .ok (.ireturn, 1) := by decide +kernel
