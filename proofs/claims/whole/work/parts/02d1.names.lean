theorem dX3_foresee_61 : decode cX3_foresee 61 = .ok (.iload_n 1, 1) := by decide +kernel
theorem dX3_foresee_62 : decode cX3_foresee 62 = .ok (.aload_n 0, 1) := by decide +kernel
theorem dX3_foresee_63 : decode cX3_foresee 63 = .ok (.getfield 10, 3) := by decide +kernel
theorem dX3_foresee_66 : decode cX3_foresee 66 = .ok (.invokevirtual 175, 3) := by decide +kernel
theorem dX3_foresee_69 : decode cX3_foresee 69 = .ok (.aload_n 0, 1) := by decide +kernel
theorem dX3_foresee_70 : decode cX3_foresee 70 = .ok (.getfield 23, 3) := by decide +kernel
theorem dX3_foresee_73 : decode cX3_foresee 73 = .ok (.iload_n 2, 1) := by decide +kernel
theorem dX3_foresee_74 : decode cX3_foresee 74 = .ok (.invokevirtual 172, 3) := by decide +kernel
theorem dX3_foresee_77 : decode cX3_foresee 77 = .ok (.ireturn, 1) := by decide +kernel
set_option maxRecDepth 20000 in
theorem ggX3_advise_X3_isFrame : GoodIn wsX3_advise wsX3_isFrame := goodIn_r _ [6, 7, 8, 5, 9] (by decide +kernel) (by decide +kernel)
set_option maxRecDepth 20000 in
theorem gX3_advise_X3_isFrame : GoodIn wsX3_advise (va_wsS RX3 103 yX3_isFrame wsX3_isFrame) := goodIn_app (goodIn_of _ (by decide +kernel)) ggX3_advise_X3_isFrame
set_option maxRecDepth 20000 in
theorem ggX3_advise_X3_minutesToNet : GoodIn wsX3_advise wsX3_minutesToNet := goodIn_r _ [13, 14, 15, 16, 17, 18, 19, 20, 21, 22, 23, 24, 25, 26, 27, 28, 29, 30, 31, 32, 33, 34, 35, 36, 37, 38, 39, 40, 41, 42, 43, 44, 45, 46, 47, 48, 49, 50, 51, 52, 53, 5, 54, 55, 56, 57, 58, 59, 60, 61, 62, 63, 64, 65, 66, 67, 68, 69, 70, 8, 9, 71, 72, 73, 74, 75, 76, 77, 78, 79, 80, 81, 82, 83, 84, 85, 86, 87, 88, 89, 90, 91, 92, 93, 94, 95, 96, 97, 98, 99, 100, 101, 102, 103, 104, 105, 106, 107, 108, 109, 110, 111, 112, 113, 114, 115, 116, 117, 118, 119, 120, 121, 122, 123, 124, 125, 126, 127, 128, 129, 130, 131, 132, 133, 134, 135, 136, 137, 138, 139, 140, 141, 142, 143, 144, 145, 146] (by decide +kernel) (by decide +kernel)
set_option maxRecDepth 20000 in
theorem gX3_advise_X3_minutesToNet : GoodIn wsX3_advise (wsV RX3 187 RX3 yX3_minutesToNet wsX3_minutesToNet) := goodIn_app (goodIn_of _ (by decide +kernel)) ggX3_advise_X3_minutesToNet
theorem dX3_advise_0 : decode cX3_advise 0 = .ok (.iload_n 1, 1) := by decide +kernel
theorem dX3_advise_1 : decode cX3_advise 1 = .ok (.invokestatic 103, 3) := by decide +kernel
theorem dX3_advise_4 : decode cX3_advise 4 = .ok (.ifCond .ne 13, 3) := by decide +kernel
theorem dX3_advise_7 : decode cX3_advise 7 = .ok (.new 30, 3) := by decide +kernel
theorem dX3_advise_10 : decode cX3_advise 10 = .ok (.dup, 1) := by decide +kernel
theorem dX3_advise_11 : decode cX3_advise 11 = .ok (.ldc 185, 2) := by decide +kernel
theorem dX3_advise_13 : decode cX3_advise 13 = .ok (.invokespecial 34, 3) := by decide +kernel
theorem dX3_advise_16 : decode cX3_advise 16 = .ok (.athrow, 1) := by decide +kernel
theorem dX3_advise_17 : decode cX3_advise 17 = .ok (.iconst (-1), 1) := by decide +kernel
theorem dX3_advise_18 : decode cX3_advise 18 = .ok (.istore_n 2, 1) := by decide +kernel
theorem dX3_advise_19 : decode cX3_advise 19 = .ok (.bipush 61, 2) := by decide +kernel
theorem dX3_advise_21 : decode cX3_advise 21 = .ok (.istore_n 3, 1) := by decide +kernel
theorem dX3_advise_22 : decode cX3_advise 22 = .ok (.iconst 0, 1) := by decide +kernel
theorem dX3_advise_23 : decode cX3_advise 23 = .ok (.istore 4, 2) := by decide +kernel
theorem dX3_advise_25 : decode cX3_advise 25 = .ok (.iload 4, 2) := by decide +kernel
theorem dX3_advise_27 : decode cX3_advise 27 = .ok (.iconst 3, 1) := by decide +kernel
theorem dX3_advise_28 : decode cX3_advise 28 = .ok (.if_icmp .ge 30, 3) := by decide +kernel
theorem dX3_advise_31 : decode cX3_advise 31 = .ok (.aload_n 0, 1) := by decide +kernel
theorem dX3_advise_32 : decode cX3_advise 32 = .ok (.iload_n 1, 1) := by decide +kernel
theorem dX3_advise_33 : decode cX3_advise 33 = .ok (.iload 4, 2) := by decide +kernel
theorem dX3_advise_35 : decode cX3_advise 35 = .ok (.invokevirtual 187, 3) := by decide +kernel
theorem dX3_advise_38 : decode cX3_advise 38 = .ok (.istore 5, 2) := by decide +kernel
theorem dX3_advise_40 : decode cX3_advise 40 = .ok (.iload 5, 2) := by decide +kernel
theorem dX3_advise_42 : decode cX3_advise 42 = .ok (.iload_n 3, 1) := by decide +kernel
theorem dX3_advise_43 : decode cX3_advise 43 = .ok (.if_icmp .ge 9, 3) := by decide +kernel
theorem dX3_advise_46 : decode cX3_advise 46 = .ok (.iload 5, 2) := by decide +kernel
theorem dX3_advise_48 : decode cX3_advise 48 = .ok (.istore_n 3, 1) := by decide +kernel
theorem dX3_advise_49 : decode cX3_advise 49 = .ok (.iload 4, 2) := by decide +kernel
theorem dX3_advise_51 : decode cX3_advise 51 = .ok (.istore_n 2, 1) := by decide +kernel
theorem dX3_advise_52 : decode cX3_advise 52 = .ok (.iinc 4 1, 3) := by decide +kernel
theorem dX3_advise_55 : decode cX3_advise 55 = .ok (.goto (-30), 3) := by decide +kernel
theorem dX3_advise_58 : decode cX3_advise 58 = .ok (.iload_n 2, 1) := by decide +kernel
theorem dX3_advise_59 : decode cX3_advise 59 = .ok (.ireturn, 1) := by decide +kernel
set_option maxRecDepth 20000 in
theorem ggX3_mean_X1_isAfloat : GoodIn wsX3_mean wsX1_isAfloat := goodIn_r _ [8, 9, 10, 11, 12, 7, 13, 14, 15, 16, 17, 18, 19, 20, 21, 22, 23, 28, 29, 30, 31, 32, 33, 34, 35, 36, 37, 38, 39, 40, 41] (by decide +kernel) (by decide +kernel)
set_option maxRecDepth 20000 in
theorem gX3_mean_X1_isAfloat : GoodIn wsX3_mean (wsV RX3 124 RX1 yX1_isAfloat wsX1_isAfloat) := goodIn_app (goodIn_of _ (by decide +kernel)) ggX3_mean_X1_isAfloat
set_option maxRecDepth 20000 in
theorem ggX3_mean_X2_get : GoodIn wsX3_mean wsX2_get := goodIn_r _ [22, 23, 41] (by decide +kernel) (by decide +kernel)
set_option maxRecDepth 20000 in
theorem gX3_mean_X2_get : GoodIn wsX3_mean (wsV RX3 50 RX2 yX2_get wsX2_get) := goodIn_app (goodIn_of _ (by decide +kernel)) ggX3_mean_X2_get
theorem dX3_mean_0 : decode cX3_mean 0 = .ok (.iconst 0, 1) := by decide +kernel
theorem dX3_mean_1 : decode cX3_mean 1 = .ok (.istore_n 1, 1) := by decide +kernel
theorem dX3_mean_2 : decode cX3_mean 2 = .ok (.iconst 0, 1) := by decide +kernel
theorem dX3_mean_3 : decode cX3_mean 3 = .ok (.istore_n 2, 1) := by decide +kernel
theorem dX3_mean_4 : decode cX3_mean 4 = .ok (.iconst 0, 1) := by decide +kernel
theorem dX3_mean_5 : decode cX3_mean 5 = .ok (.istore_n 3, 1) := by decide +kernel
theorem dX3_mean_6 : decode cX3_mean 6 = .ok (.iload_n 3, 1) := by decide +kernel
theorem dX3_mean_7 : decode cX3_mean 7 = .ok (.aload_n 0, 1) := by decide +kernel
theorem dX3_mean_8 : decode cX3_mean 8 = .ok (.getfield 19, 3) := by decide +kernel
theorem dX3_mean_11 : decode cX3_mean 11 = .ok (.getfield 110, 3) := by decide +kernel
theorem dX3_mean_14 : decode cX3_mean 14 = .ok (.if_icmp .ge 37, 3) := by decide +kernel
theorem dX3_mean_17 : decode cX3_mean 17 = .ok (.aload_n 0, 1) := by decide +kernel
theorem dX3_mean_18 : decode cX3_mean 18 = .ok (.getfield 19, 3) := by decide +kernel
theorem dX3_mean_21 : decode cX3_mean 21 = .ok (.iload_n 3, 1) := by decide +kernel
theorem dX3_mean_22 : decode cX3_mean 22 = .ok (.invokevirtual 124, 3) := by decide +kernel
theorem dX3_mean_25 : decode cX3_mean 25 = .ok (.ifCond .eq 20, 3) := by decide +kernel
theorem dX3_mean_28 : decode cX3_mean 28 = .ok (.iinc 1 1, 3) := by decide +kernel
theorem dX3_mean_31 : decode cX3_mean 31 = .ok (.iload_n 2, 1) := by decide +kernel
theorem dX3_mean_32 : decode cX3_mean 32 = .ok (.aload_n 0, 1) := by decide +kernel
theorem dX3_mean_33 : decode cX3_mean 33 = .ok (.getfield 19, 3) := by decide +kernel
theorem dX3_mean_36 : decode cX3_mean 36 = .ok (.getfield 132, 3) := by decide +kernel
theorem dX3_mean_39 : decode cX3_mean 39 = .ok (.iload_n 3, 1) := by decide +kernel
theorem dX3_mean_40 : decode cX3_mean 40 = .ok (.invokevirtual 50, 3) := by decide +kernel
theorem dX3_mean_43 : decode cX3_mean 43 = .ok (.iadd, 1) := by decide +kernel
theorem dX3_mean_44 : decode cX3_mean 44 = .ok (.istore_n 2, 1) := by decide +kernel
theorem dX3_mean_45 : decode cX3_mean 45 = .ok (.iinc 3 1, 3) := by decide +kernel
theorem dX3_mean_48 : decode cX3_mean 48 = .ok (.goto (-42), 3) := by decide +kernel
theorem dX3_mean_51 : decode cX3_mean 51 = .ok (.iload_n 1, 1) := by decide +kernel
theorem dX3_mean_52 : decode cX3_mean 52 = .ok (.ifCond .le 11, 3) := by decide +kernel
theorem dX3_mean_55 : decode cX3_mean 55 = .ok (.iload_n 2, 1) := by decide +kernel
theorem dX3_mean_56 : decode cX3_mean 56 = .ok (.i2d, 1) := by decide +kernel
theorem dX3_mean_57 : decode cX3_mean 57 = .ok (.iload_n 1, 1) := by decide +kernel
theorem dX3_mean_58 : decode cX3_mean 58 = .ok (.i2d, 1) := by decide +kernel
theorem dX3_mean_59 : decode cX3_mean 59 = .ok (.ddiv, 1) := by decide +kernel
theorem dX3_mean_60 : decode cX3_mean 60 = .ok (.goto 4, 3) := by decide +kernel
theorem dX3_mean_63 : decode cX3_mean 63 = .ok (.dconst 0, 1) := by decide +kernel
theorem dX3_mean_64 : decode cX3_mean 64 = .ok (.dreturn, 1) := by decide +kernel
set_option maxRecDepth 20000 in
theorem ggX3_digest_X3_counted : GoodIn wsX3_digest wsX3_counted := goodIn_r _ [11, 5, 12, 6, 3, 13, 14, 15, 16, 17, 18, 19, 20, 21, 22, 23, 24, 25, 26, 27, 28, 29, 30, 31, 32, 33, 84, 85, 86, 92, 93, 94, 95, 96, 97, 98, 99, 100, 101, 102, 103, 104, 87, 88, 89, 90, 91, 105] (by decide +kernel) (by decide +kernel)
set_option maxRecDepth 20000 in
theorem gX3_digest_X3_counted : GoodIn wsX3_digest (wsV RX3 167 RX3 yX3_counted wsX3_counted) := goodIn_app (goodIn_of _ (by decide +kernel)) ggX3_digest_X3_counted
set_option maxRecDepth 20000 in
theorem ggX3_digest_X2_get : GoodIn wsX3_digest wsX2_get := goodIn_r _ [32, 33, 105] (by decide +kernel) (by decide +kernel)
set_option maxRecDepth 20000 in
theorem gX3_digest_X2_get : GoodIn wsX3_digest (wsV RX3 50 RX2 yX2_get wsX2_get) := goodIn_app (goodIn_of _ (by decide +kernel)) ggX3_digest_X2_get
set_option maxRecDepth 20000 in
theorem ggX3_digest_X3_riverFact : GoodIn wsX3_digest wsX3_riverFact := goodIn_r _ [38, 5, 3, 39, 40, 41, 42, 18, 43, 44, 45, 46, 47, 28, 29, 30, 31, 32, 33, 34, 48, 49, 50, 51, 52, 53, 54, 55, 56, 57, 58, 20, 25, 59, 60, 84, 85, 86, 87, 88, 89, 90, 91, 92, 93, 94, 95, 96, 97, 98, 99, 100, 101, 102, 103, 104, 105] (by decide +kernel) (by decide +kernel)
set_option maxRecDepth 20000 in
theorem gX3_digest_X3_riverFact : GoodIn wsX3_digest (wsV RX3 99 RX3 yX3_riverFact wsX3_riverFact) := goodIn_app (goodIn_of _ (by decide +kernel)) ggX3_digest_X3_riverFact
set_option maxRecDepth 20000 in
theorem ggX3_digest_X1_fact : GoodIn wsX3_digest wsX1_fact := goodIn_r _ [64, 65, 27, 59, 60, 66, 67, 26, 25, 68, 28, 29, 30, 31, 32, 33, 92, 93, 94, 95, 96, 97, 98, 99, 100, 101, 102, 103, 104, 105] (by decide +kernel) (by decide +kernel)
set_option maxRecDepth 20000 in
theorem gX3_digest_X1_fact : GoodIn wsX3_digest (wsV RX3 159 RX1 yX1_fact wsX1_fact) := goodIn_app (goodIn_of _ (by decide +kernel)) ggX3_digest_X1_fact
set_option maxRecDepth 20000 in
theorem ggX3_digest_X3_nextWeir : GoodIn wsX3_digest wsX3_nextWeir := goodIn_r _ [72, 5, 73, 3, 39, 74, 75, 76, 18, 77, 25, 78, 79, 80, 81, 20, 82, 10, 83, 28, 29, 30, 31, 32, 33, 34, 84, 85, 86, 92, 93, 94, 95, 96, 97, 98, 99, 100, 101, 102, 103, 104, 87, 88, 89, 90, 91, 105] (by decide +kernel) (by decide +kernel)
set_option maxRecDepth 20000 in
theorem gX3_digest_X3_nextWeir : GoodIn wsX3_digest (wsV RX3 162 RX3 yX3_nextWeir wsX3_nextWeir) := goodIn_app (goodIn_of _ (by decide +kernel)) ggX3_digest_X3_nextWeir
theorem dX3_digest_0 : decode cX3_digest 0 = .ok (.ldc2_w 190, 3) := by decide +kernel
theorem dX3_digest_3 : decode cX3_digest 3 = .ok (.lstore_n 1, 1) := by decide +kernel
theorem dX3_digest_4 : decode cX3_digest 4 = .ok (.iconst 0, 1) := by decide +kernel
theorem dX3_digest_5 : decode cX3_digest 5 = .ok (.istore_n 3, 1) := by decide +kernel
theorem dX3_digest_6 : decode cX3_digest 6 = .ok (.iload_n 3, 1) := by decide +kernel
theorem dX3_digest_7 : decode cX3_digest 7 = .ok (.bipush 10, 2) := by decide +kernel
theorem dX3_digest_9 : decode cX3_digest 9 = .ok (.if_icmp .ge 22, 3) := by decide +kernel
theorem dX3_digest_12 : decode cX3_digest 12 = .ok (.lload_n 1, 1) := by decide +kernel
theorem dX3_digest_13 : decode cX3_digest 13 = .ok (.ldc2_w 192, 3) := by decide +kernel
theorem dX3_digest_16 : decode cX3_digest 16 = .ok (.lmul, 1) := by decide +kernel
theorem dX3_digest_17 : decode cX3_digest 17 = .ok (.aload_n 0, 1) := by decide +kernel
theorem dX3_digest_18 : decode cX3_digest 18 = .ok (.iload_n 3, 1) := by decide +kernel
theorem dX3_digest_19 : decode cX3_digest 19 = .ok (.invokevirtual 167, 3) := by decide +kernel
theorem dX3_digest_22 : decode cX3_digest 22 = .ok (.i2l, 1) := by decide +kernel
theorem dX3_digest_23 : decode cX3_digest 23 = .ok (.ladd, 1) := by decide +kernel
theorem dX3_digest_24 : decode cX3_digest 24 = .ok (.lstore_n 1, 1) := by decide +kernel
theorem dX3_digest_25 : decode cX3_digest 25 = .ok (.iinc 3 1, 3) := by decide +kernel
theorem dX3_digest_28 : decode cX3_digest 28 = .ok (.goto (-22), 3) := by decide +kernel
theorem dX3_digest_31 : decode cX3_digest 31 = .ok (.iconst 0, 1) := by decide +kernel
theorem dX3_digest_32 : decode cX3_digest 32 = .ok (.istore_n 3, 1) := by decide +kernel
theorem dX3_digest_33 : decode cX3_digest 33 = .ok (.iload_n 3, 1) := by decide +kernel
theorem dX3_digest_34 : decode cX3_digest 34 = .ok (.iconst 3, 1) := by decide +kernel
theorem dX3_digest_35 : decode cX3_digest 35 = .ok (.if_icmp .ge 28, 3) := by decide +kernel
theorem dX3_digest_38 : decode cX3_digest 38 = .ok (.lload_n 1, 1) := by decide +kernel
theorem dX3_digest_39 : decode cX3_digest 39 = .ok (.ldc2_w 192, 3) := by decide +kernel
theorem dX3_digest_42 : decode cX3_digest 42 = .ok (.lmul, 1) := by decide +kernel
theorem dX3_digest_43 : decode cX3_digest 43 = .ok (.aload_n 0, 1) := by decide +kernel
theorem dX3_digest_44 : decode cX3_digest 44 = .ok (.getfield 10, 3) := by decide +kernel
theorem dX3_digest_47 : decode cX3_digest 47 = .ok (.getfield 46, 3) := by decide +kernel
theorem dX3_digest_50 : decode cX3_digest 50 = .ok (.iload_n 3, 1) := by decide +kernel
theorem dX3_digest_51 : decode cX3_digest 51 = .ok (.invokevirtual 50, 3) := by decide +kernel
theorem dX3_digest_54 : decode cX3_digest 54 = .ok (.i2l, 1) := by decide +kernel
theorem dX3_digest_55 : decode cX3_digest 55 = .ok (.ladd, 1) := by decide +kernel
theorem dX3_digest_56 : decode cX3_digest 56 = .ok (.lstore_n 1, 1) := by decide +kernel
theorem dX3_digest_57 : decode cX3_digest 57 = .ok (.iinc 3 1, 3) := by decide +kernel
theorem dX3_digest_60 : decode cX3_digest 60 = .ok (.goto (-27), 3) := by decide +kernel
theorem dX3_digest_63 : decode cX3_digest 63 = .ok (.iconst 0, 1) := by decide +kernel
theorem dX3_digest_64 : decode cX3_digest 64 = .ok (.istore_n 3, 1) := by decide +kernel
theorem dX3_digest_65 : decode cX3_digest 65 = .ok (.iload_n 3, 1) := by decide +kernel
theorem dX3_digest_66 : decode cX3_digest 66 = .ok (.bipush 60, 2) := by decide +kernel
theorem dX3_digest_68 : decode cX3_digest 68 = .ok (.if_icmp .ge 56, 3) := by decide +kernel
theorem dX3_digest_71 : decode cX3_digest 71 = .ok (.iconst 0, 1) := by decide +kernel
theorem dX3_digest_72 : decode cX3_digest 72 = .ok (.istore 4, 2) := by decide +kernel
theorem dX3_digest_74 : decode cX3_digest 74 = .ok (.iload 4, 2) := by decide +kernel
theorem dX3_digest_76 : decode cX3_digest 76 = .ok (.iconst 3, 1) := by decide +kernel
theorem dX3_digest_77 : decode cX3_digest 77 = .ok (.if_icmp .ge 41, 3) := by decide +kernel
theorem dX3_digest_80 : decode cX3_digest 80 = .ok (.iconst 0, 1) := by decide +kernel
theorem dX3_digest_81 : decode cX3_digest 81 = .ok (.istore 5, 2) := by decide +kernel
theorem dX3_digest_83 : decode cX3_digest 83 = .ok (.iload 5, 2) := by decide +kernel
theorem dX3_digest_85 : decode cX3_digest 85 = .ok (.iconst 4, 1) := by decide +kernel
theorem dX3_digest_86 : decode cX3_digest 86 = .ok (.if_icmp .ge 26, 3) := by decide +kernel
theorem dX3_digest_89 : decode cX3_digest 89 = .ok (.lload_n 1, 1) := by decide +kernel
theorem dX3_digest_90 : decode cX3_digest 90 = .ok (.ldc2_w 192, 3) := by decide +kernel
theorem dX3_digest_93 : decode cX3_digest 93 = .ok (.lmul, 1) := by decide +kernel
theorem dX3_digest_94 : decode cX3_digest 94 = .ok (.aload_n 0, 1) := by decide +kernel
theorem dX3_digest_95 : decode cX3_digest 95 = .ok (.iload 4, 2) := by decide +kernel
theorem dX3_digest_97 : decode cX3_digest 97 = .ok (.iload_n 3, 1) := by decide +kernel
theorem dX3_digest_98 : decode cX3_digest 98 = .ok (.iload 5, 2) := by decide +kernel
theorem dX3_digest_100 : decode cX3_digest 100 = .ok (.invokevirtual 99, 3) := by decide +kernel
theorem dX3_digest_103 : decode cX3_digest 103 = .ok (.i2l, 1) := by decide +kernel
theorem dX3_digest_104 : decode cX3_digest 104 = .ok (.ladd, 1) := by decide +kernel
theorem dX3_digest_105 : decode cX3_digest 105 = .ok (.lstore_n 1, 1) := by decide +kernel
theorem dX3_digest_106 : decode cX3_digest 106 = .ok (.iinc 5 1, 3) := by decide +kernel
theorem dX3_digest_109 : decode cX3_digest 109 = .ok (.goto (-26), 3) := by decide +kernel
theorem dX3_digest_112 : decode cX3_digest 112 = .ok (.iinc 4 1, 3) := by decide +kernel
theorem dX3_digest_115 : decode cX3_digest 115 = .ok (.goto (-41), 3) := by decide +kernel
theorem dX3_digest_118 : decode cX3_digest 118 = .ok (.iinc 3 1, 3) := by decide +kernel
theorem dX3_digest_121 : decode cX3_digest 121 = .ok (.goto (-56), 3) := by decide +kernel
theorem dX3_digest_124 : decode cX3_digest 124 = .ok (.iconst 0, 1) := by decide +kernel
theorem dX3_digest_125 : decode cX3_digest 125 = .ok (.istore_n 3, 1) := by decide +kernel
theorem dX3_digest_126 : decode cX3_digest 126 = .ok (.iload_n 3, 1) := by decide +kernel
theorem dX3_digest_127 : decode cX3_digest 127 = .ok (.aload_n 0, 1) := by decide +kernel
theorem dX3_digest_128 : decode cX3_digest 128 = .ok (.getfield 19, 3) := by decide +kernel
theorem dX3_digest_131 : decode cX3_digest 131 = .ok (.getfield 110, 3) := by decide +kernel
theorem dX3_digest_134 : decode cX3_digest 134 = .ok (.if_icmp .ge 56, 3) := by decide +kernel
theorem dX3_digest_137 : decode cX3_digest 137 = .ok (.iconst 0, 1) := by decide +kernel
theorem dX3_digest_138 : decode cX3_digest 138 = .ok (.istore 4, 2) := by decide +kernel
theorem dX3_digest_140 : decode cX3_digest 140 = .ok (.iload 4, 2) := by decide +kernel
theorem dX3_digest_142 : decode cX3_digest 142 = .ok (.bipush 9, 2) := by decide +kernel
theorem dX3_digest_144 : decode cX3_digest 144 = .ok (.if_icmp .ge 27, 3) := by decide +kernel
theorem dX3_digest_147 : decode cX3_digest 147 = .ok (.lload_n 1, 1) := by decide +kernel
theorem dX3_digest_148 : decode cX3_digest 148 = .ok (.ldc2_w 192, 3) := by decide +kernel
theorem dX3_digest_151 : decode cX3_digest 151 = .ok (.lmul, 1) := by decide +kernel
theorem dX3_digest_152 : decode cX3_digest 152 = .ok (.aload_n 0, 1) := by decide +kernel
theorem dX3_digest_153 : decode cX3_digest 153 = .ok (.getfield 19, 3) := by decide +kernel
theorem dX3_digest_156 : decode cX3_digest 156 = .ok (.iload_n 3, 1) := by decide +kernel
theorem dX3_digest_157 : decode cX3_digest 157 = .ok (.iload 4, 2) := by decide +kernel
theorem dX3_digest_159 : decode cX3_digest 159 = .ok (.invokevirtual 159, 3) := by decide +kernel
theorem dX3_digest_162 : decode cX3_digest 162 = .ok (.i2l, 1) := by decide +kernel
theorem dX3_digest_163 : decode cX3_digest 163 = .ok (.ladd, 1) := by decide +kernel
theorem dX3_digest_164 : decode cX3_digest 164 = .ok (.lstore_n 1, 1) := by decide +kernel
theorem dX3_digest_165 : decode cX3_digest 165 = .ok (.iinc 4 1, 3) := by decide +kernel
theorem dX3_digest_168 : decode cX3_digest 168 = .ok (.goto (-28), 3) := by decide +kernel
theorem dX3_digest_171 : decode cX3_digest 171 = .ok (.lload_n 1, 1) := by decide +kernel
theorem dX3_digest_172 : decode cX3_digest 172 = .ok (.ldc2_w 192, 3) := by decide +kernel
theorem dX3_digest_175 : decode cX3_digest 175 = .ok (.lmul, 1) := by decide +kernel
theorem dX3_digest_176 : decode cX3_digest 176 = .ok (.aload_n 0, 1) := by decide +kernel
theorem dX3_digest_177 : decode cX3_digest 177 = .ok (.iload_n 3, 1) := by decide +kernel
theorem dX3_digest_178 : decode cX3_digest 178 = .ok (.invokevirtual 162, 3) := by decide +kernel
theorem dX3_digest_181 : decode cX3_digest 181 = .ok (.i2l, 1) := by decide +kernel
theorem dX3_digest_182 : decode cX3_digest 182 = .ok (.ladd, 1) := by decide +kernel
theorem dX3_digest_183 : decode cX3_digest 183 = .ok (.lstore_n 1, 1) := by decide +kernel
theorem dX3_digest_184 : decode cX3_digest 184 = .ok (.iinc 3 1, 3) := by decide +kernel
theorem dX3_digest_187 : decode cX3_digest 187 = .ok (.goto (-61), 3) := by decide +kernel
theorem dX3_digest_190 : decode cX3_digest 190 = .ok (.lload_n 1, 1) := by decide +kernel
theorem dX3_digest_191 : decode cX3_digest 191 = .ok (.lreturn, 1) := by decide +kernel
set_option maxRecDepth 20000 in
theorem ggX3_riverFact_X1_floatingAt : GoodIn wsX3_riverFact wsX1_floatingAt := goodIn_r _ [8, 9, 10, 11, 7, 12, 13, 14, 15, 16, 17, 18, 43, 44, 45, 46, 47, 48, 49, 50, 51, 52, 53, 54, 55, 56] (by decide +kernel) (by decide +kernel)
set_option maxRecDepth 20000 in
theorem gX3_riverFact_X1_floatingAt : GoodIn wsX3_riverFact (wsV RX3 194 RX1 yX1_floatingAt wsX1_floatingAt) := goodIn_app (goodIn_of _ (by decide +kernel)) ggX3_riverFact_X1_floatingAt
set_option maxRecDepth 20000 in
theorem ggX3_riverFact_X2_get : GoodIn wsX3_riverFact wsX2_get := goodIn_r _ [17, 18, 56] (by decide +kernel) (by decide +kernel)
set_option maxRecDepth 20000 in
theorem gX3_riverFact_X2_get : GoodIn wsX3_riverFact (wsV RX3 50 RX2 yX2_get wsX2_get) := goodIn_app (goodIn_of _ (by decide +kernel)) ggX3_riverFact_X2_get
set_option maxRecDepth 20000 in
theorem ggX3_riverFact_X0_hasNet : GoodIn wsX3_riverFact wsX0_hasNet := goodIn_r _ [24, 25, 26, 14, 15, 16, 17, 18, 38, 39, 40, 41, 42, 56] (by decide +kernel) (by decide +kernel)
set_option maxRecDepth 20000 in
theorem gX3_riverFact_X0_hasNet : GoodIn wsX3_riverFact (wsV RX3 85 RX0 yX0_hasNet wsX0_hasNet) := goodIn_app (goodIn_of _ (by decide +kernel)) ggX3_riverFact_X0_hasNet
set_option maxRecDepth 20000 in
theorem ggX3_riverFact_X1_caughtAt : GoodIn wsX3_riverFact wsX1_caughtAt := goodIn_r _ [30, 31, 32, 33, 34, 13, 14, 15, 16, 17, 18, 43, 44, 45, 46, 47, 48, 49, 50, 51, 52, 53, 54, 55, 56] (by decide +kernel) (by decide +kernel)
set_option maxRecDepth 20000 in
theorem gX3_riverFact_X1_caughtAt : GoodIn wsX3_riverFact (wsV RX3 197 RX1 yX1_caughtAt wsX1_caughtAt) := goodIn_app (goodIn_of _ (by decide +kernel)) ggX3_riverFact_X1_caughtAt
theorem dX3_riverFact_0 : decode cX3_riverFact 0 = .ok (.iload_n 3, 1) := by decide +kernel
theorem dX3_riverFact_1 : decode cX3_riverFact 1 = .ok (.tableswitch 67 0 2 #[27, 37, 49], 27) := by decide +kernel
theorem dX3_riverFact_28 : decode cX3_riverFact 28 = .ok (.aload_n 0, 1) := by decide +kernel
theorem dX3_riverFact_29 : decode cX3_riverFact 29 = .ok (.getfield 19, 3) := by decide +kernel
theorem dX3_riverFact_32 : decode cX3_riverFact 32 = .ok (.iload_n 1, 1) := by decide +kernel
theorem dX3_riverFact_33 : decode cX3_riverFact 33 = .ok (.iload_n 2, 1) := by decide +kernel
theorem dX3_riverFact_34 : decode cX3_riverFact 34 = .ok (.invokevirtual 194, 3) := by decide +kernel
theorem dX3_riverFact_37 : decode cX3_riverFact 37 = .ok (.ireturn, 1) := by decide +kernel
theorem dX3_riverFact_38 : decode cX3_riverFact 38 = .ok (.aload_n 0, 1) := by decide +kernel
theorem dX3_riverFact_39 : decode cX3_riverFact 39 = .ok (.getfield 10, 3) := by decide +kernel
theorem dX3_riverFact_42 : decode cX3_riverFact 42 = .ok (.getfield 68, 3) := by decide +kernel
theorem dX3_riverFact_45 : decode cX3_riverFact 45 = .ok (.iload_n 2, 1) := by decide +kernel
theorem dX3_riverFact_46 : decode cX3_riverFact 46 = .ok (.invokevirtual 50, 3) := by decide +kernel
theorem dX3_riverFact_49 : decode cX3_riverFact 49 = .ok (.ireturn, 1) := by decide +kernel
theorem dX3_riverFact_50 : decode cX3_riverFact 50 = .ok (.aload_n 0, 1) := by decide +kernel
theorem dX3_riverFact_51 : decode cX3_riverFact 51 = .ok (.getfield 10, 3) := by decide +kernel
theorem dX3_riverFact_54 : decode cX3_riverFact 54 = .ok (.iload_n 1, 1) := by decide +kernel
theorem dX3_riverFact_55 : decode cX3_riverFact 55 = .ok (.iload_n 2, 1) := by decide +kernel
theorem dX3_riverFact_56 : decode cX3_riverFact 56 = .ok (.invokevirtual 85, 3) := by decide +kernel
theorem dX3_riverFact_59 : decode cX3_riverFact 59 = .ok (.ifCond .eq 7, 3) := by decide +kernel
theorem dX3_riverFact_62 : decode cX3_riverFact 62 = .ok (.iconst 1, 1) := by decide +kernel
theorem dX3_riverFact_63 : decode cX3_riverFact 63 = .ok (.goto 4, 3) := by decide +kernel
theorem dX3_riverFact_66 : decode cX3_riverFact 66 = .ok (.iconst 0, 1) := by decide +kernel
theorem dX3_riverFact_67 : decode cX3_riverFact 67 = .ok (.ireturn, 1) := by decide +kernel
theorem dX3_riverFact_68 : decode cX3_riverFact 68 = .ok (.aload_n 0, 1) := by decide +kernel
theorem dX3_riverFact_69 : decode cX3_riverFact 69 = .ok (.getfield 10, 3) := by decide +kernel
theorem dX3_riverFact_72 : decode cX3_riverFact 72 = .ok (.iload_n 1, 1) := by decide +kernel
theorem dX3_riverFact_73 : decode cX3_riverFact 73 = .ok (.iload_n 2, 1) := by decide +kernel
theorem dX3_riverFact_74 : decode cX3_riverFact 74 = .ok (.invokevirtual 85, 3) := by decide +kernel
theorem dX3_riverFact_77 : decode cX3_riverFact 77 = .ok (.ifCond .eq 15, 3) := by decide +kernel
theorem dX3_riverFact_80 : decode cX3_riverFact 80 = .ok (.aload_n 0, 1) := by decide +kernel
theorem dX3_riverFact_81 : decode cX3_riverFact 81 = .ok (.getfield 19, 3) := by decide +kernel
theorem dX3_riverFact_84 : decode cX3_riverFact 84 = .ok (.iload_n 1, 1) := by decide +kernel
theorem dX3_riverFact_85 : decode cX3_riverFact 85 = .ok (.iload_n 2, 1) := by decide +kernel
theorem dX3_riverFact_86 : decode cX3_riverFact 86 = .ok (.invokevirtual 197, 3) := by decide +kernel
theorem dX3_riverFact_89 : decode cX3_riverFact 89 = .ok (.goto 4, 3) := by decide +kernel
theorem dX3_riverFact_92 : decode cX3_riverFact 92 = .ok (.iconst 0, 1) := by decide +kernel
theorem dX3_riverFact_93 : decode cX3_riverFact 93 = .ok (.ireturn, 1) := by decide +kernel
set_option maxRecDepth 20000 in
theorem ggX3_nextWeir_X1_isAfloat : GoodIn wsX3_nextWeir wsX1_isAfloat := goodIn_r _ [9, 10, 11, 12, 13, 8, 14, 15, 16, 17, 18, 19, 20, 21, 22, 23, 24, 29, 30, 31, 32, 33, 34, 35, 36, 37, 38, 39, 40, 41, 47] (by decide +kernel) (by decide +kernel)
set_option maxRecDepth 20000 in
theorem gX3_nextWeir_X1_isAfloat : GoodIn wsX3_nextWeir (wsV RX3 124 RX1 yX1_isAfloat wsX1_isAfloat) := goodIn_app (goodIn_of _ (by decide +kernel)) ggX3_nextWeir_X1_isAfloat
set_option maxRecDepth 20000 in
theorem ggX3_nextWeir_X2_get : GoodIn wsX3_nextWeir wsX2_get := goodIn_r _ [23, 24, 47] (by decide +kernel) (by decide +kernel)
set_option maxRecDepth 20000 in
theorem gX3_nextWeir_X2_get : GoodIn wsX3_nextWeir (wsV RX3 50 RX2 yX2_get wsX2_get) := goodIn_app (goodIn_of _ (by decide +kernel)) ggX3_nextWeir_X2_get
theorem dX3_nextWeir_0 : decode cX3_nextWeir 0 = .ok (.aload_n 0, 1) := by decide +kernel
theorem dX3_nextWeir_1 : decode cX3_nextWeir 1 = .ok (.getfield 19, 3) := by decide +kernel
theorem dX3_nextWeir_4 : decode cX3_nextWeir 4 = .ok (.iload_n 1, 1) := by decide +kernel
theorem dX3_nextWeir_5 : decode cX3_nextWeir 5 = .ok (.invokevirtual 124, 3) := by decide +kernel
theorem dX3_nextWeir_8 : decode cX3_nextWeir 8 = .ok (.ifCond .ne 5, 3) := by decide +kernel
theorem dX3_nextWeir_11 : decode cX3_nextWeir 11 = .ok (.iconst (-1), 1) := by decide +kernel
theorem dX3_nextWeir_12 : decode cX3_nextWeir 12 = .ok (.ireturn, 1) := by decide +kernel
theorem dX3_nextWeir_13 : decode cX3_nextWeir 13 = .ok (.aload_n 0, 1) := by decide +kernel
theorem dX3_nextWeir_14 : decode cX3_nextWeir 14 = .ok (.getfield 19, 3) := by decide +kernel
theorem dX3_nextWeir_17 : decode cX3_nextWeir 17 = .ok (.getfield 132, 3) := by decide +kernel
theorem dX3_nextWeir_20 : decode cX3_nextWeir 20 = .ok (.iload_n 1, 1) := by decide +kernel
theorem dX3_nextWeir_21 : decode cX3_nextWeir 21 = .ok (.invokevirtual 50, 3) := by decide +kernel
theorem dX3_nextWeir_24 : decode cX3_nextWeir 24 = .ok (.iconst 1, 1) := by decide +kernel
theorem dX3_nextWeir_25 : decode cX3_nextWeir 25 = .ok (.iadd, 1) := by decide +kernel
theorem dX3_nextWeir_26 : decode cX3_nextWeir 26 = .ok (.istore_n 2, 1) := by decide +kernel
theorem dX3_nextWeir_27 : decode cX3_nextWeir 27 = .ok (.iload_n 2, 1) := by decide +kernel
theorem dX3_nextWeir_28 : decode cX3_nextWeir 28 = .ok (.bipush 60, 2) := by decide +kernel
theorem dX3_nextWeir_30 : decode cX3_nextWeir 30 = .ok (.if_icmp .ge 25, 3) := by decide +kernel
theorem dX3_nextWeir_33 : decode cX3_nextWeir 33 = .ok (.aload_n 0, 1) := by decide +kernel
theorem dX3_nextWeir_34 : decode cX3_nextWeir 34 = .ok (.getfield 10, 3) := by decide +kernel
theorem dX3_nextWeir_37 : decode cX3_nextWeir 37 = .ok (.getfield 68, 3) := by decide +kernel
theorem dX3_nextWeir_40 : decode cX3_nextWeir 40 = .ok (.iload_n 2, 1) := by decide +kernel
theorem dX3_nextWeir_41 : decode cX3_nextWeir 41 = .ok (.invokevirtual 50, 3) := by decide +kernel
theorem dX3_nextWeir_44 : decode cX3_nextWeir 44 = .ok (.ifCond .le 5, 3) := by decide +kernel
theorem dX3_nextWeir_47 : decode cX3_nextWeir 47 = .ok (.iload_n 2, 1) := by decide +kernel
theorem dX3_nextWeir_48 : decode cX3_nextWeir 48 = .ok (.ireturn, 1) := by decide +kernel
theorem dX3_nextWeir_49 : decode cX3_nextWeir 49 = .ok (.iinc 2 1, 3) := by decide +kernel
theorem dX3_nextWeir_52 : decode cX3_nextWeir 52 = .ok (.goto (-25), 3) := by decide +kernel
theorem dX3_nextWeir_55 : decode cX3_nextWeir 55 = .ok (.iconst (-1), 1) := by decide +kernel
theorem dX3_nextWeir_56 : decode cX3_nextWeir 56 = .ok (.ireturn, 1) := by decide +kernel
set_option maxRecDepth 20000 in
theorem ggX3_counted_X1_tally : GoodIn wsX3_counted wsX1_tally := goodIn_r _ [11, 12, 13, 14, 15, 10, 16, 17, 18, 19, 20, 21, 22, 23, 24, 25, 29, 30, 31, 32, 33, 34, 35, 36, 37, 38, 39, 40, 41, 47] (by decide +kernel) (by decide +kernel)
set_option maxRecDepth 20000 in
theorem gX3_counted_X1_tally : GoodIn wsX3_counted (wsV RX3 172 RX1 yX1_tally wsX1_tally) := goodIn_app (goodIn_of _ (by decide +kernel)) ggX3_counted_X1_tally
theorem dX3_counted_0 : decode cX3_counted 0 = .ok (.iload_n 1, 1) := by decide +kernel
theorem dX3_counted_1 : decode cX3_counted 1 = .ok (.tableswitch 83 0 8 #[51, 59, 83, 83, 83, 83, 83, 67, 75], 51) := by decide +kernel
theorem dX3_counted_52 : decode cX3_counted 52 = .ok (.aload_n 0, 1) := by decide +kernel
theorem dX3_counted_53 : decode cX3_counted 53 = .ok (.getfield 19, 3) := by decide +kernel
theorem dX3_counted_56 : decode cX3_counted 56 = .ok (.getfield 200, 3) := by decide +kernel
theorem dX3_counted_59 : decode cX3_counted 59 = .ok (.ireturn, 1) := by decide +kernel
theorem dX3_counted_60 : decode cX3_counted 60 = .ok (.aload_n 0, 1) := by decide +kernel
theorem dX3_counted_61 : decode cX3_counted 61 = .ok (.getfield 19, 3) := by decide +kernel
theorem dX3_counted_64 : decode cX3_counted 64 = .ok (.getfield 110, 3) := by decide +kernel
theorem dX3_counted_67 : decode cX3_counted 67 = .ok (.ireturn, 1) := by decide +kernel
theorem dX3_counted_68 : decode cX3_counted 68 = .ok (.aload_n 0, 1) := by decide +kernel
theorem dX3_counted_69 : decode cX3_counted 69 = .ok (.getfield 10, 3) := by decide +kernel
theorem dX3_counted_72 : decode cX3_counted 72 = .ok (.getfield 64, 3) := by decide +kernel
theorem dX3_counted_75 : decode cX3_counted 75 = .ok (.ireturn, 1) := by decide +kernel
theorem dX3_counted_76 : decode cX3_counted 76 = .ok (.aload_n 0, 1) := by decide +kernel
theorem dX3_counted_77 : decode cX3_counted 77 = .ok (.getfield 10, 3) := by decide +kernel
theorem dX3_counted_80 : decode cX3_counted 80 = .ok (.getfield 82, 3) := by decide +kernel
theorem dX3_counted_83 : decode cX3_counted 83 = .ok (.ireturn, 1) := by decide +kernel
theorem dX3_counted_84 : decode cX3_counted 84 = .ok (.aload_n 0, 1) := by decide +kernel
theorem dX3_counted_85 : decode cX3_counted 85 = .ok (.getfield 19, 3) := by decide +kernel
theorem dX3_counted_88 : decode cX3_counted 88 = .ok (.iload_n 1, 1) := by decide +kernel
theorem dX3_counted_89 : decode cX3_counted 89 = .ok (.invokevirtual 172, 3) := by decide +kernel
theorem dX3_counted_92 : decode cX3_counted 92 = .ok (.ireturn, 1) := by decide +kernel
set_option maxRecDepth 20000 in
theorem ggX3_minutesToNet_X1_copy : GoodIn wsX3_minutesToNet wsX1_copy := goodIn_r _ [9, 10, 11, 12, 13, 14, 15, 16, 17, 18, 19, 20, 21, 22, 23, 24, 25, 26, 27, 28, 29, 30, 31, 118, 119, 120, 121, 122, 123, 124, 125, 126, 127, 128, 129, 130, 131] (by decide +kernel) (by decide +kernel)
set_option maxRecDepth 20000 in
theorem gX3_minutesToNet_X1_copy : GoodIn wsX3_minutesToNet (wsV RX3 179 RX1 yX1_copy wsX1_copy) := goodIn_app (goodIn_of _ (by decide +kernel)) ggX3_minutesToNet_X1_copy
set_option maxRecDepth 20000 in
theorem ggX3_minutesToNet_X1_add : GoodIn wsX3_minutesToNet wsX1_add := goodIn_r _ [35, 20, 10, 11, 12, 13, 14, 15, 16, 17, 18, 36, 37, 38, 25, 39, 27, 40, 41, 42, 43, 44, 45, 8, 46, 19, 47, 29, 30, 31, 48, 49, 50, 118, 119, 120, 121, 122, 123, 124, 125, 126, 127, 128, 129, 130, 131] (by decide +kernel) (by decide +kernel)
set_option maxRecDepth 20000 in
theorem gX3_minutesToNet_X1_add : GoodIn wsX3_minutesToNet (wsV RX3 115 RX1 yX1_add wsX1_add) := goodIn_app (goodIn_of _ (by decide +kernel)) ggX3_minutesToNet_X1_add
set_option maxRecDepth 20000 in
theorem ggX3_minutesToNet_X1_isBurning : GoodIn wsX3_minutesToNet wsX1_isBurning := goodIn_r _ [54, 16, 55, 56, 57, 8, 58, 20, 59, 41, 60, 47, 29, 30, 25, 31, 27, 118, 119, 120, 121, 122, 123, 124, 125, 126, 127, 128, 129, 130, 131] (by decide +kernel) (by decide +kernel)
set_option maxRecDepth 20000 in
theorem gX3_minutesToNet_X1_isBurning : GoodIn wsX3_minutesToNet (wsV RX3 152 RX1 yX1_isBurning wsX1_isBurning) := goodIn_app (goodIn_of _ (by decide +kernel)) ggX3_minutesToNet_X1_isBurning
set_option maxRecDepth 20000 in
theorem ggX3_minutesToNet_X1_passMinutes : GoodIn wsX3_minutesToNet wsX1_passMinutes := goodIn_r _ [64, 65, 21, 66, 67, 68, 8, 69, 20, 13, 12, 70, 71, 72, 73, 17, 55, 56, 57, 58, 59, 41, 60, 47, 29, 30, 25, 31, 27, 36, 37, 38, 39, 74, 75, 76, 77, 78, 16, 79, 80, 81, 82, 83, 10, 19, 48, 49, 50, 84, 85, 86, 87, 43, 44, 45, 46, 88, 89, 90, 91, 18, 92, 93, 94, 95, 15, 96, 97, 98, 99, 100, 101, 102, 103, 104, 105, 106, 107, 108, 109, 110, 111, 112, 14, 113, 52, 53, 54, 118, 119, 120, 121, 122, 123, 124, 125, 126, 127, 128, 129, 130, 131, 132, 133, 134, 135, 136] (by decide +kernel) (by decide +kernel)
set_option maxRecDepth 20000 in
theorem gX3_minutesToNet_X1_passMinutes : GoodIn wsX3_minutesToNet (wsV RX3 175 RX1 yX1_passMinutes wsX1_passMinutes) := goodIn_app (goodIn_of _ (by decide +kernel)) ggX3_minutesToNet_X1_passMinutes
set_option maxRecDepth 20000 in
theorem ggX3_minutesToNet_X2_get : GoodIn wsX3_minutesToNet wsX2_get := goodIn_r _ [31, 27, 131] (by decide +kernel) (by decide +kernel)
set_option maxRecDepth 20000 in
theorem gX3_minutesToNet_X2_get : GoodIn wsX3_minutesToNet (wsV RX3 50 RX2 yX2_get wsX2_get) := goodIn_app (goodIn_of _ (by decide +kernel)) ggX3_minutesToNet_X2_get
theorem dX3_minutesToNet_0 : decode cX3_minutesToNet 0 = .ok (.aload_n 0, 1) := by decide +kernel
theorem dX3_minutesToNet_1 : decode cX3_minutesToNet 1 = .ok (.getfield 23, 3) := by decide +kernel
theorem dX3_minutesToNet_4 : decode cX3_minutesToNet 4 = .ok (.aload_n 0, 1) := by decide +kernel
theorem dX3_minutesToNet_5 : decode cX3_minutesToNet 5 = .ok (.getfield 19, 3) := by decide +kernel
theorem dX3_minutesToNet_8 : decode cX3_minutesToNet 8 = .ok (.invokevirtual 179, 3) := by decide +kernel
theorem dX3_minutesToNet_11 : decode cX3_minutesToNet 11 = .ok (.aload_n 0, 1) := by decide +kernel
theorem dX3_minutesToNet_12 : decode cX3_minutesToNet 12 = .ok (.getfield 23, 3) := by decide +kernel
theorem dX3_minutesToNet_15 : decode cX3_minutesToNet 15 = .ok (.iload_n 1, 1) := by decide +kernel
theorem dX3_minutesToNet_16 : decode cX3_minutesToNet 16 = .ok (.iconst 0, 1) := by decide +kernel
theorem dX3_minutesToNet_17 : decode cX3_minutesToNet 17 = .ok (.iload_n 2, 1) := by decide +kernel
theorem dX3_minutesToNet_18 : decode cX3_minutesToNet 18 = .ok (.iconst 0, 1) := by decide +kernel
theorem dX3_minutesToNet_19 : decode cX3_minutesToNet 19 = .ok (.invokevirtual 115, 3) := by decide +kernel
theorem dX3_minutesToNet_22 : decode cX3_minutesToNet 22 = .ok (.istore_n 3, 1) := by decide +kernel
theorem dX3_minutesToNet_23 : decode cX3_minutesToNet 23 = .ok (.iconst 1, 1) := by decide +kernel
theorem dX3_minutesToNet_24 : decode cX3_minutesToNet 24 = .ok (.istore 4, 2) := by decide +kernel
theorem dX3_minutesToNet_26 : decode cX3_minutesToNet 26 = .ok (.iload 4, 2) := by decide +kernel
theorem dX3_minutesToNet_28 : decode cX3_minutesToNet 28 = .ok (.bipush 60, 2) := by decide +kernel
theorem dX3_minutesToNet_30 : decode cX3_minutesToNet 30 = .ok (.if_icmp .gt 61, 3) := by decide +kernel
theorem dX3_minutesToNet_33 : decode cX3_minutesToNet 33 = .ok (.aload_n 0, 1) := by decide +kernel
theorem dX3_minutesToNet_34 : decode cX3_minutesToNet 34 = .ok (.getfield 23, 3) := by decide +kernel
theorem dX3_minutesToNet_37 : decode cX3_minutesToNet 37 = .ok (.iload_n 3, 1) := by decide +kernel
theorem dX3_minutesToNet_38 : decode cX3_minutesToNet 38 = .ok (.invokevirtual 152, 3) := by decide +kernel
theorem dX3_minutesToNet_41 : decode cX3_minutesToNet 41 = .ok (.ifCond .eq 50, 3) := by decide +kernel
theorem dX3_minutesToNet_44 : decode cX3_minutesToNet 44 = .ok (.aload_n 0, 1) := by decide +kernel
theorem dX3_minutesToNet_45 : decode cX3_minutesToNet 45 = .ok (.getfield 23, 3) := by decide +kernel
theorem dX3_minutesToNet_48 : decode cX3_minutesToNet 48 = .ok (.iconst 1, 1) := by decide +kernel
theorem dX3_minutesToNet_49 : decode cX3_minutesToNet 49 = .ok (.aload_n 0, 1) := by decide +kernel
theorem dX3_minutesToNet_50 : decode cX3_minutesToNet 50 = .ok (.getfield 10, 3) := by decide +kernel
theorem dX3_minutesToNet_53 : decode cX3_minutesToNet 53 = .ok (.invokevirtual 175, 3) := by decide +kernel
theorem dX3_minutesToNet_56 : decode cX3_minutesToNet 56 = .ok (.aload_n 0, 1) := by decide +kernel
theorem dX3_minutesToNet_57 : decode cX3_minutesToNet 57 = .ok (.getfield 23, 3) := by decide +kernel
theorem dX3_minutesToNet_60 : decode cX3_minutesToNet 60 = .ok (.iload_n 3, 1) := by decide +kernel
theorem dX3_minutesToNet_61 : decode cX3_minutesToNet 61 = .ok (.invokevirtual 152, 3) := by decide +kernel
theorem dX3_minutesToNet_64 : decode cX3_minutesToNet 64 = .ok (.ifCond .eq 21, 3) := by decide +kernel
theorem dX3_minutesToNet_67 : decode cX3_minutesToNet 67 = .ok (.aload_n 0, 1) := by decide +kernel
theorem dX3_minutesToNet_68 : decode cX3_minutesToNet 68 = .ok (.getfield 23, 3) := by decide +kernel
theorem dX3_minutesToNet_71 : decode cX3_minutesToNet 71 = .ok (.getfield 203, 3) := by decide +kernel
theorem dX3_minutesToNet_74 : decode cX3_minutesToNet 74 = .ok (.iload_n 3, 1) := by decide +kernel
theorem dX3_minutesToNet_75 : decode cX3_minutesToNet 75 = .ok (.invokevirtual 50, 3) := by decide +kernel
theorem dX3_minutesToNet_78 : decode cX3_minutesToNet 78 = .ok (.iconst 1, 1) := by decide +kernel
theorem dX3_minutesToNet_79 : decode cX3_minutesToNet 79 = .ok (.if_icmp .ne 6, 3) := by decide +kernel
theorem dX3_minutesToNet_82 : decode cX3_minutesToNet 82 = .ok (.iload 4, 2) := by decide +kernel
theorem dX3_minutesToNet_84 : decode cX3_minutesToNet 84 = .ok (.ireturn, 1) := by decide +kernel
theorem dX3_minutesToNet_85 : decode cX3_minutesToNet 85 = .ok (.iinc 4 1, 3) := by decide +kernel
theorem dX3_minutesToNet_88 : decode cX3_minutesToNet 88 = .ok (.goto (-62), 3) := by decide +kernel
theorem dX3_minutesToNet_91 : decode cX3_minutesToNet 91 = .ok (.bipush 61, 2) := by decide +kernel
theorem dX3_minutesToNet_93 : decode cX3_minutesToNet 93 = .ok (.ireturn, 1) := by decide +kernel
