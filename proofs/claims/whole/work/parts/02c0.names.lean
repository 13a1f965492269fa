set_option maxRecDepth 20000 in
theorem ggX1_init_X2_init : GoodIn wsX1_init wsX2_init := goodIn_r _ [20, 21, 2, 3, 22, 23, 24] (by decide +kernel) (by decide +kernel)
set_option maxRecDepth 20000 in
theorem gX1_init_X2_init : GoodIn wsX1_init (wsX2_init) := ggX1_init_X2_init
theorem dX1_init_0 : decode cX1_init 0 = .ok (.aload_n 0, 1) := by decide +kernel
theorem dX1_init_1 : decode cX1_init 1 = .ok (.invokespecial 3, 3) := by decide +kernel
theorem dX1_init_4 : decode cX1_init 4 = .ok (.aload_n 0, 1) := by decide +kernel
theorem dX1_init_5 : decode cX1_init 5 = .ok (.new 9, 3) := by decide +kernel
theorem dX1_init_8 : decode cX1_init 8 = .ok (.dup, 1) := by decide +kernel
theorem dX1_init_9 : decode cX1_init 9 = .ok (.bipush 41, 2) := by decide +kernel
theorem dX1_init_11 : decode cX1_init 11 = .ok (.invokespecial 13, 3) := by decide +kernel
theorem dX1_init_14 : decode cX1_init 14 = .ok (.putfield 16, 3) := by decide +kernel
theorem dX1_init_17 : decode cX1_init 17 = .ok (.aload_n 0, 1) := by decide +kernel
theorem dX1_init_18 : decode cX1_init 18 = .ok (.new 9, 3) := by decide +kernel
theorem dX1_init_21 : decode cX1_init 21 = .ok (.dup, 1) := by decide +kernel
theorem dX1_init_22 : decode cX1_init 22 = .ok (.bipush 41, 2) := by decide +kernel
theorem dX1_init_24 : decode cX1_init 24 = .ok (.invokespecial 13, 3) := by decide +kernel
theorem dX1_init_27 : decode cX1_init 27 = .ok (.putfield 20, 3) := by decide +kernel
theorem dX1_init_30 : decode cX1_init 30 = .ok (.aload_n 0, 1) := by decide +kernel
theorem dX1_init_31 : decode cX1_init 31 = .ok (.new 9, 3) := by decide +kernel
theorem dX1_init_34 : decode cX1_init 34 = .ok (.dup, 1) := by decide +kernel
theorem dX1_init_35 : decode cX1_init 35 = .ok (.bipush 41, 2) := by decide +kernel
theorem dX1_init_37 : decode cX1_init 37 = .ok (.invokespecial 13, 3) := by decide +kernel
theorem dX1_init_40 : decode cX1_init 40 = .ok (.putfield 23, 3) := by decide +kernel
theorem dX1_init_43 : decode cX1_init 43 = .ok (.aload_n 0, 1) := by decide +kernel
theorem dX1_init_44 : decode cX1_init 44 = .ok (.new 9, 3) := by decide +kernel
theorem dX1_init_47 : decode cX1_init 47 = .ok (.dup, 1) := by decide +kernel
theorem dX1_init_48 : decode cX1_init 48 = .ok (.bipush 41, 2) := by decide +kernel
theorem dX1_init_50 : decode cX1_init 50 = .ok (.invokespecial 13, 3) := by decide +kernel
theorem dX1_init_53 : decode cX1_init 53 = .ok (.putfield 26, 3) := by decide +kernel
theorem dX1_init_56 : decode cX1_init 56 = .ok (.aload_n 0, 1) := by decide +kernel
theorem dX1_init_57 : decode cX1_init 57 = .ok (.new 9, 3) := by decide +kernel
theorem dX1_init_60 : decode cX1_init 60 = .ok (.dup, 1) := by decide +kernel
theorem dX1_init_61 : decode cX1_init 61 = .ok (.bipush 41, 2) := by decide +kernel
theorem dX1_init_63 : decode cX1_init 63 = .ok (.invokespecial 13, 3) := by decide +kernel
theorem dX1_init_66 : decode cX1_init 66 = .ok (.putfield 29, 3) := by decide +kernel
theorem dX1_init_69 : decode cX1_init 69 = .ok (.aload_n 0, 1) := by decide +kernel
theorem dX1_init_70 : decode cX1_init 70 = .ok (.new 9, 3) := by decide +kernel
theorem dX1_init_73 : decode cX1_init 73 = .ok (.dup, 1) := by decide +kernel
theorem dX1_init_74 : decode cX1_init 74 = .ok (.bipush 41, 2) := by decide +kernel
theorem dX1_init_76 : decode cX1_init 76 = .ok (.invokespecial 13, 3) := by decide +kernel
theorem dX1_init_79 : decode cX1_init 79 = .ok (.putfield 32, 3) := by decide +kernel
theorem dX1_init_82 : decode cX1_init 82 = .ok (.aload_n 0, 1) := by decide +kernel
theorem dX1_init_83 : decode cX1_init 83 = .ok (.new 9, 3) := by decide +kernel
theorem dX1_init_86 : decode cX1_init 86 = .ok (.dup, 1) := by decide +kernel
theorem dX1_init_87 : decode cX1_init 87 = .ok (.bipush 41, 2) := by decide +kernel
theorem dX1_init_89 : decode cX1_init 89 = .ok (.invokespecial 13, 3) := by decide +kernel
theorem dX1_init_92 : decode cX1_init 92 = .ok (.putfield 35, 3) := by decide +kernel
theorem dX1_init_95 : decode cX1_init 95 = .ok (.aload_n 0, 1) := by decide +kernel
theorem dX1_init_96 : decode cX1_init 96 = .ok (.new 9, 3) := by decide +kernel
theorem dX1_init_99 : decode cX1_init 99 = .ok (.dup, 1) := by decide +kernel
theorem dX1_init_100 : decode cX1_init 100 = .ok (.bipush 41, 2) := by decide +kernel
theorem dX1_init_102 : decode cX1_init 102 = .ok (.invokespecial 13, 3) := by decide +kernel
theorem dX1_init_105 : decode cX1_init 105 = .ok (.putfield 38, 3) := by decide +kernel
theorem dX1_init_108 : decode cX1_init 108 = .ok (.aload_n 0, 1) := by decide +kernel
theorem dX1_init_109 : decode cX1_init 109 = .ok (.new 9, 3) := by decide +kernel
theorem dX1_init_112 : decode cX1_init 112 = .ok (.dup, 1) := by decide +kernel
theorem dX1_init_113 : decode cX1_init 113 = .ok (.bipush 41, 2) := by decide +kernel
theorem dX1_init_115 : decode cX1_init 115 = .ok (.invokespecial 13, 3) := by decide +kernel
theorem dX1_init_118 : decode cX1_init 118 = .ok (.putfield 41, 3) := by decide +kernel
theorem dX1_init_121 : decode cX1_init 121 = .ok (.aload_n 0, 1) := by decide +kernel
theorem dX1_init_122 : decode cX1_init 122 = .ok (.new 9, 3) := by decide +kernel
theorem dX1_init_125 : decode cX1_init 125 = .ok (.dup, 1) := by decide +kernel
theorem dX1_init_126 : decode cX1_init 126 = .ok (.sipush 540, 3) := by decide +kernel
theorem dX1_init_129 : decode cX1_init 129 = .ok (.invokespecial 13, 3) := by decide +kernel
theorem dX1_init_132 : decode cX1_init 132 = .ok (.putfield 44, 3) := by decide +kernel
theorem dX1_init_135 : decode cX1_init 135 = .ok (.aload_n 0, 1) := by decide +kernel
theorem dX1_init_136 : decode cX1_init 136 = .ok (.new 9, 3) := by decide +kernel
theorem dX1_init_139 : decode cX1_init 139 = .ok (.dup, 1) := by decide +kernel
theorem dX1_init_140 : decode cX1_init 140 = .ok (.bipush 41, 2) := by decide +kernel
theorem dX1_init_142 : decode cX1_init 142 = .ok (.invokespecial 13, 3) := by decide +kernel
theorem dX1_init_145 : decode cX1_init 145 = .ok (.putfield 47, 3) := by decide +kernel
theorem dX1_init_148 : decode cX1_init 148 = .ok (.return_, 1) := by decide +kernel
set_option maxRecDepth 20000 in
theorem ggX1_copy_X2_copy : GoodIn wsX1_copy wsX2_copy := goodIn_r _ [17, 18, 19, 20, 21, 16, 22, 36] (by decide +kernel) (by decide +kernel)
set_option maxRecDepth 20000 in
theorem gX1_copy_X2_copy : GoodIn wsX1_copy (wsV RX1 50 RX2 yX2_copy wsX2_copy) := goodIn_app (goodIn_of _ (by decide +kernel)) ggX1_copy_X2_copy
theorem dX1_copy_0 : decode cX1_copy 0 = .ok (.aload_n 0, 1) := by decide +kernel
theorem dX1_copy_1 : decode cX1_copy 1 = .ok (.getfield 16, 3) := by decide +kernel
theorem dX1_copy_4 : decode cX1_copy 4 = .ok (.aload_n 1, 1) := by decide +kernel
theorem dX1_copy_5 : decode cX1_copy 5 = .ok (.getfield 16, 3) := by decide +kernel
theorem dX1_copy_8 : decode cX1_copy 8 = .ok (.invokevirtual 50, 3) := by decide +kernel
theorem dX1_copy_11 : decode cX1_copy 11 = .ok (.aload_n 0, 1) := by decide +kernel
theorem dX1_copy_12 : decode cX1_copy 12 = .ok (.getfield 20, 3) := by decide +kernel
theorem dX1_copy_15 : decode cX1_copy 15 = .ok (.aload_n 1, 1) := by decide +kernel
theorem dX1_copy_16 : decode cX1_copy 16 = .ok (.getfield 20, 3) := by decide +kernel
theorem dX1_copy_19 : decode cX1_copy 19 = .ok (.invokevirtual 50, 3) := by decide +kernel
theorem dX1_copy_22 : decode cX1_copy 22 = .ok (.aload_n 0, 1) := by decide +kernel
theorem dX1_copy_23 : decode cX1_copy 23 = .ok (.getfield 23, 3) := by decide +kernel
theorem dX1_copy_26 : decode cX1_copy 26 = .ok (.aload_n 1, 1) := by decide +kernel
theorem dX1_copy_27 : decode cX1_copy 27 = .ok (.getfield 23, 3) := by decide +kernel
theorem dX1_copy_30 : decode cX1_copy 30 = .ok (.invokevirtual 50, 3) := by decide +kernel
theorem dX1_copy_33 : decode cX1_copy 33 = .ok (.aload_n 0, 1) := by decide +kernel
theorem dX1_copy_34 : decode cX1_copy 34 = .ok (.getfield 26, 3) := by decide +kernel
theorem dX1_copy_37 : decode cX1_copy 37 = .ok (.aload_n 1, 1) := by decide +kernel
theorem dX1_copy_38 : decode cX1_copy 38 = .ok (.getfield 26, 3) := by decide +kernel
theorem dX1_copy_41 : decode cX1_copy 41 = .ok (.invokevirtual 50, 3) := by decide +kernel
theorem dX1_copy_44 : decode cX1_copy 44 = .ok (.aload_n 0, 1) := by decide +kernel
theorem dX1_copy_45 : decode cX1_copy 45 = .ok (.getfield 29, 3) := by decide +kernel
theorem dX1_copy_48 : decode cX1_copy 48 = .ok (.aload_n 1, 1) := by decide +kernel
theorem dX1_copy_49 : decode cX1_copy 49 = .ok (.getfield 29, 3) := by decide +kernel
theorem dX1_copy_52 : decode cX1_copy 52 = .ok (.invokevirtual 50, 3) := by decide +kernel
theorem dX1_copy_55 : decode cX1_copy 55 = .ok (.aload_n 0, 1) := by decide +kernel
theorem dX1_copy_56 : decode cX1_copy 56 = .ok (.getfield 32, 3) := by decide +kernel
theorem dX1_copy_59 : decode cX1_copy 59 = .ok (.aload_n 1, 1) := by decide +kernel
theorem dX1_copy_60 : decode cX1_copy 60 = .ok (.getfield 32, 3) := by decide +kernel
theorem dX1_copy_63 : decode cX1_copy 63 = .ok (.invokevirtual 50, 3) := by decide +kernel
theorem dX1_copy_66 : decode cX1_copy 66 = .ok (.aload_n 0, 1) := by decide +kernel
theorem dX1_copy_67 : decode cX1_copy 67 = .ok (.getfield 35, 3) := by decide +kernel
theorem dX1_copy_70 : decode cX1_copy 70 = .ok (.aload_n 1, 1) := by decide +kernel
theorem dX1_copy_71 : decode cX1_copy 71 = .ok (.getfield 35, 3) := by decide +kernel
theorem dX1_copy_74 : decode cX1_copy 74 = .ok (.invokevirtual 50, 3) := by decide +kernel
theorem dX1_copy_77 : decode cX1_copy 77 = .ok (.aload_n 0, 1) := by decide +kernel
theorem dX1_copy_78 : decode cX1_copy 78 = .ok (.getfield 38, 3) := by decide +kernel
theorem dX1_copy_81 : decode cX1_copy 81 = .ok (.aload_n 1, 1) := by decide +kernel
theorem dX1_copy_82 : decode cX1_copy 82 = .ok (.getfield 38, 3) := by decide +kernel
theorem dX1_copy_85 : decode cX1_copy 85 = .ok (.invokevirtual 50, 3) := by decide +kernel
theorem dX1_copy_88 : decode cX1_copy 88 = .ok (.aload_n 0, 1) := by decide +kernel
theorem dX1_copy_89 : decode cX1_copy 89 = .ok (.getfield 41, 3) := by decide +kernel
theorem dX1_copy_92 : decode cX1_copy 92 = .ok (.aload_n 1, 1) := by decide +kernel
theorem dX1_copy_93 : decode cX1_copy 93 = .ok (.getfield 41, 3) := by decide +kernel
theorem dX1_copy_96 : decode cX1_copy 96 = .ok (.invokevirtual 50, 3) := by decide +kernel
theorem dX1_copy_99 : decode cX1_copy 99 = .ok (.aload_n 0, 1) := by decide +kernel
theorem dX1_copy_100 : decode cX1_copy 100 = .ok (.getfield 44, 3) := by decide +kernel
theorem dX1_copy_103 : decode cX1_copy 103 = .ok (.aload_n 1, 1) := by decide +kernel
theorem dX1_copy_104 : decode cX1_copy 104 = .ok (.getfield 44, 3) := by decide +kernel
theorem dX1_copy_107 : decode cX1_copy 107 = .ok (.invokevirtual 50, 3) := by decide +kernel
theorem dX1_copy_110 : decode cX1_copy 110 = .ok (.aload_n 0, 1) := by decide +kernel
theorem dX1_copy_111 : decode cX1_copy 111 = .ok (.aload_n 1, 1) := by decide +kernel
theorem dX1_copy_112 : decode cX1_copy 112 = .ok (.getfield 54, 3) := by decide +kernel
theorem dX1_copy_115 : decode cX1_copy 115 = .ok (.putfield 54, 3) := by decide +kernel
theorem dX1_copy_118 : decode cX1_copy 118 = .ok (.aload_n 0, 1) := by decide +kernel
theorem dX1_copy_119 : decode cX1_copy 119 = .ok (.aload_n 1, 1) := by decide +kernel
theorem dX1_copy_120 : decode cX1_copy 120 = .ok (.getfield 58, 3) := by decide +kernel
theorem dX1_copy_123 : decode cX1_copy 123 = .ok (.putfield 58, 3) := by decide +kernel
theorem dX1_copy_126 : decode cX1_copy 126 = .ok (.return_, 1) := by decide +kernel
set_option maxRecDepth 20000 in
theorem ggX1_add_X2_put : GoodIn wsX1_add wsX2_put := goodIn_r _ [15, 16, 46] (by decide +kernel) (by decide +kernel)
set_option maxRecDepth 20000 in
theorem gX1_add_X2_put : GoodIn wsX1_add (wsV RX1 61 RX2 yX2_put wsX2_put) := goodIn_app (goodIn_of _ (by decide +kernel)) ggX1_add_X2_put
set_option maxRecDepth 20000 in
theorem ggX1_add_X3_waxOf : GoodIn wsX1_add wsX3_waxOf := goodIn_r _ [19] (by decide +kernel) (by decide +kernel)
set_option maxRecDepth 20000 in
theorem gX1_add_X3_waxOf_n65 : GoodIn wsX1_add (wsX3_waxOf) := ggX1_add_X3_waxOf
set_option maxRecDepth 20000 in
theorem ggX1_add_X1_crowdBy : GoodIn wsX1_add wsX1_crowdBy := goodIn_r _ [24, 4, 5, 2, 25, 26, 27, 28, 14, 29, 16, 30, 31, 23, 32, 11, 12, 13, 15, 33, 34, 35, 36, 37, 38, 39, 40, 41, 42, 43, 44, 45, 46] (by decide +kernel) (by decide +kernel)
set_option maxRecDepth 20000 in
theorem gX1_add_X1_crowdBy : GoodIn wsX1_add (wsV RX1 69 RX1 yX1_crowdBy wsX1_crowdBy) := goodIn_app (goodIn_of _ (by decide +kernel)) ggX1_add_X1_crowdBy
theorem dX1_add_0 : decode cX1_add 0 = .ok (.aload_n 0, 1) := by decide +kernel
theorem dX1_add_1 : decode cX1_add 1 = .ok (.getfield 54, 3) := by decide +kernel
theorem dX1_add_4 : decode cX1_add 4 = .ok (.bipush 41, 2) := by decide +kernel
theorem dX1_add_6 : decode cX1_add 6 = .ok (.if_icmp .lt 5, 3) := by decide +kernel
theorem dX1_add_9 : decode cX1_add 9 = .ok (.iconst (-1), 1) := by decide +kernel
theorem dX1_add_10 : decode cX1_add 10 = .ok (.ireturn, 1) := by decide +kernel
theorem dX1_add_11 : decode cX1_add 11 = .ok (.aload_n 0, 1) := by decide +kernel
theorem dX1_add_12 : decode cX1_add 12 = .ok (.getfield 54, 3) := by decide +kernel
theorem dX1_add_15 : decode cX1_add 15 = .ok (.istore 5, 2) := by decide +kernel
theorem dX1_add_17 : decode cX1_add 17 = .ok (.aload_n 0, 1) := by decide +kernel
theorem dX1_add_18 : decode cX1_add 18 = .ok (.dup, 1) := by decide +kernel
theorem dX1_add_19 : decode cX1_add 19 = .ok (.getfield 54, 3) := by decide +kernel
theorem dX1_add_22 : decode cX1_add 22 = .ok (.iconst 1, 1) := by decide +kernel
theorem dX1_add_23 : decode cX1_add 23 = .ok (.iadd, 1) := by decide +kernel
theorem dX1_add_24 : decode cX1_add 24 = .ok (.putfield 54, 3) := by decide +kernel
theorem dX1_add_27 : decode cX1_add 27 = .ok (.aload_n 0, 1) := by decide +kernel
theorem dX1_add_28 : decode cX1_add 28 = .ok (.getfield 16, 3) := by decide +kernel
theorem dX1_add_31 : decode cX1_add 31 = .ok (.iload 5, 2) := by decide +kernel
theorem dX1_add_33 : decode cX1_add 33 = .ok (.iload_n 1, 1) := by decide +kernel
theorem dX1_add_34 : decode cX1_add 34 = .ok (.invokevirtual 61, 3) := by decide +kernel
theorem dX1_add_37 : decode cX1_add 37 = .ok (.aload_n 0, 1) := by decide +kernel
theorem dX1_add_38 : decode cX1_add 38 = .ok (.getfield 20, 3) := by decide +kernel
theorem dX1_add_41 : decode cX1_add 41 = .ok (.iload 5, 2) := by decide +kernel
theorem dX1_add_43 : decode cX1_add 43 = .ok (.iload_n 2, 1) := by decide +kernel
theorem dX1_add_44 : decode cX1_add 44 = .ok (.invokevirtual 61, 3) := by decide +kernel
theorem dX1_add_47 : decode cX1_add 47 = .ok (.aload_n 0, 1) := by decide +kernel
theorem dX1_add_48 : decode cX1_add 48 = .ok (.getfield 23, 3) := by decide +kernel
theorem dX1_add_51 : decode cX1_add 51 = .ok (.iload 5, 2) := by decide +kernel
theorem dX1_add_53 : decode cX1_add 53 = .ok (.iload_n 3, 1) := by decide +kernel
theorem dX1_add_54 : decode cX1_add 54 = .ok (.invokevirtual 61, 3) := by decide +kernel
theorem dX1_add_57 : decode cX1_add 57 = .ok (.aload_n 0, 1) := by decide +kernel
theorem dX1_add_58 : decode cX1_add 58 = .ok (.getfield 26, 3) := by decide +kernel
theorem dX1_add_61 : decode cX1_add 61 = .ok (.iload 5, 2) := by decide +kernel
theorem dX1_add_63 : decode cX1_add 63 = .ok (.iload 4, 2) := by decide +kernel
theorem dX1_add_65 : decode cX1_add 65 = .ok (.invokevirtual 61, 3) := by decide +kernel
theorem dX1_add_68 : decode cX1_add 68 = .ok (.aload_n 0, 1) := by decide +kernel
theorem dX1_add_69 : decode cX1_add 69 = .ok (.getfield 29, 3) := by decide +kernel
theorem dX1_add_72 : decode cX1_add 72 = .ok (.iload 5, 2) := by decide +kernel
theorem dX1_add_74 : decode cX1_add 74 = .ok (.iload_n 1, 1) := by decide +kernel
theorem dX1_add_75 : decode cX1_add 75 = .ok (.invokestatic 65, 3) := by decide +kernel
theorem dX1_add_78 : decode cX1_add 78 = .ok (.invokevirtual 61, 3) := by decide +kernel
theorem dX1_add_81 : decode cX1_add 81 = .ok (.aload_n 0, 1) := by decide +kernel
theorem dX1_add_82 : decode cX1_add 82 = .ok (.getfield 32, 3) := by decide +kernel
theorem dX1_add_85 : decode cX1_add 85 = .ok (.iload 5, 2) := by decide +kernel
theorem dX1_add_87 : decode cX1_add 87 = .ok (.iconst 0, 1) := by decide +kernel
theorem dX1_add_88 : decode cX1_add 88 = .ok (.invokevirtual 61, 3) := by decide +kernel
theorem dX1_add_91 : decode cX1_add 91 = .ok (.aload_n 0, 1) := by decide +kernel
theorem dX1_add_92 : decode cX1_add 92 = .ok (.getfield 35, 3) := by decide +kernel
theorem dX1_add_95 : decode cX1_add 95 = .ok (.iload 5, 2) := by decide +kernel
theorem dX1_add_97 : decode cX1_add 97 = .ok (.iconst 1, 1) := by decide +kernel
theorem dX1_add_98 : decode cX1_add 98 = .ok (.invokevirtual 61, 3) := by decide +kernel
theorem dX1_add_101 : decode cX1_add 101 = .ok (.aload_n 0, 1) := by decide +kernel
theorem dX1_add_102 : decode cX1_add 102 = .ok (.getfield 38, 3) := by decide +kernel
theorem dX1_add_105 : decode cX1_add 105 = .ok (.iload 5, 2) := by decide +kernel
theorem dX1_add_107 : decode cX1_add 107 = .ok (.iconst 0, 1) := by decide +kernel
theorem dX1_add_108 : decode cX1_add 108 = .ok (.invokevirtual 61, 3) := by decide +kernel
theorem dX1_add_111 : decode cX1_add 111 = .ok (.aload_n 0, 1) := by decide +kernel
theorem dX1_add_112 : decode cX1_add 112 = .ok (.getfield 41, 3) := by decide +kernel
theorem dX1_add_115 : decode cX1_add 115 = .ok (.iload 5, 2) := by decide +kernel
theorem dX1_add_117 : decode cX1_add 117 = .ok (.iconst (-1), 1) := by decide +kernel
theorem dX1_add_118 : decode cX1_add 118 = .ok (.invokevirtual 61, 3) := by decide +kernel
theorem dX1_add_121 : decode cX1_add 121 = .ok (.aload_n 0, 1) := by decide +kernel
theorem dX1_add_122 : decode cX1_add 122 = .ok (.iload 5, 2) := by decide +kernel
theorem dX1_add_124 : decode cX1_add 124 = .ok (.iconst 1, 1) := by decide +kernel
theorem dX1_add_125 : decode cX1_add 125 = .ok (.invokevirtual 69, 3) := by decide +kernel
theorem dX1_add_128 : decode cX1_add 128 = .ok (.iload 5, 2) := by decide +kernel
theorem dX1_add_130 : decode cX1_add 130 = .ok (.ireturn, 1) := by decide +kernel
set_option maxRecDepth 20000 in
theorem ggX1_has_X3_isWithin : GoodIn wsX1_has wsX3_isWithin := goodIn_r _ [4] (by decide +kernel) (by decide +kernel)
set_option maxRecDepth 20000 in
theorem gX1_has_X3_isWithin_n72 : GoodIn wsX1_has (wsX3_isWithin) := ggX1_has_X3_isWithin
theorem dX1_has_0 : decode cX1_has 0 = .ok (.iload_n 1, 1) := by decide +kernel
theorem dX1_has_1 : decode cX1_has 1 = .ok (.iconst 0, 1) := by decide +kernel
theorem dX1_has_2 : decode cX1_has 2 = .ok (.aload_n 0, 1) := by decide +kernel
theorem dX1_has_3 : decode cX1_has 3 = .ok (.getfield 54, 3) := by decide +kernel
theorem dX1_has_6 : decode cX1_has 6 = .ok (.iconst 1, 1) := by decide +kernel
theorem dX1_has_7 : decode cX1_has 7 = .ok (.isub, 1) := by decide +kernel
theorem dX1_has_8 : decode cX1_has 8 = .ok (.invokestatic 72, 3) := by decide +kernel
theorem dX1_has_11 : decode cX1_has 11 = .ok (.ireturn, 1) := by decide +kernel
set_option maxRecDepth 20000 in
theorem ggX1_isAfloat_X1_has : GoodIn wsX1_isAfloat wsX1_has := goodIn_r _ [6, 7, 8, 9, 10, 17, 18, 19, 20, 21, 22, 23, 24, 25, 26, 27, 28, 29] (by decide +kernel) (by decide +kernel)
set_option maxRecDepth 20000 in
theorem gX1_isAfloat_X1_has : GoodIn wsX1_isAfloat (wsV RX1 76 RX1 yX1_has wsX1_has) := goodIn_app (goodIn_of _ (by decide +kernel)) ggX1_isAfloat_X1_has
set_option maxRecDepth 20000 in
theorem ggX1_isAfloat_X2_get : GoodIn wsX1_isAfloat wsX2_get := goodIn_r _ [15, 16, 30] (by decide +kernel) (by decide +kernel)
set_option maxRecDepth 20000 in
theorem gX1_isAfloat_X2_get : GoodIn wsX1_isAfloat (wsV RX1 80 RX2 yX2_get wsX2_get) := goodIn_app (goodIn_of _ (by decide +kernel)) ggX1_isAfloat_X2_get
theorem dX1_isAfloat_0 : decode cX1_isAfloat 0 = .ok (.aload_n 0, 1) := by decide +kernel
theorem dX1_isAfloat_1 : decode cX1_isAfloat 1 = .ok (.iload_n 1, 1) := by decide +kernel
theorem dX1_isAfloat_2 : decode cX1_isAfloat 2 = .ok (.invokevirtual 76, 3) := by decide +kernel
theorem dX1_isAfloat_5 : decode cX1_isAfloat 5 = .ok (.ifCond .eq 18, 3) := by decide +kernel
theorem dX1_isAfloat_8 : decode cX1_isAfloat 8 = .ok (.aload_n 0, 1) := by decide +kernel
theorem dX1_isAfloat_9 : decode cX1_isAfloat 9 = .ok (.getfield 38, 3) := by decide +kernel
theorem dX1_isAfloat_12 : decode cX1_isAfloat 12 = .ok (.iload_n 1, 1) := by decide +kernel
theorem dX1_isAfloat_13 : decode cX1_isAfloat 13 = .ok (.invokevirtual 80, 3) := by decide +kernel
theorem dX1_isAfloat_16 : decode cX1_isAfloat 16 = .ok (.ifCond .ne 7, 3) := by decide +kernel
theorem dX1_isAfloat_19 : decode cX1_isAfloat 19 = .ok (.iconst 1, 1) := by decide +kernel
theorem dX1_isAfloat_20 : decode cX1_isAfloat 20 = .ok (.goto 4, 3) := by decide +kernel
theorem dX1_isAfloat_23 : decode cX1_isAfloat 23 = .ok (.iconst 0, 1) := by decide +kernel
theorem dX1_isAfloat_24 : decode cX1_isAfloat 24 = .ok (.ireturn, 1) := by decide +kernel
set_option maxRecDepth 20000 in
theorem ggX1_isBurning_X1_has : GoodIn wsX1_isBurning wsX1_has := goodIn_r _ [6, 7, 8, 9, 10, 17, 18, 19, 20, 21, 22, 23, 24, 25, 26, 27, 28, 29] (by decide +kernel) (by decide +kernel)
set_option maxRecDepth 20000 in
theorem gX1_isBurning_X1_has : GoodIn wsX1_isBurning (wsV RX1 76 RX1 yX1_has wsX1_has) := goodIn_app (goodIn_of _ (by decide +kernel)) ggX1_isBurning_X1_has
set_option maxRecDepth 20000 in
theorem ggX1_isBurning_X2_get : GoodIn wsX1_isBurning wsX2_get := goodIn_r _ [15, 16, 30] (by decide +kernel) (by decide +kernel)
set_option maxRecDepth 20000 in
theorem gX1_isBurning_X2_get : GoodIn wsX1_isBurning (wsV RX1 80 RX2 yX2_get wsX2_get) := goodIn_app (goodIn_of _ (by decide +kernel)) ggX1_isBurning_X2_get
theorem dX1_isBurning_0 : decode cX1_isBurning 0 = .ok (.aload_n 0, 1) := by decide +kernel
theorem dX1_isBurning_1 : decode cX1_isBurning 1 = .ok (.iload_n 1, 1) := by decide +kernel
theorem dX1_isBurning_2 : decode cX1_isBurning 2 = .ok (.invokevirtual 76, 3) := by decide +kernel
theorem dX1_isBurning_5 : decode cX1_isBurning 5 = .ok (.ifCond .eq 19, 3) := by decide +kernel
theorem dX1_isBurning_8 : decode cX1_isBurning 8 = .ok (.aload_n 0, 1) := by decide +kernel
theorem dX1_isBurning_9 : decode cX1_isBurning 9 = .ok (.getfield 35, 3) := by decide +kernel
theorem dX1_isBurning_12 : decode cX1_isBurning 12 = .ok (.iload_n 1, 1) := by decide +kernel
theorem dX1_isBurning_13 : decode cX1_isBurning 13 = .ok (.invokevirtual 80, 3) := by decide +kernel
theorem dX1_isBurning_16 : decode cX1_isBurning 16 = .ok (.iconst 1, 1) := by decide +kernel
theorem dX1_isBurning_17 : decode cX1_isBurning 17 = .ok (.if_icmp .ne 7, 3) := by decide +kernel
theorem dX1_isBurning_20 : decode cX1_isBurning 20 = .ok (.iconst 1, 1) := by decide +kernel
theorem dX1_isBurning_21 : decode cX1_isBurning 21 = .ok (.goto 4, 3) := by decide +kernel
theorem dX1_isBurning_24 : decode cX1_isBurning 24 = .ok (.iconst 0, 1) := by decide +kernel
theorem dX1_isBurning_25 : decode cX1_isBurning 25 = .ok (.ireturn, 1) := by decide +kernel
set_option maxRecDepth 20000 in
theorem ggX1_isSoaked_X2_get : GoodIn wsX1_isSoaked wsX2_get := goodIn_r _ [7, 8, 25] (by decide +kernel) (by decide +kernel)
set_option maxRecDepth 20000 in
theorem gX1_isSoaked_X2_get : GoodIn wsX1_isSoaked (wsV RX1 80 RX2 yX2_get wsX2_get) := goodIn_app (goodIn_of _ (by decide +kernel)) ggX1_isSoaked_X2_get
set_option maxRecDepth 20000 in
theorem ggX1_isSoaked_X3_sprayTakenBy : GoodIn wsX1_isSoaked wsX3_sprayTakenBy := goodIn_r _ [11] (by decide +kernel) (by decide +kernel)
set_option maxRecDepth 20000 in
theorem gX1_isSoaked_X3_sprayTakenBy_n83 : GoodIn wsX1_isSoaked (wsX3_sprayTakenBy) := ggX1_isSoaked_X3_sprayTakenBy
theorem dX1_isSoaked_0 : decode cX1_isSoaked 0 = .ok (.aload_n 0, 1) := by decide +kernel
theorem dX1_isSoaked_1 : decode cX1_isSoaked 1 = .ok (.getfield 32, 3) := by decide +kernel
theorem dX1_isSoaked_4 : decode cX1_isSoaked 4 = .ok (.iload_n 1, 1) := by decide +kernel
theorem dX1_isSoaked_5 : decode cX1_isSoaked 5 = .ok (.invokevirtual 80, 3) := by decide +kernel
theorem dX1_isSoaked_8 : decode cX1_isSoaked 8 = .ok (.aload_n 0, 1) := by decide +kernel
theorem dX1_isSoaked_9 : decode cX1_isSoaked 9 = .ok (.getfield 16, 3) := by decide +kernel
theorem dX1_isSoaked_12 : decode cX1_isSoaked 12 = .ok (.iload_n 1, 1) := by decide +kernel
theorem dX1_isSoaked_13 : decode cX1_isSoaked 13 = .ok (.invokevirtual 80, 3) := by decide +kernel
theorem dX1_isSoaked_16 : decode cX1_isSoaked 16 = .ok (.invokestatic 83, 3) := by decide +kernel
theorem dX1_isSoaked_19 : decode cX1_isSoaked 19 = .ok (.if_icmp .le 7, 3) := by decide +kernel
theorem dX1_isSoaked_22 : decode cX1_isSoaked 22 = .ok (.iconst 1, 1) := by decide +kernel
theorem dX1_isSoaked_23 : decode cX1_isSoaked 23 = .ok (.goto 4, 3) := by decide +kernel
theorem dX1_isSoaked_26 : decode cX1_isSoaked 26 = .ok (.iconst 0, 1) := by decide +kernel
theorem dX1_isSoaked_27 : decode cX1_isSoaked 27 = .ok (.ireturn, 1) := by decide +kernel
set_option maxRecDepth 20000 in
theorem ggX1_canBeLit_X1_isBurning : GoodIn wsX1_canBeLit wsX1_isBurning := goodIn_r _ [6, 7, 8, 9, 10, 5, 11, 12, 13, 14, 15, 16, 17, 18, 19, 20, 21, 30, 31, 32, 33, 34, 35, 36, 37, 38, 39, 40, 41, 42, 43] (by decide +kernel) (by decide +kernel)
set_option maxRecDepth 20000 in
theorem gX1_canBeLit_X1_isBurning : GoodIn wsX1_canBeLit (wsV RX1 86 RX1 yX1_isBurning wsX1_isBurning) := goodIn_app (goodIn_of _ (by decide +kernel)) ggX1_canBeLit_X1_isBurning
set_option maxRecDepth 20000 in
theorem ggX1_canBeLit_X1_isSoaked : GoodIn wsX1_canBeLit wsX1_isSoaked := goodIn_r _ [25, 26, 27, 16, 17, 18, 19, 20, 21, 28, 14, 29, 30, 31, 32, 33, 34, 35, 36, 37, 38, 39, 40, 41, 42, 43] (by decide +kernel) (by decide +kernel)
set_option maxRecDepth 20000 in
theorem gX1_canBeLit_X1_isSoaked : GoodIn wsX1_canBeLit (wsV RX1 89 RX1 yX1_isSoaked wsX1_isSoaked) := goodIn_app (goodIn_of _ (by decide +kernel)) ggX1_canBeLit_X1_isSoaked
set_option maxRecDepth 20000 in
theorem ggX1_canBeLit_X2_get : GoodIn wsX1_canBeLit wsX2_get := goodIn_r _ [20, 21, 43] (by decide +kernel) (by decide +kernel)
set_option maxRecDepth 20000 in
theorem gX1_canBeLit_X2_get : GoodIn wsX1_canBeLit (wsV RX1 80 RX2 yX2_get wsX2_get) := goodIn_app (goodIn_of _ (by decide +kernel)) ggX1_canBeLit_X2_get
theorem dX1_canBeLit_0 : decode cX1_canBeLit 0 = .ok (.aload_n 0, 1) := by decide +kernel
theorem dX1_canBeLit_1 : decode cX1_canBeLit 1 = .ok (.iload_n 1, 1) := by decide +kernel
theorem dX1_canBeLit_2 : decode cX1_canBeLit 2 = .ok (.invokevirtual 86, 3) := by decide +kernel
theorem dX1_canBeLit_5 : decode cX1_canBeLit 5 = .ok (.ifCond .ne 26, 3) := by decide +kernel
theorem dX1_canBeLit_8 : decode cX1_canBeLit 8 = .ok (.aload_n 0, 1) := by decide +kernel
theorem dX1_canBeLit_9 : decode cX1_canBeLit 9 = .ok (.iload_n 1, 1) := by decide +kernel
theorem dX1_canBeLit_10 : decode cX1_canBeLit 10 = .ok (.invokevirtual 89, 3) := by decide +kernel
theorem dX1_canBeLit_13 : decode cX1_canBeLit 13 = .ok (.ifCond .ne 18, 3) := by decide +kernel
theorem dX1_canBeLit_16 : decode cX1_canBeLit 16 = .ok (.aload_n 0, 1) := by decide +kernel
theorem dX1_canBeLit_17 : decode cX1_canBeLit 17 = .ok (.getfield 29, 3) := by decide +kernel
theorem dX1_canBeLit_20 : decode cX1_canBeLit 20 = .ok (.iload_n 1, 1) := by decide +kernel
theorem dX1_canBeLit_21 : decode cX1_canBeLit 21 = .ok (.invokevirtual 80, 3) := by decide +kernel
theorem dX1_canBeLit_24 : decode cX1_canBeLit 24 = .ok (.ifCond .le 7, 3) := by decide +kernel
theorem dX1_canBeLit_27 : decode cX1_canBeLit 27 = .ok (.iconst 1, 1) := by decide +kernel
theorem dX1_canBeLit_28 : decode cX1_canBeLit 28 = .ok (.goto 4, 3) := by decide +kernel
theorem dX1_canBeLit_31 : decode cX1_canBeLit 31 = .ok (.iconst 0, 1) := by decide +kernel
theorem dX1_canBeLit_32 : decode cX1_canBeLit 32 = .ok (.ireturn, 1) := by decide +kernel
set_option maxRecDepth 20000 in
theorem ggX1_moveTo_X1_crowdBy : GoodIn wsX1_moveTo wsX1_crowdBy := goodIn_r _ [7, 1, 2, 8, 9, 10, 11, 12, 13, 14, 15, 16, 17, 6, 18, 19, 20, 21, 22, 23, 24, 25, 26, 27, 28, 29, 30, 31, 32, 33, 34, 35, 36] (by decide +kernel) (by decide +kernel)
set_option maxRecDepth 20000 in
theorem gX1_moveTo_X1_crowdBy : GoodIn wsX1_moveTo (wsV RX1 69 RX1 yX1_crowdBy wsX1_crowdBy) := goodIn_app (goodIn_of _ (by decide +kernel)) ggX1_moveTo_X1_crowdBy
set_option maxRecDepth 20000 in
theorem ggX1_moveTo_X2_put : GoodIn wsX1_moveTo wsX2_put := goodIn_r _ [22, 15, 36] (by decide +kernel) (by decide +kernel)
set_option maxRecDepth 20000 in
theorem gX1_moveTo_X2_put : GoodIn wsX1_moveTo (wsV RX1 61 RX2 yX2_put wsX2_put) := goodIn_app (goodIn_of _ (by decide +kernel)) ggX1_moveTo_X2_put
theorem dX1_moveTo_0 : decode cX1_moveTo 0 = .ok (.aload_n 0, 1) := by decide +kernel
theorem dX1_moveTo_1 : decode cX1_moveTo 1 = .ok (.iload_n 1, 1) := by decide +kernel
theorem dX1_moveTo_2 : decode cX1_moveTo 2 = .ok (.iconst (-1), 1) := by decide +kernel
theorem dX1_moveTo_3 : decode cX1_moveTo 3 = .ok (.invokevirtual 69, 3) := by decide +kernel
theorem dX1_moveTo_6 : decode cX1_moveTo 6 = .ok (.aload_n 0, 1) := by decide +kernel
theorem dX1_moveTo_7 : decode cX1_moveTo 7 = .ok (.getfield 23, 3) := by decide +kernel
theorem dX1_moveTo_10 : decode cX1_moveTo 10 = .ok (.iload_n 1, 1) := by decide +kernel
theorem dX1_moveTo_11 : decode cX1_moveTo 11 = .ok (.iload_n 2, 1) := by decide +kernel
theorem dX1_moveTo_12 : decode cX1_moveTo 12 = .ok (.invokevirtual 61, 3) := by decide +kernel
theorem dX1_moveTo_15 : decode cX1_moveTo 15 = .ok (.aload_n 0, 1) := by decide +kernel
theorem dX1_moveTo_16 : decode cX1_moveTo 16 = .ok (.getfield 26, 3) := by decide +kernel
theorem dX1_moveTo_19 : decode cX1_moveTo 19 = .ok (.iload_n 1, 1) := by decide +kernel
theorem dX1_moveTo_20 : decode cX1_moveTo 20 = .ok (.iload_n 3, 1) := by decide +kernel
theorem dX1_moveTo_21 : decode cX1_moveTo 21 = .ok (.invokevirtual 61, 3) := by decide +kernel
theorem dX1_moveTo_24 : decode cX1_moveTo 24 = .ok (.aload_n 0, 1) := by decide +kernel
theorem dX1_moveTo_25 : decode cX1_moveTo 25 = .ok (.iload_n 1, 1) := by decide +kernel
theorem dX1_moveTo_26 : decode cX1_moveTo 26 = .ok (.iconst 1, 1) := by decide +kernel
theorem dX1_moveTo_27 : decode cX1_moveTo 27 = .ok (.invokevirtual 69, 3) := by decide +kernel
theorem dX1_moveTo_30 : decode cX1_moveTo 30 = .ok (.return_, 1) := by decide +kernel
set_option maxRecDepth 20000 in
theorem ggX1_fact_X2_get : GoodIn wsX1_fact wsX2_get := goodIn_r _ [14, 15, 29] (by decide +kernel) (by decide +kernel)
set_option maxRecDepth 20000 in
theorem gX1_fact_X2_get : GoodIn wsX1_fact (wsV RX1 80 RX2 yX2_get wsX2_get) := goodIn_app (goodIn_of _ (by decide +kernel)) ggX1_fact_X2_get
theorem dX1_fact_0 : decode cX1_fact 0 = .ok (.iload_n 2, 1) := by decide +kernel
theorem dX1_fact_1 : decode cX1_fact 1 = .ok (.tableswitch 119 0 7 #[47, 56, 65, 74, 83, 92, 101, 110], 47) := by decide +kernel
theorem dX1_fact_48 : decode cX1_fact 48 = .ok (.aload_n 0, 1) := by decide +kernel
theorem dX1_fact_49 : decode cX1_fact 49 = .ok (.getfield 16, 3) := by decide +kernel
theorem dX1_fact_52 : decode cX1_fact 52 = .ok (.iload_n 1, 1) := by decide +kernel
theorem dX1_fact_53 : decode cX1_fact 53 = .ok (.invokevirtual 80, 3) := by decide +kernel
theorem dX1_fact_56 : decode cX1_fact 56 = .ok (.ireturn, 1) := by decide +kernel
theorem dX1_fact_57 : decode cX1_fact 57 = .ok (.aload_n 0, 1) := by decide +kernel
theorem dX1_fact_58 : decode cX1_fact 58 = .ok (.getfield 20, 3) := by decide +kernel
theorem dX1_fact_61 : decode cX1_fact 61 = .ok (.iload_n 1, 1) := by decide +kernel
theorem dX1_fact_62 : decode cX1_fact 62 = .ok (.invokevirtual 80, 3) := by decide +kernel
theorem dX1_fact_65 : decode cX1_fact 65 = .ok (.ireturn, 1) := by decide +kernel
theorem dX1_fact_66 : decode cX1_fact 66 = .ok (.aload_n 0, 1) := by decide +kernel
theorem dX1_fact_67 : decode cX1_fact 67 = .ok (.getfield 23, 3) := by decide +kernel
theorem dX1_fact_70 : decode cX1_fact 70 = .ok (.iload_n 1, 1) := by decide +kernel
theorem dX1_fact_71 : decode cX1_fact 71 = .ok (.invokevirtual 80, 3) := by decide +kernel
theorem dX1_fact_74 : decode cX1_fact 74 = .ok (.ireturn, 1) := by decide +kernel
theorem dX1_fact_75 : decode cX1_fact 75 = .ok (.aload_n 0, 1) := by decide +kernel
theorem dX1_fact_76 : decode cX1_fact 76 = .ok (.getfield 26, 3) := by decide +kernel
theorem dX1_fact_79 : decode cX1_fact 79 = .ok (.iload_n 1, 1) := by decide +kernel
theorem dX1_fact_80 : decode cX1_fact 80 = .ok (.invokevirtual 80, 3) := by decide +kernel
theorem dX1_fact_83 : decode cX1_fact 83 = .ok (.ireturn, 1) := by decide +kernel
theorem dX1_fact_84 : decode cX1_fact 84 = .ok (.aload_n 0, 1) := by decide +kernel
theorem dX1_fact_85 : decode cX1_fact 85 = .ok (.getfield 29, 3) := by decide +kernel
theorem dX1_fact_88 : decode cX1_fact 88 = .ok (.iload_n 1, 1) := by decide +kernel
theorem dX1_fact_89 : decode cX1_fact 89 = .ok (.invokevirtual 80, 3) := by decide +kernel
theorem dX1_fact_92 : decode cX1_fact 92 = .ok (.ireturn, 1) := by decide +kernel
theorem dX1_fact_93 : decode cX1_fact 93 = .ok (.aload_n 0, 1) := by decide +kernel
theorem dX1_fact_94 : decode cX1_fact 94 = .ok (.getfield 32, 3) := by decide +kernel
theorem dX1_fact_97 : decode cX1_fact 97 = .ok (.iload_n 1, 1) := by decide +kernel
theorem dX1_fact_98 : decode cX1_fact 98 = .ok (.invokevirtual 80, 3) := by decide +kernel
theorem dX1_fact_101 : decode cX1_fact 101 = .ok (.ireturn, 1) := by decide +kernel
theorem dX1_fact_102 : decode cX1_fact 102 = .ok (.aload_n 0, 1) := by decide +kernel
theorem dX1_fact_103 : decode cX1_fact 103 = .ok (.getfield 35, 3) := by decide +kernel
theorem dX1_fact_106 : decode cX1_fact 106 = .ok (.iload_n 1, 1) := by decide +kernel
theorem dX1_fact_107 : decode cX1_fact 107 = .ok (.invokevirtual 80, 3) := by decide +kernel
theorem dX1_fact_110 : decode cX1_fact 110 = .ok (.ireturn, 1) := by decide +kernel
theorem dX1_fact_111 : decode cX1_fact 111 = .ok (.aload_n 0, 1) := by decide +kernel
theorem dX1_fact_112 : decode cX1_fact 112 = .ok (.getfield 38, 3) := by decide +kernel
theorem dX1_fact_115 : decode cX1_fact 115 = .ok (.iload_n 1, 1) := by decide +kernel
theorem dX1_fact_116 : decode cX1_fact 116 = .ok (.invokevirtual 80, 3) := by decide +kernel
theorem dX1_fact_119 : decode cX1_fact 119 = .ok (.ireturn, 1) := by decide +kernel
theorem dX1_fact_120 : decode cX1_fact 120 = .ok (.aload_n 0, 1) := by decide +kernel
theorem dX1_fact_121 : decode cX1_fact 121 = .ok (.getfield 41, 3) := by decide +kernel
theorem dX1_fact_124 : decode cX1_fact 124 = .ok (.iload_n 1, 1) := by decide +kernel
theorem dX1_fact_125 : decode cX1_fact 125 = .ok (.invokevirtual 80, 3) := by decide +kernel
theorem dX1_fact_128 : decode cX1_fact 128 = .ok (.ireturn, 1) := by decide +kernel
set_option maxRecDepth 20000 in
theorem ggX1_floatingAt_X1_cell : GoodIn wsX1_floatingAt wsX1_cell := goodIn_r _ [5] (by decide +kernel) (by decide +kernel)
set_option maxRecDepth 20000 in
theorem gX1_floatingAt_X1_cell : GoodIn wsX1_floatingAt (va_wsS RX1 92 yX1_cell wsX1_cell) := goodIn_app (goodIn_of _ (by decide +kernel)) ggX1_floatingAt_X1_cell
set_option maxRecDepth 20000 in
theorem ggX1_floatingAt_X2_get : GoodIn wsX1_floatingAt wsX2_get := goodIn_r _ [10, 11, 25] (by decide +kernel) (by decide +kernel)
set_option maxRecDepth 20000 in
theorem gX1_floatingAt_X2_get : GoodIn wsX1_floatingAt (wsV RX1 80 RX2 yX2_get wsX2_get) := goodIn_app (goodIn_of _ (by decide +kernel)) ggX1_floatingAt_X2_get
theorem dX1_floatingAt_0 : decode cX1_floatingAt 0 = .ok (.iconst 0, 1) := by decide +kernel
theorem dX1_floatingAt_1 : decode cX1_floatingAt 1 = .ok (.istore_n 3, 1) := by decide +kernel
theorem dX1_floatingAt_2 : decode cX1_floatingAt 2 = .ok (.iconst 0, 1) := by decide +kernel
theorem dX1_floatingAt_3 : decode cX1_floatingAt 3 = .ok (.istore 4, 2) := by decide +kernel
theorem dX1_floatingAt_5 : decode cX1_floatingAt 5 = .ok (.iload 4, 2) := by decide +kernel
theorem dX1_floatingAt_7 : decode cX1_floatingAt 7 = .ok (.iconst 3, 1) := by decide +kernel
theorem dX1_floatingAt_8 : decode cX1_floatingAt 8 = .ok (.if_icmp .ge 26, 3) := by decide +kernel
theorem dX1_floatingAt_11 : decode cX1_floatingAt 11 = .ok (.iload_n 3, 1) := by decide +kernel
theorem dX1_floatingAt_12 : decode cX1_floatingAt 12 = .ok (.aload_n 0, 1) := by decide +kernel
theorem dX1_floatingAt_13 : decode cX1_floatingAt 13 = .ok (.getfield 44, 3) := by decide +kernel
theorem dX1_floatingAt_16 : decode cX1_floatingAt 16 = .ok (.iload_n 1, 1) := by decide +kernel
theorem dX1_floatingAt_17 : decode cX1_floatingAt 17 = .ok (.iload_n 2, 1) := by decide +kernel
theorem dX1_floatingAt_18 : decode cX1_floatingAt 18 = .ok (.iload 4, 2) := by decide +kernel
theorem dX1_floatingAt_20 : decode cX1_floatingAt 20 = .ok (.invokestatic 92, 3) := by decide +kernel
theorem dX1_floatingAt_23 : decode cX1_floatingAt 23 = .ok (.invokevirtual 80, 3) := by decide +kernel
theorem dX1_floatingAt_26 : decode cX1_floatingAt 26 = .ok (.iadd, 1) := by decide +kernel
theorem dX1_floatingAt_27 : decode cX1_floatingAt 27 = .ok (.istore_n 3, 1) := by decide +kernel
theorem dX1_floatingAt_28 : decode cX1_floatingAt 28 = .ok (.iinc 4 1, 3) := by decide +kernel
theorem dX1_floatingAt_31 : decode cX1_floatingAt 31 = .ok (.goto (-26), 3) := by decide +kernel
theorem dX1_floatingAt_34 : decode cX1_floatingAt 34 = .ok (.iload_n 3, 1) := by decide +kernel
theorem dX1_floatingAt_35 : decode cX1_floatingAt 35 = .ok (.ireturn, 1) := by decide +kernel
set_option maxRecDepth 20000 in
theorem ggX1_caughtAt_X2_get : GoodIn wsX1_caughtAt wsX2_get := goodIn_r _ [9, 10, 24] (by decide +kernel) (by decide +kernel)
set_option maxRecDepth 20000 in
theorem gX1_caughtAt_X2_get : GoodIn wsX1_caughtAt (wsV RX1 80 RX2 yX2_get wsX2_get) := goodIn_app (goodIn_of _ (by decide +kernel)) ggX1_caughtAt_X2_get
theorem dX1_caughtAt_0 : decode cX1_caughtAt 0 = .ok (.iconst 0, 1) := by decide +kernel
theorem dX1_caughtAt_1 : decode cX1_caughtAt 1 = .ok (.istore_n 3, 1) := by decide +kernel
theorem dX1_caughtAt_2 : decode cX1_caughtAt 2 = .ok (.iconst 0, 1) := by decide +kernel
theorem dX1_caughtAt_3 : decode cX1_caughtAt 3 = .ok (.istore 4, 2) := by decide +kernel
theorem dX1_caughtAt_5 : decode cX1_caughtAt 5 = .ok (.iload 4, 2) := by decide +kernel
theorem dX1_caughtAt_7 : decode cX1_caughtAt 7 = .ok (.aload_n 0, 1) := by decide +kernel
theorem dX1_caughtAt_8 : decode cX1_caughtAt 8 = .ok (.getfield 54, 3) := by decide +kernel
theorem dX1_caughtAt_11 : decode cX1_caughtAt 11 = .ok (.if_icmp .ge 51, 3) := by decide +kernel
theorem dX1_caughtAt_14 : decode cX1_caughtAt 14 = .ok (.aload_n 0, 1) := by decide +kernel
theorem dX1_caughtAt_15 : decode cX1_caughtAt 15 = .ok (.getfield 38, 3) := by decide +kernel
theorem dX1_caughtAt_18 : decode cX1_caughtAt 18 = .ok (.iload 4, 2) := by decide +kernel
theorem dX1_caughtAt_20 : decode cX1_caughtAt 20 = .ok (.invokevirtual 80, 3) := by decide +kernel
theorem dX1_caughtAt_23 : decode cX1_caughtAt 23 = .ok (.iconst 1, 1) := by decide +kernel
theorem dX1_caughtAt_24 : decode cX1_caughtAt 24 = .ok (.if_icmp .ne 32, 3) := by decide +kernel
theorem dX1_caughtAt_27 : decode cX1_caughtAt 27 = .ok (.aload_n 0, 1) := by decide +kernel
theorem dX1_caughtAt_28 : decode cX1_caughtAt 28 = .ok (.getfield 23, 3) := by decide +kernel
theorem dX1_caughtAt_31 : decode cX1_caughtAt 31 = .ok (.iload 4, 2) := by decide +kernel
theorem dX1_caughtAt_33 : decode cX1_caughtAt 33 = .ok (.invokevirtual 80, 3) := by decide +kernel
theorem dX1_caughtAt_36 : decode cX1_caughtAt 36 = .ok (.iload_n 1, 1) := by decide +kernel
theorem dX1_caughtAt_37 : decode cX1_caughtAt 37 = .ok (.if_icmp .ne 19, 3) := by decide +kernel
theorem dX1_caughtAt_40 : decode cX1_caughtAt 40 = .ok (.aload_n 0, 1) := by decide +kernel
theorem dX1_caughtAt_41 : decode cX1_caughtAt 41 = .ok (.getfield 26, 3) := by decide +kernel
theorem dX1_caughtAt_44 : decode cX1_caughtAt 44 = .ok (.iload 4, 2) := by decide +kernel
theorem dX1_caughtAt_46 : decode cX1_caughtAt 46 = .ok (.invokevirtual 80, 3) := by decide +kernel
theorem dX1_caughtAt_49 : decode cX1_caughtAt 49 = .ok (.iload_n 2, 1) := by decide +kernel
theorem dX1_caughtAt_50 : decode cX1_caughtAt 50 = .ok (.if_icmp .ne 6, 3) := by decide +kernel
theorem dX1_caughtAt_53 : decode cX1_caughtAt 53 = .ok (.iinc 3 1, 3) := by decide +kernel
theorem dX1_caughtAt_56 : decode cX1_caughtAt 56 = .ok (.iinc 4 1, 3) := by decide +kernel
theorem dX1_caughtAt_59 : decode cX1_caughtAt 59 = .ok (.goto (-54), 3) := by decide +kernel
theorem dX1_caughtAt_62 : decode cX1_caughtAt 62 = .ok (.iload_n 3, 1) := by decide +kernel
theorem dX1_caughtAt_63 : decode cX1_caughtAt 63 = .ok (.ireturn, 1) := by decide +kernel
set_option maxRecDepth 20000 in
theorem ggX1_tally_X1_share : GoodIn wsX1_tally wsX1_share := goodIn_r _ [6, 7, 8, 9, 10, 11, 12, 13, 14, 15, 16, 17, 18, 19, 20, 21, 22, 23, 24, 25, 26, 27, 28, 29] (by decide +kernel) (by decide +kernel)
set_option maxRecDepth 20000 in
theorem gX1_tally_X1_share : GoodIn wsX1_tally (wsV RX1 96 RX1 yX1_share wsX1_share) := goodIn_app (goodIn_of _ (by decide +kernel)) ggX1_tally_X1_share
theorem dX1_tally_0 : decode cX1_tally 0 = .ok (.iconst 0, 1) := by decide +kernel
theorem dX1_tally_1 : decode cX1_tally 1 = .ok (.istore_n 2, 1) := by decide +kernel
theorem dX1_tally_2 : decode cX1_tally 2 = .ok (.iconst 0, 1) := by decide +kernel
theorem dX1_tally_3 : decode cX1_tally 3 = .ok (.istore_n 3, 1) := by decide +kernel
theorem dX1_tally_4 : decode cX1_tally 4 = .ok (.iload_n 3, 1) := by decide +kernel
theorem dX1_tally_5 : decode cX1_tally 5 = .ok (.aload_n 0, 1) := by decide +kernel
theorem dX1_tally_6 : decode cX1_tally 6 = .ok (.getfield 54, 3) := by decide +kernel
theorem dX1_tally_9 : decode cX1_tally 9 = .ok (.if_icmp .ge 18, 3) := by decide +kernel
theorem dX1_tally_12 : decode cX1_tally 12 = .ok (.iload_n 2, 1) := by decide +kernel
theorem dX1_tally_13 : decode cX1_tally 13 = .ok (.aload_n 0, 1) := by decide +kernel
theorem dX1_tally_14 : decode cX1_tally 14 = .ok (.iload_n 3, 1) := by decide +kernel
theorem dX1_tally_15 : decode cX1_tally 15 = .ok (.iload_n 1, 1) := by decide +kernel
theorem dX1_tally_16 : decode cX1_tally 16 = .ok (.invokevirtual 96, 3) := by decide +kernel
theorem dX1_tally_19 : decode cX1_tally 19 = .ok (.iadd, 1) := by decide +kernel
theorem dX1_tally_20 : decode cX1_tally 20 = .ok (.istore_n 2, 1) := by decide +kernel
theorem dX1_tally_21 : decode cX1_tally 21 = .ok (.iinc 3 1, 3) := by decide +kernel
theorem dX1_tally_24 : decode cX1_tally 24 = .ok (.goto (-20), 3) := by decide +kernel
theorem dX1_tally_27 : decode cX1_tally 27 = .ok (.iload_n 2, 1) := by decide +kernel
theorem dX1_tally_28 : decode cX1_tally 28 = .ok (.ireturn, 1) := by decide +kernel
set_option maxRecDepth 20000 in
theorem ggX1_share_X2_get : GoodIn wsX1_share wsX2_get := goodIn_r _ [8, 9, 23] (by decide +kernel) (by decide +kernel)
set_option maxRecDepth 20000 in
theorem gX1_share_X2_get : GoodIn wsX1_share (wsV RX1 80 RX2 yX2_get wsX2_get) := goodIn_app (goodIn_of _ (by decide +kernel)) ggX1_share_X2_get
theorem dX1_share_0 : decode cX1_share 0 = .ok (.aload_n 0, 1) := by decide +kernel
theorem dX1_share_1 : decode cX1_share 1 = .ok (.getfield 38, 3) := by decide +kernel
theorem dX1_share_4 : decode cX1_share 4 = .ok (.iload_n 1, 1) := by decide +kernel
theorem dX1_share_5 : decode cX1_share 5 = .ok (.invokevirtual 80, 3) := by decide +kernel
theorem dX1_share_8 : decode cX1_share 8 = .ok (.istore_n 3, 1) := by decide +kernel
theorem dX1_share_9 : decode cX1_share 9 = .ok (.aload_n 0, 1) := by decide +kernel
theorem dX1_share_10 : decode cX1_share 10 = .ok (.getfield 35, 3) := by decide +kernel
theorem dX1_share_13 : decode cX1_share 13 = .ok (.iload_n 1, 1) := by decide +kernel
theorem dX1_share_14 : decode cX1_share 14 = .ok (.invokevirtual 80, 3) := by decide +kernel
theorem dX1_share_17 : decode cX1_share 17 = .ok (.istore 4, 2) := by decide +kernel
theorem dX1_share_19 : decode cX1_share 19 = .ok (.iload_n 2, 1) := by decide +kernel
theorem dX1_share_20 : decode cX1_share 20 = .ok (.tableswitch 91 2 6 #[36, 46, 57, 68, 79], 36) := by decide +kernel
theorem dX1_share_56 : decode cX1_share 56 = .ok (.iload_n 3, 1) := by decide +kernel
theorem dX1_share_57 : decode cX1_share 57 = .ok (.ifCond .ne 7, 3) := by decide +kernel
theorem dX1_share_60 : decode cX1_share 60 = .ok (.iconst 1, 1) := by decide +kernel
theorem dX1_share_61 : decode cX1_share 61 = .ok (.goto 4, 3) := by decide +kernel
theorem dX1_share_64 : decode cX1_share 64 = .ok (.iconst 0, 1) := by decide +kernel
theorem dX1_share_65 : decode cX1_share 65 = .ok (.ireturn, 1) := by decide +kernel
theorem dX1_share_66 : decode cX1_share 66 = .ok (.iload_n 3, 1) := by decide +kernel
theorem dX1_share_67 : decode cX1_share 67 = .ok (.iconst 1, 1) := by decide +kernel
theorem dX1_share_68 : decode cX1_share 68 = .ok (.if_icmp .ne 7, 3) := by decide +kernel
theorem dX1_share_71 : decode cX1_share 71 = .ok (.iconst 1, 1) := by decide +kernel
theorem dX1_share_72 : decode cX1_share 72 = .ok (.goto 4, 3) := by decide +kernel
theorem dX1_share_75 : decode cX1_share 75 = .ok (.iconst 0, 1) := by decide +kernel
theorem dX1_share_76 : decode cX1_share 76 = .ok (.ireturn, 1) := by decide +kernel
theorem dX1_share_77 : decode cX1_share 77 = .ok (.iload_n 3, 1) := by decide +kernel
theorem dX1_share_78 : decode cX1_share 78 = .ok (.iconst 2, 1) := by decide +kernel
theorem dX1_share_79 : decode cX1_share 79 = .ok (.if_icmp .ne 7, 3) := by decide +kernel
theorem dX1_share_82 : decode cX1_share 82 = .ok (.iconst 1, 1) := by decide +kernel
theorem dX1_share_83 : decode cX1_share 83 = .ok (.goto 4, 3) := by decide +kernel
theorem dX1_share_86 : decode cX1_share 86 = .ok (.iconst 0, 1) := by decide +kernel
theorem dX1_share_87 : decode cX1_share 87 = .ok (.ireturn, 1) := by decide +kernel
theorem dX1_share_88 : decode cX1_share 88 = .ok (.iload_n 3, 1) := by decide +kernel
theorem dX1_share_89 : decode cX1_share 89 = .ok (.ifCond .ne 8, 3) := by decide +kernel
theorem dX1_share_92 : decode cX1_share 92 = .ok (.iload 4, 2) := by decide +kernel
theorem dX1_share_94 : decode cX1_share 94 = .ok (.goto 4, 3) := by decide +kernel
theorem dX1_share_97 : decode cX1_share 97 = .ok (.iconst 0, 1) := by decide +kernel
theorem dX1_share_98 : decode cX1_share 98 = .ok (.ireturn, 1) := by decide +kernel
theorem dX1_share_99 : decode cX1_share 99 = .ok (.iload_n 3, 1) := by decide +kernel
theorem dX1_share_100 : decode cX1_share 100 = .ok (.iconst 1, 1) := by decide +kernel
theorem dX1_share_101 : decode cX1_share 101 = .ok (.if_icmp .ne 8, 3) := by decide +kernel
theorem dX1_share_104 : decode cX1_share 104 = .ok (.iload 4, 2) := by decide +kernel
theorem dX1_share_106 : decode cX1_share 106 = .ok (.goto 4, 3) := by decide +kernel
theorem dX1_share_109 : decode cX1_share 109 = .ok (.iconst 0, 1) := by decide +kernel
theorem dX1_share_110 : decode cX1_share 110 = .ok (.ireturn, 1) := by decide +kernel
theorem dX1_share_111 : decode cX1_share 111 = .ok (.iload_n 3, 1) := by decide +kernel
theorem dX1_share_112 : decode cX1_share 112 = .ok (.iconst 1, 1) := by decide +kernel
theorem dX1_share_113 : decode cX1_share 113 = .ok (.if_icmp .ne 17, 3) := by decide +kernel
theorem dX1_share_116 : decode cX1_share 116 = .ok (.iload 4, 2) := by decide +kernel
theorem dX1_share_118 : decode cX1_share 118 = .ok (.aload_n 0, 1) := by decide +kernel
theorem dX1_share_119 : decode cX1_share 119 = .ok (.getfield 20, 3) := by decide +kernel
theorem dX1_share_122 : decode cX1_share 122 = .ok (.iload_n 1, 1) := by decide +kernel
theorem dX1_share_123 : decode cX1_share 123 = .ok (.invokevirtual 80, 3) := by decide +kernel
theorem dX1_share_126 : decode cX1_share 126 = .ok (.imul, 1) := by decide +kernel
theorem dX1_share_127 : decode cX1_share 127 = .ok (.goto 4, 3) := by decide +kernel
theorem dX1_share_130 : decode cX1_share 130 = .ok (.iconst 0, 1) := by decide +kernel
theorem dX1_share_131 : decode cX1_share 131 = .ok (.ireturn, 1) := by decide +kernel
set_option maxRecDepth 20000 in
theorem ggX1_passMinutes_X1_lineUp : GoodIn wsX1_passMinutes wsX1_lineUp := goodIn_r _ [7, 8, 9, 10, 1, 11, 12, 13, 6, 14, 15, 16, 17, 18, 19, 20, 21, 22, 23, 24, 25, 26, 27, 28, 29, 30, 31, 32, 89, 90, 91, 92, 93, 94, 95, 96, 97, 98, 99, 100, 101, 102] (by decide +kernel) (by decide +kernel)
set_option maxRecDepth 20000 in
theorem gX1_passMinutes_X1_lineUp : GoodIn wsX1_passMinutes (wsV RX1 100 RX1 yX1_lineUp wsX1_lineUp) := goodIn_app (goodIn_of _ (by decide +kernel)) ggX1_passMinutes_X1_lineUp
set_option maxRecDepth 20000 in
theorem ggX1_passMinutes_X2_get : GoodIn wsX1_passMinutes wsX2_get := goodIn_r _ [27, 28, 102] (by decide +kernel) (by decide +kernel)
set_option maxRecDepth 20000 in
theorem gX1_passMinutes_X2_get : GoodIn wsX1_passMinutes (wsV RX1 80 RX2 yX2_get wsX2_get) := goodIn_app (goodIn_of _ (by decide +kernel)) ggX1_passMinutes_X2_get
set_option maxRecDepth 20000 in
theorem ggX1_passMinutes_X1_drift : GoodIn wsX1_passMinutes wsX1_drift := goodIn_r _ [36, 10, 37, 9, 38, 39, 23, 24, 25, 26, 27, 28, 11, 12, 13, 6, 14, 15, 16, 17, 18, 19, 8, 20, 21, 22, 40, 41, 42, 43, 44, 45, 46, 47, 48, 49, 50, 51, 52, 53, 54, 55, 56, 29, 30, 31, 32, 57, 58, 59, 60, 61, 2, 62, 63, 64, 65, 66, 67, 68, 69, 70, 71, 72, 73, 74, 75, 76, 77, 78, 79, 89, 90, 91, 92, 93, 94, 95, 96, 97, 98, 99, 100, 101, 103, 104, 105, 106, 107, 102] (by decide +kernel) (by decide +kernel)
set_option maxRecDepth 20000 in
theorem gX1_passMinutes_X1_drift : GoodIn wsX1_passMinutes (wsV RX1 104 RX1 yX1_drift wsX1_drift) := goodIn_app (goodIn_of _ (by decide +kernel)) ggX1_passMinutes_X1_drift
set_option maxRecDepth 20000 in
theorem ggX1_passMinutes_X1_useWax : GoodIn wsX1_passMinutes wsX1_useWax := goodIn_r _ [83, 8, 84, 38, 11, 12, 13, 6, 14, 15, 16, 17, 18, 19, 20, 21, 22, 23, 24, 25, 26, 27, 28, 85, 86, 87, 88, 29, 30, 31, 32, 89, 90, 91, 92, 93, 94, 95, 96, 97, 98, 99, 100, 101, 102] (by decide +kernel) (by decide +kernel)
set_option maxRecDepth 20000 in
theorem gX1_passMinutes_X1_useWax : GoodIn wsX1_passMinutes (wsV RX1 108 RX1 yX1_useWax wsX1_useWax) := goodIn_app (goodIn_of _ (by decide +kernel)) ggX1_passMinutes_X1_useWax
theorem dX1_passMinutes_0 : decode cX1_passMinutes 0 = .ok (.iconst 0, 1) := by decide +kernel
theorem dX1_passMinutes_1 : decode cX1_passMinutes 1 = .ok (.istore_n 3, 1) := by decide +kernel
theorem dX1_passMinutes_2 : decode cX1_passMinutes 2 = .ok (.iload_n 3, 1) := by decide +kernel
theorem dX1_passMinutes_3 : decode cX1_passMinutes 3 = .ok (.iload_n 1, 1) := by decide +kernel
theorem dX1_passMinutes_4 : decode cX1_passMinutes 4 = .ok (.if_icmp .ge 62, 3) := by decide +kernel
theorem dX1_passMinutes_7 : decode cX1_passMinutes 7 = .ok (.aload_n 0, 1) := by decide +kernel
theorem dX1_passMinutes_8 : decode cX1_passMinutes 8 = .ok (.invokevirtual 100, 3) := by decide +kernel
theorem dX1_passMinutes_11 : decode cX1_passMinutes 11 = .ok (.istore 4, 2) := by decide +kernel
theorem dX1_passMinutes_13 : decode cX1_passMinutes 13 = .ok (.iconst 0, 1) := by decide +kernel
theorem dX1_passMinutes_14 : decode cX1_passMinutes 14 = .ok (.istore 5, 2) := by decide +kernel
theorem dX1_passMinutes_16 : decode cX1_passMinutes 16 = .ok (.iload 5, 2) := by decide +kernel
theorem dX1_passMinutes_18 : decode cX1_passMinutes 18 = .ok (.iload 4, 2) := by decide +kernel
theorem dX1_passMinutes_20 : decode cX1_passMinutes 20 = .ok (.if_icmp .ge 26, 3) := by decide +kernel
theorem dX1_passMinutes_23 : decode cX1_passMinutes 23 = .ok (.aload_n 0, 1) := by decide +kernel
theorem dX1_passMinutes_24 : decode cX1_passMinutes 24 = .ok (.aload_n 0, 1) := by decide +kernel
theorem dX1_passMinutes_25 : decode cX1_passMinutes 25 = .ok (.getfield 47, 3) := by decide +kernel
theorem dX1_passMinutes_28 : decode cX1_passMinutes 28 = .ok (.iload 5, 2) := by decide +kernel
theorem dX1_passMinutes_30 : decode cX1_passMinutes 30 = .ok (.invokevirtual 80, 3) := by decide +kernel
theorem dX1_passMinutes_33 : decode cX1_passMinutes 33 = .ok (.bipush 64, 2) := by decide +kernel
theorem dX1_passMinutes_35 : decode cX1_passMinutes 35 = .ok (.irem, 1) := by decide +kernel
theorem dX1_passMinutes_36 : decode cX1_passMinutes 36 = .ok (.aload_n 2, 1) := by decide +kernel
theorem dX1_passMinutes_37 : decode cX1_passMinutes 37 = .ok (.invokevirtual 104, 3) := by decide +kernel
theorem dX1_passMinutes_40 : decode cX1_passMinutes 40 = .ok (.iinc 5 1, 3) := by decide +kernel
theorem dX1_passMinutes_43 : decode cX1_passMinutes 43 = .ok (.goto (-27), 3) := by decide +kernel
theorem dX1_passMinutes_46 : decode cX1_passMinutes 46 = .ok (.aload_n 0, 1) := by decide +kernel
theorem dX1_passMinutes_47 : decode cX1_passMinutes 47 = .ok (.invokevirtual 108, 3) := by decide +kernel
theorem dX1_passMinutes_50 : decode cX1_passMinutes 50 = .ok (.aload_n 0, 1) := by decide +kernel
theorem dX1_passMinutes_51 : decode cX1_passMinutes 51 = .ok (.dup, 1) := by decide +kernel
theorem dX1_passMinutes_52 : decode cX1_passMinutes 52 = .ok (.getfield 58, 3) := by decide +kernel
theorem dX1_passMinutes_55 : decode cX1_passMinutes 55 = .ok (.iconst 1, 1) := by decide +kernel
theorem dX1_passMinutes_56 : decode cX1_passMinutes 56 = .ok (.iadd, 1) := by decide +kernel
theorem dX1_passMinutes_57 : decode cX1_passMinutes 57 = .ok (.putfield 58, 3) := by decide +kernel
theorem dX1_passMinutes_60 : decode cX1_passMinutes 60 = .ok (.iinc 3 1, 3) := by decide +kernel
theorem dX1_passMinutes_63 : decode cX1_passMinutes 63 = .ok (.goto (-61), 3) := by decide +kernel
theorem dX1_passMinutes_66 : decode cX1_passMinutes 66 = .ok (.return_, 1) := by decide +kernel
set_option maxRecDepth 20000 in
theorem ggX1_lineUp_X1_isAfloat : GoodIn wsX1_lineUp wsX1_isAfloat := goodIn_r _ [9, 10, 11, 12, 13, 8, 14, 1, 15, 16, 17, 18, 19, 20, 21, 22, 23, 28, 29, 30, 31, 32, 33, 34, 35, 36, 37, 38, 39, 40, 41] (by decide +kernel) (by decide +kernel)
set_option maxRecDepth 20000 in
theorem gX1_lineUp_X1_isAfloat : GoodIn wsX1_lineUp (wsV RX1 111 RX1 yX1_isAfloat wsX1_isAfloat) := goodIn_app (goodIn_of _ (by decide +kernel)) ggX1_lineUp_X1_isAfloat
set_option maxRecDepth 20000 in
theorem ggX1_lineUp_X2_get : GoodIn wsX1_lineUp wsX2_get := goodIn_r _ [22, 23, 41] (by decide +kernel) (by decide +kernel)
set_option maxRecDepth 20000 in
theorem gX1_lineUp_X2_get : GoodIn wsX1_lineUp (wsV RX1 80 RX2 yX2_get wsX2_get) := goodIn_app (goodIn_of _ (by decide +kernel)) ggX1_lineUp_X2_get
set_option maxRecDepth 20000 in
theorem ggX1_lineUp_X2_put : GoodIn wsX1_lineUp wsX2_put := goodIn_r _ [27, 23, 41] (by decide +kernel) (by decide +kernel)
set_option maxRecDepth 20000 in
theorem gX1_lineUp_X2_put : GoodIn wsX1_lineUp (wsV RX1 61 RX2 yX2_put wsX2_put) := goodIn_app (goodIn_of _ (by decide +kernel)) ggX1_lineUp_X2_put
theorem dX1_lineUp_0 : decode cX1_lineUp 0 = .ok (.iconst 0, 1) := by decide +kernel
theorem dX1_lineUp_1 : decode cX1_lineUp 1 = .ok (.istore_n 1, 1) := by decide +kernel
theorem dX1_lineUp_2 : decode cX1_lineUp 2 = .ok (.iconst 0, 1) := by decide +kernel
theorem dX1_lineUp_3 : decode cX1_lineUp 3 = .ok (.istore_n 2, 1) := by decide +kernel
theorem dX1_lineUp_4 : decode cX1_lineUp 4 = .ok (.iload_n 2, 1) := by decide +kernel
theorem dX1_lineUp_5 : decode cX1_lineUp 5 = .ok (.aload_n 0, 1) := by decide +kernel
theorem dX1_lineUp_6 : decode cX1_lineUp 6 = .ok (.getfield 54, 3) := by decide +kernel
theorem dX1_lineUp_9 : decode cX1_lineUp 9 = .ok (.if_icmp .ge 112, 3) := by decide +kernel
theorem dX1_lineUp_12 : decode cX1_lineUp 12 = .ok (.aload_n 0, 1) := by decide +kernel
theorem dX1_lineUp_13 : decode cX1_lineUp 13 = .ok (.iload_n 2, 1) := by decide +kernel
