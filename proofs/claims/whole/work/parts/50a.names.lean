theorem dX4_init_0 : decode cX4_init 0 = .ok (.aload_n 0, 1) := by decide +kernel
theorem dX4_init_1 : decode cX4_init 1 = .ok (.aload_n 1, 1) := by decide +kernel
theorem dX4_init_2 : decode cX4_init 2 = .ok (.putfield 3, 3) := by decide +kernel
theorem dX4_init_5 : decode cX4_init 5 = .ok (.aload_n 0, 1) := by decide +kernel
theorem dX4_init_6 : decode cX4_init 6 = .ok (.invokespecial 9, 3) := by decide +kernel
theorem dX4_init_9 : decode cX4_init 9 = .ok (.aload_n 0, 1) := by decide +kernel
theorem dX4_init_10 : decode cX4_init 10 = .ok (.bipush 41, 2) := by decide +kernel
theorem dX4_init_12 : decode cX4_init 12 = .ok (.newarray .int, 2) := by decide +kernel
theorem dX4_init_14 : decode cX4_init 14 = .ok (.putfield 15, 3) := by decide +kernel
theorem dX4_init_17 : decode cX4_init 17 = .ok (.aload_n 0, 1) := by decide +kernel
theorem dX4_init_18 : decode cX4_init 18 = .ok (.bipush 41, 2) := by decide +kernel
theorem dX4_init_20 : decode cX4_init 20 = .ok (.newarray .int, 2) := by decide +kernel
theorem dX4_init_22 : decode cX4_init 22 = .ok (.putfield 19, 3) := by decide +kernel
theorem dX4_init_25 : decode cX4_init 25 = .ok (.aload_n 0, 1) := by decide +kernel
theorem dX4_init_26 : decode cX4_init 26 = .ok (.bipush 41, 2) := by decide +kernel
theorem dX4_init_28 : decode cX4_init 28 = .ok (.newarray .int, 2) := by decide +kernel
theorem dX4_init_30 : decode cX4_init 30 = .ok (.putfield 22, 3) := by decide +kernel
theorem dX4_init_33 : decode cX4_init 33 = .ok (.aload_n 0, 1) := by decide +kernel
theorem dX4_init_34 : decode cX4_init 34 = .ok (.bipush 41, 2) := by decide +kernel
theorem dX4_init_36 : decode cX4_init 36 = .ok (.newarray .int, 2) := by decide +kernel
theorem dX4_init_38 : decode cX4_init 38 = .ok (.putfield 25, 3) := by decide +kernel
theorem dX4_init_41 : decode cX4_init 41 = .ok (.aload_n 0, 1) := by decide +kernel
theorem dX4_init_42 : decode cX4_init 42 = .ok (.bipush 41, 2) := by decide +kernel
theorem dX4_init_44 : decode cX4_init 44 = .ok (.newarray .int, 2) := by decide +kernel
theorem dX4_init_46 : decode cX4_init 46 = .ok (.putfield 28, 3) := by decide +kernel
theorem dX4_init_49 : decode cX4_init 49 = .ok (.aload_n 0, 1) := by decide +kernel
theorem dX4_init_50 : decode cX4_init 50 = .ok (.bipush 41, 2) := by decide +kernel
theorem dX4_init_52 : decode cX4_init 52 = .ok (.newarray .int, 2) := by decide +kernel
theorem dX4_init_54 : decode cX4_init 54 = .ok (.putfield 31, 3) := by decide +kernel
theorem dX4_init_57 : decode cX4_init 57 = .ok (.aload_n 0, 1) := by decide +kernel
theorem dX4_init_58 : decode cX4_init 58 = .ok (.bipush 41, 2) := by decide +kernel
theorem dX4_init_60 : decode cX4_init 60 = .ok (.newarray .int, 2) := by decide +kernel
theorem dX4_init_62 : decode cX4_init 62 = .ok (.putfield 34, 3) := by decide +kernel
theorem dX4_init_65 : decode cX4_init 65 = .ok (.aload_n 0, 1) := by decide +kernel
theorem dX4_init_66 : decode cX4_init 66 = .ok (.bipush 41, 2) := by decide +kernel
theorem dX4_init_68 : decode cX4_init 68 = .ok (.newarray .int, 2) := by decide +kernel
theorem dX4_init_70 : decode cX4_init 70 = .ok (.putfield 37, 3) := by decide +kernel
theorem dX4_init_73 : decode cX4_init 73 = .ok (.aload_n 0, 1) := by decide +kernel
theorem dX4_init_74 : decode cX4_init 74 = .ok (.bipush 41, 2) := by decide +kernel
theorem dX4_init_76 : decode cX4_init 76 = .ok (.newarray .int, 2) := by decide +kernel
theorem dX4_init_78 : decode cX4_init 78 = .ok (.putfield 40, 3) := by decide +kernel
theorem dX4_init_81 : decode cX4_init 81 = .ok (.aload_n 0, 1) := by decide +kernel
theorem dX4_init_82 : decode cX4_init 82 = .ok (.bipush 41, 2) := by decide +kernel
theorem dX4_init_84 : decode cX4_init 84 = .ok (.newarray .int, 2) := by decide +kernel
theorem dX4_init_86 : decode cX4_init 86 = .ok (.putfield 43, 3) := by decide +kernel
theorem dX4_init_89 : decode cX4_init 89 = .ok (.return_, 1) := by decide +kernel
theorem dX4_copy_0 : decode cX4_copy 0 = .ok (.aload_n 1, 1) := by decide +kernel
theorem dX4_copy_1 : decode cX4_copy 1 = .ok (.iconst 0, 1) := by decide +kernel
theorem dX4_copy_2 : decode cX4_copy 2 = .ok (.aload_n 2, 1) := by decide +kernel
theorem dX4_copy_3 : decode cX4_copy 3 = .ok (.iconst 0, 1) := by decide +kernel
theorem dX4_copy_4 : decode cX4_copy 4 = .ok (.aload_n 1, 1) := by decide +kernel
theorem dX4_copy_5 : decode cX4_copy 5 = .ok (.arraylength, 1) := by decide +kernel
theorem dX4_copy_6 : decode cX4_copy 6 = .ok (.invokestatic 46, 3) := by decide +kernel
theorem dX4_copy_9 : decode cX4_copy 9 = .ok (.return_, 1) := by decide +kernel
set_option maxRecDepth 20000 in
theorem ggX4_become_X4_copy : GoodIn wsX4_become wsX4_copy := goodIn_r _ [16, 17, 18, 19, 20] (by decide +kernel) (by decide +kernel)
set_option maxRecDepth 20000 in
theorem gX4_become_X4_copy : GoodIn wsX4_become (wsV RX4 59 RX4 yX4_copy wsX4_copy) := goodIn_app (goodIn_of _ (by decide +kernel)) ggX4_become_X4_copy
theorem dX4_become_0 : decode cX4_become 0 = .ok (.aload_n 0, 1) := by decide +kernel
theorem dX4_become_1 : decode cX4_become 1 = .ok (.aload_n 1, 1) := by decide +kernel
theorem dX4_become_2 : decode cX4_become 2 = .ok (.getfield 52, 3) := by decide +kernel
theorem dX4_become_5 : decode cX4_become 5 = .ok (.putfield 52, 3) := by decide +kernel
theorem dX4_become_8 : decode cX4_become 8 = .ok (.aload_n 0, 1) := by decide +kernel
theorem dX4_become_9 : decode cX4_become 9 = .ok (.aload_n 1, 1) := by decide +kernel
theorem dX4_become_10 : decode cX4_become 10 = .ok (.getfield 56, 3) := by decide +kernel
theorem dX4_become_13 : decode cX4_become 13 = .ok (.putfield 56, 3) := by decide +kernel
theorem dX4_become_16 : decode cX4_become 16 = .ok (.aload_n 0, 1) := by decide +kernel
theorem dX4_become_17 : decode cX4_become 17 = .ok (.aload_n 1, 1) := by decide +kernel
theorem dX4_become_18 : decode cX4_become 18 = .ok (.getfield 15, 3) := by decide +kernel
theorem dX4_become_21 : decode cX4_become 21 = .ok (.aload_n 0, 1) := by decide +kernel
theorem dX4_become_22 : decode cX4_become 22 = .ok (.getfield 15, 3) := by decide +kernel
theorem dX4_become_25 : decode cX4_become 25 = .ok (.invokevirtual 59, 3) := by decide +kernel
theorem dX4_become_28 : decode cX4_become 28 = .ok (.aload_n 0, 1) := by decide +kernel
theorem dX4_become_29 : decode cX4_become 29 = .ok (.aload_n 1, 1) := by decide +kernel
theorem dX4_become_30 : decode cX4_become 30 = .ok (.getfield 19, 3) := by decide +kernel
theorem dX4_become_33 : decode cX4_become 33 = .ok (.aload_n 0, 1) := by decide +kernel
theorem dX4_become_34 : decode cX4_become 34 = .ok (.getfield 19, 3) := by decide +kernel
theorem dX4_become_37 : decode cX4_become 37 = .ok (.invokevirtual 59, 3) := by decide +kernel
theorem dX4_become_40 : decode cX4_become 40 = .ok (.aload_n 0, 1) := by decide +kernel
theorem dX4_become_41 : decode cX4_become 41 = .ok (.aload_n 1, 1) := by decide +kernel
theorem dX4_become_42 : decode cX4_become 42 = .ok (.getfield 22, 3) := by decide +kernel
theorem dX4_become_45 : decode cX4_become 45 = .ok (.aload_n 0, 1) := by decide +kernel
theorem dX4_become_46 : decode cX4_become 46 = .ok (.getfield 22, 3) := by decide +kernel
theorem dX4_become_49 : decode cX4_become 49 = .ok (.invokevirtual 59, 3) := by decide +kernel
theorem dX4_become_52 : decode cX4_become 52 = .ok (.aload_n 0, 1) := by decide +kernel
theorem dX4_become_53 : decode cX4_become 53 = .ok (.aload_n 1, 1) := by decide +kernel
theorem dX4_become_54 : decode cX4_become 54 = .ok (.getfield 25, 3) := by decide +kernel
theorem dX4_become_57 : decode cX4_become 57 = .ok (.aload_n 0, 1) := by decide +kernel
theorem dX4_become_58 : decode cX4_become 58 = .ok (.getfield 25, 3) := by decide +kernel
theorem dX4_become_61 : decode cX4_become 61 = .ok (.invokevirtual 59, 3) := by decide +kernel
theorem dX4_become_64 : decode cX4_become 64 = .ok (.aload_n 0, 1) := by decide +kernel
theorem dX4_become_65 : decode cX4_become 65 = .ok (.aload_n 1, 1) := by decide +kernel
theorem dX4_become_66 : decode cX4_become 66 = .ok (.getfield 28, 3) := by decide +kernel
theorem dX4_become_69 : decode cX4_become 69 = .ok (.aload_n 0, 1) := by decide +kernel
theorem dX4_become_70 : decode cX4_become 70 = .ok (.getfield 28, 3) := by decide +kernel
theorem dX4_become_73 : decode cX4_become 73 = .ok (.invokevirtual 59, 3) := by decide +kernel
theorem dX4_become_76 : decode cX4_become 76 = .ok (.aload_n 0, 1) := by decide +kernel
theorem dX4_become_77 : decode cX4_become 77 = .ok (.aload_n 1, 1) := by decide +kernel
theorem dX4_become_78 : decode cX4_become 78 = .ok (.getfield 31, 3) := by decide +kernel
theorem dX4_become_81 : decode cX4_become 81 = .ok (.aload_n 0, 1) := by decide +kernel
theorem dX4_become_82 : decode cX4_become 82 = .ok (.getfield 31, 3) := by decide +kernel
theorem dX4_become_85 : decode cX4_become 85 = .ok (.invokevirtual 59, 3) := by decide +kernel
theorem dX4_become_88 : decode cX4_become 88 = .ok (.aload_n 0, 1) := by decide +kernel
theorem dX4_become_89 : decode cX4_become 89 = .ok (.aload_n 1, 1) := by decide +kernel
theorem dX4_become_90 : decode cX4_become 90 = .ok (.getfield 34, 3) := by decide +kernel
theorem dX4_become_93 : decode cX4_become 93 = .ok (.aload_n 0, 1) := by decide +kernel
theorem dX4_become_94 : decode cX4_become 94 = .ok (.getfield 34, 3) := by decide +kernel
theorem dX4_become_97 : decode cX4_become 97 = .ok (.invokevirtual 59, 3) := by decide +kernel
theorem dX4_become_100 : decode cX4_become 100 = .ok (.aload_n 0, 1) := by decide +kernel
theorem dX4_become_101 : decode cX4_become 101 = .ok (.aload_n 1, 1) := by decide +kernel
theorem dX4_become_102 : decode cX4_become 102 = .ok (.getfield 37, 3) := by decide +kernel
theorem dX4_become_105 : decode cX4_become 105 = .ok (.aload_n 0, 1) := by decide +kernel
theorem dX4_become_106 : decode cX4_become 106 = .ok (.getfield 37, 3) := by decide +kernel
theorem dX4_become_109 : decode cX4_become 109 = .ok (.invokevirtual 59, 3) := by decide +kernel
theorem dX4_become_112 : decode cX4_become 112 = .ok (.aload_n 0, 1) := by decide +kernel
theorem dX4_become_113 : decode cX4_become 113 = .ok (.aload_n 1, 1) := by decide +kernel
theorem dX4_become_114 : decode cX4_become 114 = .ok (.getfield 40, 3) := by decide +kernel
theorem dX4_become_117 : decode cX4_become 117 = .ok (.aload_n 0, 1) := by decide +kernel
theorem dX4_become_118 : decode cX4_become 118 = .ok (.getfield 40, 3) := by decide +kernel
theorem dX4_become_121 : decode cX4_become 121 = .ok (.invokevirtual 59, 3) := by decide +kernel
theorem dX4_become_124 : decode cX4_become 124 = .ok (.return_, 1) := by decide +kernel
theorem dX4_launch_0 : decode cX4_launch 0 = .ok (.aload_n 0, 1) := by decide +kernel
theorem dX4_launch_1 : decode cX4_launch 1 = .ok (.getfield 15, 3) := by decide +kernel
theorem dX4_launch_4 : decode cX4_launch 4 = .ok (.aload_n 0, 1) := by decide +kernel
theorem dX4_launch_5 : decode cX4_launch 5 = .ok (.getfield 56, 3) := by decide +kernel
theorem dX4_launch_8 : decode cX4_launch 8 = .ok (.iload_n 1, 1) := by decide +kernel
theorem dX4_launch_9 : decode cX4_launch 9 = .ok (.iastore, 1) := by decide +kernel
theorem dX4_launch_10 : decode cX4_launch 10 = .ok (.aload_n 0, 1) := by decide +kernel
theorem dX4_launch_11 : decode cX4_launch 11 = .ok (.getfield 19, 3) := by decide +kernel
theorem dX4_launch_14 : decode cX4_launch 14 = .ok (.aload_n 0, 1) := by decide +kernel
theorem dX4_launch_15 : decode cX4_launch 15 = .ok (.getfield 56, 3) := by decide +kernel
theorem dX4_launch_18 : decode cX4_launch 18 = .ok (.iload_n 2, 1) := by decide +kernel
theorem dX4_launch_19 : decode cX4_launch 19 = .ok (.iastore, 1) := by decide +kernel
theorem dX4_launch_20 : decode cX4_launch 20 = .ok (.aload_n 0, 1) := by decide +kernel
theorem dX4_launch_21 : decode cX4_launch 21 = .ok (.getfield 22, 3) := by decide +kernel
theorem dX4_launch_24 : decode cX4_launch 24 = .ok (.aload_n 0, 1) := by decide +kernel
theorem dX4_launch_25 : decode cX4_launch 25 = .ok (.getfield 56, 3) := by decide +kernel
theorem dX4_launch_28 : decode cX4_launch 28 = .ok (.iload_n 3, 1) := by decide +kernel
theorem dX4_launch_29 : decode cX4_launch 29 = .ok (.iastore, 1) := by decide +kernel
theorem dX4_launch_30 : decode cX4_launch 30 = .ok (.aload_n 0, 1) := by decide +kernel
theorem dX4_launch_31 : decode cX4_launch 31 = .ok (.getfield 25, 3) := by decide +kernel
theorem dX4_launch_34 : decode cX4_launch 34 = .ok (.aload_n 0, 1) := by decide +kernel
theorem dX4_launch_35 : decode cX4_launch 35 = .ok (.getfield 56, 3) := by decide +kernel
theorem dX4_launch_38 : decode cX4_launch 38 = .ok (.iload 4, 2) := by decide +kernel
theorem dX4_launch_40 : decode cX4_launch 40 = .ok (.iastore, 1) := by decide +kernel
theorem dX4_launch_41 : decode cX4_launch 41 = .ok (.aload_n 0, 1) := by decide +kernel
theorem dX4_launch_42 : decode cX4_launch 42 = .ok (.getfield 28, 3) := by decide +kernel
theorem dX4_launch_45 : decode cX4_launch 45 = .ok (.aload_n 0, 1) := by decide +kernel
theorem dX4_launch_46 : decode cX4_launch 46 = .ok (.getfield 56, 3) := by decide +kernel
theorem dX4_launch_49 : decode cX4_launch 49 = .ok (.getstatic 63, 3) := by decide +kernel
theorem dX4_launch_52 : decode cX4_launch 52 = .ok (.iload_n 1, 1) := by decide +kernel
theorem dX4_launch_53 : decode cX4_launch 53 = .ok (.iaload, 1) := by decide +kernel
theorem dX4_launch_54 : decode cX4_launch 54 = .ok (.iastore, 1) := by decide +kernel
theorem dX4_launch_55 : decode cX4_launch 55 = .ok (.aload_n 0, 1) := by decide +kernel
theorem dX4_launch_56 : decode cX4_launch 56 = .ok (.getfield 31, 3) := by decide +kernel
theorem dX4_launch_59 : decode cX4_launch 59 = .ok (.aload_n 0, 1) := by decide +kernel
theorem dX4_launch_60 : decode cX4_launch 60 = .ok (.getfield 56, 3) := by decide +kernel
theorem dX4_launch_63 : decode cX4_launch 63 = .ok (.iconst 0, 1) := by decide +kernel
theorem dX4_launch_64 : decode cX4_launch 64 = .ok (.iastore, 1) := by decide +kernel
theorem dX4_launch_65 : decode cX4_launch 65 = .ok (.aload_n 0, 1) := by decide +kernel
theorem dX4_launch_66 : decode cX4_launch 66 = .ok (.getfield 34, 3) := by decide +kernel
theorem dX4_launch_69 : decode cX4_launch 69 = .ok (.aload_n 0, 1) := by decide +kernel
theorem dX4_launch_70 : decode cX4_launch 70 = .ok (.getfield 56, 3) := by decide +kernel
theorem dX4_launch_73 : decode cX4_launch 73 = .ok (.iconst 1, 1) := by decide +kernel
theorem dX4_launch_74 : decode cX4_launch 74 = .ok (.iastore, 1) := by decide +kernel
theorem dX4_launch_75 : decode cX4_launch 75 = .ok (.aload_n 0, 1) := by decide +kernel
theorem dX4_launch_76 : decode cX4_launch 76 = .ok (.getfield 37, 3) := by decide +kernel
theorem dX4_launch_79 : decode cX4_launch 79 = .ok (.aload_n 0, 1) := by decide +kernel
theorem dX4_launch_80 : decode cX4_launch 80 = .ok (.getfield 56, 3) := by decide +kernel
theorem dX4_launch_83 : decode cX4_launch 83 = .ok (.iconst 0, 1) := by decide +kernel
theorem dX4_launch_84 : decode cX4_launch 84 = .ok (.iastore, 1) := by decide +kernel
theorem dX4_launch_85 : decode cX4_launch 85 = .ok (.aload_n 0, 1) := by decide +kernel
theorem dX4_launch_86 : decode cX4_launch 86 = .ok (.getfield 40, 3) := by decide +kernel
theorem dX4_launch_89 : decode cX4_launch 89 = .ok (.aload_n 0, 1) := by decide +kernel
theorem dX4_launch_90 : decode cX4_launch 90 = .ok (.getfield 56, 3) := by decide +kernel
theorem dX4_launch_93 : decode cX4_launch 93 = .ok (.iconst (-1), 1) := by decide +kernel
theorem dX4_launch_94 : decode cX4_launch 94 = .ok (.iastore, 1) := by decide +kernel
theorem dX4_launch_95 : decode cX4_launch 95 = .ok (.aload_n 0, 1) := by decide +kernel
theorem dX4_launch_96 : decode cX4_launch 96 = .ok (.dup, 1) := by decide +kernel
theorem dX4_launch_97 : decode cX4_launch 97 = .ok (.getfield 56, 3) := by decide +kernel
theorem dX4_launch_100 : decode cX4_launch 100 = .ok (.iconst 1, 1) := by decide +kernel
theorem dX4_launch_101 : decode cX4_launch 101 = .ok (.iadd, 1) := by decide +kernel
theorem dX4_launch_102 : decode cX4_launch 102 = .ok (.putfield 56, 3) := by decide +kernel
theorem dX4_launch_105 : decode cX4_launch 105 = .ok (.aload_n 0, 1) := by decide +kernel
theorem dX4_launch_106 : decode cX4_launch 106 = .ok (.getfield 56, 3) := by decide +kernel
theorem dX4_launch_109 : decode cX4_launch 109 = .ok (.iconst 1, 1) := by decide +kernel
theorem dX4_launch_110 : decode cX4_launch 110 = .ok (.isub, 1) := by decide +kernel
theorem dX4_launch_111 : decode cX4_launch 111 = .ok (.ireturn, 1) := by decide +kernel
theorem dX4_isSoaked_0 : decode cX4_isSoaked 0 = .ok (.aload_n 0, 1) := by decide +kernel
theorem dX4_isSoaked_1 : decode cX4_isSoaked 1 = .ok (.getfield 31, 3) := by decide +kernel
theorem dX4_isSoaked_4 : decode cX4_isSoaked 4 = .ok (.iload_n 1, 1) := by decide +kernel
theorem dX4_isSoaked_5 : decode cX4_isSoaked 5 = .ok (.iaload, 1) := by decide +kernel
theorem dX4_isSoaked_6 : decode cX4_isSoaked 6 = .ok (.getstatic 66, 3) := by decide +kernel
theorem dX4_isSoaked_9 : decode cX4_isSoaked 9 = .ok (.aload_n 0, 1) := by decide +kernel
theorem dX4_isSoaked_10 : decode cX4_isSoaked 10 = .ok (.getfield 15, 3) := by decide +kernel
theorem dX4_isSoaked_13 : decode cX4_isSoaked 13 = .ok (.iload_n 1, 1) := by decide +kernel
theorem dX4_isSoaked_14 : decode cX4_isSoaked 14 = .ok (.iaload, 1) := by decide +kernel
theorem dX4_isSoaked_15 : decode cX4_isSoaked 15 = .ok (.iaload, 1) := by decide +kernel
theorem dX4_isSoaked_16 : decode cX4_isSoaked 16 = .ok (.if_icmp .le 7, 3) := by decide +kernel
theorem dX4_isSoaked_19 : decode cX4_isSoaked 19 = .ok (.iconst 1, 1) := by decide +kernel
theorem dX4_isSoaked_20 : decode cX4_isSoaked 20 = .ok (.goto 4, 3) := by decide +kernel
theorem dX4_isSoaked_23 : decode cX4_isSoaked 23 = .ok (.iconst 0, 1) := by decide +kernel
theorem dX4_isSoaked_24 : decode cX4_isSoaked 24 = .ok (.ireturn, 1) := by decide +kernel
theorem dX4_at_0 : decode cX4_at 0 = .ok (.iconst 0, 1) := by decide +kernel
theorem dX4_at_1 : decode cX4_at 1 = .ok (.istore 4, 2) := by decide +kernel
theorem dX4_at_3 : decode cX4_at 3 = .ok (.iconst 0, 1) := by decide +kernel
theorem dX4_at_4 : decode cX4_at 4 = .ok (.istore 5, 2) := by decide +kernel
theorem dX4_at_6 : decode cX4_at 6 = .ok (.iload 5, 2) := by decide +kernel
theorem dX4_at_8 : decode cX4_at 8 = .ok (.aload_n 0, 1) := by decide +kernel
theorem dX4_at_9 : decode cX4_at 9 = .ok (.getfield 56, 3) := by decide +kernel
theorem dX4_at_12 : decode cX4_at 12 = .ok (.if_icmp .ge 52, 3) := by decide +kernel
theorem dX4_at_15 : decode cX4_at 15 = .ok (.iload 4, 2) := by decide +kernel
theorem dX4_at_17 : decode cX4_at 17 = .ok (.aload_n 0, 1) := by decide +kernel
theorem dX4_at_18 : decode cX4_at 18 = .ok (.getfield 37, 3) := by decide +kernel
theorem dX4_at_21 : decode cX4_at 21 = .ok (.iload 5, 2) := by decide +kernel
theorem dX4_at_23 : decode cX4_at 23 = .ok (.iaload, 1) := by decide +kernel
theorem dX4_at_24 : decode cX4_at 24 = .ok (.iload_n 3, 1) := by decide +kernel
theorem dX4_at_25 : decode cX4_at 25 = .ok (.if_icmp .ne 29, 3) := by decide +kernel
theorem dX4_at_28 : decode cX4_at 28 = .ok (.aload_n 0, 1) := by decide +kernel
theorem dX4_at_29 : decode cX4_at 29 = .ok (.getfield 22, 3) := by decide +kernel
theorem dX4_at_32 : decode cX4_at 32 = .ok (.iload 5, 2) := by decide +kernel
theorem dX4_at_34 : decode cX4_at 34 = .ok (.iaload, 1) := by decide +kernel
theorem dX4_at_35 : decode cX4_at 35 = .ok (.iload_n 1, 1) := by decide +kernel
theorem dX4_at_36 : decode cX4_at 36 = .ok (.if_icmp .ne 18, 3) := by decide +kernel
theorem dX4_at_39 : decode cX4_at 39 = .ok (.aload_n 0, 1) := by decide +kernel
theorem dX4_at_40 : decode cX4_at 40 = .ok (.getfield 25, 3) := by decide +kernel
theorem dX4_at_43 : decode cX4_at 43 = .ok (.iload 5, 2) := by decide +kernel
theorem dX4_at_45 : decode cX4_at 45 = .ok (.iaload, 1) := by decide +kernel
theorem dX4_at_46 : decode cX4_at 46 = .ok (.iload_n 2, 1) := by decide +kernel
theorem dX4_at_47 : decode cX4_at 47 = .ok (.if_icmp .ne 7, 3) := by decide +kernel
theorem dX4_at_50 : decode cX4_at 50 = .ok (.iconst 1, 1) := by decide +kernel
theorem dX4_at_51 : decode cX4_at 51 = .ok (.goto 4, 3) := by decide +kernel
theorem dX4_at_54 : decode cX4_at 54 = .ok (.iconst 0, 1) := by decide +kernel
theorem dX4_at_55 : decode cX4_at 55 = .ok (.iadd, 1) := by decide +kernel
theorem dX4_at_56 : decode cX4_at 56 = .ok (.istore 4, 2) := by decide +kernel
theorem dX4_at_58 : decode cX4_at 58 = .ok (.iinc 5 1, 3) := by decide +kernel
theorem dX4_at_61 : decode cX4_at 61 = .ok (.goto (-55), 3) := by decide +kernel
theorem dX4_at_64 : decode cX4_at 64 = .ok (.iload 4, 2) := by decide +kernel
theorem dX4_at_66 : decode cX4_at 66 = .ok (.ireturn, 1) := by decide +kernel
theorem dX4_isAhead_0 : decode cX4_isAhead 0 = .ok (.aload_n 0, 1) := by decide +kernel
theorem dX4_isAhead_1 : decode cX4_isAhead 1 = .ok (.getfield 25, 3) := by decide +kernel
theorem dX4_isAhead_4 : decode cX4_isAhead 4 = .ok (.iload_n 1, 1) := by decide +kernel
theorem dX4_isAhead_5 : decode cX4_isAhead 5 = .ok (.iaload, 1) := by decide +kernel
theorem dX4_isAhead_6 : decode cX4_isAhead 6 = .ok (.aload_n 0, 1) := by decide +kernel
theorem dX4_isAhead_7 : decode cX4_isAhead 7 = .ok (.getfield 25, 3) := by decide +kernel
theorem dX4_isAhead_10 : decode cX4_isAhead 10 = .ok (.iload_n 2, 1) := by decide +kernel
theorem dX4_isAhead_11 : decode cX4_isAhead 11 = .ok (.iaload, 1) := by decide +kernel
theorem dX4_isAhead_12 : decode cX4_isAhead 12 = .ok (.if_icmp .eq 24, 3) := by decide +kernel
theorem dX4_isAhead_15 : decode cX4_isAhead 15 = .ok (.aload_n 0, 1) := by decide +kernel
theorem dX4_isAhead_16 : decode cX4_isAhead 16 = .ok (.getfield 25, 3) := by decide +kernel
theorem dX4_isAhead_19 : decode cX4_isAhead 19 = .ok (.iload_n 1, 1) := by decide +kernel
theorem dX4_isAhead_20 : decode cX4_isAhead 20 = .ok (.iaload, 1) := by decide +kernel
theorem dX4_isAhead_21 : decode cX4_isAhead 21 = .ok (.aload_n 0, 1) := by decide +kernel
theorem dX4_isAhead_22 : decode cX4_isAhead 22 = .ok (.getfield 25, 3) := by decide +kernel
theorem dX4_isAhead_25 : decode cX4_isAhead 25 = .ok (.iload_n 2, 1) := by decide +kernel
theorem dX4_isAhead_26 : decode cX4_isAhead 26 = .ok (.iaload, 1) := by decide +kernel
theorem dX4_isAhead_27 : decode cX4_isAhead 27 = .ok (.if_icmp .le 7, 3) := by decide +kernel
theorem dX4_isAhead_30 : decode cX4_isAhead 30 = .ok (.iconst 1, 1) := by decide +kernel
theorem dX4_isAhead_31 : decode cX4_isAhead 31 = .ok (.goto 4, 3) := by decide +kernel
theorem dX4_isAhead_34 : decode cX4_isAhead 34 = .ok (.iconst 0, 1) := by decide +kernel
theorem dX4_isAhead_35 : decode cX4_isAhead 35 = .ok (.ireturn, 1) := by decide +kernel
theorem dX4_isAhead_36 : decode cX4_isAhead 36 = .ok (.aload_n 0, 1) := by decide +kernel
theorem dX4_isAhead_37 : decode cX4_isAhead 37 = .ok (.getfield 22, 3) := by decide +kernel
theorem dX4_isAhead_40 : decode cX4_isAhead 40 = .ok (.iload_n 1, 1) := by decide +kernel
theorem dX4_isAhead_41 : decode cX4_isAhead 41 = .ok (.iaload, 1) := by decide +kernel
theorem dX4_isAhead_42 : decode cX4_isAhead 42 = .ok (.aload_n 0, 1) := by decide +kernel
theorem dX4_isAhead_43 : decode cX4_isAhead 43 = .ok (.getfield 22, 3) := by decide +kernel
theorem dX4_isAhead_46 : decode cX4_isAhead 46 = .ok (.iload_n 2, 1) := by decide +kernel
theorem dX4_isAhead_47 : decode cX4_isAhead 47 = .ok (.iaload, 1) := by decide +kernel
theorem dX4_isAhead_48 : decode cX4_isAhead 48 = .ok (.if_icmp .eq 26, 3) := by decide +kernel
theorem dX4_isAhead_51 : decode cX4_isAhead 51 = .ok (.aload_n 0, 1) := by decide +kernel
theorem dX4_isAhead_52 : decode cX4_isAhead 52 = .ok (.getfield 22, 3) := by decide +kernel
theorem dX4_isAhead_55 : decode cX4_isAhead 55 = .ok (.iload_n 1, 1) := by decide +kernel
theorem dX4_isAhead_56 : decode cX4_isAhead 56 = .ok (.iaload, 1) := by decide +kernel
theorem dX4_isAhead_57 : decode cX4_isAhead 57 = .ok (.aload_n 0, 1) := by decide +kernel
theorem dX4_isAhead_58 : decode cX4_isAhead 58 = .ok (.getfield 22, 3) := by decide +kernel
theorem dX4_isAhead_61 : decode cX4_isAhead 61 = .ok (.iload_n 2, 1) := by decide +kernel
theorem dX4_isAhead_62 : decode cX4_isAhead 62 = .ok (.iaload, 1) := by decide +kernel
theorem dX4_isAhead_63 : decode cX4_isAhead 63 = .ok (.if_icmp .ge 7, 3) := by decide +kernel
theorem dX4_isAhead_66 : decode cX4_isAhead 66 = .ok (.iconst 1, 1) := by decide +kernel
theorem dX4_isAhead_67 : decode cX4_isAhead 67 = .ok (.goto 17, 3) := by decide +kernel
theorem dX4_isAhead_70 : decode cX4_isAhead 70 = .ok (.iconst 0, 1) := by decide +kernel
theorem dX4_isAhead_71 : decode cX4_isAhead 71 = .ok (.goto 13, 3) := by decide +kernel
theorem dX4_isAhead_74 : decode cX4_isAhead 74 = .ok (.iload_n 1, 1) := by decide +kernel
theorem dX4_isAhead_75 : decode cX4_isAhead 75 = .ok (.iload_n 2, 1) := by decide +kernel
theorem dX4_isAhead_76 : decode cX4_isAhead 76 = .ok (.if_icmp .ge 7, 3) := by decide +kernel
theorem dX4_isAhead_79 : decode cX4_isAhead 79 = .ok (.iconst 1, 1) := by decide +kernel
theorem dX4_isAhead_80 : decode cX4_isAhead 80 = .ok (.goto 4, 3) := by decide +kernel
theorem dX4_isAhead_83 : decode cX4_isAhead 83 = .ok (.iconst 0, 1) := by decide +kernel
theorem dX4_isAhead_84 : decode cX4_isAhead 84 = .ok (.ireturn, 1) := by decide +kernel
set_option maxRecDepth 20000 in
theorem ggX4_sort_X4_isAhead : GoodIn wsX4_sort wsX4_isAhead := goodIn_r _ [8, 9, 10, 11, 12, 13, 14, 15, 16, 17, 18, 19, 20, 21, 22, 23] (by decide +kernel) (by decide +kernel)
set_option maxRecDepth 20000 in
theorem gX4_sort_X4_isAhead : GoodIn wsX4_sort (wsV RX4 69 RX4 yX4_isAhead wsX4_isAhead) := goodIn_app (goodIn_of _ (by decide +kernel)) ggX4_sort_X4_isAhead
theorem dX4_sort_0 : decode cX4_sort 0 = .ok (.iconst 0, 1) := by decide +kernel
theorem dX4_sort_1 : decode cX4_sort 1 = .ok (.istore_n 1, 1) := by decide +kernel
theorem dX4_sort_2 : decode cX4_sort 2 = .ok (.iconst 0, 1) := by decide +kernel
theorem dX4_sort_3 : decode cX4_sort 3 = .ok (.istore_n 2, 1) := by decide +kernel
theorem dX4_sort_4 : decode cX4_sort 4 = .ok (.iload_n 2, 1) := by decide +kernel
theorem dX4_sort_5 : decode cX4_sort 5 = .ok (.aload_n 0, 1) := by decide +kernel
theorem dX4_sort_6 : decode cX4_sort 6 = .ok (.getfield 56, 3) := by decide +kernel
theorem dX4_sort_9 : decode cX4_sort 9 = .ok (.if_icmp .ge 73, 3) := by decide +kernel
theorem dX4_sort_12 : decode cX4_sort 12 = .ok (.aload_n 0, 1) := by decide +kernel
theorem dX4_sort_13 : decode cX4_sort 13 = .ok (.getfield 37, 3) := by decide +kernel
theorem dX4_sort_16 : decode cX4_sort 16 = .ok (.iload_n 2, 1) := by decide +kernel
theorem dX4_sort_17 : decode cX4_sort 17 = .ok (.iaload, 1) := by decide +kernel
theorem dX4_sort_18 : decode cX4_sort 18 = .ok (.ifCond .eq 6, 3) := by decide +kernel
theorem dX4_sort_21 : decode cX4_sort 21 = .ok (.goto 55, 3) := by decide +kernel
theorem dX4_sort_24 : decode cX4_sort 24 = .ok (.iload_n 1, 1) := by decide +kernel
theorem dX4_sort_25 : decode cX4_sort 25 = .ok (.istore_n 3, 1) := by decide +kernel
theorem dX4_sort_26 : decode cX4_sort 26 = .ok (.iload_n 3, 1) := by decide +kernel
theorem dX4_sort_27 : decode cX4_sort 27 = .ok (.ifCond .le 39, 3) := by decide +kernel
theorem dX4_sort_30 : decode cX4_sort 30 = .ok (.aload_n 0, 1) := by decide +kernel
theorem dX4_sort_31 : decode cX4_sort 31 = .ok (.iload_n 2, 1) := by decide +kernel
theorem dX4_sort_32 : decode cX4_sort 32 = .ok (.aload_n 0, 1) := by decide +kernel
theorem dX4_sort_33 : decode cX4_sort 33 = .ok (.getfield 43, 3) := by decide +kernel
theorem dX4_sort_36 : decode cX4_sort 36 = .ok (.iload_n 3, 1) := by decide +kernel
theorem dX4_sort_37 : decode cX4_sort 37 = .ok (.iconst 1, 1) := by decide +kernel
theorem dX4_sort_38 : decode cX4_sort 38 = .ok (.isub, 1) := by decide +kernel
theorem dX4_sort_39 : decode cX4_sort 39 = .ok (.iaload, 1) := by decide +kernel
theorem dX4_sort_40 : decode cX4_sort 40 = .ok (.invokevirtual 69, 3) := by decide +kernel
theorem dX4_sort_43 : decode cX4_sort 43 = .ok (.ifCond .eq 23, 3) := by decide +kernel
theorem dX4_sort_46 : decode cX4_sort 46 = .ok (.aload_n 0, 1) := by decide +kernel
theorem dX4_sort_47 : decode cX4_sort 47 = .ok (.getfield 43, 3) := by decide +kernel
theorem dX4_sort_50 : decode cX4_sort 50 = .ok (.iload_n 3, 1) := by decide +kernel
theorem dX4_sort_51 : decode cX4_sort 51 = .ok (.aload_n 0, 1) := by decide +kernel
theorem dX4_sort_52 : decode cX4_sort 52 = .ok (.getfield 43, 3) := by decide +kernel
theorem dX4_sort_55 : decode cX4_sort 55 = .ok (.iload_n 3, 1) := by decide +kernel
theorem dX4_sort_56 : decode cX4_sort 56 = .ok (.iconst 1, 1) := by decide +kernel
theorem dX4_sort_57 : decode cX4_sort 57 = .ok (.isub, 1) := by decide +kernel
theorem dX4_sort_58 : decode cX4_sort 58 = .ok (.iaload, 1) := by decide +kernel
theorem dX4_sort_59 : decode cX4_sort 59 = .ok (.iastore, 1) := by decide +kernel
theorem dX4_sort_60 : decode cX4_sort 60 = .ok (.iinc 3 (-1), 3) := by decide +kernel
theorem dX4_sort_63 : decode cX4_sort 63 = .ok (.goto (-37), 3) := by decide +kernel
theorem dX4_sort_66 : decode cX4_sort 66 = .ok (.aload_n 0, 1) := by decide +kernel
theorem dX4_sort_67 : decode cX4_sort 67 = .ok (.getfield 43, 3) := by decide +kernel
theorem dX4_sort_70 : decode cX4_sort 70 = .ok (.iload_n 3, 1) := by decide +kernel
theorem dX4_sort_71 : decode cX4_sort 71 = .ok (.iload_n 2, 1) := by decide +kernel
theorem dX4_sort_72 : decode cX4_sort 72 = .ok (.iastore, 1) := by decide +kernel
theorem dX4_sort_73 : decode cX4_sort 73 = .ok (.iinc 1 1, 3) := by decide +kernel
theorem dX4_sort_76 : decode cX4_sort 76 = .ok (.iinc 2 1, 3) := by decide +kernel
theorem dX4_sort_79 : decode cX4_sort 79 = .ok (.goto (-75), 3) := by decide +kernel
theorem dX4_sort_82 : decode cX4_sort 82 = .ok (.iload_n 1, 1) := by decide +kernel
theorem dX4_sort_83 : decode cX4_sort 83 = .ok (.ireturn, 1) := by decide +kernel
theorem dX4_isCaught_0 : decode cX4_isCaught 0 = .ok (.iconst 0, 1) := by decide +kernel
theorem dX4_isCaught_1 : decode cX4_isCaught 1 = .ok (.istore_n 2, 1) := by decide +kernel
theorem dX4_isCaught_2 : decode cX4_isCaught 2 = .ok (.iload_n 2, 1) := by decide +kernel
theorem dX4_isCaught_3 : decode cX4_isCaught 3 = .ok (.aload_n 0, 1) := by decide +kernel
theorem dX4_isCaught_4 : decode cX4_isCaught 4 = .ok (.getfield 56, 3) := by decide +kernel
theorem dX4_isCaught_7 : decode cX4_isCaught 7 = .ok (.if_icmp .ge 67, 3) := by decide +kernel
theorem dX4_isCaught_10 : decode cX4_isCaught 10 = .ok (.aload_n 0, 1) := by decide +kernel
theorem dX4_isCaught_11 : decode cX4_isCaught 11 = .ok (.getfield 37, 3) := by decide +kernel
theorem dX4_isCaught_14 : decode cX4_isCaught 14 = .ok (.iload_n 2, 1) := by decide +kernel
theorem dX4_isCaught_15 : decode cX4_isCaught 15 = .ok (.iaload, 1) := by decide +kernel
theorem dX4_isCaught_16 : decode cX4_isCaught 16 = .ok (.ifCond .ne 52, 3) := by decide +kernel
theorem dX4_isCaught_19 : decode cX4_isCaught 19 = .ok (.aload_n 0, 1) := by decide +kernel
theorem dX4_isCaught_20 : decode cX4_isCaught 20 = .ok (.getfield 22, 3) := by decide +kernel
theorem dX4_isCaught_23 : decode cX4_isCaught 23 = .ok (.iload_n 2, 1) := by decide +kernel
theorem dX4_isCaught_24 : decode cX4_isCaught 24 = .ok (.iaload, 1) := by decide +kernel
theorem dX4_isCaught_25 : decode cX4_isCaught 25 = .ok (.aload_n 0, 1) := by decide +kernel
theorem dX4_isCaught_26 : decode cX4_isCaught 26 = .ok (.getfield 22, 3) := by decide +kernel
theorem dX4_isCaught_29 : decode cX4_isCaught 29 = .ok (.iload_n 1, 1) := by decide +kernel
theorem dX4_isCaught_30 : decode cX4_isCaught 30 = .ok (.iaload, 1) := by decide +kernel
theorem dX4_isCaught_31 : decode cX4_isCaught 31 = .ok (.if_icmp .ne 37, 3) := by decide +kernel
theorem dX4_isCaught_34 : decode cX4_isCaught 34 = .ok (.aload_n 0, 1) := by decide +kernel
theorem dX4_isCaught_35 : decode cX4_isCaught 35 = .ok (.getfield 25, 3) := by decide +kernel
theorem dX4_isCaught_38 : decode cX4_isCaught 38 = .ok (.iload_n 2, 1) := by decide +kernel
theorem dX4_isCaught_39 : decode cX4_isCaught 39 = .ok (.iaload, 1) := by decide +kernel
theorem dX4_isCaught_40 : decode cX4_isCaught 40 = .ok (.aload_n 0, 1) := by decide +kernel
theorem dX4_isCaught_41 : decode cX4_isCaught 41 = .ok (.getfield 25, 3) := by decide +kernel
theorem dX4_isCaught_44 : decode cX4_isCaught 44 = .ok (.iload_n 1, 1) := by decide +kernel
theorem dX4_isCaught_45 : decode cX4_isCaught 45 = .ok (.iaload, 1) := by decide +kernel
theorem dX4_isCaught_46 : decode cX4_isCaught 46 = .ok (.iconst 1, 1) := by decide +kernel
theorem dX4_isCaught_47 : decode cX4_isCaught 47 = .ok (.iadd, 1) := by decide +kernel
theorem dX4_isCaught_48 : decode cX4_isCaught 48 = .ok (.if_icmp .ne 20, 3) := by decide +kernel
theorem dX4_isCaught_51 : decode cX4_isCaught 51 = .ok (.aload_n 0, 1) := by decide +kernel
theorem dX4_isCaught_52 : decode cX4_isCaught 52 = .ok (.getfield 15, 3) := by decide +kernel
theorem dX4_isCaught_55 : decode cX4_isCaught 55 = .ok (.iload_n 2, 1) := by decide +kernel
theorem dX4_isCaught_56 : decode cX4_isCaught 56 = .ok (.iaload, 1) := by decide +kernel
theorem dX4_isCaught_57 : decode cX4_isCaught 57 = .ok (.aload_n 0, 1) := by decide +kernel
theorem dX4_isCaught_58 : decode cX4_isCaught 58 = .ok (.getfield 15, 3) := by decide +kernel
theorem dX4_isCaught_61 : decode cX4_isCaught 61 = .ok (.iload_n 1, 1) := by decide +kernel
theorem dX4_isCaught_62 : decode cX4_isCaught 62 = .ok (.iaload, 1) := by decide +kernel
theorem dX4_isCaught_63 : decode cX4_isCaught 63 = .ok (.if_icmp .eq 5, 3) := by decide +kernel
theorem dX4_isCaught_66 : decode cX4_isCaught 66 = .ok (.iconst 1, 1) := by decide +kernel
theorem dX4_isCaught_67 : decode cX4_isCaught 67 = .ok (.ireturn, 1) := by decide +kernel
theorem dX4_isCaught_68 : decode cX4_isCaught 68 = .ok (.iinc 2 1, 3) := by decide +kernel
theorem dX4_isCaught_71 : decode cX4_isCaught 71 = .ok (.goto (-69), 3) := by decide +kernel
theorem dX4_isCaught_74 : decode cX4_isCaught 74 = .ok (.iconst 0, 1) := by decide +kernel
theorem dX4_isCaught_75 : decode cX4_isCaught 75 = .ok (.ireturn, 1) := by decide +kernel
theorem dX4_end_0 : decode cX4_end 0 = .ok (.aload_n 0, 1) := by decide +kernel
theorem dX4_end_1 : decode cX4_end 1 = .ok (.getfield 37, 3) := by decide +kernel
theorem dX4_end_4 : decode cX4_end 4 = .ok (.iload_n 1, 1) := by decide +kernel
theorem dX4_end_5 : decode cX4_end 5 = .ok (.iload_n 2, 1) := by decide +kernel
theorem dX4_end_6 : decode cX4_end 6 = .ok (.iastore, 1) := by decide +kernel
theorem dX4_end_7 : decode cX4_end 7 = .ok (.aload_n 0, 1) := by decide +kernel
theorem dX4_end_8 : decode cX4_end 8 = .ok (.getfield 40, 3) := by decide +kernel
theorem dX4_end_11 : decode cX4_end 11 = .ok (.iload_n 1, 1) := by decide +kernel
theorem dX4_end_12 : decode cX4_end 12 = .ok (.aload_n 0, 1) := by decide +kernel
theorem dX4_end_13 : decode cX4_end 13 = .ok (.getfield 52, 3) := by decide +kernel
theorem dX4_end_16 : decode cX4_end 16 = .ok (.iastore, 1) := by decide +kernel
theorem dX4_end_17 : decode cX4_end 17 = .ok (.return_, 1) := by decide +kernel
set_option maxRecDepth 20000 in
theorem ggX4_drift_X4_isCaught : GoodIn wsX4_drift wsX4_isCaught := goodIn_r _ [10, 11, 3, 2, 4, 12, 36, 37, 38, 39, 40, 41, 42, 43, 44, 45, 46, 47, 48] (by decide +kernel) (by decide +kernel)
set_option maxRecDepth 20000 in
theorem gX4_drift_X4_isCaught : GoodIn wsX4_drift (wsV RX4 76 RX4 yX4_isCaught wsX4_isCaught) := goodIn_app (goodIn_of _ (by decide +kernel)) ggX4_drift_X4_isCaught
set_option maxRecDepth 20000 in
theorem ggX4_drift_X4_end : GoodIn wsX4_drift wsX4_end := goodIn_r _ [16, 3, 17, 18, 36, 37, 38, 39, 40, 41, 42, 43, 44, 45, 46, 47, 48] (by decide +kernel) (by decide +kernel)
set_option maxRecDepth 20000 in
theorem gX4_drift_X4_end : GoodIn wsX4_drift (wsV RX4 80 RX4 yX4_end wsX4_end) := goodIn_app (goodIn_of _ (by decide +kernel)) ggX4_drift_X4_end
set_option maxRecDepth 20000 in
theorem ggX4_drift_X4_pass : GoodIn wsX4_drift wsX4_pass := goodIn_r _ [22, 1, 4, 2, 23, 24, 25, 26, 27, 5, 28, 29, 30, 9, 31, 11, 3, 32, 33, 34, 35, 12, 13, 14, 15, 16, 17, 18, 36, 37, 38, 39, 40, 41, 42, 43, 44, 45, 46, 47, 48, 49, 50, 51, 52, 53, 54, 55, 56] (by decide +kernel) (by decide +kernel)
set_option maxRecDepth 20000 in
theorem gX4_drift_X4_pass : GoodIn wsX4_drift (wsV RX4 84 RX4 yX4_pass wsX4_pass) := goodIn_app (goodIn_of _ (by decide +kernel)) ggX4_drift_X4_pass
theorem dX4_drift_0 : decode cX4_drift 0 = .ok (.aload_n 0, 1) := by decide +kernel
theorem dX4_drift_1 : decode cX4_drift 1 = .ok (.getfield 3, 3) := by decide +kernel
theorem dX4_drift_4 : decode cX4_drift 4 = .ok (.getfield 73, 3) := by decide +kernel
theorem dX4_drift_7 : decode cX4_drift 7 = .ok (.aload_n 0, 1) := by decide +kernel
theorem dX4_drift_8 : decode cX4_drift 8 = .ok (.getfield 22, 3) := by decide +kernel
theorem dX4_drift_11 : decode cX4_drift 11 = .ok (.iload_n 1, 1) := by decide +kernel
theorem dX4_drift_12 : decode cX4_drift 12 = .ok (.iaload, 1) := by decide +kernel
theorem dX4_drift_13 : decode cX4_drift 13 = .ok (.iaload, 1) := by decide +kernel
theorem dX4_drift_14 : decode cX4_drift 14 = .ok (.istore_n 2, 1) := by decide +kernel
theorem dX4_drift_15 : decode cX4_drift 15 = .ok (.iload_n 2, 1) := by decide +kernel
theorem dX4_drift_16 : decode cX4_drift 16 = .ok (.ifCond .le 69, 3) := by decide +kernel
theorem dX4_drift_19 : decode cX4_drift 19 = .ok (.aload_n 0, 1) := by decide +kernel
theorem dX4_drift_20 : decode cX4_drift 20 = .ok (.getfield 37, 3) := by decide +kernel
theorem dX4_drift_23 : decode cX4_drift 23 = .ok (.iload_n 1, 1) := by decide +kernel
theorem dX4_drift_24 : decode cX4_drift 24 = .ok (.iaload, 1) := by decide +kernel
theorem dX4_drift_25 : decode cX4_drift 25 = .ok (.ifCond .ne 60, 3) := by decide +kernel
theorem dX4_drift_28 : decode cX4_drift 28 = .ok (.aload_n 0, 1) := by decide +kernel
theorem dX4_drift_29 : decode cX4_drift 29 = .ok (.iload_n 1, 1) := by decide +kernel
theorem dX4_drift_30 : decode cX4_drift 30 = .ok (.invokevirtual 76, 3) := by decide +kernel
theorem dX4_drift_33 : decode cX4_drift 33 = .ok (.ifCond .eq 4, 3) := by decide +kernel
theorem dX4_drift_36 : decode cX4_drift 36 = .ok (.return_, 1) := by decide +kernel
theorem dX4_drift_37 : decode cX4_drift 37 = .ok (.aload_n 0, 1) := by decide +kernel
theorem dX4_drift_38 : decode cX4_drift 38 = .ok (.getfield 25, 3) := by decide +kernel
theorem dX4_drift_41 : decode cX4_drift 41 = .ok (.iload_n 1, 1) := by decide +kernel
theorem dX4_drift_42 : decode cX4_drift 42 = .ok (.dup2, 1) := by decide +kernel
theorem dX4_drift_43 : decode cX4_drift 43 = .ok (.iaload, 1) := by decide +kernel
theorem dX4_drift_44 : decode cX4_drift 44 = .ok (.iconst 1, 1) := by decide +kernel
theorem dX4_drift_45 : decode cX4_drift 45 = .ok (.iadd, 1) := by decide +kernel
theorem dX4_drift_46 : decode cX4_drift 46 = .ok (.iastore, 1) := by decide +kernel
theorem dX4_drift_47 : decode cX4_drift 47 = .ok (.aload_n 0, 1) := by decide +kernel
theorem dX4_drift_48 : decode cX4_drift 48 = .ok (.getfield 25, 3) := by decide +kernel
theorem dX4_drift_51 : decode cX4_drift 51 = .ok (.iload_n 1, 1) := by decide +kernel
theorem dX4_drift_52 : decode cX4_drift 52 = .ok (.iaload, 1) := by decide +kernel
theorem dX4_drift_53 : decode cX4_drift 53 = .ok (.bipush 60, 2) := by decide +kernel
theorem dX4_drift_55 : decode cX4_drift 55 = .ok (.if_icmp .ne 19, 3) := by decide +kernel
theorem dX4_drift_58 : decode cX4_drift 58 = .ok (.aload_n 0, 1) := by decide +kernel
theorem dX4_drift_59 : decode cX4_drift 59 = .ok (.iload_n 1, 1) := by decide +kernel
theorem dX4_drift_60 : decode cX4_drift 60 = .ok (.iconst 2, 1) := by decide +kernel
theorem dX4_drift_61 : decode cX4_drift 61 = .ok (.invokevirtual 80, 3) := by decide +kernel
theorem dX4_drift_64 : decode cX4_drift 64 = .ok (.aload_n 0, 1) := by decide +kernel
theorem dX4_drift_65 : decode cX4_drift 65 = .ok (.getfield 34, 3) := by decide +kernel
theorem dX4_drift_68 : decode cX4_drift 68 = .ok (.iload_n 1, 1) := by decide +kernel
theorem dX4_drift_69 : decode cX4_drift 69 = .ok (.iconst 0, 1) := by decide +kernel
theorem dX4_drift_70 : decode cX4_drift 70 = .ok (.iastore, 1) := by decide +kernel
theorem dX4_drift_71 : decode cX4_drift 71 = .ok (.goto 8, 3) := by decide +kernel
theorem dX4_drift_74 : decode cX4_drift 74 = .ok (.aload_n 0, 1) := by decide +kernel
theorem dX4_drift_75 : decode cX4_drift 75 = .ok (.iload_n 1, 1) := by decide +kernel
theorem dX4_drift_76 : decode cX4_drift 76 = .ok (.invokevirtual 84, 3) := by decide +kernel
theorem dX4_drift_79 : decode cX4_drift 79 = .ok (.iinc 2 (-1), 3) := by decide +kernel
theorem dX4_drift_82 : decode cX4_drift 82 = .ok (.goto (-67), 3) := by decide +kernel
theorem dX4_drift_85 : decode cX4_drift 85 = .ok (.return_, 1) := by decide +kernel
set_option maxRecDepth 20000 in
theorem ggX4_pass_X4_at : GoodIn wsX4_pass wsX4_at := goodIn_r _ [14, 15, 16, 3, 2, 28, 29, 30, 31, 32, 33, 34, 35, 36, 37, 38, 39, 40] (by decide +kernel) (by decide +kernel)
set_option maxRecDepth 20000 in
theorem gX4_pass_X4_at : GoodIn wsX4_pass (wsV RX4 91 RX4 yX4_at wsX4_at) := goodIn_app (goodIn_of _ (by decide +kernel)) ggX4_pass_X4_at
set_option maxRecDepth 20000 in
theorem ggX4_pass_X4_isSoaked : GoodIn wsX4_pass wsX4_isSoaked := goodIn_r _ [20, 4, 21, 28, 29, 30, 31, 32, 33, 34, 35, 36, 37, 38, 39, 40] (by decide +kernel) (by decide +kernel)
set_option maxRecDepth 20000 in
theorem gX4_pass_X4_isSoaked : GoodIn wsX4_pass (wsV RX4 101 RX4 yX4_isSoaked wsX4_isSoaked) := goodIn_app (goodIn_of _ (by decide +kernel)) ggX4_pass_X4_isSoaked
set_option maxRecDepth 20000 in
theorem ggX4_pass_X4_end : GoodIn wsX4_pass wsX4_end := goodIn_r _ [25, 16, 26, 27, 28, 29, 30, 31, 32, 33, 34, 35, 36, 37, 38, 39, 40] (by decide +kernel) (by decide +kernel)
set_option maxRecDepth 20000 in
theorem gX4_pass_X4_end : GoodIn wsX4_pass (wsV RX4 80 RX4 yX4_end wsX4_end) := goodIn_app (goodIn_of _ (by decide +kernel)) ggX4_pass_X4_end
theorem dX4_pass_0 : decode cX4_pass 0 = .ok (.aload_n 0, 1) := by decide +kernel
theorem dX4_pass_1 : decode cX4_pass 1 = .ok (.getfield 3, 3) := by decide +kernel
theorem dX4_pass_4 : decode cX4_pass 4 = .ok (.getfield 88, 3) := by decide +kernel
theorem dX4_pass_7 : decode cX4_pass 7 = .ok (.aload_n 0, 1) := by decide +kernel
theorem dX4_pass_8 : decode cX4_pass 8 = .ok (.getfield 25, 3) := by decide +kernel
theorem dX4_pass_11 : decode cX4_pass 11 = .ok (.iload_n 1, 1) := by decide +kernel
theorem dX4_pass_12 : decode cX4_pass 12 = .ok (.iaload, 1) := by decide +kernel
theorem dX4_pass_13 : decode cX4_pass 13 = .ok (.iaload, 1) := by decide +kernel
theorem dX4_pass_14 : decode cX4_pass 14 = .ok (.ifCond .le 84, 3) := by decide +kernel
theorem dX4_pass_17 : decode cX4_pass 17 = .ok (.iconst 0, 1) := by decide +kernel
theorem dX4_pass_18 : decode cX4_pass 18 = .ok (.istore_n 2, 1) := by decide +kernel
theorem dX4_pass_19 : decode cX4_pass 19 = .ok (.iconst 1, 1) := by decide +kernel
theorem dX4_pass_20 : decode cX4_pass 20 = .ok (.istore_n 3, 1) := by decide +kernel
theorem dX4_pass_21 : decode cX4_pass 21 = .ok (.iload_n 3, 1) := by decide +kernel
theorem dX4_pass_22 : decode cX4_pass 22 = .ok (.iconst 3, 1) := by decide +kernel
theorem dX4_pass_23 : decode cX4_pass 23 = .ok (.if_icmp .gt 31, 3) := by decide +kernel
theorem dX4_pass_26 : decode cX4_pass 26 = .ok (.iload_n 2, 1) := by decide +kernel
theorem dX4_pass_27 : decode cX4_pass 27 = .ok (.aload_n 0, 1) := by decide +kernel
theorem dX4_pass_28 : decode cX4_pass 28 = .ok (.aload_n 0, 1) := by decide +kernel
theorem dX4_pass_29 : decode cX4_pass 29 = .ok (.getfield 22, 3) := by decide +kernel
theorem dX4_pass_32 : decode cX4_pass 32 = .ok (.iload_n 1, 1) := by decide +kernel
theorem dX4_pass_33 : decode cX4_pass 33 = .ok (.iaload, 1) := by decide +kernel
theorem dX4_pass_34 : decode cX4_pass 34 = .ok (.aload_n 0, 1) := by decide +kernel
theorem dX4_pass_35 : decode cX4_pass 35 = .ok (.getfield 25, 3) := by decide +kernel
theorem dX4_pass_38 : decode cX4_pass 38 = .ok (.iload_n 1, 1) := by decide +kernel
theorem dX4_pass_39 : decode cX4_pass 39 = .ok (.iaload, 1) := by decide +kernel
theorem dX4_pass_40 : decode cX4_pass 40 = .ok (.iload_n 3, 1) := by decide +kernel
theorem dX4_pass_41 : decode cX4_pass 41 = .ok (.iadd, 1) := by decide +kernel
theorem dX4_pass_42 : decode cX4_pass 42 = .ok (.iconst 0, 1) := by decide +kernel
theorem dX4_pass_43 : decode cX4_pass 43 = .ok (.invokevirtual 91, 3) := by decide +kernel
theorem dX4_pass_46 : decode cX4_pass 46 = .ok (.iadd, 1) := by decide +kernel
theorem dX4_pass_47 : decode cX4_pass 47 = .ok (.istore_n 2, 1) := by decide +kernel
theorem dX4_pass_48 : decode cX4_pass 48 = .ok (.iinc 3 1, 3) := by decide +kernel
theorem dX4_pass_51 : decode cX4_pass 51 = .ok (.goto (-30), 3) := by decide +kernel
theorem dX4_pass_54 : decode cX4_pass 54 = .ok (.aload_n 0, 1) := by decide +kernel
theorem dX4_pass_55 : decode cX4_pass 55 = .ok (.getfield 31, 3) := by decide +kernel
theorem dX4_pass_58 : decode cX4_pass 58 = .ok (.iload_n 1, 1) := by decide +kernel
theorem dX4_pass_59 : decode cX4_pass 59 = .ok (.dup2, 1) := by decide +kernel
theorem dX4_pass_60 : decode cX4_pass 60 = .ok (.iaload, 1) := by decide +kernel
theorem dX4_pass_61 : decode cX4_pass 61 = .ok (.iconst 1, 1) := by decide +kernel
theorem dX4_pass_62 : decode cX4_pass 62 = .ok (.aload_n 0, 1) := by decide +kernel
theorem dX4_pass_63 : decode cX4_pass 63 = .ok (.getfield 3, 3) := by decide +kernel
theorem dX4_pass_66 : decode cX4_pass 66 = .ok (.getfield 88, 3) := by decide +kernel
theorem dX4_pass_69 : decode cX4_pass 69 = .ok (.aload_n 0, 1) := by decide +kernel
theorem dX4_pass_70 : decode cX4_pass 70 = .ok (.getfield 25, 3) := by decide +kernel
theorem dX4_pass_73 : decode cX4_pass 73 = .ok (.iload_n 1, 1) := by decide +kernel
theorem dX4_pass_74 : decode cX4_pass 74 = .ok (.iaload, 1) := by decide +kernel
theorem dX4_pass_75 : decode cX4_pass 75 = .ok (.iaload, 1) := by decide +kernel
theorem dX4_pass_76 : decode cX4_pass 76 = .ok (.iload_n 2, 1) := by decide +kernel
theorem dX4_pass_77 : decode cX4_pass 77 = .ok (.isub, 1) := by decide +kernel
theorem dX4_pass_78 : decode cX4_pass 78 = .ok (.invokestatic 95, 3) := by decide +kernel
theorem dX4_pass_81 : decode cX4_pass 81 = .ok (.iadd, 1) := by decide +kernel
theorem dX4_pass_82 : decode cX4_pass 82 = .ok (.iastore, 1) := by decide +kernel
theorem dX4_pass_83 : decode cX4_pass 83 = .ok (.aload_n 0, 1) := by decide +kernel
theorem dX4_pass_84 : decode cX4_pass 84 = .ok (.iload_n 1, 1) := by decide +kernel
theorem dX4_pass_85 : decode cX4_pass 85 = .ok (.invokevirtual 101, 3) := by decide +kernel
theorem dX4_pass_88 : decode cX4_pass 88 = .ok (.ifCond .eq 10, 3) := by decide +kernel
theorem dX4_pass_91 : decode cX4_pass 91 = .ok (.aload_n 0, 1) := by decide +kernel
theorem dX4_pass_92 : decode cX4_pass 92 = .ok (.getfield 34, 3) := by decide +kernel
theorem dX4_pass_95 : decode cX4_pass 95 = .ok (.iload_n 1, 1) := by decide +kernel
theorem dX4_pass_96 : decode cX4_pass 96 = .ok (.iconst 0, 1) := by decide +kernel
theorem dX4_pass_97 : decode cX4_pass 97 = .ok (.iastore, 1) := by decide +kernel
theorem dX4_pass_98 : decode cX4_pass 98 = .ok (.aload_n 0, 1) := by decide +kernel
theorem dX4_pass_99 : decode cX4_pass 99 = .ok (.getfield 3, 3) := by decide +kernel
theorem dX4_pass_102 : decode cX4_pass 102 = .ok (.getfield 104, 3) := by decide +kernel
theorem dX4_pass_105 : decode cX4_pass 105 = .ok (.bipush 60, 2) := by decide +kernel
theorem dX4_pass_107 : decode cX4_pass 107 = .ok (.aload_n 0, 1) := by decide +kernel
theorem dX4_pass_108 : decode cX4_pass 108 = .ok (.getfield 22, 3) := by decide +kernel
theorem dX4_pass_111 : decode cX4_pass 111 = .ok (.iload_n 1, 1) := by decide +kernel
theorem dX4_pass_112 : decode cX4_pass 112 = .ok (.iaload, 1) := by decide +kernel
theorem dX4_pass_113 : decode cX4_pass 113 = .ok (.imul, 1) := by decide +kernel
theorem dX4_pass_114 : decode cX4_pass 114 = .ok (.aload_n 0, 1) := by decide +kernel
theorem dX4_pass_115 : decode cX4_pass 115 = .ok (.getfield 25, 3) := by decide +kernel
theorem dX4_pass_118 : decode cX4_pass 118 = .ok (.iload_n 1, 1) := by decide +kernel
theorem dX4_pass_119 : decode cX4_pass 119 = .ok (.iaload, 1) := by decide +kernel
theorem dX4_pass_120 : decode cX4_pass 120 = .ok (.iadd, 1) := by decide +kernel
theorem dX4_pass_121 : decode cX4_pass 121 = .ok (.iaload, 1) := by decide +kernel
theorem dX4_pass_122 : decode cX4_pass 122 = .ok (.iconst 1, 1) := by decide +kernel
theorem dX4_pass_123 : decode cX4_pass 123 = .ok (.if_icmp .ne 9, 3) := by decide +kernel
theorem dX4_pass_126 : decode cX4_pass 126 = .ok (.aload_n 0, 1) := by decide +kernel
theorem dX4_pass_127 : decode cX4_pass 127 = .ok (.iload_n 1, 1) := by decide +kernel
theorem dX4_pass_128 : decode cX4_pass 128 = .ok (.iconst 1, 1) := by decide +kernel
theorem dX4_pass_129 : decode cX4_pass 129 = .ok (.invokevirtual 80, 3) := by decide +kernel
theorem dX4_pass_132 : decode cX4_pass 132 = .ok (.return_, 1) := by decide +kernel
set_option maxRecDepth 20000 in
theorem ggX4_pass__X4_sort : GoodIn wsX4_pass_ wsX4_sort := goodIn_r _ [11, 2, 3, 1, 12, 13, 14, 10, 15, 16, 17, 50, 51, 52, 53, 54, 55, 56, 57, 58, 59, 60, 61, 62] (by decide +kernel) (by decide +kernel)
set_option maxRecDepth 20000 in
theorem gX4_pass__X4_sort : GoodIn wsX4_pass_ (wsV RX4 107 RX4 yX4_sort wsX4_sort) := goodIn_app (goodIn_of _ (by decide +kernel)) ggX4_pass__X4_sort
set_option maxRecDepth 20000 in
theorem ggX4_pass__X4_drift : GoodIn wsX4_pass_ wsX4_drift := goodIn_r _ [21, 22, 17, 3, 16, 4, 23, 24, 25, 10, 26, 2, 27, 28, 29, 30, 31, 32, 6, 33, 34, 35, 36, 37, 38, 39, 40, 41, 42, 43, 44, 45, 46, 47, 48, 49, 50, 51, 52, 53, 54, 55, 56, 57, 58, 59, 60, 61, 62, 63, 64, 65, 66, 67, 68, 69, 70] (by decide +kernel) (by decide +kernel)
set_option maxRecDepth 20000 in
theorem gX4_pass__X4_drift : GoodIn wsX4_pass_ (wsV RX4 111 RX4 yX4_drift wsX4_drift) := goodIn_app (goodIn_of _ (by decide +kernel)) ggX4_pass__X4_drift
theorem dX4_pass__0 : decode cX4_pass_ 0 = .ok (.aload_n 0, 1) := by decide +kernel
theorem dX4_pass__1 : decode cX4_pass_ 1 = .ok (.invokevirtual 107, 3) := by decide +kernel
theorem dX4_pass__4 : decode cX4_pass_ 4 = .ok (.istore_n 1, 1) := by decide +kernel
theorem dX4_pass__5 : decode cX4_pass_ 5 = .ok (.iconst 0, 1) := by decide +kernel
theorem dX4_pass__6 : decode cX4_pass_ 6 = .ok (.istore_n 2, 1) := by decide +kernel
theorem dX4_pass__7 : decode cX4_pass_ 7 = .ok (.iload_n 2, 1) := by decide +kernel
theorem dX4_pass__8 : decode cX4_pass_ 8 = .ok (.iload_n 1, 1) := by decide +kernel
theorem dX4_pass__9 : decode cX4_pass_ 9 = .ok (.if_icmp .ge 19, 3) := by decide +kernel
theorem dX4_pass__12 : decode cX4_pass_ 12 = .ok (.aload_n 0, 1) := by decide +kernel
theorem dX4_pass__13 : decode cX4_pass_ 13 = .ok (.aload_n 0, 1) := by decide +kernel
theorem dX4_pass__14 : decode cX4_pass_ 14 = .ok (.getfield 43, 3) := by decide +kernel
theorem dX4_pass__17 : decode cX4_pass_ 17 = .ok (.iload_n 2, 1) := by decide +kernel
theorem dX4_pass__18 : decode cX4_pass_ 18 = .ok (.iaload, 1) := by decide +kernel
theorem dX4_pass__19 : decode cX4_pass_ 19 = .ok (.invokevirtual 111, 3) := by decide +kernel
theorem dX4_pass__22 : decode cX4_pass_ 22 = .ok (.iinc 2 1, 3) := by decide +kernel
theorem dX4_pass__25 : decode cX4_pass_ 25 = .ok (.goto (-18), 3) := by decide +kernel
theorem dX4_pass__28 : decode cX4_pass_ 28 = .ok (.iconst 0, 1) := by decide +kernel
theorem dX4_pass__29 : decode cX4_pass_ 29 = .ok (.istore_n 2, 1) := by decide +kernel
theorem dX4_pass__30 : decode cX4_pass_ 30 = .ok (.iload_n 2, 1) := by decide +kernel
theorem dX4_pass__31 : decode cX4_pass_ 31 = .ok (.aload_n 0, 1) := by decide +kernel
theorem dX4_pass__32 : decode cX4_pass_ 32 = .ok (.getfield 56, 3) := by decide +kernel
theorem dX4_pass__35 : decode cX4_pass_ 35 = .ok (.if_icmp .ge 56, 3) := by decide +kernel
theorem dX4_pass__38 : decode cX4_pass_ 38 = .ok (.aload_n 0, 1) := by decide +kernel
theorem dX4_pass__39 : decode cX4_pass_ 39 = .ok (.getfield 37, 3) := by decide +kernel
theorem dX4_pass__42 : decode cX4_pass_ 42 = .ok (.iload_n 2, 1) := by decide +kernel
theorem dX4_pass__43 : decode cX4_pass_ 43 = .ok (.iaload, 1) := by decide +kernel
theorem dX4_pass__44 : decode cX4_pass_ 44 = .ok (.ifCond .ne 41, 3) := by decide +kernel
theorem dX4_pass__47 : decode cX4_pass_ 47 = .ok (.aload_n 0, 1) := by decide +kernel
theorem dX4_pass__48 : decode cX4_pass_ 48 = .ok (.getfield 34, 3) := by decide +kernel
theorem dX4_pass__51 : decode cX4_pass_ 51 = .ok (.iload_n 2, 1) := by decide +kernel
theorem dX4_pass__52 : decode cX4_pass_ 52 = .ok (.iaload, 1) := by decide +kernel
theorem dX4_pass__53 : decode cX4_pass_ 53 = .ok (.ifCond .ne 6, 3) := by decide +kernel
theorem dX4_pass__56 : decode cX4_pass_ 56 = .ok (.goto 29, 3) := by decide +kernel
theorem dX4_pass__59 : decode cX4_pass_ 59 = .ok (.aload_n 0, 1) := by decide +kernel
theorem dX4_pass__60 : decode cX4_pass_ 60 = .ok (.getfield 28, 3) := by decide +kernel
theorem dX4_pass__63 : decode cX4_pass_ 63 = .ok (.iload_n 2, 1) := by decide +kernel
theorem dX4_pass__64 : decode cX4_pass_ 64 = .ok (.dup2, 1) := by decide +kernel
theorem dX4_pass__65 : decode cX4_pass_ 65 = .ok (.iaload, 1) := by decide +kernel
theorem dX4_pass__66 : decode cX4_pass_ 66 = .ok (.iconst 1, 1) := by decide +kernel
theorem dX4_pass__67 : decode cX4_pass_ 67 = .ok (.isub, 1) := by decide +kernel
theorem dX4_pass__68 : decode cX4_pass_ 68 = .ok (.iastore, 1) := by decide +kernel
theorem dX4_pass__69 : decode cX4_pass_ 69 = .ok (.aload_n 0, 1) := by decide +kernel
theorem dX4_pass__70 : decode cX4_pass_ 70 = .ok (.getfield 28, 3) := by decide +kernel
theorem dX4_pass__73 : decode cX4_pass_ 73 = .ok (.iload_n 2, 1) := by decide +kernel
theorem dX4_pass__74 : decode cX4_pass_ 74 = .ok (.iaload, 1) := by decide +kernel
theorem dX4_pass__75 : decode cX4_pass_ 75 = .ok (.ifCond .ne 10, 3) := by decide +kernel
theorem dX4_pass__78 : decode cX4_pass_ 78 = .ok (.aload_n 0, 1) := by decide +kernel
theorem dX4_pass__79 : decode cX4_pass_ 79 = .ok (.getfield 34, 3) := by decide +kernel
theorem dX4_pass__82 : decode cX4_pass_ 82 = .ok (.iload_n 2, 1) := by decide +kernel
theorem dX4_pass__83 : decode cX4_pass_ 83 = .ok (.iconst 0, 1) := by decide +kernel
theorem dX4_pass__84 : decode cX4_pass_ 84 = .ok (.iastore, 1) := by decide +kernel
theorem dX4_pass__85 : decode cX4_pass_ 85 = .ok (.iinc 2 1, 3) := by decide +kernel
theorem dX4_pass__88 : decode cX4_pass_ 88 = .ok (.goto (-58), 3) := by decide +kernel
theorem dX4_pass__91 : decode cX4_pass_ 91 = .ok (.aload_n 0, 1) := by decide +kernel
theorem dX4_pass__92 : decode cX4_pass_ 92 = .ok (.dup, 1) := by decide +kernel
theorem dX4_pass__93 : decode cX4_pass_ 93 = .ok (.getfield 52, 3) := by decide +kernel
theorem dX4_pass__96 : decode cX4_pass_ 96 = .ok (.iconst 1, 1) := by decide +kernel
theorem dX4_pass__97 : decode cX4_pass_ 97 = .ok (.iadd, 1) := by decide +kernel
theorem dX4_pass__98 : decode cX4_pass_ 98 = .ok (.putfield 52, 3) := by decide +kernel
theorem dX4_pass__101 : decode cX4_pass_ 101 = .ok (.return_, 1) := by decide +kernel
theorem dX4_counted_0 : decode cX4_counted 0 = .ok (.bipush 10, 2) := by decide +kernel
theorem dX4_counted_2 : decode cX4_counted 2 = .ok (.newarray .int, 2) := by decide +kernel
theorem dX4_counted_4 : decode cX4_counted 4 = .ok (.dup, 1) := by decide +kernel
theorem dX4_counted_5 : decode cX4_counted 5 = .ok (.iconst 0, 1) := by decide +kernel
theorem dX4_counted_6 : decode cX4_counted 6 = .ok (.aload_n 0, 1) := by decide +kernel
theorem dX4_counted_7 : decode cX4_counted 7 = .ok (.getfield 52, 3) := by decide +kernel
theorem dX4_counted_10 : decode cX4_counted 10 = .ok (.iastore, 1) := by decide +kernel
theorem dX4_counted_11 : decode cX4_counted 11 = .ok (.dup, 1) := by decide +kernel
theorem dX4_counted_12 : decode cX4_counted 12 = .ok (.iconst 1, 1) := by decide +kernel
theorem dX4_counted_13 : decode cX4_counted 13 = .ok (.aload_n 0, 1) := by decide +kernel
theorem dX4_counted_14 : decode cX4_counted 14 = .ok (.getfield 56, 3) := by decide +kernel
theorem dX4_counted_17 : decode cX4_counted 17 = .ok (.iastore, 1) := by decide +kernel
theorem dX4_counted_18 : decode cX4_counted 18 = .ok (.dup, 1) := by decide +kernel
theorem dX4_counted_19 : decode cX4_counted 19 = .ok (.iconst 2, 1) := by decide +kernel
theorem dX4_counted_20 : decode cX4_counted 20 = .ok (.iconst 0, 1) := by decide +kernel
theorem dX4_counted_21 : decode cX4_counted 21 = .ok (.iastore, 1) := by decide +kernel
theorem dX4_counted_22 : decode cX4_counted 22 = .ok (.dup, 1) := by decide +kernel
theorem dX4_counted_23 : decode cX4_counted 23 = .ok (.iconst 3, 1) := by decide +kernel
theorem dX4_counted_24 : decode cX4_counted 24 = .ok (.iconst 0, 1) := by decide +kernel
theorem dX4_counted_25 : decode cX4_counted 25 = .ok (.iastore, 1) := by decide +kernel
theorem dX4_counted_26 : decode cX4_counted 26 = .ok (.dup, 1) := by decide +kernel
theorem dX4_counted_27 : decode cX4_counted 27 = .ok (.iconst 4, 1) := by decide +kernel
theorem dX4_counted_28 : decode cX4_counted 28 = .ok (.iconst 0, 1) := by decide +kernel
theorem dX4_counted_29 : decode cX4_counted 29 = .ok (.iastore, 1) := by decide +kernel
theorem dX4_counted_30 : decode cX4_counted 30 = .ok (.dup, 1) := by decide +kernel
theorem dX4_counted_31 : decode cX4_counted 31 = .ok (.iconst 5, 1) := by decide +kernel
theorem dX4_counted_32 : decode cX4_counted 32 = .ok (.iconst 0, 1) := by decide +kernel
theorem dX4_counted_33 : decode cX4_counted 33 = .ok (.iastore, 1) := by decide +kernel
theorem dX4_counted_34 : decode cX4_counted 34 = .ok (.dup, 1) := by decide +kernel
theorem dX4_counted_35 : decode cX4_counted 35 = .ok (.bipush 6, 2) := by decide +kernel
theorem dX4_counted_37 : decode cX4_counted 37 = .ok (.iconst 0, 1) := by decide +kernel
theorem dX4_counted_38 : decode cX4_counted 38 = .ok (.iastore, 1) := by decide +kernel
theorem dX4_counted_39 : decode cX4_counted 39 = .ok (.dup, 1) := by decide +kernel
theorem dX4_counted_40 : decode cX4_counted 40 = .ok (.bipush 7, 2) := by decide +kernel
theorem dX4_counted_42 : decode cX4_counted 42 = .ok (.aload_n 0, 1) := by decide +kernel
theorem dX4_counted_43 : decode cX4_counted 43 = .ok (.getfield 3, 3) := by decide +kernel
theorem dX4_counted_46 : decode cX4_counted 46 = .ok (.getfield 114, 3) := by decide +kernel
theorem dX4_counted_49 : decode cX4_counted 49 = .ok (.iastore, 1) := by decide +kernel
theorem dX4_counted_50 : decode cX4_counted 50 = .ok (.dup, 1) := by decide +kernel
theorem dX4_counted_51 : decode cX4_counted 51 = .ok (.bipush 8, 2) := by decide +kernel
theorem dX4_counted_53 : decode cX4_counted 53 = .ok (.aload_n 0, 1) := by decide +kernel
theorem dX4_counted_54 : decode cX4_counted 54 = .ok (.getfield 3, 3) := by decide +kernel
theorem dX4_counted_57 : decode cX4_counted 57 = .ok (.getfield 117, 3) := by decide +kernel
theorem dX4_counted_60 : decode cX4_counted 60 = .ok (.iastore, 1) := by decide +kernel
theorem dX4_counted_61 : decode cX4_counted 61 = .ok (.dup, 1) := by decide +kernel
theorem dX4_counted_62 : decode cX4_counted 62 = .ok (.bipush 9, 2) := by decide +kernel
theorem dX4_counted_64 : decode cX4_counted 64 = .ok (.iconst 0, 1) := by decide +kernel
theorem dX4_counted_65 : decode cX4_counted 65 = .ok (.iastore, 1) := by decide +kernel
theorem dX4_counted_66 : decode cX4_counted 66 = .ok (.astore_n 2, 1) := by decide +kernel
theorem dX4_counted_67 : decode cX4_counted 67 = .ok (.iconst 0, 1) := by decide +kernel
theorem dX4_counted_68 : decode cX4_counted 68 = .ok (.istore_n 3, 1) := by decide +kernel
theorem dX4_counted_69 : decode cX4_counted 69 = .ok (.iload_n 3, 1) := by decide +kernel
theorem dX4_counted_70 : decode cX4_counted 70 = .ok (.aload_n 0, 1) := by decide +kernel
theorem dX4_counted_71 : decode cX4_counted 71 = .ok (.getfield 56, 3) := by decide +kernel
theorem dX4_counted_74 : decode cX4_counted 74 = .ok (.if_icmp .ge 76, 3) := by decide +kernel
theorem dX4_counted_77 : decode cX4_counted 77 = .ok (.aload_n 2, 1) := by decide +kernel
theorem dX4_counted_78 : decode cX4_counted 78 = .ok (.iconst 2, 1) := by decide +kernel
theorem dX4_counted_79 : decode cX4_counted 79 = .ok (.aload_n 0, 1) := by decide +kernel
theorem dX4_counted_80 : decode cX4_counted 80 = .ok (.getfield 37, 3) := by decide +kernel
theorem dX4_counted_83 : decode cX4_counted 83 = .ok (.iload_n 3, 1) := by decide +kernel
theorem dX4_counted_84 : decode cX4_counted 84 = .ok (.iaload, 1) := by decide +kernel
theorem dX4_counted_85 : decode cX4_counted 85 = .ok (.iadd, 1) := by decide +kernel
theorem dX4_counted_86 : decode cX4_counted 86 = .ok (.dup2, 1) := by decide +kernel
theorem dX4_counted_87 : decode cX4_counted 87 = .ok (.iaload, 1) := by decide +kernel
theorem dX4_counted_88 : decode cX4_counted 88 = .ok (.iconst 1, 1) := by decide +kernel
theorem dX4_counted_89 : decode cX4_counted 89 = .ok (.iadd, 1) := by decide +kernel
theorem dX4_counted_90 : decode cX4_counted 90 = .ok (.iastore, 1) := by decide +kernel
theorem dX4_counted_91 : decode cX4_counted 91 = .ok (.aload_n 0, 1) := by decide +kernel
theorem dX4_counted_92 : decode cX4_counted 92 = .ok (.getfield 34, 3) := by decide +kernel
theorem dX4_counted_95 : decode cX4_counted 95 = .ok (.iload_n 3, 1) := by decide +kernel
theorem dX4_counted_96 : decode cX4_counted 96 = .ok (.iaload, 1) := by decide +kernel
theorem dX4_counted_97 : decode cX4_counted 97 = .ok (.ifCond .ne 6, 3) := by decide +kernel
theorem dX4_counted_100 : decode cX4_counted 100 = .ok (.goto 44, 3) := by decide +kernel
theorem dX4_counted_103 : decode cX4_counted 103 = .ok (.aload_n 2, 1) := by decide +kernel
theorem dX4_counted_104 : decode cX4_counted 104 = .ok (.iconst 5, 1) := by decide +kernel
theorem dX4_counted_105 : decode cX4_counted 105 = .ok (.aload_n 0, 1) := by decide +kernel
theorem dX4_counted_106 : decode cX4_counted 106 = .ok (.getfield 37, 3) := by decide +kernel
theorem dX4_counted_109 : decode cX4_counted 109 = .ok (.iload_n 3, 1) := by decide +kernel
theorem dX4_counted_110 : decode cX4_counted 110 = .ok (.iaload, 1) := by decide +kernel
theorem dX4_counted_111 : decode cX4_counted 111 = .ok (.iadd, 1) := by decide +kernel
theorem dX4_counted_112 : decode cX4_counted 112 = .ok (.dup2, 1) := by decide +kernel
theorem dX4_counted_113 : decode cX4_counted 113 = .ok (.iaload, 1) := by decide +kernel
theorem dX4_counted_114 : decode cX4_counted 114 = .ok (.iconst 1, 1) := by decide +kernel
theorem dX4_counted_115 : decode cX4_counted 115 = .ok (.iadd, 1) := by decide +kernel
theorem dX4_counted_116 : decode cX4_counted 116 = .ok (.iastore, 1) := by decide +kernel
theorem dX4_counted_117 : decode cX4_counted 117 = .ok (.aload_n 2, 1) := by decide +kernel
theorem dX4_counted_118 : decode cX4_counted 118 = .ok (.bipush 9, 2) := by decide +kernel
theorem dX4_counted_120 : decode cX4_counted 120 = .ok (.dup2, 1) := by decide +kernel
theorem dX4_counted_121 : decode cX4_counted 121 = .ok (.iaload, 1) := by decide +kernel
theorem dX4_counted_122 : decode cX4_counted 122 = .ok (.aload_n 0, 1) := by decide +kernel
theorem dX4_counted_123 : decode cX4_counted 123 = .ok (.getfield 37, 3) := by decide +kernel
theorem dX4_counted_126 : decode cX4_counted 126 = .ok (.iload_n 3, 1) := by decide +kernel
theorem dX4_counted_127 : decode cX4_counted 127 = .ok (.iaload, 1) := by decide +kernel
theorem dX4_counted_128 : decode cX4_counted 128 = .ok (.iconst 1, 1) := by decide +kernel
theorem dX4_counted_129 : decode cX4_counted 129 = .ok (.if_icmp .ne 12, 3) := by decide +kernel
theorem dX4_counted_132 : decode cX4_counted 132 = .ok (.aload_n 0, 1) := by decide +kernel
theorem dX4_counted_133 : decode cX4_counted 133 = .ok (.getfield 19, 3) := by decide +kernel
theorem dX4_counted_136 : decode cX4_counted 136 = .ok (.iload_n 3, 1) := by decide +kernel
theorem dX4_counted_137 : decode cX4_counted 137 = .ok (.iaload, 1) := by decide +kernel
theorem dX4_counted_138 : decode cX4_counted 138 = .ok (.goto 4, 3) := by decide +kernel
theorem dX4_counted_141 : decode cX4_counted 141 = .ok (.iconst 0, 1) := by decide +kernel
theorem dX4_counted_142 : decode cX4_counted 142 = .ok (.iadd, 1) := by decide +kernel
theorem dX4_counted_143 : decode cX4_counted 143 = .ok (.iastore, 1) := by decide +kernel
theorem dX4_counted_144 : decode cX4_counted 144 = .ok (.iinc 3 1, 3) := by decide +kernel
theorem dX4_counted_147 : decode cX4_counted 147 = .ok (.goto (-78), 3) := by decide +kernel
theorem dX4_counted_150 : decode cX4_counted 150 = .ok (.aload_n 2, 1) := by decide +kernel
theorem dX4_counted_151 : decode cX4_counted 151 = .ok (.iload_n 1, 1) := by decide +kernel
theorem dX4_counted_152 : decode cX4_counted 152 = .ok (.iaload, 1) := by decide +kernel
theorem dX4_counted_153 : decode cX4_counted 153 = .ok (.ireturn, 1) := by decide +kernel
