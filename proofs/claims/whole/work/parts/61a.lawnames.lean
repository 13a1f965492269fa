set_option maxRecDepth 20000 in
theorem ggL_setCurrent_X3_setCurrent : GoodIn wsL_setCurrent wsX3_setCurrent := goodIn_ca (goodIn_ca (goodIn_r _ [7, 8, 9, 10, 11, 12, 13, 14, 15, 6, 16, 17, 18, 19, 20, 21, 22, 23, 24, 25, 26, 27, 28, 29, 30, 31, 32, 33, 34, 35, 36, 37, 38] (by decide +kernel) (by decide +kernel)) (goodIn_sub (fun _ h => List.mem_cons_of_mem _ (List.mem_append_left _ (List.mem_append_right _ h))) (by decide +kernel))) (goodIn_sub (fun _ h => List.mem_cons_of_mem _ (List.mem_append_right _ h)) (by decide +kernel))
set_option maxRecDepth 20000 in
theorem gL_setCurrent_X3_setCurrent : GoodIn wsL_setCurrent (wsV RL 7 RX3 yX3_setCurrent wsX3_setCurrent) := goodIn_app (goodIn_of _ (by decide +kernel)) ggL_setCurrent_X3_setCurrent
theorem dL_setCurrent_0 : decode cL_setCurrent 0 = .ok (.aload_n 3, 1) := by decide +kernel
theorem dL_setCurrent_1 : decode cL_setCurrent 1 = .ok (.iconst 0, 1) := by decide +kernel
theorem dL_setCurrent_2 : decode cL_setCurrent 2 = .ok (.aload_n 0, 1) := by decide +kernel
theorem dL_setCurrent_3 : decode cL_setCurrent 3 = .ok (.iload_n 1, 1) := by decide +kernel
theorem dL_setCurrent_4 : decode cL_setCurrent 4 = .ok (.iload_n 2, 1) := by decide +kernel
theorem dL_setCurrent_5 : decode cL_setCurrent 5 = .ok (.invokevirtual 7, 3) := by decide +kernel
theorem dL_setCurrent_8 : decode cL_setCurrent 8 = .ok (.i2l, 1) := by decide +kernel
theorem dL_setCurrent_9 : decode cL_setCurrent 9 = .ok (.lastore, 1) := by decide +kernel
theorem dL_setCurrent_10 : decode cL_setCurrent 10 = .ok (.goto 11, 3) := by decide +kernel
theorem dL_setCurrent_13 : decode cL_setCurrent 13 = .ok (.astore 4, 2) := by decide +kernel
theorem dL_setCurrent_15 : decode cL_setCurrent 15 = .ok (.iconst 1, 1) := by decide +kernel
theorem dL_setCurrent_16 : decode cL_setCurrent 16 = .ok (.ireturn, 1) := by decide +kernel
theorem dL_setCurrent_17 : decode cL_setCurrent 17 = .ok (.astore 4, 2) := by decide +kernel
theorem dL_setCurrent_19 : decode cL_setCurrent 19 = .ok (.iconst 2, 1) := by decide +kernel
theorem dL_setCurrent_20 : decode cL_setCurrent 20 = .ok (.ireturn, 1) := by decide +kernel
theorem dL_setCurrent_21 : decode cL_setCurrent 21 = .ok (.iconst 0, 1) := by decide +kernel
theorem dL_setCurrent_22 : decode cL_setCurrent 22 = .ok (.ireturn, 1) := by decide +kernel
set_option maxRecDepth 20000 in
theorem ggL_weir_X3_weir : GoodIn wsL_weir wsX3_weir := goodIn_ca (goodIn_ca (goodIn_ca (goodIn_r _ [8, 9, 10, 11, 12, 13, 14, 15, 16, 17, 18, 19, 7, 20, 21, 22, 23, 24, 25, 26, 27, 28, 29, 30, 31, 32, 33, 34, 35, 36, 37, 38, 39, 40, 41, 42, 43, 44, 45, 46] (by decide +kernel) (by decide +kernel)) (goodIn_sub (fun _ h => List.mem_cons_of_mem _ (List.mem_append_left _ (List.mem_append_left _ (List.mem_append_right _ h)))) (by decide +kernel))) (goodIn_sub (fun _ h => List.mem_cons_of_mem _ (List.mem_append_left _ (List.mem_append_right _ h))) (by decide +kernel))) (goodIn_sub (fun _ h => List.mem_cons_of_mem _ (List.mem_append_right _ h)) (by decide +kernel))
set_option maxRecDepth 20000 in
theorem gL_weir_X3_weir : GoodIn wsL_weir (wsV RL 17 RX3 yX3_weir wsX3_weir) := goodIn_app (goodIn_of _ (by decide +kernel)) ggL_weir_X3_weir
theorem dL_weir_0 : decode cL_weir 0 = .ok (.aload_n 3, 1) := by decide +kernel
theorem dL_weir_1 : decode cL_weir 1 = .ok (.iconst 0, 1) := by decide +kernel
theorem dL_weir_2 : decode cL_weir 2 = .ok (.aload_n 0, 1) := by decide +kernel
theorem dL_weir_3 : decode cL_weir 3 = .ok (.iload_n 1, 1) := by decide +kernel
theorem dL_weir_4 : decode cL_weir 4 = .ok (.iload_n 2, 1) := by decide +kernel
theorem dL_weir_5 : decode cL_weir 5 = .ok (.invokevirtual 17, 3) := by decide +kernel
theorem dL_weir_8 : decode cL_weir 8 = .ok (.i2l, 1) := by decide +kernel
theorem dL_weir_9 : decode cL_weir 9 = .ok (.lastore, 1) := by decide +kernel
theorem dL_weir_10 : decode cL_weir 10 = .ok (.goto 15, 3) := by decide +kernel
theorem dL_weir_13 : decode cL_weir 13 = .ok (.astore 4, 2) := by decide +kernel
theorem dL_weir_15 : decode cL_weir 15 = .ok (.iconst 1, 1) := by decide +kernel
theorem dL_weir_16 : decode cL_weir 16 = .ok (.ireturn, 1) := by decide +kernel
theorem dL_weir_17 : decode cL_weir 17 = .ok (.astore 4, 2) := by decide +kernel
theorem dL_weir_19 : decode cL_weir 19 = .ok (.iconst 2, 1) := by decide +kernel
theorem dL_weir_20 : decode cL_weir 20 = .ok (.ireturn, 1) := by decide +kernel
theorem dL_weir_21 : decode cL_weir 21 = .ok (.astore 4, 2) := by decide +kernel
theorem dL_weir_23 : decode cL_weir 23 = .ok (.iconst 3, 1) := by decide +kernel
theorem dL_weir_24 : decode cL_weir 24 = .ok (.ireturn, 1) := by decide +kernel
theorem dL_weir_25 : decode cL_weir 25 = .ok (.iconst 0, 1) := by decide +kernel
theorem dL_weir_26 : decode cL_weir 26 = .ok (.ireturn, 1) := by decide +kernel
set_option maxRecDepth 20000 in
theorem ggL_net_X3_net : GoodIn wsL_net wsX3_net := goodIn_ca (goodIn_ca (goodIn_r _ [7, 8, 9, 10, 11, 12, 13, 14, 15, 6, 16, 17, 18, 19, 20, 21, 22, 23, 24, 25, 26, 27, 28, 29, 30, 31, 32, 33, 34, 35, 36, 37, 38, 39, 40, 41, 42, 43, 44, 45, 46, 47, 48, 49] (by decide +kernel) (by decide +kernel)) (goodIn_sub (fun _ h => List.mem_cons_of_mem _ (List.mem_append_left _ (List.mem_append_right _ h))) (by decide +kernel))) (goodIn_sub (fun _ h => List.mem_cons_of_mem _ (List.mem_append_right _ h)) (by decide +kernel))
set_option maxRecDepth 20000 in
theorem gL_net_X3_net : GoodIn wsL_net (wsV RL 22 RX3 yX3_net wsX3_net) := goodIn_app (goodIn_of _ (by decide +kernel)) ggL_net_X3_net
theorem dL_net_0 : decode cL_net 0 = .ok (.aload_n 3, 1) := by decide +kernel
theorem dL_net_1 : decode cL_net 1 = .ok (.iconst 0, 1) := by decide +kernel
theorem dL_net_2 : decode cL_net 2 = .ok (.aload_n 0, 1) := by decide +kernel
theorem dL_net_3 : decode cL_net 3 = .ok (.iload_n 1, 1) := by decide +kernel
theorem dL_net_4 : decode cL_net 4 = .ok (.iload_n 2, 1) := by decide +kernel
theorem dL_net_5 : decode cL_net 5 = .ok (.invokevirtual 22, 3) := by decide +kernel
theorem dL_net_8 : decode cL_net 8 = .ok (.i2l, 1) := by decide +kernel
theorem dL_net_9 : decode cL_net 9 = .ok (.lastore, 1) := by decide +kernel
theorem dL_net_10 : decode cL_net 10 = .ok (.goto 11, 3) := by decide +kernel
theorem dL_net_13 : decode cL_net 13 = .ok (.astore 4, 2) := by decide +kernel
theorem dL_net_15 : decode cL_net 15 = .ok (.iconst 1, 1) := by decide +kernel
theorem dL_net_16 : decode cL_net 16 = .ok (.ireturn, 1) := by decide +kernel
theorem dL_net_17 : decode cL_net 17 = .ok (.astore 4, 2) := by decide +kernel
theorem dL_net_19 : decode cL_net 19 = .ok (.iconst 2, 1) := by decide +kernel
theorem dL_net_20 : decode cL_net 20 = .ok (.ireturn, 1) := by decide +kernel
theorem dL_net_21 : decode cL_net 21 = .ok (.iconst 0, 1) := by decide +kernel
theorem dL_net_22 : decode cL_net 22 = .ok (.ireturn, 1) := by decide +kernel
set_option maxRecDepth 20000 in
theorem ggL_river_X3_river : GoodIn wsL_river wsX3_river := goodIn_ca (goodIn_r _ [6, 7, 8, 9, 10, 5, 11, 12, 13, 14, 15, 16, 17, 18, 19, 20, 21, 22, 23, 24, 25, 26, 27, 28, 29, 30, 31, 32, 33, 34, 35, 36, 37, 38, 39, 40, 41, 42, 43, 44, 45, 46, 47, 48, 49, 50, 51, 52, 53, 54, 55, 56, 57, 58, 59, 60, 61, 62, 63, 64, 65, 66, 67, 68, 69, 70, 71, 72, 73, 74, 75, 76, 77] (by decide +kernel) (by decide +kernel)) (goodIn_sub (fun _ h => List.mem_cons_of_mem _ (List.mem_append_right _ h)) (by decide +kernel))
set_option maxRecDepth 20000 in
theorem gL_river_X3_river : GoodIn wsL_river (wsV RL 25 RX3 yX3_river wsX3_river) := goodIn_app (goodIn_of _ (by decide +kernel)) ggL_river_X3_river
theorem dL_river_0 : decode cL_river 0 = .ok (.aload 4, 2) := by decide +kernel
theorem dL_river_2 : decode cL_river 2 = .ok (.iconst 0, 1) := by decide +kernel
theorem dL_river_3 : decode cL_river 3 = .ok (.aload_n 0, 1) := by decide +kernel
theorem dL_river_4 : decode cL_river 4 = .ok (.iload_n 1, 1) := by decide +kernel
theorem dL_river_5 : decode cL_river 5 = .ok (.iload_n 2, 1) := by decide +kernel
theorem dL_river_6 : decode cL_river 6 = .ok (.iload_n 3, 1) := by decide +kernel
theorem dL_river_7 : decode cL_river 7 = .ok (.invokevirtual 25, 3) := by decide +kernel
theorem dL_river_10 : decode cL_river 10 = .ok (.i2l, 1) := by decide +kernel
theorem dL_river_11 : decode cL_river 11 = .ok (.lastore, 1) := by decide +kernel
theorem dL_river_12 : decode cL_river 12 = .ok (.goto 7, 3) := by decide +kernel
theorem dL_river_15 : decode cL_river 15 = .ok (.astore 5, 2) := by decide +kernel
theorem dL_river_17 : decode cL_river 17 = .ok (.iconst 1, 1) := by decide +kernel
theorem dL_river_18 : decode cL_river 18 = .ok (.ireturn, 1) := by decide +kernel
theorem dL_river_19 : decode cL_river 19 = .ok (.iconst 0, 1) := by decide +kernel
theorem dL_river_20 : decode cL_river 20 = .ok (.ireturn, 1) := by decide +kernel
set_option maxRecDepth 20000 in
theorem ggL_launch_X3_launch : GoodIn wsL_launch wsX3_launch := goodIn_ca (goodIn_ca (goodIn_ca (goodIn_r _ [8, 9, 10, 11, 12, 13, 14, 15, 16, 17, 18, 7, 19, 20, 21, 22, 23, 24, 25, 26, 27, 28, 29, 30, 31, 32, 33, 34, 35, 36, 37, 38, 39, 40, 41, 42, 43, 44, 45, 46, 47, 48, 49, 50, 51, 52, 53, 54, 55, 56, 57, 58, 59, 60, 61, 62, 63, 64, 65, 66, 67, 68, 69, 70, 71, 72, 73, 74, 75, 76, 77, 78, 79, 80] (by decide +kernel) (by decide +kernel)) (goodIn_sub (fun _ h => List.mem_cons_of_mem _ (List.mem_append_left _ (List.mem_append_left _ (List.mem_append_right _ h)))) (by decide +kernel))) (goodIn_sub (fun _ h => List.mem_cons_of_mem _ (List.mem_append_left _ (List.mem_append_right _ h))) (by decide +kernel))) (goodIn_sub (fun _ h => List.mem_cons_of_mem _ (List.mem_append_right _ h)) (by decide +kernel))
set_option maxRecDepth 20000 in
theorem gL_launch_X3_launch : GoodIn wsL_launch (wsV RL 29 RX3 yX3_launch wsX3_launch) := goodIn_app (goodIn_of _ (by decide +kernel)) ggL_launch_X3_launch
theorem dL_launch_0 : decode cL_launch 0 = .ok (.aload 5, 2) := by decide +kernel
theorem dL_launch_2 : decode cL_launch 2 = .ok (.iconst 0, 1) := by decide +kernel
theorem dL_launch_3 : decode cL_launch 3 = .ok (.aload_n 0, 1) := by decide +kernel
theorem dL_launch_4 : decode cL_launch 4 = .ok (.iload_n 1, 1) := by decide +kernel
theorem dL_launch_5 : decode cL_launch 5 = .ok (.iload_n 2, 1) := by decide +kernel
theorem dL_launch_6 : decode cL_launch 6 = .ok (.iload_n 3, 1) := by decide +kernel
theorem dL_launch_7 : decode cL_launch 7 = .ok (.iload 4, 2) := by decide +kernel
theorem dL_launch_9 : decode cL_launch 9 = .ok (.invokevirtual 29, 3) := by decide +kernel
theorem dL_launch_12 : decode cL_launch 12 = .ok (.i2l, 1) := by decide +kernel
theorem dL_launch_13 : decode cL_launch 13 = .ok (.lastore, 1) := by decide +kernel
theorem dL_launch_14 : decode cL_launch 14 = .ok (.goto 15, 3) := by decide +kernel
theorem dL_launch_17 : decode cL_launch 17 = .ok (.astore 6, 2) := by decide +kernel
theorem dL_launch_19 : decode cL_launch 19 = .ok (.iconst 1, 1) := by decide +kernel
theorem dL_launch_20 : decode cL_launch 20 = .ok (.ireturn, 1) := by decide +kernel
theorem dL_launch_21 : decode cL_launch 21 = .ok (.astore 6, 2) := by decide +kernel
theorem dL_launch_23 : decode cL_launch 23 = .ok (.iconst 2, 1) := by decide +kernel
theorem dL_launch_24 : decode cL_launch 24 = .ok (.ireturn, 1) := by decide +kernel
theorem dL_launch_25 : decode cL_launch 25 = .ok (.astore 6, 2) := by decide +kernel
theorem dL_launch_27 : decode cL_launch 27 = .ok (.iconst 3, 1) := by decide +kernel
theorem dL_launch_28 : decode cL_launch 28 = .ok (.ireturn, 1) := by decide +kernel
theorem dL_launch_29 : decode cL_launch 29 = .ok (.iconst 0, 1) := by decide +kernel
theorem dL_launch_30 : decode cL_launch 30 = .ok (.ireturn, 1) := by decide +kernel
set_option maxRecDepth 20000 in
theorem ggL_push_X3_push : GoodIn wsL_push wsX3_push := goodIn_ca (goodIn_ca (goodIn_r _ [7, 8, 9, 10, 11, 12, 13, 14, 15, 16, 17, 18, 19, 20, 21, 6, 22, 23, 24, 25, 26, 27, 28, 29, 30, 31, 32, 33, 34, 35, 36, 37, 38, 39, 40, 41, 42, 43, 44, 45, 46, 47, 48, 49, 50, 51, 52, 53, 54, 55, 56, 57, 58, 59, 60, 61, 62, 63, 64, 65, 66, 67, 68, 69, 70, 71, 72, 73, 74, 75] (by decide +kernel) (by decide +kernel)) (goodIn_sub (fun _ h => List.mem_cons_of_mem _ (List.mem_append_left _ (List.mem_append_right _ h))) (by decide +kernel))) (goodIn_sub (fun _ h => List.mem_cons_of_mem _ (List.mem_append_right _ h)) (by decide +kernel))
set_option maxRecDepth 20000 in
theorem gL_push_X3_push : GoodIn wsL_push (wsV RL 33 RX3 yX3_push wsX3_push) := goodIn_app (goodIn_of _ (by decide +kernel)) ggL_push_X3_push
theorem dL_push_0 : decode cL_push 0 = .ok (.aload_n 3, 1) := by decide +kernel
theorem dL_push_1 : decode cL_push 1 = .ok (.iconst 0, 1) := by decide +kernel
theorem dL_push_2 : decode cL_push 2 = .ok (.aload_n 0, 1) := by decide +kernel
theorem dL_push_3 : decode cL_push 3 = .ok (.iload_n 1, 1) := by decide +kernel
theorem dL_push_4 : decode cL_push 4 = .ok (.iload_n 2, 1) := by decide +kernel
theorem dL_push_5 : decode cL_push 5 = .ok (.invokevirtual 33, 3) := by decide +kernel
theorem dL_push_8 : decode cL_push 8 = .ok (.i2l, 1) := by decide +kernel
theorem dL_push_9 : decode cL_push 9 = .ok (.lastore, 1) := by decide +kernel
theorem dL_push_10 : decode cL_push 10 = .ok (.goto 11, 3) := by decide +kernel
theorem dL_push_13 : decode cL_push 13 = .ok (.astore 4, 2) := by decide +kernel
theorem dL_push_15 : decode cL_push 15 = .ok (.iconst 1, 1) := by decide +kernel
theorem dL_push_16 : decode cL_push 16 = .ok (.ireturn, 1) := by decide +kernel
theorem dL_push_17 : decode cL_push 17 = .ok (.astore 4, 2) := by decide +kernel
theorem dL_push_19 : decode cL_push 19 = .ok (.iconst 2, 1) := by decide +kernel
theorem dL_push_20 : decode cL_push 20 = .ok (.ireturn, 1) := by decide +kernel
theorem dL_push_21 : decode cL_push 21 = .ok (.iconst 0, 1) := by decide +kernel
theorem dL_push_22 : decode cL_push 22 = .ok (.ireturn, 1) := by decide +kernel
set_option maxRecDepth 20000 in
theorem ggL_light_X3_light : GoodIn wsL_light wsX3_light := goodIn_ca (goodIn_ca (goodIn_r _ [7, 8, 9, 10, 11, 12, 13, 14, 15, 16, 17, 18, 19, 20, 21, 6, 22, 23, 24, 25, 26, 27, 28, 29, 30, 31, 32, 33, 34, 35, 36, 37, 38, 39, 40, 41, 42, 43, 44, 45, 46, 47, 48, 49, 50, 51, 52, 53, 54, 55, 56, 57, 58, 59, 60, 61, 62, 63, 64, 65, 66, 67, 68, 69, 70, 71, 72, 73, 74] (by decide +kernel) (by decide +kernel)) (goodIn_sub (fun _ h => List.mem_cons_of_mem _ (List.mem_append_left _ (List.mem_append_right _ h))) (by decide +kernel))) (goodIn_sub (fun _ h => List.mem_cons_of_mem _ (List.mem_append_right _ h)) (by decide +kernel))
set_option maxRecDepth 20000 in
theorem gL_light_X3_light : GoodIn wsL_light (wsV RL 36 RX3 yX3_light wsX3_light) := goodIn_app (goodIn_of _ (by decide +kernel)) ggL_light_X3_light
theorem dL_light_0 : decode cL_light 0 = .ok (.aload_n 2, 1) := by decide +kernel
theorem dL_light_1 : decode cL_light 1 = .ok (.iconst 0, 1) := by decide +kernel
theorem dL_light_2 : decode cL_light 2 = .ok (.aload_n 0, 1) := by decide +kernel
theorem dL_light_3 : decode cL_light 3 = .ok (.iload_n 1, 1) := by decide +kernel
theorem dL_light_4 : decode cL_light 4 = .ok (.invokevirtual 36, 3) := by decide +kernel
theorem dL_light_7 : decode cL_light 7 = .ok (.i2l, 1) := by decide +kernel
theorem dL_light_8 : decode cL_light 8 = .ok (.lastore, 1) := by decide +kernel
theorem dL_light_9 : decode cL_light 9 = .ok (.goto 9, 3) := by decide +kernel
theorem dL_light_12 : decode cL_light 12 = .ok (.astore_n 3, 1) := by decide +kernel
theorem dL_light_13 : decode cL_light 13 = .ok (.iconst 1, 1) := by decide +kernel
theorem dL_light_14 : decode cL_light 14 = .ok (.ireturn, 1) := by decide +kernel
theorem dL_light_15 : decode cL_light 15 = .ok (.astore_n 3, 1) := by decide +kernel
theorem dL_light_16 : decode cL_light 16 = .ok (.iconst 2, 1) := by decide +kernel
theorem dL_light_17 : decode cL_light 17 = .ok (.ireturn, 1) := by decide +kernel
theorem dL_light_18 : decode cL_light 18 = .ok (.iconst 0, 1) := by decide +kernel
theorem dL_light_19 : decode cL_light 19 = .ok (.ireturn, 1) := by decide +kernel
set_option maxRecDepth 20000 in
theorem ggL_blow_X3_blow : GoodIn wsL_blow wsX3_blow := goodIn_ca (goodIn_ca (goodIn_r _ [7, 8, 9, 10, 11, 12, 13, 14, 15, 16, 17, 18, 19, 20, 21, 6, 22, 23, 24, 25, 26, 27, 28, 29, 30, 31, 32, 33, 34, 35, 36, 37, 38, 39, 40, 41, 42, 43, 44, 45, 46, 47, 48, 49, 50, 51, 52, 53, 54, 55, 56, 57, 58, 59, 60, 61] (by decide +kernel) (by decide +kernel)) (goodIn_sub (fun _ h => List.mem_cons_of_mem _ (List.mem_append_left _ (List.mem_append_right _ h))) (by decide +kernel))) (goodIn_sub (fun _ h => List.mem_cons_of_mem _ (List.mem_append_right _ h)) (by decide +kernel))
set_option maxRecDepth 20000 in
theorem gL_blow_X3_blow : GoodIn wsL_blow (wsV RL 40 RX3 yX3_blow wsX3_blow) := goodIn_app (goodIn_of _ (by decide +kernel)) ggL_blow_X3_blow
theorem dL_blow_0 : decode cL_blow 0 = .ok (.aload_n 2, 1) := by decide +kernel
theorem dL_blow_1 : decode cL_blow 1 = .ok (.iconst 0, 1) := by decide +kernel
theorem dL_blow_2 : decode cL_blow 2 = .ok (.aload_n 0, 1) := by decide +kernel
theorem dL_blow_3 : decode cL_blow 3 = .ok (.iload_n 1, 1) := by decide +kernel
theorem dL_blow_4 : decode cL_blow 4 = .ok (.invokevirtual 40, 3) := by decide +kernel
theorem dL_blow_7 : decode cL_blow 7 = .ok (.i2l, 1) := by decide +kernel
theorem dL_blow_8 : decode cL_blow 8 = .ok (.lastore, 1) := by decide +kernel
theorem dL_blow_9 : decode cL_blow 9 = .ok (.goto 9, 3) := by decide +kernel
theorem dL_blow_12 : decode cL_blow 12 = .ok (.astore_n 3, 1) := by decide +kernel
theorem dL_blow_13 : decode cL_blow 13 = .ok (.iconst 1, 1) := by decide +kernel
theorem dL_blow_14 : decode cL_blow 14 = .ok (.ireturn, 1) := by decide +kernel
theorem dL_blow_15 : decode cL_blow 15 = .ok (.astore_n 3, 1) := by decide +kernel
theorem dL_blow_16 : decode cL_blow 16 = .ok (.iconst 2, 1) := by decide +kernel
theorem dL_blow_17 : decode cL_blow 17 = .ok (.ireturn, 1) := by decide +kernel
theorem dL_blow_18 : decode cL_blow 18 = .ok (.iconst 0, 1) := by decide +kernel
theorem dL_blow_19 : decode cL_blow 19 = .ok (.ireturn, 1) := by decide +kernel
set_option maxRecDepth 20000 in
theorem ggL_told_X3_told : GoodIn wsL_told wsX3_told := goodIn_ca (goodIn_r _ [6, 7, 8, 9, 10, 11, 12, 13, 14, 15, 16, 5, 17, 18, 19, 20, 21, 22, 23, 24, 25, 26, 27, 28, 29, 30, 31, 32, 33, 34, 35, 36, 37, 38, 39, 40, 41, 42, 43, 44, 45, 46, 47, 48, 49, 50, 51, 52, 53, 54] (by decide +kernel) (by decide +kernel)) (goodIn_sub (fun _ h => List.mem_cons_of_mem _ (List.mem_append_right _ h)) (by decide +kernel))
set_option maxRecDepth 20000 in
theorem gL_told_X3_told : GoodIn wsL_told (wsV RL 43 RX3 yX3_told wsX3_told) := goodIn_app (goodIn_of _ (by decide +kernel)) ggL_told_X3_told
theorem dL_told_0 : decode cL_told 0 = .ok (.aload_n 3, 1) := by decide +kernel
theorem dL_told_1 : decode cL_told 1 = .ok (.iconst 0, 1) := by decide +kernel
theorem dL_told_2 : decode cL_told 2 = .ok (.aload_n 0, 1) := by decide +kernel
theorem dL_told_3 : decode cL_told 3 = .ok (.iload_n 1, 1) := by decide +kernel
theorem dL_told_4 : decode cL_told 4 = .ok (.iload_n 2, 1) := by decide +kernel
theorem dL_told_5 : decode cL_told 5 = .ok (.invokevirtual 43, 3) := by decide +kernel
theorem dL_told_8 : decode cL_told 8 = .ok (.i2l, 1) := by decide +kernel
theorem dL_told_9 : decode cL_told 9 = .ok (.lastore, 1) := by decide +kernel
theorem dL_told_10 : decode cL_told 10 = .ok (.goto 7, 3) := by decide +kernel
theorem dL_told_13 : decode cL_told 13 = .ok (.astore 4, 2) := by decide +kernel
theorem dL_told_15 : decode cL_told 15 = .ok (.iconst 1, 1) := by decide +kernel
theorem dL_told_16 : decode cL_told 16 = .ok (.ireturn, 1) := by decide +kernel
theorem dL_told_17 : decode cL_told 17 = .ok (.iconst 0, 1) := by decide +kernel
theorem dL_told_18 : decode cL_told 18 = .ok (.ireturn, 1) := by decide +kernel
set_option maxRecDepth 20000 in
theorem ggL_next_X3_next : GoodIn wsL_next wsX3_next := goodIn_ca (goodIn_r _ [6, 7, 8, 9, 10, 11, 12, 13, 14, 15, 16, 5, 17, 18, 19, 20, 21, 22, 23, 24, 25, 26, 27, 28, 29, 30, 31, 32, 33, 34, 35, 36, 37, 38, 39, 40, 41, 42, 43, 44, 45, 46, 47, 48, 49, 50, 51, 52, 53, 54, 55, 56, 57, 58, 59] (by decide +kernel) (by decide +kernel)) (goodIn_sub (fun _ h => List.mem_cons_of_mem _ (List.mem_append_right _ h)) (by decide +kernel))
set_option maxRecDepth 20000 in
theorem gL_next_X3_next : GoodIn wsL_next (wsV RL 46 RX3 yX3_next wsX3_next) := goodIn_app (goodIn_of _ (by decide +kernel)) ggL_next_X3_next
theorem dL_next_0 : decode cL_next 0 = .ok (.aload_n 2, 1) := by decide +kernel
theorem dL_next_1 : decode cL_next 1 = .ok (.iconst 0, 1) := by decide +kernel
theorem dL_next_2 : decode cL_next 2 = .ok (.aload_n 0, 1) := by decide +kernel
theorem dL_next_3 : decode cL_next 3 = .ok (.iload_n 1, 1) := by decide +kernel
theorem dL_next_4 : decode cL_next 4 = .ok (.invokevirtual 46, 3) := by decide +kernel
theorem dL_next_7 : decode cL_next 7 = .ok (.i2l, 1) := by decide +kernel
theorem dL_next_8 : decode cL_next 8 = .ok (.lastore, 1) := by decide +kernel
theorem dL_next_9 : decode cL_next 9 = .ok (.goto 6, 3) := by decide +kernel
theorem dL_next_12 : decode cL_next 12 = .ok (.astore_n 3, 1) := by decide +kernel
theorem dL_next_13 : decode cL_next 13 = .ok (.iconst 1, 1) := by decide +kernel
theorem dL_next_14 : decode cL_next 14 = .ok (.ireturn, 1) := by decide +kernel
theorem dL_next_15 : decode cL_next 15 = .ok (.iconst 0, 1) := by decide +kernel
theorem dL_next_16 : decode cL_next 16 = .ok (.ireturn, 1) := by decide +kernel
set_option maxRecDepth 20000 in
theorem ggL_count_X3_count : GoodIn wsL_count wsX3_count := goodIn_ca (goodIn_r _ [6, 7, 8, 9, 10, 5, 11, 12, 13, 14, 15, 16, 17, 18, 19, 20, 21, 22, 23, 24, 25, 26, 27, 28, 29, 30, 31, 32, 33, 34, 35, 36, 37, 38, 39, 40, 41, 42, 43, 44, 45, 46, 47, 48, 49, 50, 51, 52, 53, 54, 55, 56, 57, 58, 59, 60, 61, 62] (by decide +kernel) (by decide +kernel)) (goodIn_sub (fun _ h => List.mem_cons_of_mem _ (List.mem_append_right _ h)) (by decide +kernel))
set_option maxRecDepth 20000 in
theorem gL_count_X3_count : GoodIn wsL_count (wsV RL 49 RX3 yX3_count wsX3_count) := goodIn_app (goodIn_of _ (by decide +kernel)) ggL_count_X3_count
theorem dL_count_0 : decode cL_count 0 = .ok (.aload_n 2, 1) := by decide +kernel
theorem dL_count_1 : decode cL_count 1 = .ok (.iconst 0, 1) := by decide +kernel
theorem dL_count_2 : decode cL_count 2 = .ok (.aload_n 0, 1) := by decide +kernel
theorem dL_count_3 : decode cL_count 3 = .ok (.iload_n 1, 1) := by decide +kernel
theorem dL_count_4 : decode cL_count 4 = .ok (.invokevirtual 49, 3) := by decide +kernel
theorem dL_count_7 : decode cL_count 7 = .ok (.i2l, 1) := by decide +kernel
theorem dL_count_8 : decode cL_count 8 = .ok (.lastore, 1) := by decide +kernel
theorem dL_count_9 : decode cL_count 9 = .ok (.goto 6, 3) := by decide +kernel
theorem dL_count_12 : decode cL_count 12 = .ok (.astore_n 3, 1) := by decide +kernel
theorem dL_count_13 : decode cL_count 13 = .ok (.iconst 1, 1) := by decide +kernel
theorem dL_count_14 : decode cL_count 14 = .ok (.ireturn, 1) := by decide +kernel
theorem dL_count_15 : decode cL_count 15 = .ok (.iconst 0, 1) := by decide +kernel
theorem dL_count_16 : decode cL_count 16 = .ok (.ireturn, 1) := by decide +kernel
set_option maxRecDepth 20000 in
theorem ggL_pass_X3_pass : GoodIn wsL_pass wsX3_pass := goodIn_ca (goodIn_r _ [6, 7, 8, 9, 10, 11, 12, 5, 13, 14, 15, 16, 17, 18, 19, 20, 21, 22, 23, 24, 25, 26, 27, 28, 29, 30, 31, 32, 33, 34, 35, 36, 37, 38, 39, 40, 41, 42, 43, 44, 45, 46, 47, 48, 49, 50, 51, 52, 53, 54, 55, 56, 57, 58, 59, 60, 61, 62, 63, 64, 65, 66, 67, 68, 69, 70, 71, 72, 73, 74, 75, 76, 77, 78, 79, 80, 81, 82, 83, 84, 85, 86, 87, 88, 89, 90, 91, 92, 93, 94, 95, 96, 97, 98, 99, 100, 101, 102, 103, 104, 105, 106, 107, 108, 109, 110, 111, 112, 113, 114, 115, 116, 117, 118, 119, 120, 121, 122, 123, 124, 125, 126, 127, 128, 129, 130, 131, 132, 133] (by decide +kernel) (by decide +kernel)) (goodIn_sub (fun _ h => List.mem_cons_of_mem _ (List.mem_append_right _ h)) (by decide +kernel))
set_option maxRecDepth 20000 in
theorem gL_pass_X3_pass : GoodIn wsL_pass (wsV RL 52 RX3 yX3_pass wsX3_pass) := goodIn_app (goodIn_of _ (by decide +kernel)) ggL_pass_X3_pass
theorem dL_pass_0 : decode cL_pass 0 = .ok (.aload_n 2, 1) := by decide +kernel
theorem dL_pass_1 : decode cL_pass 1 = .ok (.iconst 0, 1) := by decide +kernel
theorem dL_pass_2 : decode cL_pass 2 = .ok (.aload_n 0, 1) := by decide +kernel
theorem dL_pass_3 : decode cL_pass 3 = .ok (.iload_n 1, 1) := by decide +kernel
theorem dL_pass_4 : decode cL_pass 4 = .ok (.invokevirtual 52, 3) := by decide +kernel
theorem dL_pass_7 : decode cL_pass 7 = .ok (.i2l, 1) := by decide +kernel
theorem dL_pass_8 : decode cL_pass 8 = .ok (.lastore, 1) := by decide +kernel
theorem dL_pass_9 : decode cL_pass 9 = .ok (.goto 6, 3) := by decide +kernel
theorem dL_pass_12 : decode cL_pass 12 = .ok (.astore_n 3, 1) := by decide +kernel
theorem dL_pass_13 : decode cL_pass 13 = .ok (.iconst 1, 1) := by decide +kernel
theorem dL_pass_14 : decode cL_pass 14 = .ok (.ireturn, 1) := by decide +kernel
theorem dL_pass_15 : decode cL_pass 15 = .ok (.iconst 0, 1) := by decide +kernel
theorem dL_pass_16 : decode cL_pass 16 = .ok (.ireturn, 1) := by decide +kernel
set_option maxRecDepth 20000 in
theorem ggL_burns_X3_burns : GoodIn wsL_burns wsX3_burns := goodIn_ca (goodIn_r _ [6, 7, 8, 9, 10, 11, 12, 13, 14, 15, 16, 17, 18, 5, 19, 20, 21, 22, 23, 24, 25, 26, 27, 28, 29, 30, 31, 32, 33, 34, 35, 36, 37, 38, 39, 40, 41, 42, 43, 44, 45, 46, 47, 48, 49, 50, 51, 52, 53, 54, 55, 56, 57, 58, 59, 60, 61, 62, 63, 64, 65, 66, 67, 68, 69, 70, 71, 72, 73, 74, 75, 76, 77, 78, 79, 80, 81, 82, 83, 84, 85, 86, 87, 88, 89, 90, 91, 92, 93, 94, 95, 96, 97, 98, 99, 100, 101, 102, 103, 104, 105, 106, 107, 108, 109, 110, 111, 112, 113, 114, 115, 116, 117, 118, 119, 120, 121, 122, 123, 124, 125, 126, 127, 128, 129, 130, 131, 132, 133, 134, 135, 136] (by decide +kernel) (by decide +kernel)) (goodIn_sub (fun _ h => List.mem_cons_of_mem _ (List.mem_append_right _ h)) (by decide +kernel))
set_option maxRecDepth 20000 in
theorem gL_burns_X3_burns : GoodIn wsL_burns (wsV RL 55 RX3 yX3_burns wsX3_burns) := goodIn_app (goodIn_of _ (by decide +kernel)) ggL_burns_X3_burns
theorem dL_burns_0 : decode cL_burns 0 = .ok (.aload_n 2, 1) := by decide +kernel
theorem dL_burns_1 : decode cL_burns 1 = .ok (.iconst 0, 1) := by decide +kernel
theorem dL_burns_2 : decode cL_burns 2 = .ok (.aload_n 0, 1) := by decide +kernel
theorem dL_burns_3 : decode cL_burns 3 = .ok (.iload_n 1, 1) := by decide +kernel
theorem dL_burns_4 : decode cL_burns 4 = .ok (.invokevirtual 55, 3) := by decide +kernel
theorem dL_burns_7 : decode cL_burns 7 = .ok (.i2l, 1) := by decide +kernel
theorem dL_burns_8 : decode cL_burns 8 = .ok (.lastore, 1) := by decide +kernel
theorem dL_burns_9 : decode cL_burns 9 = .ok (.goto 6, 3) := by decide +kernel
theorem dL_burns_12 : decode cL_burns 12 = .ok (.astore_n 3, 1) := by decide +kernel
theorem dL_burns_13 : decode cL_burns 13 = .ok (.iconst 1, 1) := by decide +kernel
theorem dL_burns_14 : decode cL_burns 14 = .ok (.ireturn, 1) := by decide +kernel
theorem dL_burns_15 : decode cL_burns 15 = .ok (.iconst 0, 1) := by decide +kernel
theorem dL_burns_16 : decode cL_burns 16 = .ok (.ireturn, 1) := by decide +kernel
set_option maxRecDepth 20000 in
theorem ggL_foresee_X3_foresee : GoodIn wsL_foresee wsX3_foresee := goodIn_ca (goodIn_ca (goodIn_r _ [7, 8, 9, 10, 11, 12, 13, 14, 15, 16, 6, 17, 18, 19, 20, 21, 22, 23, 24, 25, 26, 27, 28, 29, 30, 31, 32, 33, 34, 35, 36, 37, 38, 39, 40, 41, 42, 43, 44, 45, 46, 47, 48, 49, 50, 51, 52, 53, 54, 55, 56, 57, 58, 59, 60, 61, 62, 63, 64, 65, 66, 67, 68, 69, 70, 71, 72, 73, 74, 75, 76, 77, 78, 79, 80, 81, 82, 83, 84, 85, 86, 87, 88, 89, 90, 91, 92, 93, 94, 95, 96, 97, 98, 99, 100, 101, 102, 103, 104, 105, 106, 107, 108, 109, 110, 111, 112, 113, 114, 115, 116, 117, 118, 119, 120, 121, 122, 123, 124, 125, 126, 127, 128, 129, 130, 131, 132, 133, 134, 135, 136, 137, 138, 139, 140, 141, 142, 143, 144, 145, 146] (by decide +kernel) (by decide +kernel)) (goodIn_sub (fun _ h => List.mem_cons_of_mem _ (List.mem_append_left _ (List.mem_append_right _ h))) (by decide +kernel))) (goodIn_sub (fun _ h => List.mem_cons_of_mem _ (List.mem_append_right _ h)) (by decide +kernel))
set_option maxRecDepth 20000 in
theorem gL_foresee_X3_foresee : GoodIn wsL_foresee (wsV RL 58 RX3 yX3_foresee wsX3_foresee) := goodIn_app (goodIn_of _ (by decide +kernel)) ggL_foresee_X3_foresee
theorem dL_foresee_0 : decode cL_foresee 0 = .ok (.aload_n 3, 1) := by decide +kernel
theorem dL_foresee_1 : decode cL_foresee 1 = .ok (.iconst 0, 1) := by decide +kernel
theorem dL_foresee_2 : decode cL_foresee 2 = .ok (.aload_n 0, 1) := by decide +kernel
theorem dL_foresee_3 : decode cL_foresee 3 = .ok (.iload_n 1, 1) := by decide +kernel
theorem dL_foresee_4 : decode cL_foresee 4 = .ok (.iload_n 2, 1) := by decide +kernel
theorem dL_foresee_5 : decode cL_foresee 5 = .ok (.invokevirtual 58, 3) := by decide +kernel
theorem dL_foresee_8 : decode cL_foresee 8 = .ok (.i2l, 1) := by decide +kernel
theorem dL_foresee_9 : decode cL_foresee 9 = .ok (.lastore, 1) := by decide +kernel
theorem dL_foresee_10 : decode cL_foresee 10 = .ok (.goto 11, 3) := by decide +kernel
theorem dL_foresee_13 : decode cL_foresee 13 = .ok (.astore 4, 2) := by decide +kernel
theorem dL_foresee_15 : decode cL_foresee 15 = .ok (.iconst 1, 1) := by decide +kernel
theorem dL_foresee_16 : decode cL_foresee 16 = .ok (.ireturn, 1) := by decide +kernel
theorem dL_foresee_17 : decode cL_foresee 17 = .ok (.astore 4, 2) := by decide +kernel
theorem dL_foresee_19 : decode cL_foresee 19 = .ok (.iconst 2, 1) := by decide +kernel
theorem dL_foresee_20 : decode cL_foresee 20 = .ok (.ireturn, 1) := by decide +kernel
theorem dL_foresee_21 : decode cL_foresee 21 = .ok (.iconst 0, 1) := by decide +kernel
theorem dL_foresee_22 : decode cL_foresee 22 = .ok (.ireturn, 1) := by decide +kernel
set_option maxRecDepth 20000 in
theorem ggL_advise_X3_advise : GoodIn wsL_advise wsX3_advise := goodIn_ca (goodIn_r _ [6, 7, 8, 9, 10, 5, 11, 12, 13, 14, 15, 16, 17, 18, 19, 20, 21, 22, 23, 24, 25, 26, 27, 28, 29, 30, 31, 32, 33, 34, 35, 36, 37, 38, 39, 40, 41, 42, 43, 44, 45, 46, 47, 48, 49, 50, 51, 52, 53, 54, 55, 56, 57, 58, 59, 60, 61, 62, 63, 64, 65, 66, 67, 68, 69, 70, 71, 72, 73, 74, 75, 76, 77, 78, 79, 80, 81, 82, 83, 84, 85, 86, 87, 88, 89, 90, 91, 92, 93, 94, 95, 96, 97, 98, 99, 100, 101, 102, 103, 104, 105, 106, 107, 108, 109, 110, 111, 112, 113, 114, 115, 116, 117, 118, 119, 120, 121, 122, 123, 124, 125, 126, 127, 128, 129, 130, 131, 132, 133, 134, 135, 136, 137, 138, 139, 140, 141, 142, 143, 144, 145, 146, 147, 148, 149, 150, 151] (by decide +kernel) (by decide +kernel)) (goodIn_sub (fun _ h => List.mem_cons_of_mem _ (List.mem_append_right _ h)) (by decide +kernel))
set_option maxRecDepth 20000 in
theorem gL_advise_X3_advise : GoodIn wsL_advise (wsV RL 61 RX3 yX3_advise wsX3_advise) := goodIn_app (goodIn_of _ (by decide +kernel)) ggL_advise_X3_advise
theorem dL_advise_0 : decode cL_advise 0 = .ok (.aload_n 2, 1) := by decide +kernel
theorem dL_advise_1 : decode cL_advise 1 = .ok (.iconst 0, 1) := by decide +kernel
theorem dL_advise_2 : decode cL_advise 2 = .ok (.aload_n 0, 1) := by decide +kernel
theorem dL_advise_3 : decode cL_advise 3 = .ok (.iload_n 1, 1) := by decide +kernel
theorem dL_advise_4 : decode cL_advise 4 = .ok (.invokevirtual 61, 3) := by decide +kernel
theorem dL_advise_7 : decode cL_advise 7 = .ok (.i2l, 1) := by decide +kernel
theorem dL_advise_8 : decode cL_advise 8 = .ok (.lastore, 1) := by decide +kernel
theorem dL_advise_9 : decode cL_advise 9 = .ok (.goto 6, 3) := by decide +kernel
theorem dL_advise_12 : decode cL_advise 12 = .ok (.astore_n 3, 1) := by decide +kernel
theorem dL_advise_13 : decode cL_advise 13 = .ok (.iconst 1, 1) := by decide +kernel
theorem dL_advise_14 : decode cL_advise 14 = .ok (.ireturn, 1) := by decide +kernel
theorem dL_advise_15 : decode cL_advise 15 = .ok (.iconst 0, 1) := by decide +kernel
theorem dL_advise_16 : decode cL_advise 16 = .ok (.ireturn, 1) := by decide +kernel
set_option maxRecDepth 20000 in
theorem ggL_law_X3_init : GoodIn wsL_law wsX3_init := goodIn_r _ [9, 10, 11, 12, 13, 14, 15, 16, 17, 18, 19, 20, 21, 22, 23, 24, 25, 26, 27, 28, 29, 30, 31, 32, 33, 34, 35, 36, 37, 38, 39, 40, 41, 42, 43, 44, 45, 46, 47, 48, 49, 50, 51, 52, 53, 54, 55, 56, 57, 560, 561, 562, 563, 564, 549, 550, 551, 565, 566, 567, 568, 569, 570, 571, 572, 573, 574, 575, 576, 577, 578] (by decide +kernel) (by decide +kernel)
set_option maxRecDepth 20000 in
theorem gL_law_X3_init : GoodIn wsL_law (wsX3_init) := ggL_law_X3_init
set_option maxRecDepth 20000 in
theorem ggL_law_X5_init : GoodIn wsL_law wsX5_init := goodIn_r _ [60, 61, 11, 12, 36, 62, 63, 64, 65, 66, 67, 68, 69, 70, 71, 72, 73, 74, 75, 76, 77, 78, 79, 80, 81, 82, 83, 552, 553, 554, 555, 556, 557, 558, 559, 579, 580, 581, 582, 583, 584, 585, 586, 587, 588, 589, 590, 591] (by decide +kernel) (by decide +kernel)
set_option maxRecDepth 20000 in
theorem gL_law_X5_init : GoodIn wsL_law (wsX5_init) := ggL_law_X5_init
set_option maxRecDepth 20000 in
theorem ggL_law_L_setCurrent : GoodIn wsL_law wsL_setCurrent := goodIn_ca (goodIn_ca (goodIn_r _ [87, 88, 89, 90, 91, 92, 2, 93, 94, 95, 96, 97, 16, 98, 99, 100, 101, 102, 103, 104, 105, 106, 107, 28, 108, 37, 109, 39, 40, 41, 549, 550, 551, 560, 561, 562, 563, 564, 578] (by decide +kernel) (by decide +kernel)) (goodIn_sub (fun _ h => List.mem_append_left _ (List.mem_append_left _ (List.mem_append_right _ h))) (by decide +kernel))) (goodIn_sub (fun _ h => List.mem_append_left _ (List.mem_append_right _ h)) (by decide +kernel))
set_option maxRecDepth 20000 in
theorem gL_law_L_setCurrent : GoodIn wsL_law (va_wsS RL 68 yL_setCurrent wsL_setCurrent) := goodIn_app (goodIn_of _ (by decide +kernel)) ggL_law_L_setCurrent
set_option maxRecDepth 20000 in
theorem ggL_law_X5_setCurrent : GoodIn wsL_law wsX5_setCurrent := goodIn_r _ [113, 114, 62, 115, 116, 5, 117, 118, 119, 120, 121, 122, 123, 124, 552, 553, 554, 555, 556, 557, 558, 559] (by decide +kernel) (by decide +kernel)
set_option maxRecDepth 20000 in
theorem gL_law_X5_setCurrent : GoodIn wsL_law (wsV RL 73 RX5 yX5_setCurrent wsX5_setCurrent) := goodIn_app (goodIn_of _ (by decide +kernel)) ggL_law_X5_setCurrent
set_option maxRecDepth 20000 in
theorem ggL_law_X5_thrown : GoodIn wsL_law wsX5_thrown := goodIn_r _ [128, 114, 552, 553, 554, 555, 556, 557, 558, 559] (by decide +kernel) (by decide +kernel)
set_option maxRecDepth 20000 in
theorem gL_law_X5_thrown : GoodIn wsL_law (wsV RL 74 RX5 yX5_thrown wsX5_thrown) := goodIn_app (goodIn_of _ (by decide +kernel)) ggL_law_X5_thrown
set_option maxRecDepth 20000 in
theorem ggL_law_L_weir : GoodIn wsL_law wsL_weir := goodIn_ca (goodIn_ca (goodIn_ca (goodIn_r _ [131, 88, 89, 132, 133, 134, 135, 2, 136, 94, 95, 96, 97, 137, 138, 16, 139, 140, 102, 103, 104, 105, 106, 107, 28, 108, 37, 141, 142, 143, 15, 144, 30, 145, 38, 39, 40, 41, 549, 550, 551, 560, 561, 562, 563, 564, 578] (by decide +kernel) (by decide +kernel)) (goodIn_sub (fun _ h => List.mem_append_left _ (List.mem_append_left _ (List.mem_append_right _ h))) (by decide +kernel))) (goodIn_sub (fun _ h => List.mem_append_left _ (List.mem_append_right _ h)) (by decide +kernel))) (goodIn_sub (fun _ h => List.mem_append_right _ h) (by decide +kernel))
set_option maxRecDepth 20000 in
theorem gL_law_L_weir : GoodIn wsL_law (va_wsS RL 78 yL_weir wsL_weir) := goodIn_app (goodIn_of _ (by decide +kernel)) ggL_law_L_weir
set_option maxRecDepth 20000 in
theorem ggL_law_X5_weir : GoodIn wsL_law wsX5_weir := goodIn_r _ [149, 114, 150, 63, 151, 152, 5, 153, 118, 119, 120, 121, 122, 123, 124, 552, 553, 554, 555, 556, 557, 558, 559] (by decide +kernel) (by decide +kernel)
set_option maxRecDepth 20000 in
theorem gL_law_X5_weir : GoodIn wsL_law (wsV RL 80 RX5 yX5_weir wsX5_weir) := goodIn_app (goodIn_of _ (by decide +kernel)) ggL_law_X5_weir
set_option maxRecDepth 20000 in
theorem ggL_law_L_net : GoodIn wsL_law wsL_net := goodIn_ca (goodIn_ca (goodIn_r _ [156, 88, 132, 157, 158, 159, 2, 160, 94, 95, 137, 138, 16, 161, 99, 100, 101, 102, 103, 104, 162, 163, 164, 15, 165, 31, 166, 106, 107, 28, 108, 37, 167, 168, 169, 170, 171, 38, 39, 40, 41, 549, 550, 551, 560, 561, 562, 563, 564, 578] (by decide +kernel) (by decide +kernel)) (goodIn_sub (fun _ h => List.mem_append_left _ (List.mem_append_left _ (List.mem_append_right _ h))) (by decide +kernel))) (goodIn_sub (fun _ h => List.mem_append_right _ h) (by decide +kernel))
set_option maxRecDepth 20000 in
theorem gL_law_L_net : GoodIn wsL_law (va_wsS RL 81 yL_net wsL_net) := goodIn_app (goodIn_of _ (by decide +kernel)) ggL_law_L_net
set_option maxRecDepth 20000 in
theorem ggL_law_X5_net : GoodIn wsL_law wsX5_net := goodIn_r _ [175, 114, 176, 64, 115, 116, 5, 117, 118, 119, 120, 151, 152, 153, 121, 122, 123, 124, 552, 553, 554, 555, 556, 557, 558, 559] (by decide +kernel) (by decide +kernel)
set_option maxRecDepth 20000 in
theorem gL_law_X5_net : GoodIn wsL_law (wsV RL 83 RX5 yX5_net wsX5_net) := goodIn_app (goodIn_of _ (by decide +kernel)) ggL_law_X5_net
set_option maxRecDepth 20000 in
theorem ggL_law_L_river : GoodIn wsL_law wsL_river := goodIn_ca (goodIn_r _ [179, 88, 180, 181, 182, 2, 183, 94, 95, 99, 100, 101, 102, 103, 104, 184, 185, 186, 187, 188, 189, 190, 20, 16, 140, 191, 192, 193, 19, 194, 55, 195, 196, 197, 198, 106, 107, 28, 108, 37, 105, 162, 163, 164, 15, 165, 31, 166, 199, 200, 201, 202, 203, 53, 48, 49, 549, 550, 551, 560, 561, 562, 563, 564, 565, 566, 567, 568, 569, 570, 571, 572, 573, 574, 575, 576, 577, 578] (by decide +kernel) (by decide +kernel)) (goodIn_sub (fun _ h => List.mem_append_left _ (List.mem_append_left _ (List.mem_append_right _ h))) (by decide +kernel))
set_option maxRecDepth 20000 in
theorem gL_law_L_river : GoodIn wsL_law (va_wsS RL 84 yL_river wsL_river) := goodIn_app (goodIn_of _ (by decide +kernel)) ggL_law_L_river
set_option maxRecDepth 20000 in
theorem ggL_law_X5_river : GoodIn wsL_law wsX5_river := goodIn_r _ [207, 114, 115, 116, 5, 117, 118, 119, 120, 151, 152, 153, 208, 209, 210, 211, 68, 63, 64, 212, 213, 214, 67, 215, 216, 81, 76, 77, 121, 122, 123, 124, 552, 553, 554, 555, 556, 557, 558, 559, 579, 580, 581, 582, 583, 584, 585, 586, 587, 588, 589, 590, 591] (by decide +kernel) (by decide +kernel)
set_option maxRecDepth 20000 in
theorem gL_law_X5_river : GoodIn wsL_law (wsV RL 87 RX5 yX5_river wsX5_river) := goodIn_app (goodIn_of _ (by decide +kernel)) ggL_law_X5_river
set_option maxRecDepth 20000 in
theorem ggL_law_L_launch : GoodIn wsL_law wsL_launch := goodIn_ca (goodIn_ca (goodIn_ca (goodIn_r _ [219, 88, 89, 132, 220, 221, 222, 2, 223, 94, 95, 96, 97, 137, 138, 20, 224, 225, 226, 227, 102, 103, 104, 99, 100, 101, 184, 185, 186, 228, 229, 230, 19, 231, 203, 46, 47, 48, 49, 50, 51, 52, 53, 54, 232, 39, 40, 28, 41, 37, 233, 234, 235, 236, 237, 238, 55, 198, 106, 107, 108, 195, 196, 197, 549, 550, 551, 565, 566, 567, 568, 569, 570, 571, 572, 573, 574, 575, 576, 577, 578] (by decide +kernel) (by decide +kernel)) (goodIn_sub (fun _ h => List.mem_append_left _ (List.mem_append_left _ (List.mem_append_right _ h))) (by decide +kernel))) (goodIn_sub (fun _ h => List.mem_append_left _ (List.mem_append_right _ h)) (by decide +kernel))) (goodIn_sub (fun _ h => List.mem_append_right _ h) (by decide +kernel))
set_option maxRecDepth 20000 in
theorem gL_law_L_launch : GoodIn wsL_law (va_wsS RL 88 yL_launch wsL_launch) := goodIn_app (goodIn_of _ (by decide +kernel)) ggL_law_L_launch
set_option maxRecDepth 20000 in
theorem ggL_law_X5_launch : GoodIn wsL_law wsX5_launch := goodIn_r _ [242, 114, 68, 118, 119, 5, 120, 115, 116, 117, 151, 152, 153, 121, 122, 123, 124, 243, 244, 245, 67, 246, 74, 216, 75, 76, 77, 78, 79, 80, 81, 82, 552, 553, 554, 555, 556, 557, 558, 559, 579, 580, 581, 582, 583, 584, 585, 586, 587, 588, 589, 590, 591] (by decide +kernel) (by decide +kernel)
set_option maxRecDepth 20000 in
theorem gL_law_X5_launch : GoodIn wsL_law (wsV RL 91 RX5 yX5_launch wsX5_launch) := goodIn_app (goodIn_of _ (by decide +kernel)) ggL_law_X5_launch
set_option maxRecDepth 20000 in
theorem ggL_law_L_push : GoodIn wsL_law wsL_push := goodIn_ca (goodIn_ca (goodIn_r _ [249, 88, 132, 250, 251, 252, 2, 253, 94, 95, 137, 138, 20, 254, 255, 256, 257, 258, 19, 259, 203, 103, 104, 99, 100, 101, 102, 260, 261, 262, 263, 53, 264, 198, 106, 107, 28, 108, 37, 105, 265, 266, 267, 268, 48, 49, 235, 236, 237, 238, 46, 55, 195, 196, 197, 232, 39, 40, 41, 549, 550, 551, 565, 566, 567, 568, 569, 570, 571, 572, 573, 574, 575, 576, 577, 578] (by decide +kernel) (by decide +kernel)) (goodIn_sub (fun _ h => List.mem_append_left _ (List.mem_append_left _ (List.mem_append_right _ h))) (by decide +kernel))) (goodIn_sub (fun _ h => List.mem_append_right _ h) (by decide +kernel))
set_option maxRecDepth 20000 in
theorem gL_law_L_push : GoodIn wsL_law (va_wsS RL 92 yL_push wsL_push) := goodIn_app (goodIn_of _ (by decide +kernel)) ggL_law_L_push
set_option maxRecDepth 20000 in
theorem ggL_law_X5_push : GoodIn wsL_law wsX5_push := goodIn_r _ [272, 114, 68, 273, 274, 275, 5, 276, 118, 119, 120, 115, 116, 117, 121, 122, 123, 124, 552, 553, 554, 555, 556, 557, 558, 559, 579, 580, 581, 582, 583, 584, 585, 586, 587, 588, 589, 590, 591] (by decide +kernel) (by decide +kernel)
set_option maxRecDepth 20000 in
theorem gL_law_X5_push : GoodIn wsL_law (wsV RL 94 RX5 yX5_push wsX5_push) := goodIn_app (goodIn_of _ (by decide +kernel)) ggL_law_X5_push
set_option maxRecDepth 20000 in
theorem ggL_law_L_light : GoodIn wsL_law wsL_light := goodIn_ca (goodIn_ca (goodIn_r _ [279, 88, 132, 280, 281, 282, 2, 283, 94, 95, 137, 138, 20, 284, 285, 256, 257, 258, 19, 259, 203, 103, 104, 260, 261, 262, 263, 53, 264, 198, 106, 107, 28, 108, 37, 286, 287, 288, 289, 50, 290, 291, 292, 293, 52, 294, 295, 296, 297, 51, 46, 298, 299, 109, 39, 40, 41, 105, 549, 550, 551, 565, 566, 567, 568, 569, 570, 571, 572, 573, 574, 575, 576, 577, 578] (by decide +kernel) (by decide +kernel)) (goodIn_sub (fun _ h => List.mem_append_left _ (List.mem_append_left _ (List.mem_append_right _ h))) (by decide +kernel))) (goodIn_sub (fun _ h => List.mem_append_right _ h) (by decide +kernel))
set_option maxRecDepth 20000 in
theorem gL_law_L_light : GoodIn wsL_law (va_wsS RL 95 yL_light wsL_light) := goodIn_app (goodIn_of _ (by decide +kernel)) ggL_law_L_light
set_option maxRecDepth 20000 in
theorem ggL_law_X5_light : GoodIn wsL_law wsX5_light := goodIn_r _ [303, 114, 68, 273, 274, 275, 5, 276, 118, 119, 120, 121, 122, 123, 124, 304, 305, 306, 67, 307, 79, 74, 552, 553, 554, 555, 556, 557, 558, 559, 579, 580, 581, 582, 583, 584, 585, 586, 587, 588, 589, 590, 591] (by decide +kernel) (by decide +kernel)
set_option maxRecDepth 20000 in
theorem gL_law_X5_light : GoodIn wsL_law (wsV RL 98 RX5 yX5_light wsX5_light) := goodIn_app (goodIn_of _ (by decide +kernel)) ggL_law_X5_light
set_option maxRecDepth 20000 in
theorem ggL_law_L_blow : GoodIn wsL_law wsL_blow := goodIn_ca (goodIn_ca (goodIn_r _ [310, 88, 132, 311, 312, 313, 2, 314, 94, 95, 137, 138, 20, 284, 285, 256, 257, 258, 19, 259, 203, 103, 104, 260, 261, 262, 263, 53, 264, 198, 106, 107, 28, 108, 37, 315, 291, 292, 293, 52, 109, 39, 40, 41, 105, 549, 550, 551, 565, 566, 567, 568, 569, 570, 571, 572, 573, 574, 575, 576, 577, 578] (by decide +kernel) (by decide +kernel)) (goodIn_sub (fun _ h => List.mem_append_left _ (List.mem_append_left _ (List.mem_append_right _ h))) (by decide +kernel))) (goodIn_sub (fun _ h => List.mem_append_right _ h) (by decide +kernel))
set_option maxRecDepth 20000 in
theorem gL_law_L_blow : GoodIn wsL_law (va_wsS RL 99 yL_blow wsL_blow) := goodIn_app (goodIn_of _ (by decide +kernel)) ggL_law_L_blow
set_option maxRecDepth 20000 in
theorem ggL_law_X5_blow : GoodIn wsL_law wsX5_blow := goodIn_r _ [319, 114, 68, 273, 274, 275, 5, 276, 118, 119, 120, 121, 122, 123, 124, 552, 553, 554, 555, 556, 557, 558, 559, 579, 580, 581, 582, 583, 584, 585, 586, 587, 588, 589, 590, 591] (by decide +kernel) (by decide +kernel)
set_option maxRecDepth 20000 in
theorem gL_law_X5_blow : GoodIn wsL_law (wsV RL 101 RX5 yX5_blow wsX5_blow) := goodIn_app (goodIn_of _ (by decide +kernel)) ggL_law_X5_blow
set_option maxRecDepth 20000 in
theorem ggL_law_L_told : GoodIn wsL_law wsL_told := goodIn_ca (goodIn_r _ [322, 88, 323, 324, 325, 2, 326, 94, 95, 20, 256, 257, 258, 19, 259, 203, 103, 104, 102, 327, 328, 329, 330, 46, 47, 48, 49, 50, 51, 52, 53, 54, 198, 106, 107, 28, 108, 37, 549, 550, 551, 565, 566, 567, 568, 569, 570, 571, 572, 573, 574, 575, 576, 577, 578] (by decide +kernel) (by decide +kernel)) (goodIn_sub (fun _ h => List.mem_append_left _ (List.mem_append_left _ (List.mem_append_right _ h))) (by decide +kernel))
set_option maxRecDepth 20000 in
theorem gL_law_L_told : GoodIn wsL_law (va_wsS RL 102 yL_told wsL_told) := goodIn_app (goodIn_of _ (by decide +kernel)) ggL_law_L_told
set_option maxRecDepth 20000 in
theorem ggL_law_X5_told : GoodIn wsL_law wsX5_told := goodIn_r _ [334, 114, 273, 274, 275, 5, 276, 68, 118, 119, 120, 335, 336, 337, 338, 36, 121, 122, 123, 124, 552, 553, 554, 555, 556, 557, 558, 559, 579, 580, 581, 582, 583, 584, 585, 586, 587, 588, 589, 590, 591] (by decide +kernel) (by decide +kernel)
set_option maxRecDepth 20000 in
theorem gL_law_X5_told : GoodIn wsL_law (wsV RL 104 RX5 yX5_told wsX5_told) := goodIn_app (goodIn_of _ (by decide +kernel)) ggL_law_X5_told
set_option maxRecDepth 20000 in
theorem ggL_law_L_next : GoodIn wsL_law wsL_next := goodIn_ca (goodIn_r _ [341, 88, 342, 343, 344, 2, 345, 94, 95, 20, 256, 257, 258, 19, 259, 203, 103, 104, 346, 347, 348, 349, 255, 16, 140, 260, 261, 262, 263, 53, 264, 198, 106, 107, 28, 108, 37, 105, 549, 550, 551, 565, 566, 567, 568, 569, 570, 571, 572, 573, 574, 575, 576, 577, 560, 561, 562, 563, 564, 578] (by decide +kernel) (by decide +kernel)) (goodIn_sub (fun _ h => List.mem_append_left _ (List.mem_append_left _ (List.mem_append_right _ h))) (by decide +kernel))
set_option maxRecDepth 20000 in
theorem gL_law_L_next : GoodIn wsL_law (va_wsS RL 105 yL_next wsL_next) := goodIn_app (goodIn_of _ (by decide +kernel)) ggL_law_L_next
set_option maxRecDepth 20000 in
theorem ggL_law_X5_next : GoodIn wsL_law wsX5_next := goodIn_r _ [353, 114, 273, 274, 275, 5, 276, 68, 118, 119, 120, 354, 355, 356, 357, 63, 121, 122, 123, 124, 552, 553, 554, 555, 556, 557, 558, 559, 579, 580, 581, 582, 583, 584, 585, 586, 587, 588, 589, 590, 591] (by decide +kernel) (by decide +kernel)
set_option maxRecDepth 20000 in
theorem gL_law_X5_next : GoodIn wsL_law (wsV RL 107 RX5 yX5_next wsX5_next) := goodIn_app (goodIn_of _ (by decide +kernel)) ggL_law_X5_next
set_option maxRecDepth 20000 in
theorem ggL_law_L_count : GoodIn wsL_law wsL_count := goodIn_ca (goodIn_r _ [360, 88, 361, 362, 363, 2, 364, 94, 95, 102, 103, 104, 365, 366, 367, 368, 20, 369, 224, 16, 139, 161, 370, 371, 372, 19, 373, 203, 374, 375, 376, 377, 53, 52, 47, 198, 106, 107, 28, 108, 37, 549, 550, 551, 565, 566, 567, 568, 569, 570, 571, 572, 573, 574, 575, 576, 577, 560, 561, 562, 563, 564, 578] (by decide +kernel) (by decide +kernel)) (goodIn_sub (fun _ h => List.mem_append_left _ (List.mem_append_left _ (List.mem_append_right _ h))) (by decide +kernel))
set_option maxRecDepth 20000 in
theorem gL_law_L_count : GoodIn wsL_law (va_wsS RL 108 yL_count wsL_count) := goodIn_app (goodIn_of _ (by decide +kernel)) ggL_law_L_count
set_option maxRecDepth 20000 in
theorem ggL_law_X5_count : GoodIn wsL_law wsX5_count := goodIn_r _ [381, 114, 68, 118, 119, 5, 120, 382, 383, 384, 67, 385, 36, 386, 216, 72, 81, 80, 75, 121, 122, 123, 124, 552, 553, 554, 555, 556, 557, 558, 559, 579, 580, 581, 582, 583, 584, 585, 586, 587, 588, 589, 590, 591] (by decide +kernel) (by decide +kernel)
set_option maxRecDepth 20000 in
theorem gL_law_X5_count : GoodIn wsL_law (wsV RL 110 RX5 yX5_count wsX5_count) := goodIn_app (goodIn_of _ (by decide +kernel)) ggL_law_X5_count
set_option maxRecDepth 20000 in
theorem ggL_law_L_pass : GoodIn wsL_law wsL_pass := goodIn_ca (goodIn_r _ [389, 89, 390, 391, 392, 2, 393, 96, 97, 20, 16, 102, 103, 104, 370, 371, 372, 19, 373, 203, 374, 375, 376, 377, 53, 52, 47, 198, 106, 107, 28, 108, 37, 394, 395, 396, 397, 56, 398, 399, 400, 401, 402, 49, 48, 403, 261, 262, 263, 264, 257, 258, 259, 232, 39, 40, 41, 404, 405, 406, 407, 408, 409, 410, 411, 412, 413, 46, 55, 195, 196, 197, 414, 266, 267, 268, 235, 236, 237, 238, 415, 416, 417, 418, 54, 419, 420, 421, 422, 51, 294, 295, 296, 297, 298, 299, 423, 163, 164, 15, 165, 31, 166, 424, 425, 426, 427, 50, 290, 291, 292, 293, 549, 550, 551, 565, 566, 567, 568, 569, 570, 571, 572, 573, 574, 575, 576, 577, 578, 560, 561, 562, 563, 564] (by decide +kernel) (by decide +kernel)) (goodIn_sub (fun _ h => List.mem_append_left _ (List.mem_append_right _ h)) (by decide +kernel))
set_option maxRecDepth 20000 in
theorem gL_law_L_pass : GoodIn wsL_law (va_wsS RL 111 yL_pass wsL_pass) := goodIn_app (goodIn_of _ (by decide +kernel)) ggL_law_L_pass
set_option maxRecDepth 20000 in
theorem ggL_law_X5_pass : GoodIn wsL_law wsX5_pass := goodIn_r _ [431, 114, 68, 118, 119, 5, 120, 121, 122, 123, 124, 382, 383, 384, 67, 385, 36, 386, 216, 72, 81, 80, 75, 432, 433, 434, 435, 83, 78, 436, 437, 438, 439, 440, 441, 442, 443, 77, 76, 444, 445, 446, 447, 448, 449, 450, 451, 74, 452, 453, 454, 455, 82, 456, 457, 458, 459, 79, 460, 461, 462, 463, 464, 213, 214, 215, 465, 305, 306, 307, 552, 553, 554, 555, 556, 557, 558, 559, 579, 580, 581, 582, 583, 584, 585, 586, 587, 588, 589, 590, 591] (by decide +kernel) (by decide +kernel)
set_option maxRecDepth 20000 in
theorem gL_law_X5_pass : GoodIn wsL_law (wsV RL 113 RX5 yX5_pass wsX5_pass) := goodIn_app (goodIn_of _ (by decide +kernel)) ggL_law_X5_pass
set_option maxRecDepth 20000 in
theorem ggL_law_L_burns : GoodIn wsL_law wsL_burns := goodIn_ca (goodIn_r _ [468, 88, 469, 470, 471, 2, 472, 94, 95, 20, 21, 16, 256, 257, 258, 19, 259, 203, 103, 104, 473, 474, 475, 476, 46, 47, 48, 49, 50, 51, 52, 53, 54, 55, 398, 477, 478, 479, 28, 480, 37, 481, 106, 107, 108, 315, 291, 292, 293, 264, 198, 394, 395, 396, 397, 56, 399, 400, 401, 402, 403, 261, 262, 263, 232, 39, 40, 41, 404, 405, 406, 407, 408, 409, 410, 411, 412, 413, 195, 196, 197, 414, 266, 267, 268, 235, 236, 237, 238, 415, 416, 417, 418, 419, 420, 421, 422, 294, 295, 296, 297, 298, 299, 423, 163, 164, 15, 165, 31, 166, 424, 425, 426, 427, 290, 549, 550, 551, 565, 566, 567, 568, 569, 570, 571, 572, 573, 574, 575, 576, 577, 578, 560, 561, 562, 563, 564] (by decide +kernel) (by decide +kernel)) (goodIn_sub (fun _ h => List.mem_append_left _ (List.mem_append_left _ (List.mem_append_right _ h))) (by decide +kernel))
set_option maxRecDepth 20000 in
theorem gL_law_L_burns : GoodIn wsL_law (va_wsS RL 114 yL_burns wsL_burns) := goodIn_app (goodIn_of _ (by decide +kernel)) ggL_law_L_burns
set_option maxRecDepth 20000 in
theorem ggL_law_X5_burns : GoodIn wsL_law wsX5_burns := goodIn_r _ [485, 114, 69, 68, 273, 274, 275, 5, 276, 118, 119, 120, 121, 122, 123, 124, 486, 487, 488, 67, 489, 386, 216, 74, 75, 76, 77, 78, 79, 80, 81, 82, 490, 491, 492, 493, 494, 495, 496, 497, 432, 433, 434, 435, 83, 436, 437, 438, 439, 440, 441, 442, 443, 444, 445, 446, 447, 72, 448, 449, 450, 451, 452, 453, 454, 455, 456, 457, 458, 459, 460, 461, 462, 463, 464, 213, 214, 215, 465, 305, 306, 307, 552, 553, 554, 555, 556, 557, 558, 559, 579, 580, 581, 582, 583, 584, 585, 586, 587, 588, 589, 590, 591] (by decide +kernel) (by decide +kernel)
set_option maxRecDepth 20000 in
theorem gL_law_X5_burns : GoodIn wsL_law (wsV RL 116 RX5 yX5_burns wsX5_burns) := goodIn_app (goodIn_of _ (by decide +kernel)) ggL_law_X5_burns
set_option maxRecDepth 20000 in
theorem ggL_law_L_foresee : GoodIn wsL_law wsL_foresee := goodIn_ca (goodIn_ca (goodIn_r _ [500, 89, 88, 501, 502, 503, 2, 504, 96, 97, 94, 95, 21, 20, 16, 102, 103, 104, 473, 474, 475, 19, 476, 46, 47, 48, 49, 50, 51, 52, 53, 54, 55, 203, 398, 477, 478, 479, 28, 480, 37, 481, 106, 107, 108, 394, 395, 396, 397, 56, 399, 400, 401, 402, 403, 261, 262, 263, 264, 257, 258, 259, 198, 232, 39, 40, 41, 404, 405, 406, 407, 408, 409, 410, 411, 412, 413, 195, 196, 197, 414, 266, 267, 268, 235, 236, 237, 238, 415, 416, 417, 418, 419, 420, 421, 422, 294, 295, 296, 297, 298, 299, 423, 163, 164, 15, 165, 31, 166, 424, 425, 426, 427, 290, 291, 292, 293, 370, 371, 372, 373, 374, 375, 376, 377, 549, 550, 551, 565, 566, 567, 568, 569, 570, 571, 572, 573, 574, 575, 576, 577, 578, 560, 561, 562, 563, 564] (by decide +kernel) (by decide +kernel)) (goodIn_sub (fun _ h => List.mem_append_left _ (List.mem_append_right _ h)) (by decide +kernel))) (goodIn_sub (fun _ h => List.mem_append_left _ (List.mem_append_left _ (List.mem_append_right _ h))) (by decide +kernel))
set_option maxRecDepth 20000 in
theorem gL_law_L_foresee : GoodIn wsL_law (va_wsS RL 117 yL_foresee wsL_foresee) := goodIn_app (goodIn_of _ (by decide +kernel)) ggL_law_L_foresee
set_option maxRecDepth 20000 in
theorem ggL_law_X5_foresee : GoodIn wsL_law wsX5_foresee := goodIn_r _ [508, 114, 69, 68, 118, 119, 5, 120, 121, 122, 123, 124, 486, 487, 488, 67, 489, 386, 216, 74, 75, 76, 77, 78, 79, 80, 81, 82, 490, 491, 492, 493, 494, 495, 496, 497, 432, 433, 434, 435, 83, 436, 437, 438, 439, 440, 441, 442, 443, 444, 445, 446, 447, 72, 448, 449, 450, 451, 452, 453, 454, 455, 456, 457, 458, 459, 460, 461, 462, 463, 464, 213, 214, 215, 465, 305, 306, 307, 382, 383, 384, 385, 36, 552, 553, 554, 555, 556, 557, 558, 559, 579, 580, 581, 582, 583, 584, 585, 586, 587, 588, 589, 590, 591] (by decide +kernel) (by decide +kernel)
set_option maxRecDepth 20000 in
theorem gL_law_X5_foresee : GoodIn wsL_law (wsV RL 119 RX5 yX5_foresee wsX5_foresee) := goodIn_app (goodIn_of _ (by decide +kernel)) ggL_law_X5_foresee
set_option maxRecDepth 20000 in
theorem ggL_law_L_advise : GoodIn wsL_law wsL_advise := goodIn_ca (goodIn_r _ [511, 88, 512, 513, 514, 2, 515, 94, 95, 225, 226, 227, 102, 103, 104, 516, 517, 518, 519, 21, 20, 16, 520, 473, 474, 475, 19, 476, 46, 47, 48, 49, 50, 51, 52, 53, 54, 55, 203, 398, 477, 478, 479, 28, 480, 37, 481, 106, 107, 108, 228, 229, 230, 231, 232, 39, 40, 41, 233, 234, 235, 236, 237, 238, 198, 195, 196, 197, 315, 291, 292, 293, 264, 257, 258, 259, 394, 395, 396, 397, 56, 399, 400, 401, 402, 403, 261, 262, 263, 404, 405, 406, 407, 408, 409, 410, 411, 412, 413, 414, 266, 267, 268, 415, 416, 417, 418, 419, 420, 421, 422, 294, 295, 296, 297, 298, 299, 423, 163, 164, 15, 165, 31, 166, 424, 425, 426, 427, 290, 105, 549, 550, 551, 565, 566, 567, 568, 569, 570, 571, 572, 573, 574, 575, 576, 577, 578, 560, 561, 562, 563, 564] (by decide +kernel) (by decide +kernel)) (goodIn_sub (fun _ h => List.mem_append_left _ (List.mem_append_left _ (List.mem_append_right _ h))) (by decide +kernel))
set_option maxRecDepth 20000 in
theorem gL_law_L_advise : GoodIn wsL_law (va_wsS RL 120 yL_advise wsL_advise) := goodIn_app (goodIn_of _ (by decide +kernel)) ggL_law_L_advise
set_option maxRecDepth 20000 in
theorem ggL_law_X5_advise : GoodIn wsL_law wsX5_advise := goodIn_r _ [524, 114, 118, 119, 5, 120, 121, 122, 123, 124, 525, 526, 527, 528, 69, 68, 486, 487, 488, 67, 489, 386, 216, 74, 75, 76, 77, 78, 79, 80, 81, 82, 490, 491, 492, 493, 494, 495, 496, 497, 243, 244, 245, 246, 432, 433, 434, 435, 83, 436, 437, 438, 439, 440, 441, 442, 443, 444, 445, 446, 447, 72, 448, 449, 450, 451, 452, 453, 454, 455, 456, 457, 458, 459, 460, 461, 462, 463, 464, 213, 214, 215, 465, 305, 306, 307, 552, 553, 554, 555, 556, 557, 558, 559, 579, 580, 581, 582, 583, 584, 585, 586, 587, 588, 589, 590, 591] (by decide +kernel) (by decide +kernel)
set_option maxRecDepth 20000 in
theorem gL_law_X5_advise : GoodIn wsL_law (wsV RL 122 RX5 yX5_advise wsX5_advise) := goodIn_app (goodIn_of _ (by decide +kernel)) ggL_law_X5_advise
set_option maxRecDepth 20000 in
theorem ggL_law_X3_mean : GoodIn wsL_law wsX3_mean := goodIn_r _ [532, 20, 224, 255, 260, 261, 262, 19, 263, 53, 264, 257, 258, 259, 203, 103, 2, 104, 198, 106, 107, 28, 108, 37, 105, 549, 550, 551, 565, 566, 567, 568, 569, 570, 571, 572, 573, 574, 575, 576, 577, 578] (by decide +kernel) (by decide +kernel)
set_option maxRecDepth 20000 in
theorem gL_law_X3_mean : GoodIn wsL_law (wsV RL 123 RX3 yX3_mean wsX3_mean) := goodIn_app (goodIn_of _ (by decide +kernel)) ggL_law_X3_mean
set_option maxRecDepth 20000 in
theorem ggL_law_X5_mean : GoodIn wsL_law wsX5_mean := goodIn_r _ [536, 114, 68, 382, 383, 384, 67, 385, 36, 386, 216, 72, 81, 80, 75, 552, 553, 554, 555, 556, 557, 558, 559, 579, 580, 581, 582, 583, 584, 585, 586, 587, 588, 589, 590, 591] (by decide +kernel) (by decide +kernel)
set_option maxRecDepth 20000 in
theorem gL_law_X5_mean : GoodIn wsL_law (wsV RL 127 RX5 yX5_mean wsX5_mean) := goodIn_app (goodIn_of _ (by decide +kernel)) ggL_law_X5_mean
set_option maxRecDepth 20000 in
theorem ggL_law_X3_digest : GoodIn wsL_law wsX3_digest := goodIn_r _ [540, 541, 542, 16, 98, 20, 224, 365, 366, 367, 2, 368, 369, 139, 161, 370, 371, 372, 19, 373, 203, 374, 375, 376, 377, 53, 52, 47, 198, 106, 107, 28, 108, 37, 105, 187, 188, 189, 190, 140, 191, 192, 193, 194, 55, 195, 196, 197, 162, 163, 164, 15, 165, 31, 166, 199, 200, 201, 202, 48, 49, 327, 328, 329, 330, 46, 50, 51, 54, 346, 347, 348, 349, 255, 260, 261, 262, 263, 264, 257, 258, 259, 103, 104, 549, 550, 551, 560, 561, 562, 563, 564, 565, 566, 567, 568, 569, 570, 571, 572, 573, 574, 575, 576, 577, 578] (by decide +kernel) (by decide +kernel)
set_option maxRecDepth 20000 in
theorem gL_law_X3_digest : GoodIn wsL_law (wsV RL 128 RX3 yX3_digest wsX3_digest) := goodIn_app (goodIn_of _ (by decide +kernel)) ggL_law_X3_digest
set_option maxRecDepth 20000 in
theorem ggL_law_X5_digest : GoodIn wsL_law wsX5_digest := goodIn_r _ [546, 114, 547, 548, 68, 62, 382, 383, 384, 67, 385, 36, 386, 216, 72, 81, 80, 75, 208, 209, 210, 5, 211, 63, 64, 212, 213, 214, 215, 76, 77, 335, 336, 337, 338, 354, 355, 356, 357, 552, 553, 554, 555, 556, 557, 558, 559, 579, 580, 581, 582, 583, 584, 585, 586, 587, 588, 589, 590, 591] (by decide +kernel) (by decide +kernel)
set_option maxRecDepth 20000 in
theorem gL_law_X5_digest : GoodIn wsL_law (wsV RL 132 RX5 yX5_digest wsX5_digest) := goodIn_app (goodIn_of _ (by decide +kernel)) ggL_law_X5_digest
