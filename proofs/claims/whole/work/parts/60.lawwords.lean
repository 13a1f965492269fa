set_option maxRecDepth 20000 in
theorem lwin_1 : GoodIn lw_tbl wsL_law0_r1 := goodIn_p wsL_law0_r1 [45, 48] rfl (by decide +kernel)
set_option maxRecDepth 20000 in
theorem lwin_2 : GoodIn lw_tbl wsL_law0_r2 := goodIn_p wsL_law0_r2 [53, 59, 69, 96] rfl (by decide +kernel)
set_option maxRecDepth 20000 in
theorem lwin_3 : GoodIn lw_tbl wsL_law0_r3 := goodIn_p wsL_law0_r3 [549, 555] rfl (by decide +kernel)
set_option maxRecDepth 20000 in
theorem lwin_4 : GoodIn lw_tbl wsL_law0_r4 := goodIn_p wsL_law0_r4 [231] rfl (by decide +kernel)
set_option maxRecDepth 20000 in
theorem lwin_5 : GoodIn lw_tbl wsL_law0_r5 := goodIn_p wsL_law0_r5 [234, 171, 175, 644, 647] rfl (by decide +kernel)
set_option maxRecDepth 20000 in
theorem lwin_6 : GoodIn lw_tbl wsL_law0_r6 := goodIn_p wsL_law0_r6 [650, 654, 640, 328] rfl (by decide +kernel)
set_option maxRecDepth 20000 in
theorem lwin_7 : GoodIn lw_tbl wsL_law0_r7 := goodIn_p wsL_law0_r7 [350, 658, 661, 357, 209] rfl (by decide +kernel)
set_option maxRecDepth 20000 in
theorem lwin_8 : GoodIn lw_tbl wsL_law0_r8 := goodIn_p wsL_law0_r8 [363, 665, 370, 373, 198] rfl (by decide +kernel)
set_option maxRecDepth 20000 in
theorem lwin_9 : GoodIn lw_tbl wsL_law0_r9 := goodIn_p wsL_law0_r9 [202, 205, 214, 669, 673, 677] rfl (by decide +kernel)
set_option maxRecDepth 20000 in
theorem lwin_10 : GoodIn lw_tbl wsL_law0_r10 := goodIn_p wsL_law0_r10 [381, 384, 391, 395, 399] rfl (by decide +kernel)
set_option maxRecDepth 20000 in
theorem lwin_11 : GoodIn lw_tbl wsL_law0_r11 := goodIn_p wsL_law0_r11 [681, 685, 406, 168, 164] rfl (by decide +kernel)
set_option maxRecDepth 20000 in
theorem lwin_12 : GoodIn lw_tbl wsL_law0_r12 := goodIn_p wsL_law0_r12 [413, 691, 695, 420] rfl (by decide +kernel)
set_option maxRecDepth 20000 in
theorem lwin_13 : GoodIn lw_tbl wsL_law0_r13 := goodIn_p wsL_law0_r13 [425, 429, 433, 436, 699, 703] rfl (by decide +kernel)
set_option maxRecDepth 20000 in
theorem lwin_14 : GoodIn lw_tbl wsL_law0_r14 := goodIn_p wsL_law0_r14 [444, 709, 453, 218, 713] rfl (by decide +kernel)
set_option maxRecDepth 20000 in
theorem lwin_15 : GoodIn lw_tbl wsL_law0_r15 := goodIn_p wsL_law0_r15 [717, 461, 222, 721, 725] rfl (by decide +kernel)
set_option maxRecDepth 20000 in
theorem lwin_16 : GoodIn lw_tbl wsL_law0_r16 := goodIn_p wsL_law0_r16 [468, 186, 190, 194, 729] rfl (by decide +kernel)
set_option maxRecDepth 20000 in
theorem lwin_17 : GoodIn lw_tbl wsL_law0_r17 := goodIn_p wsL_law0_r17 [733, 476, 481, 485, 490] rfl (by decide +kernel)
set_option maxRecDepth 20000 in
theorem lwin_18 : GoodIn lw_tbl wsL_law0_r18 := goodIn_p wsL_law0_r18 [494, 499, 503, 508, 737] rfl (by decide +kernel)
set_option maxRecDepth 20000 in
theorem lwin_19 : GoodIn lw_tbl wsL_law0_r19 := goodIn_p wsL_law0_r19 [741, 745, 749, 753, 757, 761] rfl (by decide +kernel)
set_option maxRecDepth 20000 in
theorem lwin_20 : GoodIn lw_tbl wsL_law0_r20 := goodIn_p wsL_law0_r20 [765, 769, 515, 519] rfl (by decide +kernel)
set_option maxRecDepth 20000 in
theorem lwin_21 : GoodIn lw_tbl wsL_law0_r21 := goodIn_p wsL_law0_r21 [523, 774, 778, 782] rfl (by decide +kernel)
set_option maxRecDepth 20000 in
theorem lwin_22 : GoodIn lw_tbl wsL_law0_r22 := goodIn_p wsL_law0_r22 [531, 789, 539, 544, 793] rfl (by decide +kernel)
set_option maxRecDepth 20000 in
theorem lwin_23 : GoodIn lw_tbl wsL_law0_r23 := goodIn_p wsL_law0_r23 [797, 160, 801, 180, 805] rfl (by decide +kernel)
set_option maxRecDepth 20000 in
theorem lwin_X30 : GoodIn lw_tbl wsX30 := goodIn_p wsX30 [] rfl (by decide +kernel)
set_option maxRecDepth 20000 in
theorem lwin_X50 : GoodIn lw_tbl wsX50 := goodIn_p wsX50 [] rfl (by decide +kernel)
set_option maxRecDepth 20000 in
theorem lwin_X00 : GoodIn lw_tbl wsX00 := goodIn_p wsX00 [] rfl (by decide +kernel)
set_option maxRecDepth 20000 in
theorem lwin_X10 : GoodIn lw_tbl wsX10 := goodIn_p wsX10 [] rfl (by decide +kernel)
set_option maxRecDepth 20000 in
theorem lwin_X20 : GoodIn lw_tbl wsX20 := goodIn_p wsX20 [] rfl (by decide +kernel)
set_option maxRecDepth 20000 in
theorem lwin_X40 : GoodIn lw_tbl wsX40 := goodIn_p wsX40 [] rfl (by decide +kernel)
theorem wsL_law_g0 : GoodIn lw_tbl wsL_law0 := goodIn_app (goodIn_app (goodIn_app (goodIn_app (goodIn_app (goodIn_app (goodIn_app (goodIn_app lwin_1 (goodIn_app lwin_2 (goodIn_app lwin_3 (goodIn_app lwin_4 (goodIn_app lwin_5 (goodIn_app lwin_6 (goodIn_app lwin_7 (goodIn_app lwin_8 (goodIn_app lwin_9 (goodIn_app lwin_10 (goodIn_app lwin_11 (goodIn_app lwin_12 (goodIn_app lwin_13 (goodIn_app lwin_14 (goodIn_app lwin_15 (goodIn_app lwin_16 (goodIn_app lwin_17 (goodIn_app lwin_18 (goodIn_app lwin_19 (goodIn_app lwin_20 (goodIn_app lwin_21 (goodIn_app lwin_22 (lwin_23))))))))))))))))))))))) lwin_X30) lwin_X50) lwin_X00) lwin_X10) lwin_X20) lwin_X40) (fun _ h => absurd h List.not_mem_nil)
theorem wsL_law_in0 : ∀ w ∈ wsL_law0, w ∈ lw_tbl := fun w h => (wsL_law_g0 w h).1
theorem wsL_law_x0 : ∀ w ∈ (vx_atS RX3 34 "java/lang/IndexOutOfBoundsException" ["java/lang/RuntimeException", "java/lang/Exception"]).filter goodWord, w ∈ lw_tbl := by decide +kernel
theorem wsL_law_x1 : ∀ w ∈ (vx_atS RX3 45 "java/lang/IllegalArgumentException" ["java/lang/RuntimeException", "java/lang/Exception"]).filter goodWord, w ∈ lw_tbl := by decide +kernel
theorem wsL_law_x2 : ∀ w ∈ (vx_atS RX3 75 "java/lang/IllegalStateException" ["java/lang/RuntimeException", "java/lang/Exception"]).filter goodWord, w ∈ lw_tbl := by decide +kernel
theorem wsL_law_in : ∀ w ∈ wsL_law, w ∈ lw_tbl := fun w h => (List.mem_append.mp h).elim (fun h => (List.mem_append.mp h).elim (fun h => (List.mem_append.mp h).elim (fun h => wsL_law_in0 w h) (fun h => wsL_law_x0 w h)) (fun h => wsL_law_x1 w h)) (fun h => wsL_law_x2 w h)
theorem inlX0 : ∀ w ∈ wsX00, w ∈ wsL_law := fun _ h => List.mem_append_left _ (List.mem_append_left _ (List.mem_append_left _ (List.mem_append_left _ (List.mem_append_left _ (List.mem_append_left _ (List.mem_append_left _ (List.mem_append_right _ h)))))))
theorem inX0 : ∀ w ∈ wsX00, w ∈ lw_tbl := fun w h => wsL_law_in w (inlX0 w h)
theorem inlX1 : ∀ w ∈ wsX10, w ∈ wsL_law := fun _ h => List.mem_append_left _ (List.mem_append_left _ (List.mem_append_left _ (List.mem_append_left _ (List.mem_append_left _ (List.mem_append_left _ (List.mem_append_right _ h))))))
theorem inX1 : ∀ w ∈ wsX10, w ∈ lw_tbl := fun w h => wsL_law_in w (inlX1 w h)
theorem inlX2 : ∀ w ∈ wsX20, w ∈ wsL_law := fun _ h => List.mem_append_left _ (List.mem_append_left _ (List.mem_append_left _ (List.mem_append_left _ (List.mem_append_left _ (List.mem_append_right _ h)))))
theorem inX2 : ∀ w ∈ wsX20, w ∈ lw_tbl := fun w h => wsL_law_in w (inlX2 w h)
theorem inlX3 : ∀ w ∈ wsX30, w ∈ wsL_law := fun _ h => List.mem_append_left _ (List.mem_append_left _ (List.mem_append_left _ (List.mem_append_left _ (List.mem_append_left _ (List.mem_append_left _ (List.mem_append_left _ (List.mem_append_left _ (List.mem_append_left _ (List.mem_append_right _ h)))))))))
theorem inX3 : ∀ w ∈ wsX30, w ∈ lw_tbl := fun w h => wsL_law_in w (inlX3 w h)
theorem inlX4 : ∀ w ∈ wsX40, w ∈ wsL_law := fun _ h => List.mem_append_left _ (List.mem_append_left _ (List.mem_append_left _ (List.mem_append_left _ (List.mem_append_right _ h))))
theorem inX4 : ∀ w ∈ wsX40, w ∈ lw_tbl := fun w h => wsL_law_in w (inlX4 w h)
theorem inlX5 : ∀ w ∈ wsX50, w ∈ wsL_law := fun _ h => List.mem_append_left _ (List.mem_append_left _ (List.mem_append_left _ (List.mem_append_left _ (List.mem_append_left _ (List.mem_append_left _ (List.mem_append_left _ (List.mem_append_left _ (List.mem_append_right _ h))))))))
theorem inX5 : ∀ w ∈ wsX50, w ∈ lw_tbl := fun w h => wsL_law_in w (inlX5 w h)
theorem inJ9 : ∀ w ∈ wsJ90, w ∈ lw_tbl := by decide +kernel
theorem inJ0 : ∀ w ∈ wsJ00, w ∈ lw_tbl := by decide +kernel
theorem inJ10 : ∀ w ∈ wsJ100, w ∈ lw_tbl := by decide +kernel
