set_option maxRecDepth 20000 in
theorem wsL_law0_r1_in : GoodIn lw_tbl wsL_law0_r1 := goodIn_p _ [58, 61] (by decide +kernel) (by decide +kernel)
set_option maxRecDepth 20000 in
theorem wsL_law0_r2_in : GoodIn lw_tbl wsL_law0_r2 := goodIn_p _ [68, 71, 74, 93] (by decide +kernel) (by decide +kernel)
set_option maxRecDepth 20000 in
theorem wsL_law0_r3_in : GoodIn lw_tbl wsL_law0_r3 := goodIn_p _ [101, 119, 736] (by decide +kernel) (by decide +kernel)
set_option maxRecDepth 20000 in
theorem wsL_law0_r4_in : GoodIn lw_tbl wsL_law0_r4 := goodIn_p _ [] (by decide +kernel) (by decide +kernel)
set_option maxRecDepth 20000 in
theorem wsL_law0_r5_in : GoodIn lw_tbl wsL_law0_r5 := goodIn_p _ [267, 271, 358] (by decide +kernel) (by decide +kernel)
set_option maxRecDepth 20000 in
theorem wsL_law0_r6_in : GoodIn lw_tbl wsL_law0_r6 := goodIn_p _ [173, 379, 407, 411] (by decide +kernel) (by decide +kernel)
set_option maxRecDepth 20000 in
theorem wsL_law0_r7_in : GoodIn lw_tbl wsL_law0_r7 := goodIn_p _ [415, 419, 425, 422, 429, 432] (by decide +kernel) (by decide +kernel)
set_option maxRecDepth 20000 in
theorem wsL_law0_r8_in : GoodIn lw_tbl wsL_law0_r8 := goodIn_p _ [449, 455, 824, 827] (by decide +kernel) (by decide +kernel)
set_option maxRecDepth 20000 in
theorem wsL_law0_r9_in : GoodIn lw_tbl wsL_law0_r9 := goodIn_p _ [830, 834, 820, 467, 471] (by decide +kernel) (by decide +kernel)
set_option maxRecDepth 20000 in
theorem wsL_law0_r10_in : GoodIn lw_tbl wsL_law0_r10 := goodIn_p _ [194, 197, 200, 204, 838] (by decide +kernel) (by decide +kernel)
set_option maxRecDepth 20000 in
theorem wsL_law0_r11_in : GoodIn lw_tbl wsL_law0_r11 := goodIn_p _ [842, 479, 846, 486] (by decide +kernel) (by decide +kernel)
set_option maxRecDepth 20000 in
theorem wsL_law0_r12_in : GoodIn lw_tbl wsL_law0_r12 := goodIn_p _ [490, 850, 854, 498, 502] (by decide +kernel) (by decide +kernel)
set_option maxRecDepth 20000 in
theorem wsL_law0_r13_in : GoodIn lw_tbl wsL_law0_r13 := goodIn_p _ [506, 858, 513, 189] (by decide +kernel) (by decide +kernel)
set_option maxRecDepth 20000 in
theorem wsL_law0_r14_in : GoodIn lw_tbl wsL_law0_r14 := goodIn_p _ [209, 213, 217, 221, 225, 229] (by decide +kernel) (by decide +kernel)
set_option maxRecDepth 20000 in
theorem wsL_law0_r15_in : GoodIn lw_tbl wsL_law0_r15 := goodIn_p _ [517, 862, 866, 870, 874, 878] (by decide +kernel) (by decide +kernel)
set_option maxRecDepth 20000 in
theorem wsL_law0_r16_in : GoodIn lw_tbl wsL_law0_r16 := goodIn_p _ [882, 524, 528, 534] (by decide +kernel) (by decide +kernel)
set_option maxRecDepth 20000 in
theorem wsL_law0_r17_in : GoodIn lw_tbl wsL_law0_r17 := goodIn_p _ [886, 890, 579] (by decide +kernel) (by decide +kernel)
set_option maxRecDepth 20000 in
theorem wsL_law0_r18_in : GoodIn lw_tbl wsL_law0_r18 := goodIn_p _ [584, 588, 592, 240] (by decide +kernel) (by decide +kernel)
set_option maxRecDepth 20000 in
theorem wsL_law0_r19_in : GoodIn lw_tbl wsL_law0_r19 := goodIn_p _ [596, 244, 600, 604, 608, 613] (by decide +kernel) (by decide +kernel)
set_option maxRecDepth 20000 in
theorem wsL_law0_r20_in : GoodIn lw_tbl wsL_law0_r20 := goodIn_p _ [618, 894, 898, 902, 906] (by decide +kernel) (by decide +kernel)
set_option maxRecDepth 20000 in
theorem wsL_law0_r21_in : GoodIn lw_tbl wsL_law0_r21 := goodIn_p _ [169, 910, 625, 914, 177] (by decide +kernel) (by decide +kernel)
set_option maxRecDepth 20000 in
theorem wsL_law0_r22_in : GoodIn lw_tbl wsL_law0_r22 := goodIn_p _ [918, 181, 922, 632, 926] (by decide +kernel) (by decide +kernel)
set_option maxRecDepth 20000 in
theorem wsL_law0_r23_in : GoodIn lw_tbl wsL_law0_r23 := goodIn_p _ [640, 930, 647, 934] (by decide +kernel) (by decide +kernel)
set_option maxRecDepth 20000 in
theorem wsL_law0_r24_in : GoodIn lw_tbl wsL_law0_r24 := goodIn_p _ [938, 654, 942, 185, 946] (by decide +kernel) (by decide +kernel)
set_option maxRecDepth 20000 in
theorem wsL_law0_r25_in : GoodIn lw_tbl wsL_law0_r25 := goodIn_p _ [661, 665, 669, 950] (by decide +kernel) (by decide +kernel)
set_option maxRecDepth 20000 in
theorem wsL_law0_r26_in : GoodIn lw_tbl wsL_law0_r26 := goodIn_p _ [676, 236, 954, 958, 233, 962, 248] (by decide +kernel) (by decide +kernel)
set_option maxRecDepth 20000 in
theorem wsL_law0_r27_in : GoodIn lw_tbl wsL_law0_r27 := goodIn_p _ [966, 252, 970, 683, 687] (by decide +kernel) (by decide +kernel)
set_option maxRecDepth 20000 in
theorem wsL_law0_r28_in : GoodIn lw_tbl wsL_law0_r28 := goodIn_p _ [974, 978, 982, 695, 986] (by decide +kernel) (by decide +kernel)
set_option maxRecDepth 20000 in
theorem wsL_law0_r29_in : GoodIn lw_tbl wsL_law0_r29 := goodIn_p _ [702, 990, 709, 994] (by decide +kernel) (by decide +kernel)
set_option maxRecDepth 20000 in
theorem wsL_law0_r30_in : GoodIn lw_tbl wsL_law0_r30 := goodIn_p _ [716, 998, 723, 1002] (by decide +kernel) (by decide +kernel)
set_option maxRecDepth 20000 in
theorem wsL_law0_r31_in : GoodIn lw_tbl wsL_law0_r31 := goodIn_p _ [730, 1006, 256, 1010] (by decide +kernel) (by decide +kernel)
set_option maxRecDepth 20000 in
theorem gin_wsX40 : GoodIn lw_tbl wsX40 := goodIn_p _ [] (by decide +kernel) (by decide +kernel)
set_option maxRecDepth 20000 in
theorem gin_wsX50 : GoodIn lw_tbl wsX50 := goodIn_p _ [] (by decide +kernel) (by decide +kernel)
set_option maxRecDepth 20000 in
theorem gin_wsJx4a65c0 : GoodIn lw_tbl wsJx4a65c0 := goodIn_p _ [] (by decide +kernel) (by decide +kernel)
set_option maxRecDepth 20000 in
theorem gin_wsX10 : GoodIn lw_tbl wsX10 := goodIn_p _ [] (by decide +kernel) (by decide +kernel)
set_option maxRecDepth 20000 in
theorem gin_wsX30 : GoodIn lw_tbl wsX30 := goodIn_p _ [] (by decide +kernel) (by decide +kernel)
set_option maxRecDepth 20000 in
theorem gin_wsX20 : GoodIn lw_tbl wsX20 := goodIn_p _ [] (by decide +kernel) (by decide +kernel)
set_option maxRecDepth 20000 in
theorem gin_wsX00 : GoodIn lw_tbl wsX00 := goodIn_p _ [] (by decide +kernel) (by decide +kernel)
theorem wsL_law_in0 : ∀ w ∈ wsL_law0, w ∈ lw_tbl := fun w h => (goodIn_app (goodIn_app (goodIn_app (goodIn_app (goodIn_app (goodIn_app (goodIn_app (goodIn_app ((goodIn_app wsL_law0_r1_in (goodIn_app wsL_law0_r2_in (goodIn_app wsL_law0_r3_in (goodIn_app wsL_law0_r4_in (goodIn_app wsL_law0_r5_in (goodIn_app wsL_law0_r6_in (goodIn_app wsL_law0_r7_in (goodIn_app wsL_law0_r8_in (goodIn_app wsL_law0_r9_in (goodIn_app wsL_law0_r10_in (goodIn_app wsL_law0_r11_in (goodIn_app wsL_law0_r12_in (goodIn_app wsL_law0_r13_in (goodIn_app wsL_law0_r14_in (goodIn_app wsL_law0_r15_in (goodIn_app wsL_law0_r16_in (goodIn_app wsL_law0_r17_in (goodIn_app wsL_law0_r18_in (goodIn_app wsL_law0_r19_in (goodIn_app wsL_law0_r20_in (goodIn_app wsL_law0_r21_in (goodIn_app wsL_law0_r22_in (goodIn_app wsL_law0_r23_in (goodIn_app wsL_law0_r24_in (goodIn_app wsL_law0_r25_in (goodIn_app wsL_law0_r26_in (goodIn_app wsL_law0_r27_in (goodIn_app wsL_law0_r28_in (goodIn_app wsL_law0_r29_in (goodIn_app wsL_law0_r30_in (wsL_law0_r31_in)))))))))))))))))))))))))))))))) gin_wsX40) gin_wsX50) gin_wsJx4a65c0) gin_wsX10) gin_wsX30) gin_wsX20) gin_wsX00) (fun w h => absurd h List.not_mem_nil) w h).1
theorem wsL_law_x0 : ∀ w ∈ (vx_atS RX4 40 "java/lang/IllegalArgumentException" ["java/lang/RuntimeException", "java/lang/Exception"]).filter goodWord, w ∈ lw_tbl := by decide +kernel
theorem wsL_law_x1 : ∀ w ∈ (vx_atS RX4 55 "java/lang/IllegalStateException" ["java/lang/RuntimeException", "java/lang/Exception"]).filter goodWord, w ∈ lw_tbl := by decide +kernel
theorem wsL_law_x2 : ∀ w ∈ (vx_atS RX4 186 "java/lang/IndexOutOfBoundsException" ["java/lang/RuntimeException", "java/lang/Exception"]).filter goodWord, w ∈ lw_tbl := by decide +kernel
theorem wsL_law_in : ∀ w ∈ wsL_law, w ∈ lw_tbl := fun w h => (List.mem_append.mp h).elim (fun h => (List.mem_append.mp h).elim (fun h => (List.mem_append.mp h).elim (fun h => wsL_law_in0 w h) (fun h => wsL_law_x0 w h)) (fun h => wsL_law_x1 w h)) (fun h => wsL_law_x2 w h)
theorem inlX0 : ∀ w ∈ wsX00, w ∈ wsL_law := fun _ h => List.mem_append_left _ (List.mem_append_left _ (List.mem_append_left _ (List.mem_append_left _ (List.mem_append_right _ h))))
theorem inX0 : ∀ w ∈ wsX00, w ∈ lw_tbl := fun w h => wsL_law_in w (inlX0 w h)
theorem inlX1 : ∀ w ∈ wsX10, w ∈ wsL_law := fun _ h => List.mem_append_left _ (List.mem_append_left _ (List.mem_append_left _ (List.mem_append_left _ (List.mem_append_left _ (List.mem_append_left _ (List.mem_append_left _ (List.mem_append_right _ h)))))))
theorem inX1 : ∀ w ∈ wsX10, w ∈ lw_tbl := fun w h => wsL_law_in w (inlX1 w h)
theorem inlX2 : ∀ w ∈ wsX20, w ∈ wsL_law := fun _ h => List.mem_append_left _ (List.mem_append_left _ (List.mem_append_left _ (List.mem_append_left _ (List.mem_append_left _ (List.mem_append_right _ h)))))
theorem inX2 : ∀ w ∈ wsX20, w ∈ lw_tbl := fun w h => wsL_law_in w (inlX2 w h)
theorem inlX3 : ∀ w ∈ wsX30, w ∈ wsL_law := fun _ h => List.mem_append_left _ (List.mem_append_left _ (List.mem_append_left _ (List.mem_append_left _ (List.mem_append_left _ (List.mem_append_left _ (List.mem_append_right _ h))))))
theorem inX3 : ∀ w ∈ wsX30, w ∈ lw_tbl := fun w h => wsL_law_in w (inlX3 w h)
theorem inlX4 : ∀ w ∈ wsX40, w ∈ wsL_law := fun _ h => List.mem_append_left _ (List.mem_append_left _ (List.mem_append_left _ (List.mem_append_left _ (List.mem_append_left _ (List.mem_append_left _ (List.mem_append_left _ (List.mem_append_left _ (List.mem_append_left _ (List.mem_append_left _ (List.mem_append_right _ h))))))))))
theorem inX4 : ∀ w ∈ wsX40, w ∈ lw_tbl := fun w h => wsL_law_in w (inlX4 w h)
theorem inlX5 : ∀ w ∈ wsX50, w ∈ wsL_law := fun _ h => List.mem_append_left _ (List.mem_append_left _ (List.mem_append_left _ (List.mem_append_left _ (List.mem_append_left _ (List.mem_append_left _ (List.mem_append_left _ (List.mem_append_left _ (List.mem_append_left _ (List.mem_append_right _ h)))))))))
theorem inX5 : ∀ w ∈ wsX50, w ∈ lw_tbl := fun w h => wsL_law_in w (inlX5 w h)
theorem inJx145de : ∀ w ∈ wsJx145de0, w ∈ lw_tbl := by decide +kernel
theorem inJx8e188 : ∀ w ∈ wsJx8e1880, w ∈ lw_tbl := by decide +kernel
theorem inJxab1ab : ∀ w ∈ wsJxab1ab0, w ∈ lw_tbl := by decide +kernel
theorem inJ9 : ∀ w ∈ wsJ90, w ∈ lw_tbl := by decide +kernel
theorem inJ0 : ∀ w ∈ wsJ00, w ∈ lw_tbl := by decide +kernel
theorem inJ10 : ∀ w ∈ wsJ100, w ∈ lw_tbl := by decide +kernel
theorem inJxa1e45 : ∀ w ∈ wsJxa1e450, w ∈ lw_tbl := by decide +kernel
theorem inJxc12de : ∀ w ∈ wsJxc12de0, w ∈ lw_tbl := by decide +kernel
theorem inlJx4a65c : ∀ w ∈ wsJx4a65c0, w ∈ wsL_law := fun _ h => List.mem_append_left _ (List.mem_append_left _ (List.mem_append_left _ (List.mem_append_left _ (List.mem_append_left _ (List.mem_append_left _ (List.mem_append_left _ (List.mem_append_left _ (List.mem_append_right _ h))))))))
theorem inJx4a65c : ∀ w ∈ wsJx4a65c0, w ∈ lw_tbl := fun w h => wsL_law_in w (inlJx4a65c w h)
theorem inJ7 : ∀ w ∈ wsJ70, w ∈ lw_tbl := by decide +kernel
theorem inJx5ef63 : ∀ w ∈ wsJx5ef630, w ∈ lw_tbl := by decide +kernel
theorem inJxbd725 : ∀ w ∈ wsJxbd7250, w ∈ lw_tbl := by decide +kernel
theorem inJ15 : ∀ w ∈ wsJ150, w ∈ lw_tbl := by decide +kernel
theorem inJxf0a74 : ∀ w ∈ wsJxf0a740, w ∈ lw_tbl := by decide +kernel
theorem inJxa66e6 : ∀ w ∈ wsJxa66e60, w ∈ lw_tbl := by decide +kernel
theorem inJ8 : ∀ w ∈ wsJ80, w ∈ lw_tbl := by decide +kernel
theorem inJ3 : ∀ w ∈ wsJ30, w ∈ lw_tbl := by decide +kernel
