theorem dX4_findCheapestWays_111 : decode cX4_findCheapestWays 111 = .ok (.iinc 3 1, 3) := by decide +kernel
theorem dX4_findCheapestWays_114 : decode cX4_findCheapestWays 114 = .ok (.goto (-73), 3) := by decide +kernel
theorem dX4_findCheapestWays_117 : decode cX4_findCheapestWays 117 = .ok (.iinc 2 1, 3) := by decide +kernel
theorem dX4_findCheapestWays_120 : decode cX4_findCheapestWays 120 = .ok (.goto (-87), 3) := by decide +kernel
theorem dX4_findCheapestWays_123 : decode cX4_findCheapestWays 123 = .ok (.return_, 1) := by decide +kernel
theorem dX4_extendWay_0 : decode cX4_extendWay 0 = .ok (.aload_n 0, 1) := by decide +kernel
theorem dX4_extendWay_1 : decode cX4_extendWay 1 = .ok (.getfield 25, 3) := by decide +kernel
theorem dX4_extendWay_4 : decode cX4_extendWay 4 = .ok (.aload_n 1, 1) := by decide +kernel
theorem dX4_extendWay_5 : decode cX4_extendWay 5 = .ok (.getfield 142, 3) := by decide +kernel
theorem dX4_extendWay_8 : decode cX4_extendWay 8 = .ok (.iaload, 1) := by decide +kernel
theorem dX4_extendWay_9 : decode cX4_extendWay 9 = .ok (.istore 4, 2) := by decide +kernel
theorem dX4_extendWay_11 : decode cX4_extendWay 11 = .ok (.iload 4, 2) := by decide +kernel
theorem dX4_extendWay_13 : decode cX4_extendWay 13 = .ok (.iconst (-1), 1) := by decide +kernel
theorem dX4_extendWay_14 : decode cX4_extendWay 14 = .ok (.if_icmp .ne 4, 3) := by decide +kernel
theorem dX4_extendWay_17 : decode cX4_extendWay 17 = .ok (.return_, 1) := by decide +kernel
theorem dX4_extendWay_18 : decode cX4_extendWay 18 = .ok (.aload_n 0, 1) := by decide +kernel
theorem dX4_extendWay_19 : decode cX4_extendWay 19 = .ok (.getfield 25, 3) := by decide +kernel
theorem dX4_extendWay_22 : decode cX4_extendWay 22 = .ok (.aload_n 2, 1) := by decide +kernel
theorem dX4_extendWay_23 : decode cX4_extendWay 23 = .ok (.getfield 142, 3) := by decide +kernel
theorem dX4_extendWay_26 : decode cX4_extendWay 26 = .ok (.iaload, 1) := by decide +kernel
theorem dX4_extendWay_27 : decode cX4_extendWay 27 = .ok (.istore 5, 2) := by decide +kernel
theorem dX4_extendWay_29 : decode cX4_extendWay 29 = .ok (.iload 5, 2) := by decide +kernel
theorem dX4_extendWay_31 : decode cX4_extendWay 31 = .ok (.iconst (-1), 1) := by decide +kernel
theorem dX4_extendWay_32 : decode cX4_extendWay 32 = .ok (.if_icmp .eq 12, 3) := by decide +kernel
theorem dX4_extendWay_35 : decode cX4_extendWay 35 = .ok (.iload 4, 2) := by decide +kernel
theorem dX4_extendWay_37 : decode cX4_extendWay 37 = .ok (.iload_n 3, 1) := by decide +kernel
theorem dX4_extendWay_38 : decode cX4_extendWay 38 = .ok (.iadd, 1) := by decide +kernel
theorem dX4_extendWay_39 : decode cX4_extendWay 39 = .ok (.iload 5, 2) := by decide +kernel
theorem dX4_extendWay_41 : decode cX4_extendWay 41 = .ok (.if_icmp .ge 16, 3) := by decide +kernel
theorem dX4_extendWay_44 : decode cX4_extendWay 44 = .ok (.aload_n 0, 1) := by decide +kernel
theorem dX4_extendWay_45 : decode cX4_extendWay 45 = .ok (.getfield 25, 3) := by decide +kernel
theorem dX4_extendWay_48 : decode cX4_extendWay 48 = .ok (.aload_n 2, 1) := by decide +kernel
theorem dX4_extendWay_49 : decode cX4_extendWay 49 = .ok (.getfield 142, 3) := by decide +kernel
theorem dX4_extendWay_52 : decode cX4_extendWay 52 = .ok (.iload 4, 2) := by decide +kernel
theorem dX4_extendWay_54 : decode cX4_extendWay 54 = .ok (.iload_n 3, 1) := by decide +kernel
theorem dX4_extendWay_55 : decode cX4_extendWay 55 = .ok (.iadd, 1) := by decide +kernel
theorem dX4_extendWay_56 : decode cX4_extendWay 56 = .ok (.iastore, 1) := by decide +kernel
theorem dX4_extendWay_57 : decode cX4_extendWay 57 = .ok (.return_, 1) := by decide +kernel
set_option maxRecDepth 20000 in
theorem ggX4_goesRound_X1_canalTowards : GoodIn wsX4_goesRound wsX1_canalTowards := goodIn_r _ [5, 6, 7, 8, 16, 17, 18, 19, 20, 21, 22, 23] (by decide +kernel) (by decide +kernel)
set_option maxRecDepth 20000 in
theorem gX4_goesRound_X1_canalTowards : GoodIn wsX4_goesRound (wsV RX4 145 RX1 yX1_canalTowards wsX1_canalTowards) := goodIn_app (goodIn_of _ (by decide +kernel)) ggX4_goesRound_X1_canalTowards
set_option maxRecDepth 20000 in
theorem ggX4_goesRound_X2_otherEnd : GoodIn wsX4_goesRound wsX2_otherEnd := goodIn_r _ [13, 14, 15, 24, 25, 26, 27, 28, 29] (by decide +kernel) (by decide +kernel)
set_option maxRecDepth 20000 in
theorem gX4_goesRound_X2_otherEnd : GoodIn wsX4_goesRound (wsV RX4 217 RX2 yX2_otherEnd wsX2_otherEnd) := goodIn_app (goodIn_of _ (by decide +kernel)) ggX4_goesRound_X2_otherEnd
theorem dX4_goesRound_0 : decode cX4_goesRound 0 = .ok (.aload_n 0, 1) := by decide +kernel
theorem dX4_goesRound_1 : decode cX4_goesRound 1 = .ok (.astore_n 2, 1) := by decide +kernel
theorem dX4_goesRound_2 : decode cX4_goesRound 2 = .ok (.iconst 0, 1) := by decide +kernel
theorem dX4_goesRound_3 : decode cX4_goesRound 3 = .ok (.istore_n 3, 1) := by decide +kernel
theorem dX4_goesRound_4 : decode cX4_goesRound 4 = .ok (.iload_n 3, 1) := by decide +kernel
theorem dX4_goesRound_5 : decode cX4_goesRound 5 = .ok (.bipush 8, 2) := by decide +kernel
theorem dX4_goesRound_7 : decode cX4_goesRound 7 = .ok (.if_icmp .ge 37, 3) := by decide +kernel
theorem dX4_goesRound_10 : decode cX4_goesRound 10 = .ok (.aload_n 2, 1) := by decide +kernel
theorem dX4_goesRound_11 : decode cX4_goesRound 11 = .ok (.aload_n 1, 1) := by decide +kernel
theorem dX4_goesRound_12 : decode cX4_goesRound 12 = .ok (.if_acmp .ne 5, 3) := by decide +kernel
theorem dX4_goesRound_15 : decode cX4_goesRound 15 = .ok (.iconst 0, 1) := by decide +kernel
theorem dX4_goesRound_16 : decode cX4_goesRound 16 = .ok (.ireturn, 1) := by decide +kernel
theorem dX4_goesRound_17 : decode cX4_goesRound 17 = .ok (.aload_n 2, 1) := by decide +kernel
theorem dX4_goesRound_18 : decode cX4_goesRound 18 = .ok (.aload_n 1, 1) := by decide +kernel
theorem dX4_goesRound_19 : decode cX4_goesRound 19 = .ok (.invokevirtual 145, 3) := by decide +kernel
theorem dX4_goesRound_22 : decode cX4_goesRound 22 = .ok (.astore 4, 2) := by decide +kernel
theorem dX4_goesRound_24 : decode cX4_goesRound 24 = .ok (.aload 4, 2) := by decide +kernel
theorem dX4_goesRound_26 : decode cX4_goesRound 26 = .ok (.ifnonnull 5, 3) := by decide +kernel
theorem dX4_goesRound_29 : decode cX4_goesRound 29 = .ok (.iconst 0, 1) := by decide +kernel
theorem dX4_goesRound_30 : decode cX4_goesRound 30 = .ok (.ireturn, 1) := by decide +kernel
theorem dX4_goesRound_31 : decode cX4_goesRound 31 = .ok (.aload 4, 2) := by decide +kernel
theorem dX4_goesRound_33 : decode cX4_goesRound 33 = .ok (.aload_n 2, 1) := by decide +kernel
theorem dX4_goesRound_34 : decode cX4_goesRound 34 = .ok (.invokevirtual 217, 3) := by decide +kernel
theorem dX4_goesRound_37 : decode cX4_goesRound 37 = .ok (.astore_n 2, 1) := by decide +kernel
theorem dX4_goesRound_38 : decode cX4_goesRound 38 = .ok (.iinc 3 1, 3) := by decide +kernel
theorem dX4_goesRound_41 : decode cX4_goesRound 41 = .ok (.goto (-37), 3) := by decide +kernel
theorem dX4_goesRound_44 : decode cX4_goesRound 44 = .ok (.iconst 1, 1) := by decide +kernel
theorem dX4_goesRound_45 : decode cX4_goesRound 45 = .ok (.ireturn, 1) := by decide +kernel
set_option maxRecDepth 20000 in
theorem ggX4_tickBarges_X4_sendFirst : GoodIn wsX4_tickBarges wsX4_sendFirst := goodIn_r _ [7, 8, 9, 10, 1, 11, 12, 13, 14, 15, 16, 17, 18, 19, 20, 21, 22, 23, 24, 25, 26, 27, 28, 29, 30, 31, 32, 33, 34, 35, 36, 37, 38, 39, 40, 41, 42, 43, 44, 45, 46, 47, 48, 49, 50, 51, 52, 53, 54, 55, 56, 57, 58, 59, 60, 61, 6, 62, 63, 64, 65, 66, 67, 68, 69, 70, 71, 72, 73, 74, 75, 76, 77, 78, 79, 80, 81, 82, 83, 84, 85, 86, 87, 88, 89, 90, 91, 92, 93, 94, 95, 96, 97, 98, 99, 100, 101, 102, 103, 104, 105, 106, 107, 108, 109, 110, 111, 112, 113, 114, 115, 116, 117, 118, 119, 120, 121, 122, 123, 124, 125, 126, 127, 128, 129, 130, 131, 132, 133, 134, 135, 136, 137, 138, 139, 140, 141, 142, 143, 144, 145, 146, 147, 148, 149, 150, 151, 152, 153, 154, 155, 156, 157, 158, 159, 166, 167, 168, 169, 170, 171, 172, 173, 174, 175, 176, 177, 178, 179, 180, 160, 161, 162, 163, 164, 165, 181, 182, 183, 184, 185, 186, 187, 188, 189, 190, 191] (by decide +kernel) (by decide +kernel)
set_option maxRecDepth 20000 in
theorem gX4_tickBarges_X4_sendFirst : GoodIn wsX4_tickBarges (wsV RX4 221 RX4 yX4_sendFirst wsX4_sendFirst) := goodIn_app (goodIn_of _ (by decide +kernel)) ggX4_tickBarges_X4_sendFirst
theorem dX4_tickBarges_0 : decode cX4_tickBarges 0 = .ok (.aload_n 0, 1) := by decide +kernel
theorem dX4_tickBarges_1 : decode cX4_tickBarges 1 = .ok (.dup, 1) := by decide +kernel
theorem dX4_tickBarges_2 : decode cX4_tickBarges 2 = .ok (.getfield 119, 3) := by decide +kernel
theorem dX4_tickBarges_5 : decode cX4_tickBarges 5 = .ok (.iconst 1, 1) := by decide +kernel
theorem dX4_tickBarges_6 : decode cX4_tickBarges 6 = .ok (.iadd, 1) := by decide +kernel
theorem dX4_tickBarges_7 : decode cX4_tickBarges 7 = .ok (.putfield 119, 3) := by decide +kernel
theorem dX4_tickBarges_10 : decode cX4_tickBarges 10 = .ok (.iconst 0, 1) := by decide +kernel
theorem dX4_tickBarges_11 : decode cX4_tickBarges 11 = .ok (.istore_n 1, 1) := by decide +kernel
theorem dX4_tickBarges_12 : decode cX4_tickBarges 12 = .ok (.iconst 0, 1) := by decide +kernel
theorem dX4_tickBarges_13 : decode cX4_tickBarges 13 = .ok (.istore_n 2, 1) := by decide +kernel
theorem dX4_tickBarges_14 : decode cX4_tickBarges 14 = .ok (.iload_n 2, 1) := by decide +kernel
theorem dX4_tickBarges_15 : decode cX4_tickBarges 15 = .ok (.bipush 8, 2) := by decide +kernel
theorem dX4_tickBarges_17 : decode cX4_tickBarges 17 = .ok (.if_icmp .ge 25, 3) := by decide +kernel
theorem dX4_tickBarges_20 : decode cX4_tickBarges 20 = .ok (.aload_n 0, 1) := by decide +kernel
theorem dX4_tickBarges_21 : decode cX4_tickBarges 21 = .ok (.aload_n 0, 1) := by decide +kernel
theorem dX4_tickBarges_22 : decode cX4_tickBarges 22 = .ok (.getfield 11, 3) := by decide +kernel
theorem dX4_tickBarges_25 : decode cX4_tickBarges 25 = .ok (.iload_n 2, 1) := by decide +kernel
theorem dX4_tickBarges_26 : decode cX4_tickBarges 26 = .ok (.aaload, 1) := by decide +kernel
theorem dX4_tickBarges_27 : decode cX4_tickBarges 27 = .ok (.invokevirtual 221, 3) := by decide +kernel
theorem dX4_tickBarges_30 : decode cX4_tickBarges 30 = .ok (.ifCond .eq 6, 3) := by decide +kernel
theorem dX4_tickBarges_33 : decode cX4_tickBarges 33 = .ok (.iinc 1 1, 3) := by decide +kernel
theorem dX4_tickBarges_36 : decode cX4_tickBarges 36 = .ok (.iinc 2 1, 3) := by decide +kernel
theorem dX4_tickBarges_39 : decode cX4_tickBarges 39 = .ok (.goto (-25), 3) := by decide +kernel
theorem dX4_tickBarges_42 : decode cX4_tickBarges 42 = .ok (.iload_n 1, 1) := by decide +kernel
theorem dX4_tickBarges_43 : decode cX4_tickBarges 43 = .ok (.ireturn, 1) := by decide +kernel
set_option maxRecDepth 20000 in
theorem ggX4_sendFirst_Jx4a65c_isEmpty_aae02 : GoodIn wsX4_sendFirst wsJx4a65c_isEmpty_aae02 := goodIn_r _ [12, 13, 176, 177, 178] (by decide +kernel) (by decide +kernel)
set_option maxRecDepth 20000 in
theorem gX4_sendFirst_Jx4a65c_isEmpty_aae02 : GoodIn wsX4_sendFirst (wsV RX4 225 RJx4a65c yJx4a65c_isEmpty_aae02 wsJx4a65c_isEmpty_aae02) := goodIn_app (goodIn_of _ (by decide +kernel)) ggX4_sendFirst_Jx4a65c_isEmpty_aae02
set_option maxRecDepth 20000 in
theorem ggX4_sendFirst_Jx4a65c_get_915e3 : GoodIn wsX4_sendFirst wsJx4a65c_get_915e3 := goodIn_r _ [17, 13, 18, 19, 20, 21, 22, 23, 24, 25, 26, 27, 28, 11, 29, 30, 176, 177, 178] (by decide +kernel) (by decide +kernel)
set_option maxRecDepth 20000 in
theorem gX4_sendFirst_Jx4a65c_get_915e3 : GoodIn wsX4_sendFirst (wsV RX4 177 RJx4a65c yJx4a65c_get_915e3 wsJx4a65c_get_915e3) := goodIn_app (goodIn_of _ (by decide +kernel)) ggX4_sendFirst_Jx4a65c_get_915e3
set_option maxRecDepth 20000 in
theorem ggX4_sendFirst_X1_canalTowards : GoodIn wsX4_sendFirst wsX1_canalTowards := goodIn_r _ [35, 36, 37, 38, 155, 156, 157, 158, 159, 160, 179, 180] (by decide +kernel) (by decide +kernel)
set_option maxRecDepth 20000 in
theorem gX4_sendFirst_X1_canalTowards : GoodIn wsX4_sendFirst (wsV RX4 145 RX1 yX1_canalTowards wsX1_canalTowards) := goodIn_app (goodIn_of _ (by decide +kernel)) ggX4_sendFirst_X1_canalTowards
set_option maxRecDepth 20000 in
theorem ggX4_sendFirst_X2_isPassable : GoodIn wsX4_sendFirst wsX2_isPassable := goodIn_r _ [43, 44, 45, 46, 47, 181, 182, 183, 184, 185, 186, 155, 156, 157, 158, 159, 160] (by decide +kernel) (by decide +kernel)
set_option maxRecDepth 20000 in
theorem gX4_sendFirst_X2_isPassable : GoodIn wsX4_sendFirst (wsV RX4 130 RX2 yX2_isPassable wsX2_isPassable) := goodIn_app (goodIn_of _ (by decide +kernel)) ggX4_sendFirst_X2_isPassable
set_option maxRecDepth 20000 in
theorem ggX4_sendFirst_X2_otherEnd : GoodIn wsX4_sendFirst wsX2_otherEnd := goodIn_r _ [51, 45, 52, 181, 182, 183, 184, 185, 186] (by decide +kernel) (by decide +kernel)
set_option maxRecDepth 20000 in
theorem gX4_sendFirst_X2_otherEnd : GoodIn wsX4_sendFirst (wsV RX4 217 RX2 yX2_otherEnd wsX2_otherEnd) := goodIn_app (goodIn_of _ (by decide +kernel)) ggX4_sendFirst_X2_otherEnd
set_option maxRecDepth 20000 in
theorem ggX4_sendFirst_X4_takesIn : GoodIn wsX4_sendFirst wsX4_takesIn := goodIn_r _ [57, 5, 1, 58, 4, 59, 60, 61, 34, 62, 63, 64, 65, 66, 11, 67, 13, 68, 161, 162, 163, 164, 165, 166, 167, 168, 169, 155, 156, 157, 158, 159, 160, 170, 171, 172, 173, 174, 175, 176, 177, 178] (by decide +kernel) (by decide +kernel)
set_option maxRecDepth 20000 in
theorem gX4_sendFirst_X4_takesIn : GoodIn wsX4_sendFirst (wsV RX4 234 RX4 yX4_takesIn wsX4_takesIn) := goodIn_app (goodIn_of _ (by decide +kernel)) ggX4_sendFirst_X4_takesIn
set_option maxRecDepth 20000 in
theorem ggX4_sendFirst_Jx4a65c_remove_915e3 : GoodIn wsX4_sendFirst wsJx4a65c_remove_915e3 := goodIn_r _ [72, 13, 30, 18, 19, 20, 21, 22, 23, 24, 25, 73, 74, 75, 11, 76, 77, 78, 79, 80, 81, 82, 176, 177, 178] (by decide +kernel) (by decide +kernel)
set_option maxRecDepth 20000 in
theorem gX4_sendFirst_Jx4a65c_remove_915e3 : GoodIn wsX4_sendFirst (wsV RX4 238 RJx4a65c yJx4a65c_remove_915e3 wsJx4a65c_remove_915e3) := goodIn_app (goodIn_of _ (by decide +kernel)) ggX4_sendFirst_Jx4a65c_remove_915e3
set_option maxRecDepth 20000 in
theorem ggX4_sendFirst_X2_lockThrough : GoodIn wsX4_sendFirst wsX2_lockThrough := goodIn_r _ [86, 45, 46, 47, 52, 87, 88, 89, 34, 90, 91, 92, 93, 94, 95, 181, 182, 183, 184, 185, 186, 155, 156, 157, 158, 159, 160] (by decide +kernel) (by decide +kernel)
set_option maxRecDepth 20000 in
theorem gX4_sendFirst_X2_lockThrough : GoodIn wsX4_sendFirst (wsV RX4 241 RX2 yX2_lockThrough wsX2_lockThrough) := goodIn_app (goodIn_of _ (by decide +kernel)) ggX4_sendFirst_X2_lockThrough
set_option maxRecDepth 20000 in
theorem ggX4_sendFirst_X0_comeTo : GoodIn wsX4_sendFirst wsX0_comeTo := goodIn_r _ [100, 101, 102, 103, 104, 105, 106, 107, 108, 109, 161, 162, 163, 164, 165, 166, 167, 168, 169, 155, 156, 157, 158, 159, 160] (by decide +kernel) (by decide +kernel)
set_option maxRecDepth 20000 in
theorem gX4_sendFirst_X0_comeTo : GoodIn wsX4_sendFirst (wsV RX4 244 RX0 yX0_comeTo wsX0_comeTo) := goodIn_app (goodIn_of _ (by decide +kernel)) ggX4_sendFirst_X0_comeTo
set_option maxRecDepth 20000 in
theorem ggX4_sendFirst_Jx4a65c_add_9ea2d : GoodIn wsX4_sendFirst wsJx4a65c_add_9ea2d := goodIn_r _ [113, 77, 78, 30, 13, 114, 115, 116, 11, 117, 118, 119, 120, 121, 122, 123, 124, 125, 126, 127, 93, 94, 95, 128, 129, 130, 131, 132, 133, 134, 135, 136, 137, 138, 139, 140, 141, 142, 143, 144, 145, 146, 147, 148, 149, 150, 151, 152, 153, 154, 80, 81, 82, 176, 177, 178] (by decide +kernel) (by decide +kernel)
set_option maxRecDepth 20000 in
theorem gX4_sendFirst_Jx4a65c_add_9ea2d : GoodIn wsX4_sendFirst (wsV RX4 61 RJx4a65c yJx4a65c_add_9ea2d wsJx4a65c_add_9ea2d) := goodIn_app (goodIn_of _ (by decide +kernel)) ggX4_sendFirst_Jx4a65c_add_9ea2d
theorem dX4_sendFirst_0 : decode cX4_sendFirst 0 = .ok (.aload_n 1, 1) := by decide +kernel
theorem dX4_sendFirst_1 : decode cX4_sendFirst 1 = .ok (.getfield 116, 3) := by decide +kernel
theorem dX4_sendFirst_4 : decode cX4_sendFirst 4 = .ok (.invokevirtual 225, 3) := by decide +kernel
theorem dX4_sendFirst_7 : decode cX4_sendFirst 7 = .ok (.ifCond .eq 5, 3) := by decide +kernel
theorem dX4_sendFirst_10 : decode cX4_sendFirst 10 = .ok (.iconst 0, 1) := by decide +kernel
theorem dX4_sendFirst_11 : decode cX4_sendFirst 11 = .ok (.ireturn, 1) := by decide +kernel
theorem dX4_sendFirst_12 : decode cX4_sendFirst 12 = .ok (.aload_n 1, 1) := by decide +kernel
theorem dX4_sendFirst_13 : decode cX4_sendFirst 13 = .ok (.getfield 116, 3) := by decide +kernel
theorem dX4_sendFirst_16 : decode cX4_sendFirst 16 = .ok (.iconst 0, 1) := by decide +kernel
theorem dX4_sendFirst_17 : decode cX4_sendFirst 17 = .ok (.invokevirtual 177, 3) := by decide +kernel
theorem dX4_sendFirst_20 : decode cX4_sendFirst 20 = .ok (.checkcast 108, 3) := by decide +kernel
theorem dX4_sendFirst_23 : decode cX4_sendFirst 23 = .ok (.astore_n 2, 1) := by decide +kernel
theorem dX4_sendFirst_24 : decode cX4_sendFirst 24 = .ok (.aload_n 2, 1) := by decide +kernel
theorem dX4_sendFirst_25 : decode cX4_sendFirst 25 = .ok (.getfield 228, 3) := by decide +kernel
theorem dX4_sendFirst_28 : decode cX4_sendFirst 28 = .ok (.aload_n 0, 1) := by decide +kernel
theorem dX4_sendFirst_29 : decode cX4_sendFirst 29 = .ok (.getfield 119, 3) := by decide +kernel
theorem dX4_sendFirst_32 : decode cX4_sendFirst 32 = .ok (.if_icmp .ne 5, 3) := by decide +kernel
theorem dX4_sendFirst_35 : decode cX4_sendFirst 35 = .ok (.iconst 0, 1) := by decide +kernel
theorem dX4_sendFirst_36 : decode cX4_sendFirst 36 = .ok (.ireturn, 1) := by decide +kernel
theorem dX4_sendFirst_37 : decode cX4_sendFirst 37 = .ok (.aload_n 1, 1) := by decide +kernel
theorem dX4_sendFirst_38 : decode cX4_sendFirst 38 = .ok (.aload_n 2, 1) := by decide +kernel
theorem dX4_sendFirst_39 : decode cX4_sendFirst 39 = .ok (.getfield 231, 3) := by decide +kernel
theorem dX4_sendFirst_42 : decode cX4_sendFirst 42 = .ok (.invokevirtual 145, 3) := by decide +kernel
theorem dX4_sendFirst_45 : decode cX4_sendFirst 45 = .ok (.astore_n 3, 1) := by decide +kernel
theorem dX4_sendFirst_46 : decode cX4_sendFirst 46 = .ok (.aload_n 3, 1) := by decide +kernel
theorem dX4_sendFirst_47 : decode cX4_sendFirst 47 = .ok (.ifnull 10, 3) := by decide +kernel
theorem dX4_sendFirst_50 : decode cX4_sendFirst 50 = .ok (.aload_n 3, 1) := by decide +kernel
theorem dX4_sendFirst_51 : decode cX4_sendFirst 51 = .ok (.invokevirtual 130, 3) := by decide +kernel
theorem dX4_sendFirst_54 : decode cX4_sendFirst 54 = .ok (.ifCond .ne 5, 3) := by decide +kernel
theorem dX4_sendFirst_57 : decode cX4_sendFirst 57 = .ok (.iconst 0, 1) := by decide +kernel
theorem dX4_sendFirst_58 : decode cX4_sendFirst 58 = .ok (.ireturn, 1) := by decide +kernel
theorem dX4_sendFirst_59 : decode cX4_sendFirst 59 = .ok (.aload_n 3, 1) := by decide +kernel
theorem dX4_sendFirst_60 : decode cX4_sendFirst 60 = .ok (.aload_n 1, 1) := by decide +kernel
theorem dX4_sendFirst_61 : decode cX4_sendFirst 61 = .ok (.invokevirtual 217, 3) := by decide +kernel
theorem dX4_sendFirst_64 : decode cX4_sendFirst 64 = .ok (.astore 4, 2) := by decide +kernel
theorem dX4_sendFirst_66 : decode cX4_sendFirst 66 = .ok (.aload_n 0, 1) := by decide +kernel
theorem dX4_sendFirst_67 : decode cX4_sendFirst 67 = .ok (.aload 4, 2) := by decide +kernel
theorem dX4_sendFirst_69 : decode cX4_sendFirst 69 = .ok (.aload_n 2, 1) := by decide +kernel
theorem dX4_sendFirst_70 : decode cX4_sendFirst 70 = .ok (.invokevirtual 234, 3) := by decide +kernel
theorem dX4_sendFirst_73 : decode cX4_sendFirst 73 = .ok (.ifCond .ne 5, 3) := by decide +kernel
theorem dX4_sendFirst_76 : decode cX4_sendFirst 76 = .ok (.iconst 0, 1) := by decide +kernel
theorem dX4_sendFirst_77 : decode cX4_sendFirst 77 = .ok (.ireturn, 1) := by decide +kernel
theorem dX4_sendFirst_78 : decode cX4_sendFirst 78 = .ok (.aload_n 1, 1) := by decide +kernel
theorem dX4_sendFirst_79 : decode cX4_sendFirst 79 = .ok (.getfield 116, 3) := by decide +kernel
theorem dX4_sendFirst_82 : decode cX4_sendFirst 82 = .ok (.iconst 0, 1) := by decide +kernel
theorem dX4_sendFirst_83 : decode cX4_sendFirst 83 = .ok (.invokevirtual 238, 3) := by decide +kernel
theorem dX4_sendFirst_86 : decode cX4_sendFirst 86 = .ok (.pop, 1) := by decide +kernel
theorem dX4_sendFirst_87 : decode cX4_sendFirst 87 = .ok (.aload_n 0, 1) := by decide +kernel
theorem dX4_sendFirst_88 : decode cX4_sendFirst 88 = .ok (.dup, 1) := by decide +kernel
theorem dX4_sendFirst_89 : decode cX4_sendFirst 89 = .ok (.getfield 77, 3) := by decide +kernel
theorem dX4_sendFirst_92 : decode cX4_sendFirst 92 = .ok (.aload_n 3, 1) := by decide +kernel
theorem dX4_sendFirst_93 : decode cX4_sendFirst 93 = .ok (.invokevirtual 241, 3) := by decide +kernel
theorem dX4_sendFirst_96 : decode cX4_sendFirst 96 = .ok (.iadd, 1) := by decide +kernel
theorem dX4_sendFirst_97 : decode cX4_sendFirst 97 = .ok (.putfield 77, 3) := by decide +kernel
theorem dX4_sendFirst_100 : decode cX4_sendFirst 100 = .ok (.aload_n 2, 1) := by decide +kernel
theorem dX4_sendFirst_101 : decode cX4_sendFirst 101 = .ok (.aload 4, 2) := by decide +kernel
theorem dX4_sendFirst_103 : decode cX4_sendFirst 103 = .ok (.aload_n 0, 1) := by decide +kernel
theorem dX4_sendFirst_104 : decode cX4_sendFirst 104 = .ok (.getfield 119, 3) := by decide +kernel
theorem dX4_sendFirst_107 : decode cX4_sendFirst 107 = .ok (.invokevirtual 244, 3) := by decide +kernel
theorem dX4_sendFirst_110 : decode cX4_sendFirst 110 = .ok (.aload_n 2, 1) := by decide +kernel
theorem dX4_sendFirst_111 : decode cX4_sendFirst 111 = .ok (.getfield 113, 3) := by decide +kernel
theorem dX4_sendFirst_114 : decode cX4_sendFirst 114 = .ok (.ifCond .ne 13, 3) := by decide +kernel
theorem dX4_sendFirst_117 : decode cX4_sendFirst 117 = .ok (.aload 4, 2) := by decide +kernel
theorem dX4_sendFirst_119 : decode cX4_sendFirst 119 = .ok (.getfield 116, 3) := by decide +kernel
theorem dX4_sendFirst_122 : decode cX4_sendFirst 122 = .ok (.aload_n 2, 1) := by decide +kernel
theorem dX4_sendFirst_123 : decode cX4_sendFirst 123 = .ok (.invokevirtual 61, 3) := by decide +kernel
theorem dX4_sendFirst_126 : decode cX4_sendFirst 126 = .ok (.pop, 1) := by decide +kernel
theorem dX4_sendFirst_127 : decode cX4_sendFirst 127 = .ok (.iconst 1, 1) := by decide +kernel
theorem dX4_sendFirst_128 : decode cX4_sendFirst 128 = .ok (.ireturn, 1) := by decide +kernel
set_option maxRecDepth 20000 in
theorem ggX4_takesIn_X1_isFull : GoodIn wsX4_takesIn wsX1_isFull := goodIn_r _ [9, 10, 11, 12, 13, 14, 15, 16, 27, 28, 29, 30, 31, 32, 39, 40, 41] (by decide +kernel) (by decide +kernel)
set_option maxRecDepth 20000 in
theorem gX4_takesIn_X1_isFull : GoodIn wsX4_takesIn (wsV RX4 102 RX1 yX1_isFull wsX1_isFull) := goodIn_app (goodIn_of _ (by decide +kernel)) ggX4_takesIn_X1_isFull
set_option maxRecDepth 20000 in
theorem ggX4_takesIn_Jx4a65c_size_8abf5 : GoodIn wsX4_takesIn wsJx4a65c_size_8abf5 := goodIn_r _ [15, 16, 39, 40, 41] (by decide +kernel) (by decide +kernel)
set_option maxRecDepth 20000 in
theorem gX4_takesIn_Jx4a65c_size_8abf5 : GoodIn wsX4_takesIn (wsV RX4 47 RJx4a65c yJx4a65c_size_8abf5 wsJx4a65c_size_8abf5) := goodIn_app (goodIn_of _ (by decide +kernel)) ggX4_takesIn_Jx4a65c_size_8abf5
theorem dX4_takesIn_0 : decode cX4_takesIn 0 = .ok (.aload_n 1, 1) := by decide +kernel
theorem dX4_takesIn_1 : decode cX4_takesIn 1 = .ok (.aload_n 2, 1) := by decide +kernel
theorem dX4_takesIn_2 : decode cX4_takesIn 2 = .ok (.getfield 231, 3) := by decide +kernel
theorem dX4_takesIn_5 : decode cX4_takesIn 5 = .ok (.if_acmp .ne 5, 3) := by decide +kernel
theorem dX4_takesIn_8 : decode cX4_takesIn 8 = .ok (.iconst 1, 1) := by decide +kernel
theorem dX4_takesIn_9 : decode cX4_takesIn 9 = .ok (.ireturn, 1) := by decide +kernel
theorem dX4_takesIn_10 : decode cX4_takesIn 10 = .ok (.aload_n 1, 1) := by decide +kernel
theorem dX4_takesIn_11 : decode cX4_takesIn 11 = .ok (.invokevirtual 102, 3) := by decide +kernel
theorem dX4_takesIn_14 : decode cX4_takesIn 14 = .ok (.ifCond .eq 5, 3) := by decide +kernel
theorem dX4_takesIn_17 : decode cX4_takesIn 17 = .ok (.iconst 0, 1) := by decide +kernel
theorem dX4_takesIn_18 : decode cX4_takesIn 18 = .ok (.ireturn, 1) := by decide +kernel
theorem dX4_takesIn_19 : decode cX4_takesIn 19 = .ok (.aload_n 1, 1) := by decide +kernel
theorem dX4_takesIn_20 : decode cX4_takesIn 20 = .ok (.getfield 116, 3) := by decide +kernel
theorem dX4_takesIn_23 : decode cX4_takesIn 23 = .ok (.invokevirtual 47, 3) := by decide +kernel
theorem dX4_takesIn_26 : decode cX4_takesIn 26 = .ok (.aload_n 1, 1) := by decide +kernel
theorem dX4_takesIn_27 : decode cX4_takesIn 27 = .ok (.getfield 73, 3) := by decide +kernel
theorem dX4_takesIn_30 : decode cX4_takesIn 30 = .ok (.if_icmp .lt 12, 3) := by decide +kernel
theorem dX4_takesIn_33 : decode cX4_takesIn 33 = .ok (.aload_n 0, 1) := by decide +kernel
theorem dX4_takesIn_34 : decode cX4_takesIn 34 = .ok (.getfield 119, 3) := by decide +kernel
theorem dX4_takesIn_37 : decode cX4_takesIn 37 = .ok (.iconst 2, 1) := by decide +kernel
theorem dX4_takesIn_38 : decode cX4_takesIn 38 = .ok (.irem, 1) := by decide +kernel
theorem dX4_takesIn_39 : decode cX4_takesIn 39 = .ok (.ifCond .ne 7, 3) := by decide +kernel
theorem dX4_takesIn_42 : decode cX4_takesIn 42 = .ok (.iconst 1, 1) := by decide +kernel
theorem dX4_takesIn_43 : decode cX4_takesIn 43 = .ok (.goto 4, 3) := by decide +kernel
theorem dX4_takesIn_46 : decode cX4_takesIn 46 = .ok (.iconst 0, 1) := by decide +kernel
theorem dX4_takesIn_47 : decode cX4_takesIn 47 = .ok (.ireturn, 1) := by decide +kernel
theorem dJ9_max_7cf53_0 : decode cJ9_max_7cf53 0 = .ok (.iload_n 0, 1) := by decide +kernel
theorem dJ9_max_7cf53_1 : decode cJ9_max_7cf53 1 = .ok (.iload_n 1, 1) := by decide +kernel
theorem dJ9_max_7cf53_2 : decode cJ9_max_7cf53 2 = .ok (.if_icmp .lt 7, 3) := by decide +kernel
theorem dJ9_max_7cf53_5 : decode cJ9_max_7cf53 5 = .ok (.iload_n 0, 1) := by decide +kernel
theorem dJ9_max_7cf53_6 : decode cJ9_max_7cf53 6 = .ok (.goto 4, 3) := by decide +kernel
theorem dJ9_max_7cf53_9 : decode cJ9_max_7cf53 9 = .ok (.iload_n 1, 1) := by decide +kernel
theorem dJ9_max_7cf53_10 : decode cJ9_max_7cf53 10 = .ok (.ireturn, 1) := by decide +kernel
theorem dJ9_min_7cf53_0 : decode cJ9_min_7cf53 0 = .ok (.iload_n 0, 1) := by decide +kernel
theorem dJ9_min_7cf53_1 : decode cJ9_min_7cf53 1 = .ok (.iload_n 1, 1) := by decide +kernel
theorem dJ9_min_7cf53_2 : decode cJ9_min_7cf53 2 = .ok (.if_icmp .gt 7, 3) := by decide +kernel
theorem dJ9_min_7cf53_5 : decode cJ9_min_7cf53 5 = .ok (.iload_n 0, 1) := by decide +kernel
theorem dJ9_min_7cf53_6 : decode cJ9_min_7cf53 6 = .ok (.goto 4, 3) := by decide +kernel
theorem dJ9_min_7cf53_9 : decode cJ9_min_7cf53 9 = .ok (.iload_n 1, 1) := by decide +kernel
theorem dJ9_min_7cf53_10 : decode cJ9_min_7cf53 10 = .ok (.ireturn, 1) := by decide +kernel
theorem dJxa1e45_init_da8c8_0 : decode cJxa1e45_init_da8c8 0 = .ok (.aload_n 0, 1) := by decide +kernel
theorem dJxa1e45_init_da8c8_1 : decode cJxa1e45_init_da8c8 1 = .ok (.invokespecial 1, 3) := by decide +kernel
theorem dJxa1e45_init_da8c8_4 : decode cJxa1e45_init_da8c8 4 = .ok (.return_, 1) := by decide +kernel
set_option maxRecDepth 20000 in
theorem ggJxc12de_init_da8c8_Jxa1e45_init_da8c8 : GoodIn wsJxc12de_init_da8c8 wsJxa1e45_init_da8c8 := goodIn_r _ [5, 6, 7, 8] (by decide +kernel) (by decide +kernel)
set_option maxRecDepth 20000 in
theorem gJxc12de_init_da8c8_Jxa1e45_init_da8c8 : GoodIn wsJxc12de_init_da8c8 (wsJxa1e45_init_da8c8) := ggJxc12de_init_da8c8_Jxa1e45_init_da8c8
theorem dJxc12de_init_da8c8_0 : decode cJxc12de_init_da8c8 0 = .ok (.aload_n 0, 1) := by decide +kernel
theorem dJxc12de_init_da8c8_1 : decode cJxc12de_init_da8c8 1 = .ok (.invokespecial 1, 3) := by decide +kernel
theorem dJxc12de_init_da8c8_4 : decode cJxc12de_init_da8c8 4 = .ok (.aload_n 0, 1) := by decide +kernel
theorem dJxc12de_init_da8c8_5 : decode cJxc12de_init_da8c8 5 = .ok (.iconst 0, 1) := by decide +kernel
theorem dJxc12de_init_da8c8_6 : decode cJxc12de_init_da8c8 6 = .ok (.putfield 7, 3) := by decide +kernel
theorem dJxc12de_init_da8c8_9 : decode cJxc12de_init_da8c8 9 = .ok (.return_, 1) := by decide +kernel
set_option maxRecDepth 20000 in
theorem ggJx4a65c_init_da8c8_Jxc12de_init_da8c8 : GoodIn wsJx4a65c_init_da8c8 wsJxc12de_init_da8c8 := goodIn_r _ [6, 7, 8, 9, 10, 11, 12, 13, 14, 15, 16, 17] (by decide +kernel) (by decide +kernel)
set_option maxRecDepth 20000 in
theorem gJx4a65c_init_da8c8_Jxc12de_init_da8c8 : GoodIn wsJx4a65c_init_da8c8 (wsJxc12de_init_da8c8) := ggJx4a65c_init_da8c8_Jxc12de_init_da8c8
theorem dJx4a65c_init_da8c8_0 : decode cJx4a65c_init_da8c8 0 = .ok (.aload_n 0, 1) := by decide +kernel
theorem dJx4a65c_init_da8c8_1 : decode cJx4a65c_init_da8c8 1 = .ok (.invokespecial 1, 3) := by decide +kernel
theorem dJx4a65c_init_da8c8_4 : decode cJx4a65c_init_da8c8 4 = .ok (.aload_n 0, 1) := by decide +kernel
theorem dJx4a65c_init_da8c8_5 : decode cJx4a65c_init_da8c8 5 = .ok (.getstatic 39, 3) := by decide +kernel
theorem dJx4a65c_init_da8c8_8 : decode cJx4a65c_init_da8c8 8 = .ok (.putfield 9, 3) := by decide +kernel
theorem dJx4a65c_init_da8c8_11 : decode cJx4a65c_init_da8c8 11 = .ok (.return_, 1) := by decide +kernel
set_option maxRecDepth 20000 in
theorem ggJx4a65c_grow_92f84_J8_newLength_cabcc : GoodIn wsJx4a65c_grow_92f84 wsJ8_newLength_cabcc := goodIn_r _ [11, 12, 4, 5, 6, 13, 14, 15, 10, 16] (by decide +kernel) (by decide +kernel)
set_option maxRecDepth 20000 in
theorem gJx4a65c_grow_92f84_J8_newLength_cabcc : GoodIn wsJx4a65c_grow_92f84 (va_wsS RJx4a65c 73 yJ8_newLength_cabcc wsJ8_newLength_cabcc) := goodIn_app (goodIn_of _ (by decide +kernel)) ggJx4a65c_grow_92f84_J8_newLength_cabcc
set_option maxRecDepth 20000 in
theorem ggJx4a65c_grow_92f84_J7_copyOf_1904c : GoodIn wsJx4a65c_grow_92f84 wsJ7_copyOf_1904c := goodIn_r _ [20, 21, 22, 23, 24, 25, 26, 19, 27, 28, 29, 30, 31, 5, 32, 33, 34, 35, 36] (by decide +kernel) (by decide +kernel)
set_option maxRecDepth 20000 in
theorem gJx4a65c_grow_92f84_J7_copyOf_1904c : GoodIn wsJx4a65c_grow_92f84 (va_wsS RJx4a65c 66 yJ7_copyOf_1904c wsJ7_copyOf_1904c) := goodIn_app (goodIn_of _ (by decide +kernel)) ggJx4a65c_grow_92f84_J7_copyOf_1904c
theorem dJx4a65c_grow_92f84_0 : decode cJx4a65c_grow_92f84 0 = .ok (.aload_n 0, 1) := by decide +kernel
theorem dJx4a65c_grow_92f84_1 : decode cJx4a65c_grow_92f84 1 = .ok (.getfield 9, 3) := by decide +kernel
theorem dJx4a65c_grow_92f84_4 : decode cJx4a65c_grow_92f84 4 = .ok (.arraylength, 1) := by decide +kernel
theorem dJx4a65c_grow_92f84_5 : decode cJx4a65c_grow_92f84 5 = .ok (.istore_n 2, 1) := by decide +kernel
theorem dJx4a65c_grow_92f84_6 : decode cJx4a65c_grow_92f84 6 = .ok (.iload_n 2, 1) := by decide +kernel
theorem dJx4a65c_grow_92f84_7 : decode cJx4a65c_grow_92f84 7 = .ok (.ifCond .gt 13, 3) := by decide +kernel
theorem dJx4a65c_grow_92f84_10 : decode cJx4a65c_grow_92f84 10 = .ok (.aload_n 0, 1) := by decide +kernel
theorem dJx4a65c_grow_92f84_11 : decode cJx4a65c_grow_92f84 11 = .ok (.getfield 9, 3) := by decide +kernel
theorem dJx4a65c_grow_92f84_14 : decode cJx4a65c_grow_92f84 14 = .ok (.getstatic 39, 3) := by decide +kernel
theorem dJx4a65c_grow_92f84_17 : decode cJx4a65c_grow_92f84 17 = .ok (.if_acmp .eq 28, 3) := by decide +kernel
theorem dJx4a65c_grow_92f84_20 : decode cJx4a65c_grow_92f84 20 = .ok (.iload_n 2, 1) := by decide +kernel
theorem dJx4a65c_grow_92f84_21 : decode cJx4a65c_grow_92f84 21 = .ok (.iload_n 1, 1) := by decide +kernel
theorem dJx4a65c_grow_92f84_22 : decode cJx4a65c_grow_92f84 22 = .ok (.iload_n 2, 1) := by decide +kernel
theorem dJx4a65c_grow_92f84_23 : decode cJx4a65c_grow_92f84 23 = .ok (.isub, 1) := by decide +kernel
theorem dJx4a65c_grow_92f84_24 : decode cJx4a65c_grow_92f84 24 = .ok (.iload_n 2, 1) := by decide +kernel
theorem dJx4a65c_grow_92f84_25 : decode cJx4a65c_grow_92f84 25 = .ok (.iconst 1, 1) := by decide +kernel
theorem dJx4a65c_grow_92f84_26 : decode cJx4a65c_grow_92f84 26 = .ok (.ishr, 1) := by decide +kernel
theorem dJx4a65c_grow_92f84_27 : decode cJx4a65c_grow_92f84 27 = .ok (.invokestatic 73, 3) := by decide +kernel
theorem dJx4a65c_grow_92f84_30 : decode cJx4a65c_grow_92f84 30 = .ok (.istore_n 3, 1) := by decide +kernel
theorem dJx4a65c_grow_92f84_31 : decode cJx4a65c_grow_92f84 31 = .ok (.aload_n 0, 1) := by decide +kernel
theorem dJx4a65c_grow_92f84_32 : decode cJx4a65c_grow_92f84 32 = .ok (.aload_n 0, 1) := by decide +kernel
theorem dJx4a65c_grow_92f84_33 : decode cJx4a65c_grow_92f84 33 = .ok (.getfield 9, 3) := by decide +kernel
theorem dJx4a65c_grow_92f84_36 : decode cJx4a65c_grow_92f84 36 = .ok (.iload_n 3, 1) := by decide +kernel
theorem dJx4a65c_grow_92f84_37 : decode cJx4a65c_grow_92f84 37 = .ok (.invokestatic 66, 3) := by decide +kernel
theorem dJx4a65c_grow_92f84_40 : decode cJx4a65c_grow_92f84 40 = .ok (.dup_x1, 1) := by decide +kernel
theorem dJx4a65c_grow_92f84_41 : decode cJx4a65c_grow_92f84 41 = .ok (.putfield 9, 3) := by decide +kernel
theorem dJx4a65c_grow_92f84_44 : decode cJx4a65c_grow_92f84 44 = .ok (.areturn, 1) := by decide +kernel
theorem dJx4a65c_grow_92f84_45 : decode cJx4a65c_grow_92f84 45 = .ok (.aload_n 0, 1) := by decide +kernel
theorem dJx4a65c_grow_92f84_46 : decode cJx4a65c_grow_92f84 46 = .ok (.bipush 10, 2) := by decide +kernel
theorem dJx4a65c_grow_92f84_48 : decode cJx4a65c_grow_92f84 48 = .ok (.iload_n 1, 1) := by decide +kernel
theorem dJx4a65c_grow_92f84_49 : decode cJx4a65c_grow_92f84 49 = .ok (.invokestatic 79, 3) := by decide +kernel
theorem dJx4a65c_grow_92f84_52 : decode cJx4a65c_grow_92f84 52 = .ok (.anewarray 7, 3) := by decide +kernel
theorem dJx4a65c_grow_92f84_55 : decode cJx4a65c_grow_92f84 55 = .ok (.dup_x1, 1) := by decide +kernel
theorem dJx4a65c_grow_92f84_56 : decode cJx4a65c_grow_92f84 56 = .ok (.putfield 9, 3) := by decide +kernel
theorem dJx4a65c_grow_92f84_59 : decode cJx4a65c_grow_92f84 59 = .ok (.areturn, 1) := by decide +kernel
set_option maxRecDepth 20000 in
theorem ggJx4a65c_grow_d5877_Jx4a65c_grow_92f84 : GoodIn wsJx4a65c_grow_d5877 wsJx4a65c_grow_92f84 := goodIn_r _ [6, 7, 8, 9, 10, 11, 12, 13, 14, 15, 16, 17, 18, 19, 20, 21, 22, 23, 24, 25, 26, 27, 28, 29, 30, 31, 32, 33, 34, 35, 36, 37, 38, 39, 40, 41, 42, 43, 44, 45] (by decide +kernel) (by decide +kernel)
set_option maxRecDepth 20000 in
theorem gJx4a65c_grow_d5877_Jx4a65c_grow_92f84 : GoodIn wsJx4a65c_grow_d5877 (wsV RJx4a65c 69 RJx4a65c yJx4a65c_grow_92f84 wsJx4a65c_grow_92f84) := goodIn_app (goodIn_of _ (by decide +kernel)) ggJx4a65c_grow_d5877_Jx4a65c_grow_92f84
theorem dJx4a65c_grow_d5877_0 : decode cJx4a65c_grow_d5877 0 = .ok (.aload_n 0, 1) := by decide +kernel
theorem dJx4a65c_grow_d5877_1 : decode cJx4a65c_grow_d5877 1 = .ok (.aload_n 0, 1) := by decide +kernel
theorem dJx4a65c_grow_d5877_2 : decode cJx4a65c_grow_d5877 2 = .ok (.getfield 48, 3) := by decide +kernel
theorem dJx4a65c_grow_d5877_5 : decode cJx4a65c_grow_d5877 5 = .ok (.iconst 1, 1) := by decide +kernel
theorem dJx4a65c_grow_d5877_6 : decode cJx4a65c_grow_d5877 6 = .ok (.iadd, 1) := by decide +kernel
theorem dJx4a65c_grow_d5877_7 : decode cJx4a65c_grow_d5877 7 = .ok (.invokevirtual 69, 3) := by decide +kernel
theorem dJx4a65c_grow_d5877_10 : decode cJx4a65c_grow_d5877 10 = .ok (.areturn, 1) := by decide +kernel
theorem dJx4a65c_size_8abf5_0 : decode cJx4a65c_size_8abf5 0 = .ok (.aload_n 0, 1) := by decide +kernel
theorem dJx4a65c_size_8abf5_1 : decode cJx4a65c_size_8abf5 1 = .ok (.getfield 48, 3) := by decide +kernel
theorem dJx4a65c_size_8abf5_4 : decode cJx4a65c_size_8abf5 4 = .ok (.ireturn, 1) := by decide +kernel
theorem dJx4a65c_isEmpty_aae02_0 : decode cJx4a65c_isEmpty_aae02 0 = .ok (.aload_n 0, 1) := by decide +kernel
theorem dJx4a65c_isEmpty_aae02_1 : decode cJx4a65c_isEmpty_aae02 1 = .ok (.getfield 48, 3) := by decide +kernel
theorem dJx4a65c_isEmpty_aae02_4 : decode cJx4a65c_isEmpty_aae02 4 = .ok (.ifCond .ne 7, 3) := by decide +kernel
theorem dJx4a65c_isEmpty_aae02_7 : decode cJx4a65c_isEmpty_aae02 7 = .ok (.iconst 1, 1) := by decide +kernel
theorem dJx4a65c_isEmpty_aae02_8 : decode cJx4a65c_isEmpty_aae02 8 = .ok (.goto 4, 3) := by decide +kernel
theorem dJx4a65c_isEmpty_aae02_11 : decode cJx4a65c_isEmpty_aae02 11 = .ok (.iconst 0, 1) := by decide +kernel
theorem dJx4a65c_isEmpty_aae02_12 : decode cJx4a65c_isEmpty_aae02 12 = .ok (.ireturn, 1) := by decide +kernel
theorem dJx4a65c_elementData_915e3_0 : decode cJx4a65c_elementData_915e3 0 = .ok (.aload_n 0, 1) := by decide +kernel
theorem dJx4a65c_elementData_915e3_1 : decode cJx4a65c_elementData_915e3 1 = .ok (.getfield 9, 3) := by decide +kernel
theorem dJx4a65c_elementData_915e3_4 : decode cJx4a65c_elementData_915e3 4 = .ok (.iload_n 1, 1) := by decide +kernel
theorem dJx4a65c_elementData_915e3_5 : decode cJx4a65c_elementData_915e3 5 = .ok (.aaload, 1) := by decide +kernel
theorem dJx4a65c_elementData_915e3_6 : decode cJx4a65c_elementData_915e3 6 = .ok (.areturn, 1) := by decide +kernel
set_option maxRecDepth 20000 in
theorem ggJx4a65c_get_915e3_J15_checkIndex_7cf53 : GoodIn wsJx4a65c_get_915e3 wsJ15_checkIndex_7cf53 := goodIn_r _ [5, 6, 7, 8, 9] (by decide +kernel) (by decide +kernel)
set_option maxRecDepth 20000 in
theorem gJx4a65c_get_915e3_J15_checkIndex_7cf53 : GoodIn wsJx4a65c_get_915e3 (va_wsS RJx4a65c 118 yJ15_checkIndex_7cf53 wsJ15_checkIndex_7cf53) := goodIn_app (goodIn_of _ (by decide +kernel)) ggJx4a65c_get_915e3_J15_checkIndex_7cf53
set_option maxRecDepth 20000 in
theorem ggJx4a65c_get_915e3_Jx4a65c_elementData_915e3 : GoodIn wsJx4a65c_get_915e3 wsJx4a65c_elementData_915e3 := goodIn_r _ [14, 15, 16, 17, 18] (by decide +kernel) (by decide +kernel)
set_option maxRecDepth 20000 in
theorem gJx4a65c_get_915e3_Jx4a65c_elementData_915e3 : GoodIn wsJx4a65c_get_915e3 (wsV RJx4a65c 123 RJx4a65c yJx4a65c_elementData_915e3 wsJx4a65c_elementData_915e3) := goodIn_app (goodIn_of _ (by decide +kernel)) ggJx4a65c_get_915e3_Jx4a65c_elementData_915e3
theorem dJx4a65c_get_915e3_0 : decode cJx4a65c_get_915e3 0 = .ok (.iload_n 1, 1) := by decide +kernel
theorem dJx4a65c_get_915e3_1 : decode cJx4a65c_get_915e3 1 = .ok (.aload_n 0, 1) := by decide +kernel
theorem dJx4a65c_get_915e3_2 : decode cJx4a65c_get_915e3 2 = .ok (.getfield 48, 3) := by decide +kernel
theorem dJx4a65c_get_915e3_5 : decode cJx4a65c_get_915e3 5 = .ok (.invokestatic 118, 3) := by decide +kernel
theorem dJx4a65c_get_915e3_8 : decode cJx4a65c_get_915e3 8 = .ok (.pop, 1) := by decide +kernel
theorem dJx4a65c_get_915e3_9 : decode cJx4a65c_get_915e3 9 = .ok (.aload_n 0, 1) := by decide +kernel
theorem dJx4a65c_get_915e3_10 : decode cJx4a65c_get_915e3 10 = .ok (.iload_n 1, 1) := by decide +kernel
theorem dJx4a65c_get_915e3_11 : decode cJx4a65c_get_915e3 11 = .ok (.invokevirtual 123, 3) := by decide +kernel
theorem dJx4a65c_get_915e3_14 : decode cJx4a65c_get_915e3 14 = .ok (.areturn, 1) := by decide +kernel
set_option maxRecDepth 20000 in
theorem ggJx4a65c_add_72be8_Jx4a65c_grow_d5877 : GoodIn wsJx4a65c_add_72be8 wsJx4a65c_grow_d5877 := goodIn_r _ [6, 1, 7, 8, 9, 5, 10, 11, 12, 13, 14, 15, 16, 17, 18, 19, 20, 21, 22, 23, 24, 25, 26, 27, 28, 29, 30, 31, 32, 33, 34, 35, 36, 37, 38, 39, 40, 41, 42, 43, 44, 45, 46, 47, 48, 49] (by decide +kernel) (by decide +kernel)
set_option maxRecDepth 20000 in
theorem gJx4a65c_add_72be8_Jx4a65c_grow_d5877 : GoodIn wsJx4a65c_add_72be8 (wsV RJx4a65c 129 RJx4a65c yJx4a65c_grow_d5877 wsJx4a65c_grow_d5877) := goodIn_app (goodIn_of _ (by decide +kernel)) ggJx4a65c_add_72be8_Jx4a65c_grow_d5877
theorem dJx4a65c_add_72be8_0 : decode cJx4a65c_add_72be8 0 = .ok (.iload_n 3, 1) := by decide +kernel
theorem dJx4a65c_add_72be8_1 : decode cJx4a65c_add_72be8 1 = .ok (.aload_n 2, 1) := by decide +kernel
theorem dJx4a65c_add_72be8_2 : decode cJx4a65c_add_72be8 2 = .ok (.arraylength, 1) := by decide +kernel
theorem dJx4a65c_add_72be8_3 : decode cJx4a65c_add_72be8 3 = .ok (.if_icmp .ne 8, 3) := by decide +kernel
theorem dJx4a65c_add_72be8_6 : decode cJx4a65c_add_72be8 6 = .ok (.aload_n 0, 1) := by decide +kernel
theorem dJx4a65c_add_72be8_7 : decode cJx4a65c_add_72be8 7 = .ok (.invokevirtual 129, 3) := by decide +kernel
theorem dJx4a65c_add_72be8_10 : decode cJx4a65c_add_72be8 10 = .ok (.astore_n 2, 1) := by decide +kernel
theorem dJx4a65c_add_72be8_11 : decode cJx4a65c_add_72be8 11 = .ok (.aload_n 2, 1) := by decide +kernel
theorem dJx4a65c_add_72be8_12 : decode cJx4a65c_add_72be8 12 = .ok (.iload_n 3, 1) := by decide +kernel
theorem dJx4a65c_add_72be8_13 : decode cJx4a65c_add_72be8 13 = .ok (.aload_n 1, 1) := by decide +kernel
theorem dJx4a65c_add_72be8_14 : decode cJx4a65c_add_72be8 14 = .ok (.aastore, 1) := by decide +kernel
theorem dJx4a65c_add_72be8_15 : decode cJx4a65c_add_72be8 15 = .ok (.aload_n 0, 1) := by decide +kernel
theorem dJx4a65c_add_72be8_16 : decode cJx4a65c_add_72be8 16 = .ok (.iload_n 3, 1) := by decide +kernel
theorem dJx4a65c_add_72be8_17 : decode cJx4a65c_add_72be8 17 = .ok (.iconst 1, 1) := by decide +kernel
theorem dJx4a65c_add_72be8_18 : decode cJx4a65c_add_72be8 18 = .ok (.iadd, 1) := by decide +kernel
theorem dJx4a65c_add_72be8_19 : decode cJx4a65c_add_72be8 19 = .ok (.putfield 48, 3) := by decide +kernel
theorem dJx4a65c_add_72be8_22 : decode cJx4a65c_add_72be8 22 = .ok (.return_, 1) := by decide +kernel
set_option maxRecDepth 20000 in
theorem ggJx4a65c_add_9ea2d_Jx4a65c_add_72be8 : GoodIn wsJx4a65c_add_9ea2d wsJx4a65c_add_72be8 := goodIn_r _ [9, 4, 10, 11, 12, 8, 13, 14, 15, 16, 17, 3, 18, 19, 20, 21, 22, 23, 24, 25, 26, 27, 28, 29, 30, 31, 32, 33, 34, 35, 36, 37, 38, 39, 40, 41, 42, 43, 44, 45, 46, 47, 48, 49, 50, 51, 52, 53, 54, 55] (by decide +kernel) (by decide +kernel)
set_option maxRecDepth 20000 in
theorem gJx4a65c_add_9ea2d_Jx4a65c_add_72be8 : GoodIn wsJx4a65c_add_9ea2d (wsV RJx4a65c 131 RJx4a65c yJx4a65c_add_72be8 wsJx4a65c_add_72be8) := goodIn_app (goodIn_of _ (by decide +kernel)) ggJx4a65c_add_9ea2d_Jx4a65c_add_72be8
theorem dJx4a65c_add_9ea2d_0 : decode cJx4a65c_add_9ea2d 0 = .ok (.aload_n 0, 1) := by decide +kernel
theorem dJx4a65c_add_9ea2d_1 : decode cJx4a65c_add_9ea2d 1 = .ok (.dup, 1) := by decide +kernel
theorem dJx4a65c_add_9ea2d_2 : decode cJx4a65c_add_9ea2d 2 = .ok (.getfield 63, 3) := by decide +kernel
theorem dJx4a65c_add_9ea2d_5 : decode cJx4a65c_add_9ea2d 5 = .ok (.iconst 1, 1) := by decide +kernel
theorem dJx4a65c_add_9ea2d_6 : decode cJx4a65c_add_9ea2d 6 = .ok (.iadd, 1) := by decide +kernel
theorem dJx4a65c_add_9ea2d_7 : decode cJx4a65c_add_9ea2d 7 = .ok (.putfield 63, 3) := by decide +kernel
theorem dJx4a65c_add_9ea2d_10 : decode cJx4a65c_add_9ea2d 10 = .ok (.aload_n 0, 1) := by decide +kernel
theorem dJx4a65c_add_9ea2d_11 : decode cJx4a65c_add_9ea2d 11 = .ok (.aload_n 1, 1) := by decide +kernel
theorem dJx4a65c_add_9ea2d_12 : decode cJx4a65c_add_9ea2d 12 = .ok (.aload_n 0, 1) := by decide +kernel
theorem dJx4a65c_add_9ea2d_13 : decode cJx4a65c_add_9ea2d 13 = .ok (.getfield 9, 3) := by decide +kernel
theorem dJx4a65c_add_9ea2d_16 : decode cJx4a65c_add_9ea2d 16 = .ok (.aload_n 0, 1) := by decide +kernel
theorem dJx4a65c_add_9ea2d_17 : decode cJx4a65c_add_9ea2d 17 = .ok (.getfield 48, 3) := by decide +kernel
theorem dJx4a65c_add_9ea2d_20 : decode cJx4a65c_add_9ea2d 20 = .ok (.invokevirtual 131, 3) := by decide +kernel
theorem dJx4a65c_add_9ea2d_23 : decode cJx4a65c_add_9ea2d 23 = .ok (.iconst 1, 1) := by decide +kernel
theorem dJx4a65c_add_9ea2d_24 : decode cJx4a65c_add_9ea2d 24 = .ok (.ireturn, 1) := by decide +kernel
set_option maxRecDepth 20000 in
theorem ggJx4a65c_remove_915e3_J15_checkIndex_7cf53 : GoodIn wsJx4a65c_remove_915e3 wsJ15_checkIndex_7cf53 := goodIn_r _ [6, 7, 8, 9, 10] (by decide +kernel) (by decide +kernel)
set_option maxRecDepth 20000 in
theorem gJx4a65c_remove_915e3_J15_checkIndex_7cf53 : GoodIn wsJx4a65c_remove_915e3 (va_wsS RJx4a65c 118 yJ15_checkIndex_7cf53 wsJ15_checkIndex_7cf53) := goodIn_app (goodIn_of _ (by decide +kernel)) ggJx4a65c_remove_915e3_J15_checkIndex_7cf53
set_option maxRecDepth 20000 in
theorem ggJx4a65c_remove_915e3_Jx4a65c_fastRemove_b59b0 : GoodIn wsJx4a65c_remove_915e3 wsJx4a65c_fastRemove_b59b0 := goodIn_r _ [15, 16, 17, 1, 18, 19, 20, 21, 22, 23, 24] (by decide +kernel) (by decide +kernel)
set_option maxRecDepth 20000 in
theorem gJx4a65c_remove_915e3_Jx4a65c_fastRemove_b59b0 : GoodIn wsJx4a65c_remove_915e3 (wsV RJx4a65c 144 RJx4a65c yJx4a65c_fastRemove_b59b0 wsJx4a65c_fastRemove_b59b0) := goodIn_app (goodIn_of _ (by decide +kernel)) ggJx4a65c_remove_915e3_Jx4a65c_fastRemove_b59b0
theorem dJx4a65c_remove_915e3_0 : decode cJx4a65c_remove_915e3 0 = .ok (.iload_n 1, 1) := by decide +kernel
theorem dJx4a65c_remove_915e3_1 : decode cJx4a65c_remove_915e3 1 = .ok (.aload_n 0, 1) := by decide +kernel
theorem dJx4a65c_remove_915e3_2 : decode cJx4a65c_remove_915e3 2 = .ok (.getfield 48, 3) := by decide +kernel
theorem dJx4a65c_remove_915e3_5 : decode cJx4a65c_remove_915e3 5 = .ok (.invokestatic 118, 3) := by decide +kernel
theorem dJx4a65c_remove_915e3_8 : decode cJx4a65c_remove_915e3 8 = .ok (.pop, 1) := by decide +kernel
theorem dJx4a65c_remove_915e3_9 : decode cJx4a65c_remove_915e3 9 = .ok (.aload_n 0, 1) := by decide +kernel
theorem dJx4a65c_remove_915e3_10 : decode cJx4a65c_remove_915e3 10 = .ok (.getfield 9, 3) := by decide +kernel
theorem dJx4a65c_remove_915e3_13 : decode cJx4a65c_remove_915e3 13 = .ok (.astore_n 2, 1) := by decide +kernel
theorem dJx4a65c_remove_915e3_14 : decode cJx4a65c_remove_915e3 14 = .ok (.aload_n 2, 1) := by decide +kernel
theorem dJx4a65c_remove_915e3_15 : decode cJx4a65c_remove_915e3 15 = .ok (.iload_n 1, 1) := by decide +kernel
theorem dJx4a65c_remove_915e3_16 : decode cJx4a65c_remove_915e3 16 = .ok (.aaload, 1) := by decide +kernel
theorem dJx4a65c_remove_915e3_17 : decode cJx4a65c_remove_915e3 17 = .ok (.astore_n 3, 1) := by decide +kernel
theorem dJx4a65c_remove_915e3_18 : decode cJx4a65c_remove_915e3 18 = .ok (.aload_n 0, 1) := by decide +kernel
theorem dJx4a65c_remove_915e3_19 : decode cJx4a65c_remove_915e3 19 = .ok (.aload_n 2, 1) := by decide +kernel
theorem dJx4a65c_remove_915e3_20 : decode cJx4a65c_remove_915e3 20 = .ok (.iload_n 1, 1) := by decide +kernel
theorem dJx4a65c_remove_915e3_21 : decode cJx4a65c_remove_915e3 21 = .ok (.invokevirtual 144, 3) := by decide +kernel
theorem dJx4a65c_remove_915e3_24 : decode cJx4a65c_remove_915e3 24 = .ok (.aload_n 3, 1) := by decide +kernel
theorem dJx4a65c_remove_915e3_25 : decode cJx4a65c_remove_915e3 25 = .ok (.areturn, 1) := by decide +kernel
theorem dJx4a65c_fastRemove_b59b0_0 : decode cJx4a65c_fastRemove_b59b0 0 = .ok (.aload_n 0, 1) := by decide +kernel
theorem dJx4a65c_fastRemove_b59b0_1 : decode cJx4a65c_fastRemove_b59b0 1 = .ok (.dup, 1) := by decide +kernel
theorem dJx4a65c_fastRemove_b59b0_2 : decode cJx4a65c_fastRemove_b59b0 2 = .ok (.getfield 63, 3) := by decide +kernel
theorem dJx4a65c_fastRemove_b59b0_5 : decode cJx4a65c_fastRemove_b59b0 5 = .ok (.iconst 1, 1) := by decide +kernel
theorem dJx4a65c_fastRemove_b59b0_6 : decode cJx4a65c_fastRemove_b59b0 6 = .ok (.iadd, 1) := by decide +kernel
theorem dJx4a65c_fastRemove_b59b0_7 : decode cJx4a65c_fastRemove_b59b0 7 = .ok (.putfield 63, 3) := by decide +kernel
theorem dJx4a65c_fastRemove_b59b0_10 : decode cJx4a65c_fastRemove_b59b0 10 = .ok (.aload_n 0, 1) := by decide +kernel
theorem dJx4a65c_fastRemove_b59b0_11 : decode cJx4a65c_fastRemove_b59b0 11 = .ok (.getfield 48, 3) := by decide +kernel
theorem dJx4a65c_fastRemove_b59b0_14 : decode cJx4a65c_fastRemove_b59b0 14 = .ok (.iconst 1, 1) := by decide +kernel
theorem dJx4a65c_fastRemove_b59b0_15 : decode cJx4a65c_fastRemove_b59b0 15 = .ok (.isub, 1) := by decide +kernel
theorem dJx4a65c_fastRemove_b59b0_16 : decode cJx4a65c_fastRemove_b59b0 16 = .ok (.dup, 1) := by decide +kernel
theorem dJx4a65c_fastRemove_b59b0_17 : decode cJx4a65c_fastRemove_b59b0 17 = .ok (.istore_n 3, 1) := by decide +kernel
theorem dJx4a65c_fastRemove_b59b0_18 : decode cJx4a65c_fastRemove_b59b0 18 = .ok (.iload_n 2, 1) := by decide +kernel
theorem dJx4a65c_fastRemove_b59b0_19 : decode cJx4a65c_fastRemove_b59b0 19 = .ok (.if_icmp .le 15, 3) := by decide +kernel
theorem dJx4a65c_fastRemove_b59b0_22 : decode cJx4a65c_fastRemove_b59b0 22 = .ok (.aload_n 1, 1) := by decide +kernel
theorem dJx4a65c_fastRemove_b59b0_23 : decode cJx4a65c_fastRemove_b59b0 23 = .ok (.iload_n 2, 1) := by decide +kernel
theorem dJx4a65c_fastRemove_b59b0_24 : decode cJx4a65c_fastRemove_b59b0 24 = .ok (.iconst 1, 1) := by decide +kernel
theorem dJx4a65c_fastRemove_b59b0_25 : decode cJx4a65c_fastRemove_b59b0 25 = .ok (.iadd, 1) := by decide +kernel
theorem dJx4a65c_fastRemove_b59b0_26 : decode cJx4a65c_fastRemove_b59b0 26 = .ok (.aload_n 1, 1) := by decide +kernel
theorem dJx4a65c_fastRemove_b59b0_27 : decode cJx4a65c_fastRemove_b59b0 27 = .ok (.iload_n 2, 1) := by decide +kernel
theorem dJx4a65c_fastRemove_b59b0_28 : decode cJx4a65c_fastRemove_b59b0 28 = .ok (.iload_n 3, 1) := by decide +kernel
theorem dJx4a65c_fastRemove_b59b0_29 : decode cJx4a65c_fastRemove_b59b0 29 = .ok (.iload_n 2, 1) := by decide +kernel
theorem dJx4a65c_fastRemove_b59b0_30 : decode cJx4a65c_fastRemove_b59b0 30 = .ok (.isub, 1) := by decide +kernel
theorem dJx4a65c_fastRemove_b59b0_31 : decode cJx4a65c_fastRemove_b59b0 31 = .ok (.invokestatic 112, 3) := by decide +kernel
theorem dJx4a65c_fastRemove_b59b0_34 : decode cJx4a65c_fastRemove_b59b0 34 = .ok (.aload_n 1, 1) := by decide +kernel
theorem dJx4a65c_fastRemove_b59b0_35 : decode cJx4a65c_fastRemove_b59b0 35 = .ok (.aload_n 0, 1) := by decide +kernel
theorem dJx4a65c_fastRemove_b59b0_36 : decode cJx4a65c_fastRemove_b59b0 36 = .ok (.iload_n 3, 1) := by decide +kernel
theorem dJx4a65c_fastRemove_b59b0_37 : decode cJx4a65c_fastRemove_b59b0 37 = .ok (.dup_x1, 1) := by decide +kernel
theorem dJx4a65c_fastRemove_b59b0_38 : decode cJx4a65c_fastRemove_b59b0 38 = .ok (.putfield 48, 3) := by decide +kernel
theorem dJx4a65c_fastRemove_b59b0_41 : decode cJx4a65c_fastRemove_b59b0 41 = .ok (.aconst_null, 1) := by decide +kernel
theorem dJx4a65c_fastRemove_b59b0_42 : decode cJx4a65c_fastRemove_b59b0 42 = .ok (.aastore, 1) := by decide +kernel
theorem dJx4a65c_fastRemove_b59b0_43 : decode cJx4a65c_fastRemove_b59b0 43 = .ok (.return_, 1) := by decide +kernel
set_option maxRecDepth 20000 in
theorem ggJ7_copyOf_1904c_J7_copyOf_6403c : GoodIn wsJ7_copyOf_1904c wsJ7_copyOf_6403c := goodIn_r _ [8, 9, 10, 11, 12, 13, 14, 15, 16, 17, 18] (by decide +kernel) (by decide +kernel)
set_option maxRecDepth 20000 in
theorem gJ7_copyOf_1904c_J7_copyOf_6403c : GoodIn wsJ7_copyOf_1904c (va_wsS RJ7 300 yJ7_copyOf_6403c wsJ7_copyOf_6403c) := goodIn_app (goodIn_of _ (by decide +kernel)) ggJ7_copyOf_1904c_J7_copyOf_6403c
theorem dJ7_copyOf_1904c_0 : decode cJ7_copyOf_1904c 0 = .ok (.aload_n 0, 1) := by decide +kernel
theorem dJ7_copyOf_1904c_1 : decode cJ7_copyOf_1904c 1 = .ok (.iload_n 1, 1) := by decide +kernel
theorem dJ7_copyOf_1904c_2 : decode cJ7_copyOf_1904c 2 = .ok (.aload_n 0, 1) := by decide +kernel
theorem dJ7_copyOf_1904c_3 : decode cJ7_copyOf_1904c 3 = .ok (.invokevirtual 86, 3) := by decide +kernel
theorem dJ7_copyOf_1904c_6 : decode cJ7_copyOf_1904c 6 = .ok (.invokestatic 300, 3) := by decide +kernel
theorem dJ7_copyOf_1904c_9 : decode cJ7_copyOf_1904c 9 = .ok (.areturn, 1) := by decide +kernel
theorem dJ7_copyOf_6403c_0 : decode cJ7_copyOf_6403c 0 = .ok (.aload_n 2, 1) := by decide +kernel
theorem dJ7_copyOf_6403c_1 : decode cJ7_copyOf_6403c 1 = .ok (.ldc 110, 2) := by decide +kernel
theorem dJ7_copyOf_6403c_3 : decode cJ7_copyOf_6403c 3 = .ok (.if_acmp .ne 10, 3) := by decide +kernel
theorem dJ7_copyOf_6403c_6 : decode cJ7_copyOf_6403c 6 = .ok (.iload_n 1, 1) := by decide +kernel
theorem dJ7_copyOf_6403c_7 : decode cJ7_copyOf_6403c 7 = .ok (.anewarray 2, 3) := by decide +kernel
theorem dJ7_copyOf_6403c_10 : decode cJ7_copyOf_6403c 10 = .ok (.goto 14, 3) := by decide +kernel
theorem dJ7_copyOf_6403c_13 : decode cJ7_copyOf_6403c 13 = .ok (.aload_n 2, 1) := by decide +kernel
theorem dJ7_copyOf_6403c_14 : decode cJ7_copyOf_6403c 14 = .ok (.invokevirtual 90, 3) := by decide +kernel
theorem dJ7_copyOf_6403c_17 : decode cJ7_copyOf_6403c 17 = .ok (.iload_n 1, 1) := by decide +kernel
theorem dJ7_copyOf_6403c_18 : decode cJ7_copyOf_6403c 18 = .ok (.invokestatic 95, 3) := by decide +kernel
theorem dJ7_copyOf_6403c_21 : decode cJ7_copyOf_6403c 21 = .ok (.checkcast 110, 3) := by decide +kernel
theorem dJ7_copyOf_6403c_24 : decode cJ7_copyOf_6403c 24 = .ok (.astore_n 3, 1) := by decide +kernel
theorem dJ7_copyOf_6403c_25 : decode cJ7_copyOf_6403c 25 = .ok (.aload_n 0, 1) := by decide +kernel
theorem dJ7_copyOf_6403c_26 : decode cJ7_copyOf_6403c 26 = .ok (.iconst 0, 1) := by decide +kernel
theorem dJ7_copyOf_6403c_27 : decode cJ7_copyOf_6403c 27 = .ok (.aload_n 3, 1) := by decide +kernel
theorem dJ7_copyOf_6403c_28 : decode cJ7_copyOf_6403c 28 = .ok (.iconst 0, 1) := by decide +kernel
theorem dJ7_copyOf_6403c_29 : decode cJ7_copyOf_6403c 29 = .ok (.aload_n 0, 1) := by decide +kernel
theorem dJ7_copyOf_6403c_30 : decode cJ7_copyOf_6403c 30 = .ok (.arraylength, 1) := by decide +kernel
theorem dJ7_copyOf_6403c_31 : decode cJ7_copyOf_6403c 31 = .ok (.iload_n 1, 1) := by decide +kernel
theorem dJ7_copyOf_6403c_32 : decode cJ7_copyOf_6403c 32 = .ok (.invokestatic 304, 3) := by decide +kernel
theorem dJ7_copyOf_6403c_35 : decode cJ7_copyOf_6403c 35 = .ok (.invokestatic 150, 3) := by decide +kernel
theorem dJ7_copyOf_6403c_38 : decode cJ7_copyOf_6403c 38 = .ok (.aload_n 3, 1) := by decide +kernel
theorem dJ7_copyOf_6403c_39 : decode cJ7_copyOf_6403c 39 = .ok (.areturn, 1) := by decide +kernel
set_option maxRecDepth 20000 in
theorem ggJ15_checkIndex_7cf53_J3_checkIndex_8e157 : GoodIn wsJ15_checkIndex_7cf53 wsJ3_checkIndex_8e157 := goodIn_r _ [4] (by decide +kernel) (by decide +kernel)
set_option maxRecDepth 20000 in
theorem gJ15_checkIndex_7cf53_J3_checkIndex_8e157 : GoodIn wsJ15_checkIndex_7cf53 (va_wsS RJ15 105 yJ3_checkIndex_8e157 wsJ3_checkIndex_8e157) := goodIn_app (goodIn_of _ (by decide +kernel)) ggJ15_checkIndex_7cf53_J3_checkIndex_8e157
theorem dJ15_checkIndex_7cf53_0 : decode cJ15_checkIndex_7cf53 0 = .ok (.iload_n 0, 1) := by decide +kernel
theorem dJ15_checkIndex_7cf53_1 : decode cJ15_checkIndex_7cf53 1 = .ok (.iload_n 1, 1) := by decide +kernel
theorem dJ15_checkIndex_7cf53_2 : decode cJ15_checkIndex_7cf53 2 = .ok (.aconst_null, 1) := by decide +kernel
theorem dJ15_checkIndex_7cf53_3 : decode cJ15_checkIndex_7cf53 3 = .ok (.invokestatic 105, 3) := by decide +kernel
theorem dJ15_checkIndex_7cf53_6 : decode cJ15_checkIndex_7cf53 6 = .ok (.ireturn, 1) := by decide +kernel
set_option maxRecDepth 20000 in
theorem ggJ8_newLength_cabcc_J8_hugeLength_7cf53 : GoodIn wsJ8_newLength_cabcc wsJ8_hugeLength_7cf53 := goodIn_r _ [9, 5] (by decide +kernel) (by decide +kernel)
set_option maxRecDepth 20000 in
theorem gJ8_newLength_cabcc_J8_hugeLength_7cf53 : GoodIn wsJ8_newLength_cabcc (va_wsS RJ8 201 yJ8_hugeLength_7cf53 wsJ8_hugeLength_7cf53) := goodIn_app (goodIn_of _ (by decide +kernel)) ggJ8_newLength_cabcc_J8_hugeLength_7cf53
theorem dJ8_newLength_cabcc_0 : decode cJ8_newLength_cabcc 0 = .ok (.iload_n 0, 1) := by decide +kernel
theorem dJ8_newLength_cabcc_1 : decode cJ8_newLength_cabcc 1 = .ok (.iload_n 1, 1) := by decide +kernel
theorem dJ8_newLength_cabcc_2 : decode cJ8_newLength_cabcc 2 = .ok (.iload_n 2, 1) := by decide +kernel
theorem dJ8_newLength_cabcc_3 : decode cJ8_newLength_cabcc 3 = .ok (.invokestatic 194, 3) := by decide +kernel
theorem dJ8_newLength_cabcc_6 : decode cJ8_newLength_cabcc 6 = .ok (.iadd, 1) := by decide +kernel
theorem dJ8_newLength_cabcc_7 : decode cJ8_newLength_cabcc 7 = .ok (.istore_n 3, 1) := by decide +kernel
theorem dJ8_newLength_cabcc_8 : decode cJ8_newLength_cabcc 8 = .ok (.iconst 0, 1) := by decide +kernel
theorem dJ8_newLength_cabcc_9 : decode cJ8_newLength_cabcc 9 = .ok (.iload_n 3, 1) := by decide +kernel
theorem dJ8_newLength_cabcc_10 : decode cJ8_newLength_cabcc 10 = .ok (.if_icmp .ge 11, 3) := by decide +kernel
theorem dJ8_newLength_cabcc_13 : decode cJ8_newLength_cabcc 13 = .ok (.iload_n 3, 1) := by decide +kernel
theorem dJ8_newLength_cabcc_14 : decode cJ8_newLength_cabcc 14 = .ok (.ldc 200, 2) := by decide +kernel
theorem dJ8_newLength_cabcc_16 : decode cJ8_newLength_cabcc 16 = .ok (.if_icmp .gt 5, 3) := by decide +kernel
theorem dJ8_newLength_cabcc_19 : decode cJ8_newLength_cabcc 19 = .ok (.iload_n 3, 1) := by decide +kernel
theorem dJ8_newLength_cabcc_20 : decode cJ8_newLength_cabcc 20 = .ok (.ireturn, 1) := by decide +kernel
theorem dJ8_newLength_cabcc_21 : decode cJ8_newLength_cabcc 21 = .ok (.iload_n 0, 1) := by decide +kernel
theorem dJ8_newLength_cabcc_22 : decode cJ8_newLength_cabcc 22 = .ok (.iload_n 1, 1) := by decide +kernel
theorem dJ8_newLength_cabcc_23 : decode cJ8_newLength_cabcc 23 = .ok (.invokestatic 201, 3) := by decide +kernel
theorem dJ8_newLength_cabcc_26 : decode cJ8_newLength_cabcc 26 = .ok (.ireturn, 1) := by decide +kernel
theorem dJ8_hugeLength_7cf53_0 : decode cJ8_hugeLength_7cf53 0 = .ok (.iload_n 0, 1) := by decide +kernel
theorem dJ8_hugeLength_7cf53_1 : decode cJ8_hugeLength_7cf53 1 = .ok (.iload_n 1, 1) := by decide +kernel
theorem dJ8_hugeLength_7cf53_2 : decode cJ8_hugeLength_7cf53 2 = .ok (.iadd, 1) := by decide +kernel
theorem dJ8_hugeLength_7cf53_3 : decode cJ8_hugeLength_7cf53 3 = .ok (.istore_n 2, 1) := by decide +kernel
theorem dJ8_hugeLength_7cf53_4 : decode cJ8_hugeLength_7cf53 4 = .ok (.iload_n 2, 1) := by decide +kernel
theorem dJ8_hugeLength_7cf53_5 : decode cJ8_hugeLength_7cf53 5 = .ok (.ifCond .ge 44, 3) := by decide +kernel
theorem dJ8_hugeLength_7cf53_8 : decode cJ8_hugeLength_7cf53 8 = .ok (.new 204, 3) := by decide +kernel
theorem dJ8_hugeLength_7cf53_11 : decode cJ8_hugeLength_7cf53 11 = .ok (.dup, 1) := by decide +kernel
theorem dJ8_hugeLength_7cf53_12 : decode cJ8_hugeLength_7cf53 12 = .ok (.new 89, 3) := by decide +kernel
theorem dJ8_hugeLength_7cf53_15 : decode cJ8_hugeLength_7cf53 15 = .ok (.dup, 1) := by decide +kernel
theorem dJ8_hugeLength_7cf53_16 : decode cJ8_hugeLength_7cf53 16 = .ok (.invokespecial 91, 3) := by decide +kernel
theorem dJ8_hugeLength_7cf53_19 : decode cJ8_hugeLength_7cf53 19 = .ok (.ldc 206, 2) := by decide +kernel
theorem dJ8_hugeLength_7cf53_21 : decode cJ8_hugeLength_7cf53 21 = .ok (.invokevirtual 94, 3) := by decide +kernel
theorem dJ8_hugeLength_7cf53_24 : decode cJ8_hugeLength_7cf53 24 = .ok (.iload_n 0, 1) := by decide +kernel
theorem dJ8_hugeLength_7cf53_25 : decode cJ8_hugeLength_7cf53 25 = .ok (.invokevirtual 98, 3) := by decide +kernel
theorem dJ8_hugeLength_7cf53_28 : decode cJ8_hugeLength_7cf53 28 = .ok (.ldc 208, 2) := by decide +kernel
theorem dJ8_hugeLength_7cf53_30 : decode cJ8_hugeLength_7cf53 30 = .ok (.invokevirtual 94, 3) := by decide +kernel
theorem dJ8_hugeLength_7cf53_33 : decode cJ8_hugeLength_7cf53 33 = .ok (.iload_n 1, 1) := by decide +kernel
theorem dJ8_hugeLength_7cf53_34 : decode cJ8_hugeLength_7cf53 34 = .ok (.invokevirtual 98, 3) := by decide +kernel
theorem dJ8_hugeLength_7cf53_37 : decode cJ8_hugeLength_7cf53 37 = .ok (.ldc 210, 2) := by decide +kernel
theorem dJ8_hugeLength_7cf53_39 : decode cJ8_hugeLength_7cf53 39 = .ok (.invokevirtual 94, 3) := by decide +kernel
theorem dJ8_hugeLength_7cf53_42 : decode cJ8_hugeLength_7cf53 42 = .ok (.invokevirtual 101, 3) := by decide +kernel
theorem dJ8_hugeLength_7cf53_45 : decode cJ8_hugeLength_7cf53 45 = .ok (.invokespecial 212, 3) := by decide +kernel
theorem dJ8_hugeLength_7cf53_48 : decode cJ8_hugeLength_7cf53 48 = .ok (.athrow, 1) := by decide +kernel
theorem dJ8_hugeLength_7cf53_49 : decode cJ8_hugeLength_7cf53 49 = .ok (.iload_n 2, 1) := by decide +kernel
theorem dJ8_hugeLength_7cf53_50 : decode cJ8_hugeLength_7cf53 50 = .ok (.ldc 200, 2) := by decide +kernel
theorem dJ8_hugeLength_7cf53_52 : decode cJ8_hugeLength_7cf53 52 = .ok (.if_icmp .gt 6, 3) := by decide +kernel
theorem dJ8_hugeLength_7cf53_55 : decode cJ8_hugeLength_7cf53 55 = .ok (.ldc 200, 2) := by decide +kernel
theorem dJ8_hugeLength_7cf53_57 : decode cJ8_hugeLength_7cf53 57 = .ok (.ireturn, 1) := by decide +kernel
theorem dJ8_hugeLength_7cf53_58 : decode cJ8_hugeLength_7cf53 58 = .ok (.iload_n 2, 1) := by decide +kernel
theorem dJ8_hugeLength_7cf53_59 : decode cJ8_hugeLength_7cf53 59 = .ok (.ireturn, 1) := by decide +kernel
theorem dJ3_checkIndex_8e157_0 : decode cJ3_checkIndex_8e157 0 = .ok (.iload_n 0, 1) := by decide +kernel
theorem dJ3_checkIndex_8e157_1 : decode cJ3_checkIndex_8e157 1 = .ok (.ifCond .lt 8, 3) := by decide +kernel
theorem dJ3_checkIndex_8e157_4 : decode cJ3_checkIndex_8e157 4 = .ok (.iload_n 0, 1) := by decide +kernel
theorem dJ3_checkIndex_8e157_5 : decode cJ3_checkIndex_8e157 5 = .ok (.iload_n 1, 1) := by decide +kernel
theorem dJ3_checkIndex_8e157_6 : decode cJ3_checkIndex_8e157 6 = .ok (.if_icmp .lt 10, 3) := by decide +kernel
theorem dJ3_checkIndex_8e157_9 : decode cJ3_checkIndex_8e157 9 = .ok (.aload_n 2, 1) := by decide +kernel
theorem dJ3_checkIndex_8e157_10 : decode cJ3_checkIndex_8e157 10 = .ok (.iload_n 0, 1) := by decide +kernel
theorem dJ3_checkIndex_8e157_11 : decode cJ3_checkIndex_8e157 11 = .ok (.iload_n 1, 1) := by decide +kernel
theorem dJ3_checkIndex_8e157_12 : decode cJ3_checkIndex_8e157 12 = .ok (.invokestatic 95, 3) := by decide +kernel
theorem dJ3_checkIndex_8e157_15 : decode cJ3_checkIndex_8e157 15 = .ok (.athrow, 1) := by decide +kernel
theorem dJ3_checkIndex_8e157_16 : decode cJ3_checkIndex_8e157 16 = .ok (.iload_n 0, 1) := by decide +kernel
theorem dJ3_checkIndex_8e157_17 : decode cJ3_checkIndex_8e157 17 = .ok (.ireturn, 1) := by decide +kernel
theorem dL_draw_0 : decode cL_draw 0 = .ok (.iload_n 1, 1) := by decide +kernel
theorem dL_draw_1 : decode cL_draw 1 = .ok (.aload_n 0, 1) := by decide +kernel
theorem dL_draw_2 : decode cL_draw 2 = .ok (.arraylength, 1) := by decide +kernel
theorem dL_draw_3 : decode cL_draw 3 = .ok (.if_icmp .ge 9, 3) := by decide +kernel
theorem dL_draw_6 : decode cL_draw 6 = .ok (.aload_n 0, 1) := by decide +kernel
theorem dL_draw_7 : decode cL_draw 7 = .ok (.iload_n 1, 1) := by decide +kernel
theorem dL_draw_8 : decode cL_draw 8 = .ok (.iaload, 1) := by decide +kernel
theorem dL_draw_9 : decode cL_draw 9 = .ok (.goto 14, 3) := by decide +kernel
theorem dL_draw_12 : decode cL_draw 12 = .ok (.ldc 7, 2) := by decide +kernel
theorem dL_draw_14 : decode cL_draw 14 = .ok (.iload_n 1, 1) := by decide +kernel
theorem dL_draw_15 : decode cL_draw 15 = .ok (.sipush 541, 3) := by decide +kernel
theorem dL_draw_18 : decode cL_draw 18 = .ok (.iadd, 1) := by decide +kernel
theorem dL_draw_19 : decode cL_draw 19 = .ok (.imul, 1) := by decide +kernel
theorem dL_draw_20 : decode cL_draw 20 = .ok (.ldc 8, 2) := by decide +kernel
theorem dL_draw_22 : decode cL_draw 22 = .ok (.iadd, 1) := by decide +kernel
theorem dL_draw_23 : decode cL_draw 23 = .ok (.istore_n 3, 1) := by decide +kernel
theorem dL_draw_24 : decode cL_draw 24 = .ok (.iload_n 3, 1) := by decide +kernel
theorem dL_draw_25 : decode cL_draw 25 = .ok (.ldc 9, 2) := by decide +kernel
theorem dL_draw_27 : decode cL_draw 27 = .ok (.iand, 1) := by decide +kernel
theorem dL_draw_28 : decode cL_draw 28 = .ok (.iload_n 2, 1) := by decide +kernel
theorem dL_draw_29 : decode cL_draw 29 = .ok (.irem, 1) := by decide +kernel
theorem dL_draw_30 : decode cL_draw 30 = .ok (.ireturn, 1) := by decide +kernel
theorem dL_part_0 : decode cL_part 0 = .ok (.iload_n 0, 1) := by decide +kernel
theorem dL_part_1 : decode cL_part 1 = .ok (.iload_n 1, 1) := by decide +kernel
theorem dL_part_2 : decode cL_part 2 = .ok (.ishr, 1) := by decide +kernel
theorem dL_part_3 : decode cL_part 3 = .ok (.iconst 1, 1) := by decide +kernel
theorem dL_part_4 : decode cL_part 4 = .ok (.iload_n 2, 1) := by decide +kernel
theorem dL_part_5 : decode cL_part 5 = .ok (.ishl, 1) := by decide +kernel
theorem dL_part_6 : decode cL_part 6 = .ok (.iconst 1, 1) := by decide +kernel
theorem dL_part_7 : decode cL_part 7 = .ok (.isub, 1) := by decide +kernel
theorem dL_part_8 : decode cL_part 8 = .ok (.iand, 1) := by decide +kernel
theorem dL_part_9 : decode cL_part 9 = .ok (.ireturn, 1) := by decide +kernel
set_option maxRecDepth 20000 in
theorem ggL_beyond_L_part : GoodIn wsL_beyond wsL_part := goodIn_r _ [4] (by decide +kernel) (by decide +kernel)
set_option maxRecDepth 20000 in
theorem gL_beyond_L_part : GoodIn wsL_beyond (va_wsS RL 10 yL_part wsL_part) := goodIn_app (goodIn_of _ (by decide +kernel)) ggL_beyond_L_part
theorem dL_beyond_0 : decode cL_beyond 0 = .ok (.iload_n 0, 1) := by decide +kernel
theorem dL_beyond_1 : decode cL_beyond 1 = .ok (.iconst 0, 1) := by decide +kernel
theorem dL_beyond_2 : decode cL_beyond 2 = .ok (.iconst 3, 1) := by decide +kernel
theorem dL_beyond_3 : decode cL_beyond 3 = .ok (.invokestatic 10, 3) := by decide +kernel
theorem dL_beyond_6 : decode cL_beyond 6 = .ok (.iload_n 1, 1) := by decide +kernel
theorem dL_beyond_7 : decode cL_beyond 7 = .ok (.if_icmp .ne 12, 3) := by decide +kernel
theorem dL_beyond_10 : decode cL_beyond 10 = .ok (.iload_n 0, 1) := by decide +kernel
theorem dL_beyond_11 : decode cL_beyond 11 = .ok (.iconst 3, 1) := by decide +kernel
theorem dL_beyond_12 : decode cL_beyond 12 = .ok (.iconst 3, 1) := by decide +kernel
theorem dL_beyond_13 : decode cL_beyond 13 = .ok (.invokestatic 10, 3) := by decide +kernel
theorem dL_beyond_16 : decode cL_beyond 16 = .ok (.goto 9, 3) := by decide +kernel
theorem dL_beyond_19 : decode cL_beyond 19 = .ok (.iload_n 0, 1) := by decide +kernel
theorem dL_beyond_20 : decode cL_beyond 20 = .ok (.iconst 0, 1) := by decide +kernel
theorem dL_beyond_21 : decode cL_beyond 21 = .ok (.iconst 3, 1) := by decide +kernel
theorem dL_beyond_22 : decode cL_beyond 22 = .ok (.invokestatic 10, 3) := by decide +kernel
theorem dL_beyond_25 : decode cL_beyond 25 = .ok (.ireturn, 1) := by decide +kernel
set_option maxRecDepth 20000 in
theorem ggL_isAt_L_part : GoodIn wsL_isAt wsL_part := goodIn_r _ [4] (by decide +kernel) (by decide +kernel)
set_option maxRecDepth 20000 in
theorem gL_isAt_L_part : GoodIn wsL_isAt (va_wsS RL 10 yL_part wsL_part) := goodIn_app (goodIn_of _ (by decide +kernel)) ggL_isAt_L_part
theorem dL_isAt_0 : decode cL_isAt 0 = .ok (.iload_n 0, 1) := by decide +kernel
theorem dL_isAt_1 : decode cL_isAt 1 = .ok (.iconst 0, 1) := by decide +kernel
theorem dL_isAt_2 : decode cL_isAt 2 = .ok (.iconst 3, 1) := by decide +kernel
theorem dL_isAt_3 : decode cL_isAt 3 = .ok (.invokestatic 10, 3) := by decide +kernel
theorem dL_isAt_6 : decode cL_isAt 6 = .ok (.iload_n 1, 1) := by decide +kernel
theorem dL_isAt_7 : decode cL_isAt 7 = .ok (.if_icmp .eq 13, 3) := by decide +kernel
theorem dL_isAt_10 : decode cL_isAt 10 = .ok (.iload_n 0, 1) := by decide +kernel
theorem dL_isAt_11 : decode cL_isAt 11 = .ok (.iconst 3, 1) := by decide +kernel
theorem dL_isAt_12 : decode cL_isAt 12 = .ok (.iconst 3, 1) := by decide +kernel
theorem dL_isAt_13 : decode cL_isAt 13 = .ok (.invokestatic 10, 3) := by decide +kernel
theorem dL_isAt_16 : decode cL_isAt 16 = .ok (.iload_n 1, 1) := by decide +kernel
theorem dL_isAt_17 : decode cL_isAt 17 = .ok (.if_icmp .ne 7, 3) := by decide +kernel
theorem dL_isAt_20 : decode cL_isAt 20 = .ok (.iconst 1, 1) := by decide +kernel
theorem dL_isAt_21 : decode cL_isAt 21 = .ok (.goto 4, 3) := by decide +kernel
theorem dL_isAt_24 : decode cL_isAt 24 = .ok (.iconst 0, 1) := by decide +kernel
theorem dL_isAt_25 : decode cL_isAt 25 = .ok (.ireturn, 1) := by decide +kernel
set_option maxRecDepth 20000 in
theorem ggL_asks_X4_dig : GoodIn wsL_asks wsX4_dig := goodIn_ca (goodIn_ca (goodIn_ca (goodIn_r _ [7, 8, 9, 10, 11, 12, 13, 14, 15, 16, 17, 18, 6, 19, 20, 21, 22, 23, 24, 25, 26, 27, 28, 29, 30, 31, 32, 33, 34, 35, 36, 37, 38, 39, 40, 41, 42, 43, 44, 45, 46, 47, 48, 49, 50, 51, 52, 53, 54, 55, 56, 57, 58, 59, 60, 61, 62, 63, 64, 65, 66, 67, 68, 69, 70, 71, 72, 73, 74, 75, 76, 77, 78, 79, 80, 81, 82, 83, 84, 85, 86, 87, 88, 89, 90, 91, 92, 93, 94, 95, 96, 97, 228, 229, 230, 231, 232, 233, 234, 235, 236, 237, 238, 239, 240, 241, 242] (by decide +kernel) (by decide +kernel)) (goodIn_sub (fun _ h => List.mem_cons_of_mem _ (List.mem_append_left _ (List.mem_append_left _ (List.mem_append_right _ h)))) (by decide +kernel))) (goodIn_sub (fun _ h => List.mem_cons_of_mem _ (List.mem_append_left _ (List.mem_append_right _ h))) (by decide +kernel))) (goodIn_sub (fun _ h => List.mem_cons_of_mem _ (List.mem_append_right _ h)) (by decide +kernel))
set_option maxRecDepth 20000 in
theorem gL_asks_X4_dig : GoodIn wsL_asks (wsV RL 16 RX4 yX4_dig wsX4_dig) := goodIn_app (goodIn_of _ (by decide +kernel)) ggL_asks_X4_dig
set_option maxRecDepth 20000 in
theorem ggL_asks_X4_setOut : GoodIn wsL_asks wsX4_setOut := goodIn_ca (goodIn_ca (goodIn_ca (goodIn_r _ [101, 10, 11, 102, 103, 104, 105, 106, 107, 16, 17, 18, 6, 19, 20, 21, 22, 23, 24, 25, 8, 9, 26, 27, 28, 29, 30, 31, 108, 109, 110, 111, 112, 113, 114, 115, 116, 117, 118, 36, 37, 119, 120, 121, 122, 123, 124, 125, 126, 44, 45, 46, 47, 48, 49, 50, 51, 52, 53, 54, 55, 56, 57, 58, 59, 60, 61, 62, 63, 64, 65, 66, 67, 68, 69, 70, 71, 72, 73, 74, 75, 76, 77, 78, 79, 80, 81, 82, 83, 84, 85, 86, 87, 88, 89, 90, 91, 92, 93, 94, 95, 96, 97, 228, 229, 230, 231, 232, 233, 243, 244, 245, 246, 247, 248, 249, 250, 251, 252, 253, 254, 255, 256, 257, 240, 241, 242] (by decide +kernel) (by decide +kernel)) (goodIn_sub (fun _ h => List.mem_cons_of_mem _ (List.mem_append_left _ (List.mem_append_right _ h))) (by decide +kernel))) (goodIn_sub (fun _ h => List.mem_cons_of_mem _ (List.mem_append_right _ h)) (by decide +kernel))) (goodIn_sub (fun _ h => List.mem_cons_of_mem _ (List.mem_append_left _ (List.mem_append_left _ (List.mem_append_right _ h)))) (by decide +kernel))
set_option maxRecDepth 20000 in
theorem gL_asks_X4_setOut : GoodIn wsL_asks (wsV RL 22 RX4 yX4_setOut wsX4_setOut) := goodIn_app (goodIn_of _ (by decide +kernel)) ggL_asks_X4_setOut
set_option maxRecDepth 20000 in
theorem ggL_asks_X4_move : GoodIn wsL_asks wsX4_move := goodIn_ca (goodIn_ca (goodIn_r _ [130, 10, 11, 131, 23, 24, 6, 25, 8, 9, 132, 133, 134, 135, 22, 136, 137, 138, 139, 107, 140, 141, 142, 143, 106, 144, 145, 146, 29, 147, 31, 148, 149, 150, 151, 152, 153, 154, 155, 156, 157, 158, 159, 160, 161, 162, 163, 50, 164, 165, 166, 111, 167, 168, 169, 170, 171, 172, 173, 15, 174, 38, 40, 175, 43, 176, 177, 178, 179, 41, 180, 181, 182, 183, 184, 108, 109, 110, 112, 113, 114, 27, 28, 30, 26, 185, 186, 187, 188, 189, 190, 191, 192, 48, 49, 193, 95, 96, 97, 194, 195, 196, 197, 198, 199, 200, 201, 202, 203, 65, 66, 67, 204, 205, 206, 105, 207, 124, 208, 209, 126, 120, 125, 210, 123, 121, 44, 45, 46, 47, 51, 52, 53, 54, 55, 56, 57, 58, 59, 60, 61, 62, 63, 64, 68, 69, 70, 71, 72, 73, 74, 75, 76, 77, 78, 79, 80, 81, 82, 83, 84, 85, 86, 87, 88, 89, 90, 91, 92, 93, 94, 228, 229, 230, 231, 232, 233, 252, 253, 254, 255, 256, 257, 243, 244, 245, 246, 247, 248, 249, 250, 251, 240, 241, 242, 258, 259, 234, 235, 236, 237, 238, 239] (by decide +kernel) (by decide +kernel)) (goodIn_sub (fun _ h => List.mem_cons_of_mem _ (List.mem_append_left _ (List.mem_append_right _ h))) (by decide +kernel))) (goodIn_sub (fun _ h => List.mem_cons_of_mem _ (List.mem_append_left _ (List.mem_append_left _ (List.mem_append_right _ h)))) (by decide +kernel))
set_option maxRecDepth 20000 in
theorem gL_asks_X4_move : GoodIn wsL_asks (wsV RL 25 RX4 yX4_move wsX4_move) := goodIn_app (goodIn_of _ (by decide +kernel)) ggL_asks_X4_move
set_option maxRecDepth 20000 in
theorem ggL_asks_X4_cost : GoodIn wsL_asks wsX4_cost := goodIn_ca (goodIn_r _ [214, 215, 216, 217, 6, 218, 20, 21, 12, 219, 26, 27, 28, 29, 30, 31, 148, 149, 150, 151, 152, 153, 154, 155, 156, 157, 158, 159, 160, 161, 162, 163, 50, 220, 221, 222, 15, 223, 42, 40, 41, 224, 225, 226, 111, 227, 202, 228, 229, 230, 231, 232, 233, 240, 241, 242, 234, 235, 236, 237, 238, 239, 252, 253, 254, 255, 256, 257] (by decide +kernel) (by decide +kernel)) (goodIn_sub (fun _ h => List.mem_cons_of_mem _ (List.mem_append_right _ h)) (by decide +kernel))
set_option maxRecDepth 20000 in
theorem gL_asks_X4_cost : GoodIn wsL_asks (wsV RL 29 RX4 yX4_cost wsX4_cost) := goodIn_app (goodIn_of _ (by decide +kernel)) ggL_asks_X4_cost
theorem dL_asks_0 : decode cL_asks 0 = .ok (.iload_n 1, 1) := by decide +kernel
theorem dL_asks_1 : decode cL_asks 1 = .ok (.ifCond .ne 16, 3) := by decide +kernel
theorem dL_asks_4 : decode cL_asks 4 = .ok (.aload_n 0, 1) := by decide +kernel
theorem dL_asks_5 : decode cL_asks 5 = .ok (.iload_n 2, 1) := by decide +kernel
theorem dL_asks_6 : decode cL_asks 6 = .ok (.iload_n 3, 1) := by decide +kernel
theorem dL_asks_7 : decode cL_asks 7 = .ok (.iload 4, 2) := by decide +kernel
theorem dL_asks_9 : decode cL_asks 9 = .ok (.iload 5, 2) := by decide +kernel
theorem dL_asks_11 : decode cL_asks 11 = .ok (.invokevirtual 16, 3) := by decide +kernel
theorem dL_asks_14 : decode cL_asks 14 = .ok (.goto 37, 3) := by decide +kernel
theorem dL_asks_17 : decode cL_asks 17 = .ok (.iload_n 1, 1) := by decide +kernel
theorem dL_asks_18 : decode cL_asks 18 = .ok (.iconst 1, 1) := by decide +kernel
theorem dL_asks_19 : decode cL_asks 19 = .ok (.if_icmp .ne 14, 3) := by decide +kernel
theorem dL_asks_22 : decode cL_asks 22 = .ok (.aload_n 0, 1) := by decide +kernel
theorem dL_asks_23 : decode cL_asks 23 = .ok (.iload_n 2, 1) := by decide +kernel
theorem dL_asks_24 : decode cL_asks 24 = .ok (.iload_n 3, 1) := by decide +kernel
theorem dL_asks_25 : decode cL_asks 25 = .ok (.iload 4, 2) := by decide +kernel
theorem dL_asks_27 : decode cL_asks 27 = .ok (.invokevirtual 22, 3) := by decide +kernel
theorem dL_asks_30 : decode cL_asks 30 = .ok (.goto 21, 3) := by decide +kernel
theorem dL_asks_33 : decode cL_asks 33 = .ok (.iload_n 1, 1) := by decide +kernel
theorem dL_asks_34 : decode cL_asks 34 = .ok (.iconst 2, 1) := by decide +kernel
theorem dL_asks_35 : decode cL_asks 35 = .ok (.if_icmp .ne 11, 3) := by decide +kernel
theorem dL_asks_38 : decode cL_asks 38 = .ok (.aload_n 0, 1) := by decide +kernel
theorem dL_asks_39 : decode cL_asks 39 = .ok (.iload_n 2, 1) := by decide +kernel
theorem dL_asks_40 : decode cL_asks 40 = .ok (.invokevirtual 25, 3) := by decide +kernel
theorem dL_asks_43 : decode cL_asks 43 = .ok (.goto 8, 3) := by decide +kernel
theorem dL_asks_46 : decode cL_asks 46 = .ok (.aload_n 0, 1) := by decide +kernel
theorem dL_asks_47 : decode cL_asks 47 = .ok (.iload_n 2, 1) := by decide +kernel
theorem dL_asks_48 : decode cL_asks 48 = .ok (.invokevirtual 29, 3) := by decide +kernel
theorem dL_asks_51 : decode cL_asks 51 = .ok (.ireturn, 1) := by decide +kernel
theorem dL_asks_52 : decode cL_asks 52 = .ok (.astore 6, 2) := by decide +kernel
theorem dL_asks_54 : decode cL_asks 54 = .ok (.bipush (-107), 2) := by decide +kernel
theorem dL_asks_56 : decode cL_asks 56 = .ok (.ireturn, 1) := by decide +kernel
theorem dL_asks_57 : decode cL_asks 57 = .ok (.astore 6, 2) := by decide +kernel
theorem dL_asks_59 : decode cL_asks 59 = .ok (.bipush (-108), 2) := by decide +kernel
theorem dL_asks_61 : decode cL_asks 61 = .ok (.ireturn, 1) := by decide +kernel
set_option maxRecDepth 20000 in
theorem ggL_areCanals_X4_canals : GoodIn wsL_areCanals wsX4_canals := goodIn_r _ [5, 6, 7, 8, 9, 10, 11, 12, 256, 257, 258, 259, 260, 261, 262, 263, 264] (by decide +kernel) (by decide +kernel)
set_option maxRecDepth 20000 in
theorem gL_areCanals_X4_canals : GoodIn wsL_areCanals (wsV RL 36 RX4 yX4_canals wsX4_canals) := goodIn_app (goodIn_of _ (by decide +kernel)) ggL_areCanals_X4_canals
set_option maxRecDepth 20000 in
theorem ggL_areCanals_L_asks : GoodIn wsL_areCanals wsL_asks := goodIn_ca (goodIn_ca (goodIn_ca (goodIn_r _ [16, 17, 18, 19, 20, 21, 4, 22, 23, 24, 25, 26, 6, 27, 28, 29, 30, 31, 32, 33, 34, 35, 36, 37, 38, 39, 7, 8, 9, 10, 11, 12, 40, 41, 42, 43, 44, 45, 46, 47, 48, 49, 50, 51, 52, 53, 54, 55, 56, 57, 58, 59, 60, 61, 62, 63, 64, 65, 66, 67, 68, 69, 70, 71, 72, 73, 74, 75, 76, 77, 78, 79, 80, 81, 82, 83, 84, 85, 86, 87, 88, 89, 90, 91, 92, 93, 94, 95, 96, 97, 98, 99, 100, 101, 102, 103, 104, 105, 106, 107, 108, 109, 110, 111, 112, 113, 114, 115, 116, 117, 118, 119, 120, 121, 122, 123, 124, 125, 126, 127, 128, 129, 130, 131, 132, 133, 134, 135, 136, 137, 138, 139, 140, 141, 142, 143, 144, 145, 146, 147, 148, 149, 150, 151, 152, 153, 154, 155, 156, 157, 158, 159, 160, 161, 162, 163, 164, 165, 166, 167, 168, 169, 170, 171, 172, 173, 174, 175, 176, 177, 178, 179, 180, 181, 182, 183, 184, 185, 186, 187, 188, 189, 190, 191, 192, 193, 194, 195, 196, 197, 198, 199, 200, 201, 202, 203, 204, 205, 206, 207, 208, 209, 210, 211, 212, 213, 214, 215, 216, 217, 218, 219, 220, 221, 222, 223, 224, 225, 226, 227, 228, 229, 230, 231, 232, 233, 234, 235, 256, 257, 258, 259, 260, 261, 265, 266, 267, 268, 269, 270, 262, 263, 264, 271, 272, 273, 274, 275, 276, 277, 278, 279, 280, 281, 282, 283, 284, 285, 286, 287] (by decide +kernel) (by decide +kernel)) (goodIn_sub (fun _ h => List.mem_cons_of_mem _ (List.mem_append_left _ (List.mem_append_left _ (List.mem_append_right _ h)))) (by decide +kernel))) (goodIn_sub (fun _ h => List.mem_cons_of_mem _ (List.mem_append_left _ (List.mem_append_right _ h))) (by decide +kernel))) (goodIn_sub (fun _ h => List.mem_cons_of_mem _ (List.mem_append_right _ h)) (by decide +kernel))
set_option maxRecDepth 20000 in
theorem gL_areCanals_L_asks : GoodIn wsL_areCanals (va_wsS RL 40 yL_asks wsL_asks) := goodIn_app (goodIn_of _ (by decide +kernel)) ggL_areCanals_L_asks
set_option maxRecDepth 20000 in
theorem ggL_areCanals_X4_water : GoodIn wsL_areCanals wsX4_water := goodIn_ca (goodIn_r _ [239, 240, 30, 31, 32, 4, 33, 34, 35, 36, 280, 281, 282, 283, 284, 285, 256, 257, 258, 259, 260, 261] (by decide +kernel) (by decide +kernel)) (goodIn_sub (fun _ h => List.mem_cons_of_mem _ (List.mem_append_right _ h)) (by decide +kernel))
set_option maxRecDepth 20000 in
theorem gL_areCanals_X4_water : GoodIn wsL_areCanals (wsV RL 44 RX4 yX4_water wsX4_water) := goodIn_app (goodIn_of _ (by decide +kernel)) ggL_areCanals_X4_water
set_option maxRecDepth 20000 in
theorem ggL_areCanals_L_part : GoodIn wsL_areCanals wsL_part := goodIn_r _ [243] (by decide +kernel) (by decide +kernel)
set_option maxRecDepth 20000 in
theorem gL_areCanals_L_part : GoodIn wsL_areCanals (va_wsS RL 10 yL_part wsL_part) := goodIn_app (goodIn_of _ (by decide +kernel)) ggL_areCanals_L_part
set_option maxRecDepth 20000 in
theorem ggL_areCanals_X4_cost : GoodIn wsL_areCanals wsX4_cost := goodIn_ca (goodIn_r _ [222, 223, 224, 225, 4, 226, 34, 35, 6, 227, 7, 8, 9, 10, 11, 12, 156, 157, 158, 159, 160, 161, 162, 163, 164, 165, 166, 167, 168, 169, 170, 171, 58, 228, 229, 230, 29, 231, 50, 48, 49, 232, 233, 234, 119, 235, 210, 256, 257, 258, 259, 260, 261, 262, 263, 264, 265, 266, 267, 268, 269, 270, 280, 281, 282, 283, 284, 285] (by decide +kernel) (by decide +kernel)) (goodIn_sub (fun _ h => List.mem_cons_of_mem _ (List.mem_append_right _ h)) (by decide +kernel))
set_option maxRecDepth 20000 in
theorem gL_areCanals_X4_cost : GoodIn wsL_areCanals (wsV RL 29 RX4 yX4_cost wsX4_cost) := goodIn_app (goodIn_of _ (by decide +kernel)) ggL_areCanals_X4_cost
set_option maxRecDepth 20000 in
theorem ggL_areCanals_X4_canPass : GoodIn wsL_areCanals wsX4_canPass := goodIn_ca (goodIn_r _ [247, 223, 224, 225, 4, 226, 34, 35, 6, 227, 7, 8, 9, 10, 11, 12, 156, 157, 158, 159, 160, 161, 162, 163, 164, 165, 166, 167, 168, 169, 170, 171, 58, 179, 180, 181, 29, 182, 46, 48, 183, 51, 256, 257, 258, 259, 260, 261, 262, 263, 264, 265, 266, 267, 268, 269, 270, 280, 281, 282, 283, 284, 285] (by decide +kernel) (by decide +kernel)) (goodIn_sub (fun _ h => List.mem_cons_of_mem _ (List.mem_append_right _ h)) (by decide +kernel))
set_option maxRecDepth 20000 in
theorem gL_areCanals_X4_canPass : GoodIn wsL_areCanals (wsV RL 47 RX4 yX4_canPass wsX4_canPass) := goodIn_app (goodIn_of _ (by decide +kernel)) ggL_areCanals_X4_canPass
set_option maxRecDepth 20000 in
theorem ggL_areCanals_X4_allWater : GoodIn wsL_areCanals wsX4_allWater := goodIn_r _ [251, 36, 240, 256, 257, 258, 259, 260, 261, 280, 281, 282, 283, 284, 285] (by decide +kernel) (by decide +kernel)
set_option maxRecDepth 20000 in
theorem gL_areCanals_X4_allWater : GoodIn wsL_areCanals (wsV RL 51 RX4 yX4_allWater wsX4_allWater) := goodIn_app (goodIn_of _ (by decide +kernel)) ggL_areCanals_X4_allWater
set_option maxRecDepth 20000 in
theorem ggL_areCanals_X4_spilt : GoodIn wsL_areCanals wsX4_spilt := goodIn_r _ [255, 151, 256, 257, 258, 259, 260, 261] (by decide +kernel) (by decide +kernel)
set_option maxRecDepth 20000 in
theorem gL_areCanals_X4_spilt : GoodIn wsL_areCanals (wsV RL 54 RX4 yX4_spilt wsX4_spilt) := goodIn_app (goodIn_of _ (by decide +kernel)) ggL_areCanals_X4_spilt
theorem dL_areCanals_0 : decode cL_areCanals 0 = .ok (.aload_n 0, 1) := by decide +kernel
theorem dL_areCanals_1 : decode cL_areCanals 1 = .ok (.invokevirtual 36, 3) := by decide +kernel
theorem dL_areCanals_4 : decode cL_areCanals 4 = .ok (.aload_n 2, 1) := by decide +kernel
theorem dL_areCanals_5 : decode cL_areCanals 5 = .ok (.iconst 0, 1) := by decide +kernel
theorem dL_areCanals_6 : decode cL_areCanals 6 = .ok (.iaload, 1) := by decide +kernel
theorem dL_areCanals_7 : decode cL_areCanals 7 = .ok (.if_icmp .ne 23, 3) := by decide +kernel
theorem dL_areCanals_10 : decode cL_areCanals 10 = .ok (.aload_n 0, 1) := by decide +kernel
theorem dL_areCanals_11 : decode cL_areCanals 11 = .ok (.iconst 3, 1) := by decide +kernel
theorem dL_areCanals_12 : decode cL_areCanals 12 = .ok (.aload_n 2, 1) := by decide +kernel
theorem dL_areCanals_13 : decode cL_areCanals 13 = .ok (.iconst 0, 1) := by decide +kernel
theorem dL_areCanals_14 : decode cL_areCanals 14 = .ok (.iaload, 1) := by decide +kernel
theorem dL_areCanals_15 : decode cL_areCanals 15 = .ok (.iconst 0, 1) := by decide +kernel
theorem dL_areCanals_16 : decode cL_areCanals 16 = .ok (.iconst 0, 1) := by decide +kernel
theorem dL_areCanals_17 : decode cL_areCanals 17 = .ok (.iconst 0, 1) := by decide +kernel
theorem dL_areCanals_18 : decode cL_areCanals 18 = .ok (.invokestatic 40, 3) := by decide +kernel
theorem dL_areCanals_21 : decode cL_areCanals 21 = .ok (.bipush (-107), 2) := by decide +kernel
theorem dL_areCanals_23 : decode cL_areCanals 23 = .ok (.if_icmp .ne 7, 3) := by decide +kernel
theorem dL_areCanals_26 : decode cL_areCanals 26 = .ok (.iconst 1, 1) := by decide +kernel
theorem dL_areCanals_27 : decode cL_areCanals 27 = .ok (.goto 4, 3) := by decide +kernel
theorem dL_areCanals_30 : decode cL_areCanals 30 = .ok (.iconst 0, 1) := by decide +kernel
theorem dL_areCanals_31 : decode cL_areCanals 31 = .ok (.istore_n 3, 1) := by decide +kernel
theorem dL_areCanals_32 : decode cL_areCanals 32 = .ok (.iconst 0, 1) := by decide +kernel
theorem dL_areCanals_33 : decode cL_areCanals 33 = .ok (.istore 4, 2) := by decide +kernel
theorem dL_areCanals_35 : decode cL_areCanals 35 = .ok (.iconst 0, 1) := by decide +kernel
theorem dL_areCanals_36 : decode cL_areCanals 36 = .ok (.istore 5, 2) := by decide +kernel
theorem dL_areCanals_38 : decode cL_areCanals 38 = .ok (.iload 5, 2) := by decide +kernel
theorem dL_areCanals_40 : decode cL_areCanals 40 = .ok (.bipush 8, 2) := by decide +kernel
theorem dL_areCanals_42 : decode cL_areCanals 42 = .ok (.if_icmp .ge 52, 3) := by decide +kernel
theorem dL_areCanals_45 : decode cL_areCanals 45 = .ok (.iload 4, 2) := by decide +kernel
theorem dL_areCanals_47 : decode cL_areCanals 47 = .ok (.aload_n 0, 1) := by decide +kernel
theorem dL_areCanals_48 : decode cL_areCanals 48 = .ok (.iload 5, 2) := by decide +kernel
theorem dL_areCanals_50 : decode cL_areCanals 50 = .ok (.invokevirtual 44, 3) := by decide +kernel
theorem dL_areCanals_53 : decode cL_areCanals 53 = .ok (.iadd, 1) := by decide +kernel
theorem dL_areCanals_54 : decode cL_areCanals 54 = .ok (.istore 4, 2) := by decide +kernel
theorem dL_areCanals_56 : decode cL_areCanals 56 = .ok (.iload_n 3, 1) := by decide +kernel
theorem dL_areCanals_57 : decode cL_areCanals 57 = .ok (.ifCond .eq 29, 3) := by decide +kernel
theorem dL_areCanals_60 : decode cL_areCanals 60 = .ok (.aload_n 0, 1) := by decide +kernel
theorem dL_areCanals_61 : decode cL_areCanals 61 = .ok (.iload 5, 2) := by decide +kernel
theorem dL_areCanals_63 : decode cL_areCanals 63 = .ok (.invokevirtual 44, 3) := by decide +kernel
theorem dL_areCanals_66 : decode cL_areCanals 66 = .ok (.iconst 5, 1) := by decide +kernel
theorem dL_areCanals_67 : decode cL_areCanals 67 = .ok (.if_icmp .lt 19, 3) := by decide +kernel
theorem dL_areCanals_70 : decode cL_areCanals 70 = .ok (.aload_n 0, 1) := by decide +kernel
theorem dL_areCanals_71 : decode cL_areCanals 71 = .ok (.iload 5, 2) := by decide +kernel
theorem dL_areCanals_73 : decode cL_areCanals 73 = .ok (.invokevirtual 44, 3) := by decide +kernel
theorem dL_areCanals_76 : decode cL_areCanals 76 = .ok (.sipush 200, 3) := by decide +kernel
theorem dL_areCanals_79 : decode cL_areCanals 79 = .ok (.if_icmp .gt 7, 3) := by decide +kernel
theorem dL_areCanals_82 : decode cL_areCanals 82 = .ok (.iconst 1, 1) := by decide +kernel
theorem dL_areCanals_83 : decode cL_areCanals 83 = .ok (.goto 4, 3) := by decide +kernel
theorem dL_areCanals_86 : decode cL_areCanals 86 = .ok (.iconst 0, 1) := by decide +kernel
theorem dL_areCanals_87 : decode cL_areCanals 87 = .ok (.istore_n 3, 1) := by decide +kernel
theorem dL_areCanals_88 : decode cL_areCanals 88 = .ok (.iinc 5 1, 3) := by decide +kernel
theorem dL_areCanals_91 : decode cL_areCanals 91 = .ok (.goto (-53), 3) := by decide +kernel
theorem dL_areCanals_94 : decode cL_areCanals 94 = .ok (.iconst 0, 1) := by decide +kernel
theorem dL_areCanals_95 : decode cL_areCanals 95 = .ok (.istore 5, 2) := by decide +kernel
theorem dL_areCanals_97 : decode cL_areCanals 97 = .ok (.iload 5, 2) := by decide +kernel
theorem dL_areCanals_99 : decode cL_areCanals 99 = .ok (.aload_n 2, 1) := by decide +kernel
theorem dL_areCanals_100 : decode cL_areCanals 100 = .ok (.iconst 0, 1) := by decide +kernel
theorem dL_areCanals_101 : decode cL_areCanals 101 = .ok (.iaload, 1) := by decide +kernel
theorem dL_areCanals_102 : decode cL_areCanals 102 = .ok (.if_icmp .ge 160, 3) := by decide +kernel
theorem dL_areCanals_105 : decode cL_areCanals 105 = .ok (.iload_n 3, 1) := by decide +kernel
theorem dL_areCanals_106 : decode cL_areCanals 106 = .ok (.ifCond .eq 156, 3) := by decide +kernel
theorem dL_areCanals_109 : decode cL_areCanals 109 = .ok (.aload_n 1, 1) := by decide +kernel
theorem dL_areCanals_110 : decode cL_areCanals 110 = .ok (.iload 5, 2) := by decide +kernel
theorem dL_areCanals_112 : decode cL_areCanals 112 = .ok (.iaload, 1) := by decide +kernel
theorem dL_areCanals_113 : decode cL_areCanals 113 = .ok (.bipush 6, 2) := by decide +kernel
theorem dL_areCanals_115 : decode cL_areCanals 115 = .ok (.iconst 4, 1) := by decide +kernel
theorem dL_areCanals_116 : decode cL_areCanals 116 = .ok (.invokestatic 10, 3) := by decide +kernel
theorem dL_areCanals_119 : decode cL_areCanals 119 = .ok (.istore 6, 2) := by decide +kernel
theorem dL_areCanals_121 : decode cL_areCanals 121 = .ok (.iconst 0, 1) := by decide +kernel
theorem dL_areCanals_122 : decode cL_areCanals 122 = .ok (.istore 7, 2) := by decide +kernel
theorem dL_areCanals_124 : decode cL_areCanals 124 = .ok (.iload 7, 2) := by decide +kernel
theorem dL_areCanals_126 : decode cL_areCanals 126 = .ok (.iconst 2, 1) := by decide +kernel
theorem dL_areCanals_127 : decode cL_areCanals 127 = .ok (.if_icmp .ge 56, 3) := by decide +kernel
theorem dL_areCanals_130 : decode cL_areCanals 130 = .ok (.aload_n 0, 1) := by decide +kernel
theorem dL_areCanals_131 : decode cL_areCanals 131 = .ok (.aload_n 1, 1) := by decide +kernel
theorem dL_areCanals_132 : decode cL_areCanals 132 = .ok (.iload 5, 2) := by decide +kernel
theorem dL_areCanals_134 : decode cL_areCanals 134 = .ok (.iaload, 1) := by decide +kernel
theorem dL_areCanals_135 : decode cL_areCanals 135 = .ok (.iconst 3, 1) := by decide +kernel
theorem dL_areCanals_136 : decode cL_areCanals 136 = .ok (.iload 7, 2) := by decide +kernel
theorem dL_areCanals_138 : decode cL_areCanals 138 = .ok (.imul, 1) := by decide +kernel
theorem dL_areCanals_139 : decode cL_areCanals 139 = .ok (.iconst 3, 1) := by decide +kernel
theorem dL_areCanals_140 : decode cL_areCanals 140 = .ok (.invokestatic 10, 3) := by decide +kernel
theorem dL_areCanals_143 : decode cL_areCanals 143 = .ok (.invokevirtual 44, 3) := by decide +kernel
theorem dL_areCanals_146 : decode cL_areCanals 146 = .ok (.istore 8, 2) := by decide +kernel
theorem dL_areCanals_148 : decode cL_areCanals 148 = .ok (.iload 6, 2) := by decide +kernel
theorem dL_areCanals_150 : decode cL_areCanals 150 = .ok (.iload 8, 2) := by decide +kernel
theorem dL_areCanals_152 : decode cL_areCanals 152 = .ok (.bipush 15, 2) := by decide +kernel
theorem dL_areCanals_154 : decode cL_areCanals 154 = .ok (.if_icmp .ge 8, 3) := by decide +kernel
theorem dL_areCanals_157 : decode cL_areCanals 157 = .ok (.bipush 10, 2) := by decide +kernel
theorem dL_areCanals_159 : decode cL_areCanals 159 = .ok (.goto 15, 3) := by decide +kernel
theorem dL_areCanals_162 : decode cL_areCanals 162 = .ok (.iload 8, 2) := by decide +kernel
theorem dL_areCanals_164 : decode cL_areCanals 164 = .ok (.bipush 30, 2) := by decide +kernel
theorem dL_areCanals_166 : decode cL_areCanals 166 = .ok (.if_icmp .ge 7, 3) := by decide +kernel
theorem dL_areCanals_169 : decode cL_areCanals 169 = .ok (.iconst 5, 1) := by decide +kernel
theorem dL_areCanals_170 : decode cL_areCanals 170 = .ok (.goto 4, 3) := by decide +kernel
theorem dL_areCanals_173 : decode cL_areCanals 173 = .ok (.iconst 0, 1) := by decide +kernel
theorem dL_areCanals_174 : decode cL_areCanals 174 = .ok (.iadd, 1) := by decide +kernel
theorem dL_areCanals_175 : decode cL_areCanals 175 = .ok (.istore 6, 2) := by decide +kernel
theorem dL_areCanals_177 : decode cL_areCanals 177 = .ok (.iinc 7 1, 3) := by decide +kernel
theorem dL_areCanals_180 : decode cL_areCanals 180 = .ok (.goto (-56), 3) := by decide +kernel
theorem dL_areCanals_183 : decode cL_areCanals 183 = .ok (.aload_n 0, 1) := by decide +kernel
theorem dL_areCanals_184 : decode cL_areCanals 184 = .ok (.iload 5, 2) := by decide +kernel
theorem dL_areCanals_186 : decode cL_areCanals 186 = .ok (.invokevirtual 29, 3) := by decide +kernel
theorem dL_areCanals_189 : decode cL_areCanals 189 = .ok (.iload 6, 2) := by decide +kernel
theorem dL_areCanals_191 : decode cL_areCanals 191 = .ok (.if_icmp .ne 63, 3) := by decide +kernel
theorem dL_areCanals_194 : decode cL_areCanals 194 = .ok (.aload_n 0, 1) := by decide +kernel
theorem dL_areCanals_195 : decode cL_areCanals 195 = .ok (.iload 5, 2) := by decide +kernel
theorem dL_areCanals_197 : decode cL_areCanals 197 = .ok (.invokevirtual 47, 3) := by decide +kernel
theorem dL_areCanals_200 : decode cL_areCanals 200 = .ok (.aload_n 1, 1) := by decide +kernel
theorem dL_areCanals_201 : decode cL_areCanals 201 = .ok (.iload 5, 2) := by decide +kernel
theorem dL_areCanals_203 : decode cL_areCanals 203 = .ok (.iaload, 1) := by decide +kernel
theorem dL_areCanals_204 : decode cL_areCanals 204 = .ok (.bipush 14, 2) := by decide +kernel
theorem dL_areCanals_206 : decode cL_areCanals 206 = .ok (.iconst 1, 1) := by decide +kernel
theorem dL_areCanals_207 : decode cL_areCanals 207 = .ok (.invokestatic 10, 3) := by decide +kernel
theorem dL_areCanals_210 : decode cL_areCanals 210 = .ok (.iconst 1, 1) := by decide +kernel
theorem dL_areCanals_211 : decode cL_areCanals 211 = .ok (.if_icmp .ne 35, 3) := by decide +kernel
theorem dL_areCanals_214 : decode cL_areCanals 214 = .ok (.aload_n 0, 1) := by decide +kernel
theorem dL_areCanals_215 : decode cL_areCanals 215 = .ok (.aload_n 1, 1) := by decide +kernel
theorem dL_areCanals_216 : decode cL_areCanals 216 = .ok (.iload 5, 2) := by decide +kernel
theorem dL_areCanals_218 : decode cL_areCanals 218 = .ok (.iaload, 1) := by decide +kernel
theorem dL_areCanals_219 : decode cL_areCanals 219 = .ok (.iconst 0, 1) := by decide +kernel
theorem dL_areCanals_220 : decode cL_areCanals 220 = .ok (.iconst 3, 1) := by decide +kernel
theorem dL_areCanals_221 : decode cL_areCanals 221 = .ok (.invokestatic 10, 3) := by decide +kernel
theorem dL_areCanals_224 : decode cL_areCanals 224 = .ok (.invokevirtual 44, 3) := by decide +kernel
theorem dL_areCanals_227 : decode cL_areCanals 227 = .ok (.aload_n 1, 1) := by decide +kernel
theorem dL_areCanals_228 : decode cL_areCanals 228 = .ok (.iload 5, 2) := by decide +kernel
theorem dL_areCanals_230 : decode cL_areCanals 230 = .ok (.iaload, 1) := by decide +kernel
theorem dL_areCanals_231 : decode cL_areCanals 231 = .ok (.bipush 10, 2) := by decide +kernel
theorem dL_areCanals_233 : decode cL_areCanals 233 = .ok (.iconst 4, 1) := by decide +kernel
theorem dL_areCanals_234 : decode cL_areCanals 234 = .ok (.invokestatic 10, 3) := by decide +kernel
theorem dL_areCanals_237 : decode cL_areCanals 237 = .ok (.iconst 5, 1) := by decide +kernel
theorem dL_areCanals_238 : decode cL_areCanals 238 = .ok (.iadd, 1) := by decide +kernel
theorem dL_areCanals_239 : decode cL_areCanals 239 = .ok (.if_icmp .lt 7, 3) := by decide +kernel
theorem dL_areCanals_242 : decode cL_areCanals 242 = .ok (.iconst 1, 1) := by decide +kernel
theorem dL_areCanals_243 : decode cL_areCanals 243 = .ok (.goto 4, 3) := by decide +kernel
theorem dL_areCanals_246 : decode cL_areCanals 246 = .ok (.iconst 0, 1) := by decide +kernel
theorem dL_areCanals_247 : decode cL_areCanals 247 = .ok (.if_icmp .ne 7, 3) := by decide +kernel
theorem dL_areCanals_250 : decode cL_areCanals 250 = .ok (.iconst 1, 1) := by decide +kernel
theorem dL_areCanals_251 : decode cL_areCanals 251 = .ok (.goto 4, 3) := by decide +kernel
theorem dL_areCanals_254 : decode cL_areCanals 254 = .ok (.iconst 0, 1) := by decide +kernel
theorem dL_areCanals_255 : decode cL_areCanals 255 = .ok (.istore_n 3, 1) := by decide +kernel
theorem dL_areCanals_256 : decode cL_areCanals 256 = .ok (.iinc 5 1, 3) := by decide +kernel
theorem dL_areCanals_259 : decode cL_areCanals 259 = .ok (.goto (-162), 3) := by decide +kernel
theorem dL_areCanals_262 : decode cL_areCanals 262 = .ok (.iload_n 3, 1) := by decide +kernel
theorem dL_areCanals_263 : decode cL_areCanals 263 = .ok (.ifCond .eq 23, 3) := by decide +kernel
theorem dL_areCanals_266 : decode cL_areCanals 266 = .ok (.aload_n 0, 1) := by decide +kernel
theorem dL_areCanals_267 : decode cL_areCanals 267 = .ok (.invokevirtual 51, 3) := by decide +kernel
theorem dL_areCanals_270 : decode cL_areCanals 270 = .ok (.iload 4, 2) := by decide +kernel
theorem dL_areCanals_272 : decode cL_areCanals 272 = .ok (.if_icmp .ne 14, 3) := by decide +kernel
theorem dL_areCanals_275 : decode cL_areCanals 275 = .ok (.aload_n 0, 1) := by decide +kernel
theorem dL_areCanals_276 : decode cL_areCanals 276 = .ok (.invokevirtual 54, 3) := by decide +kernel
theorem dL_areCanals_279 : decode cL_areCanals 279 = .ok (.ifCond .lt 7, 3) := by decide +kernel
theorem dL_areCanals_282 : decode cL_areCanals 282 = .ok (.iconst 1, 1) := by decide +kernel
theorem dL_areCanals_283 : decode cL_areCanals 283 = .ok (.goto 4, 3) := by decide +kernel
theorem dL_areCanals_286 : decode cL_areCanals 286 = .ok (.iconst 0, 1) := by decide +kernel
theorem dL_areCanals_287 : decode cL_areCanals 287 = .ok (.ireturn, 1) := by decide +kernel
set_option maxRecDepth 20000 in
theorem ggL_notes_X4_distance : GoodIn wsL_notes wsX4_distance := goodIn_ca (goodIn_r _ [5, 6, 7, 8, 9, 10, 11, 4, 12, 13, 14, 15, 29, 30, 31, 32, 33, 34, 35, 36, 37, 38, 39, 40, 41, 42] (by decide +kernel) (by decide +kernel)) (goodIn_sub (fun _ h => List.mem_cons_of_mem _ (List.mem_append_right _ h)) (by decide +kernel))
set_option maxRecDepth 20000 in
theorem gL_notes_X4_distance : GoodIn wsL_notes (wsV RL 57 RX4 yX4_distance wsX4_distance) := goodIn_app (goodIn_of _ (by decide +kernel)) ggL_notes_X4_distance
set_option maxRecDepth 20000 in
theorem ggL_notes_X4_canalTo : GoodIn wsL_notes wsX4_canalTo := goodIn_ca (goodIn_r _ [19, 20, 9, 10, 11, 4, 12, 13, 14, 15, 21, 22, 23, 24, 25, 26, 27, 28, 43, 44, 45, 46, 47, 48, 37, 38, 39, 40, 41, 42, 29, 30, 31, 32, 33, 34, 35, 36] (by decide +kernel) (by decide +kernel)) (goodIn_sub (fun _ h => List.mem_cons_of_mem _ (List.mem_append_right _ h)) (by decide +kernel))
set_option maxRecDepth 20000 in
theorem gL_notes_X4_canalTo : GoodIn wsL_notes (wsV RL 61 RX4 yX4_canalTo wsX4_canalTo) := goodIn_app (goodIn_of _ (by decide +kernel)) ggL_notes_X4_canalTo
theorem dL_notes_0 : decode cL_notes 0 = .ok (.iconst 0, 1) := by decide +kernel
theorem dL_notes_1 : decode cL_notes 1 = .ok (.istore_n 3, 1) := by decide +kernel
theorem dL_notes_2 : decode cL_notes 2 = .ok (.iload_n 3, 1) := by decide +kernel
theorem dL_notes_3 : decode cL_notes 3 = .ok (.bipush 64, 2) := by decide +kernel
theorem dL_notes_5 : decode cL_notes 5 = .ok (.if_icmp .ge 39, 3) := by decide +kernel
theorem dL_notes_8 : decode cL_notes 8 = .ok (.aload_n 1, 1) := by decide +kernel
theorem dL_notes_9 : decode cL_notes 9 = .ok (.iload_n 3, 1) := by decide +kernel
theorem dL_notes_10 : decode cL_notes 10 = .ok (.aload_n 0, 1) := by decide +kernel
theorem dL_notes_11 : decode cL_notes 11 = .ok (.iload_n 3, 1) := by decide +kernel
theorem dL_notes_12 : decode cL_notes 12 = .ok (.bipush 8, 2) := by decide +kernel
theorem dL_notes_14 : decode cL_notes 14 = .ok (.idiv, 1) := by decide +kernel
theorem dL_notes_15 : decode cL_notes 15 = .ok (.iload_n 3, 1) := by decide +kernel
theorem dL_notes_16 : decode cL_notes 16 = .ok (.bipush 8, 2) := by decide +kernel
theorem dL_notes_18 : decode cL_notes 18 = .ok (.irem, 1) := by decide +kernel
theorem dL_notes_19 : decode cL_notes 19 = .ok (.invokevirtual 57, 3) := by decide +kernel
theorem dL_notes_22 : decode cL_notes 22 = .ok (.iastore, 1) := by decide +kernel
theorem dL_notes_23 : decode cL_notes 23 = .ok (.aload_n 2, 1) := by decide +kernel
theorem dL_notes_24 : decode cL_notes 24 = .ok (.iload_n 3, 1) := by decide +kernel
theorem dL_notes_25 : decode cL_notes 25 = .ok (.aload_n 0, 1) := by decide +kernel
theorem dL_notes_26 : decode cL_notes 26 = .ok (.iload_n 3, 1) := by decide +kernel
theorem dL_notes_27 : decode cL_notes 27 = .ok (.bipush 8, 2) := by decide +kernel
theorem dL_notes_29 : decode cL_notes 29 = .ok (.idiv, 1) := by decide +kernel
theorem dL_notes_30 : decode cL_notes 30 = .ok (.iload_n 3, 1) := by decide +kernel
theorem dL_notes_31 : decode cL_notes 31 = .ok (.bipush 8, 2) := by decide +kernel
theorem dL_notes_33 : decode cL_notes 33 = .ok (.irem, 1) := by decide +kernel
theorem dL_notes_34 : decode cL_notes 34 = .ok (.invokevirtual 61, 3) := by decide +kernel
theorem dL_notes_37 : decode cL_notes 37 = .ok (.iastore, 1) := by decide +kernel
theorem dL_notes_38 : decode cL_notes 38 = .ok (.iinc 3 1, 3) := by decide +kernel
theorem dL_notes_41 : decode cL_notes 41 = .ok (.goto (-39), 3) := by decide +kernel
theorem dL_notes_44 : decode cL_notes 44 = .ok (.return_, 1) := by decide +kernel
set_option maxRecDepth 20000 in
theorem ggL_settles_X4_areStill : GoodIn wsL_settles wsX4_areStill := goodIn_r _ [5, 6, 7, 8, 4, 9, 10, 11, 12, 13, 14, 15, 16, 17, 18, 19, 20, 21, 22, 23, 24, 25, 26, 27, 28, 29, 30, 31, 32, 33, 34, 35, 36, 37, 38, 39, 40, 41, 42, 43, 44, 45, 46, 47, 48, 49, 50, 51, 52, 53, 54, 55, 56, 57, 58, 59, 60, 61, 62, 63, 64, 65, 66, 67, 68, 69, 70, 71, 72, 73, 74, 75, 76, 77, 78, 79, 80, 81, 139, 140, 141, 142, 143, 144, 145, 146, 147, 148, 149, 150, 151, 152, 153, 154, 155, 156, 157, 158, 159, 160, 161] (by decide +kernel) (by decide +kernel)
set_option maxRecDepth 20000 in
theorem gL_settles_X4_areStill : GoodIn wsL_settles (wsV RL 64 RX4 yX4_areStill wsX4_areStill) := goodIn_app (goodIn_of _ (by decide +kernel)) ggL_settles_X4_areStill
set_option maxRecDepth 20000 in
theorem ggL_settles_L_notes : GoodIn wsL_settles wsL_notes := goodIn_ca (goodIn_r _ [85, 86, 87, 88, 4, 89, 77, 90, 91, 92, 93, 94, 95, 96, 97, 10, 98, 99, 100, 101, 102, 103, 104, 105, 50, 106, 52, 107, 54, 145, 146, 147, 148, 149, 150, 157, 158, 139, 140, 141, 142, 143, 144, 151, 152, 153, 154, 155, 156] (by decide +kernel) (by decide +kernel)) (goodIn_sub (fun _ h => List.mem_cons_of_mem _ (List.mem_append_left _ (List.mem_append_right _ h))) (by decide +kernel))
set_option maxRecDepth 20000 in
theorem gL_settles_L_notes : GoodIn wsL_settles (va_wsS RL 68 yL_notes wsL_notes) := goodIn_app (goodIn_of _ (by decide +kernel)) ggL_settles_L_notes
set_option maxRecDepth 20000 in
theorem ggL_settles_X4_settle : GoodIn wsL_settles wsX4_settle := goodIn_ca (goodIn_r _ [111, 10, 112, 113, 4, 114, 115, 116, 6, 7, 8, 9, 11, 12, 13, 14, 15, 16, 17, 18, 19, 20, 21, 22, 23, 24, 25, 26, 27, 28, 29, 30, 31, 32, 33, 34, 35, 36, 37, 38, 39, 40, 41, 42, 43, 44, 45, 46, 47, 48, 49, 50, 51, 52, 53, 54, 55, 56, 57, 58, 59, 60, 61, 62, 63, 64, 65, 66, 67, 68, 69, 70, 71, 72, 73, 74, 75, 76, 77, 78, 79, 80, 81, 117, 118, 119, 120, 139, 140, 141, 142, 143, 144, 145, 146, 147, 148, 149, 150, 151, 152, 153, 154, 155, 156, 157, 158, 159, 160, 161] (by decide +kernel) (by decide +kernel)) (goodIn_sub (fun _ h => List.mem_cons_of_mem _ (List.mem_append_right _ h)) (by decide +kernel))
set_option maxRecDepth 20000 in
theorem gL_settles_X4_settle : GoodIn wsL_settles (wsV RL 72 RX4 yX4_settle wsX4_settle) := goodIn_app (goodIn_of _ (by decide +kernel)) ggL_settles_X4_settle
set_option maxRecDepth 20000 in
theorem ggL_settles_L_part : GoodIn wsL_settles wsL_part := goodIn_r _ [123] (by decide +kernel) (by decide +kernel)
set_option maxRecDepth 20000 in
theorem gL_settles_L_part : GoodIn wsL_settles (va_wsS RL 10 yL_part wsL_part) := goodIn_app (goodIn_of _ (by decide +kernel)) ggL_settles_L_part
set_option maxRecDepth 20000 in
theorem ggL_settles_L_isAt : GoodIn wsL_settles wsL_isAt := goodIn_r _ [126, 121, 122, 84, 123] (by decide +kernel) (by decide +kernel)
set_option maxRecDepth 20000 in
theorem gL_settles_L_isAt : GoodIn wsL_settles (va_wsS RL 75 yL_isAt wsL_isAt) := goodIn_app (goodIn_of _ (by decide +kernel)) ggL_settles_L_isAt
set_option maxRecDepth 20000 in
theorem ggL_settles_L_beyond : GoodIn wsL_settles wsL_beyond := goodIn_r _ [129, 121, 122, 84, 123] (by decide +kernel) (by decide +kernel)
set_option maxRecDepth 20000 in
theorem gL_settles_L_beyond : GoodIn wsL_settles (va_wsS RL 79 yL_beyond wsL_beyond) := goodIn_app (goodIn_of _ (by decide +kernel)) ggL_settles_L_beyond
set_option maxRecDepth 20000 in
theorem ggL_settles_X4_cost : GoodIn wsL_settles wsX4_cost := goodIn_ca (goodIn_r _ [133, 134, 135, 136, 4, 137, 96, 97, 12, 13, 24, 25, 26, 27, 28, 29, 30, 31, 32, 33, 34, 35, 36, 37, 38, 39, 40, 41, 42, 43, 44, 45, 46, 138, 57, 58, 59, 60, 61, 62, 63, 64, 65, 66, 50, 67, 68, 139, 140, 141, 142, 143, 144, 159, 160, 161, 151, 152, 153, 154, 155, 156, 145, 146, 147, 148, 149, 150] (by decide +kernel) (by decide +kernel)) (goodIn_sub (fun _ h => List.mem_cons_of_mem _ (List.mem_append_left _ (List.mem_append_right _ h))) (by decide +kernel))
set_option maxRecDepth 20000 in
theorem gL_settles_X4_cost : GoodIn wsL_settles (wsV RL 29 RX4 yX4_cost wsX4_cost) := goodIn_app (goodIn_of _ (by decide +kernel)) ggL_settles_X4_cost
set_option maxRecDepth 20000 in
theorem ggL_settles_X4_distance : GoodIn wsL_settles wsX4_distance := goodIn_ca (goodIn_r _ [89, 77, 90, 91, 92, 93, 94, 4, 95, 96, 97, 10, 145, 146, 147, 148, 149, 150, 157, 158, 139, 140, 141, 142, 143, 144] (by decide +kernel) (by decide +kernel)) (goodIn_sub (fun _ h => List.mem_cons_of_mem _ (List.mem_append_left _ (List.mem_append_right _ h))) (by decide +kernel))
set_option maxRecDepth 20000 in
theorem gL_settles_X4_distance : GoodIn wsL_settles (wsV RL 57 RX4 yX4_distance wsX4_distance) := goodIn_app (goodIn_of _ (by decide +kernel)) ggL_settles_X4_distance
set_option maxRecDepth 20000 in
theorem ggL_settles_X4_canalTo : GoodIn wsL_settles wsX4_canalTo := goodIn_ca (goodIn_r _ [101, 102, 92, 93, 94, 4, 95, 96, 97, 10, 103, 104, 105, 50, 106, 52, 107, 54, 151, 152, 153, 154, 155, 156, 139, 140, 141, 142, 143, 144, 145, 146, 147, 148, 149, 150, 157, 158] (by decide +kernel) (by decide +kernel)) (goodIn_sub (fun _ h => List.mem_cons_of_mem _ (List.mem_append_left _ (List.mem_append_right _ h))) (by decide +kernel))
set_option maxRecDepth 20000 in
theorem gL_settles_X4_canalTo : GoodIn wsL_settles (wsV RL 61 RX4 yX4_canalTo wsX4_canalTo) := goodIn_app (goodIn_of _ (by decide +kernel)) ggL_settles_X4_canalTo
theorem dL_settles_0 : decode cL_settles 0 = .ok (.aload_n 0, 1) := by decide +kernel
theorem dL_settles_1 : decode cL_settles 1 = .ok (.invokevirtual 64, 3) := by decide +kernel
theorem dL_settles_4 : decode cL_settles 4 = .ok (.istore 5, 2) := by decide +kernel
theorem dL_settles_6 : decode cL_settles 6 = .ok (.iconst 0, 1) := by decide +kernel
theorem dL_settles_7 : decode cL_settles 7 = .ok (.istore 6, 2) := by decide +kernel
theorem dL_settles_9 : decode cL_settles 9 = .ok (.iconst 1, 1) := by decide +kernel
theorem dL_settles_10 : decode cL_settles 10 = .ok (.istore 7, 2) := by decide +kernel
theorem dL_settles_12 : decode cL_settles 12 = .ok (.aload_n 0, 1) := by decide +kernel
theorem dL_settles_13 : decode cL_settles 13 = .ok (.aload_n 3, 1) := by decide +kernel
theorem dL_settles_14 : decode cL_settles 14 = .ok (.aload 4, 2) := by decide +kernel
theorem dL_settles_16 : decode cL_settles 16 = .ok (.invokestatic 68, 3) := by decide +kernel
theorem dL_settles_19 : decode cL_settles 19 = .ok (.aload_n 0, 1) := by decide +kernel
theorem dL_settles_20 : decode cL_settles 20 = .ok (.iconst 1, 1) := by decide +kernel
theorem dL_settles_21 : decode cL_settles 21 = .ok (.invokevirtual 72, 3) := by decide +kernel
theorem dL_settles_24 : decode cL_settles 24 = .ok (.istore 8, 2) := by decide +kernel
theorem dL_settles_26 : decode cL_settles 26 = .ok (.iconst 0, 1) := by decide +kernel
theorem dL_settles_27 : decode cL_settles 27 = .ok (.istore 9, 2) := by decide +kernel
theorem dL_settles_29 : decode cL_settles 29 = .ok (.iload 9, 2) := by decide +kernel
theorem dL_settles_31 : decode cL_settles 31 = .ok (.bipush 64, 2) := by decide +kernel
theorem dL_settles_33 : decode cL_settles 33 = .ok (.if_icmp .ge 273, 3) := by decide +kernel
theorem dL_settles_36 : decode cL_settles 36 = .ok (.iload 7, 2) := by decide +kernel
theorem dL_settles_38 : decode cL_settles 38 = .ok (.ifCond .eq 268, 3) := by decide +kernel
theorem dL_settles_41 : decode cL_settles 41 = .ok (.bipush 99, 2) := by decide +kernel
theorem dL_settles_43 : decode cL_settles 43 = .ok (.istore 10, 2) := by decide +kernel
theorem dL_settles_45 : decode cL_settles 45 = .ok (.iconst (-1), 1) := by decide +kernel
theorem dL_settles_46 : decode cL_settles 46 = .ok (.istore 11, 2) := by decide +kernel
theorem dL_settles_48 : decode cL_settles 48 = .ok (.iconst 0, 1) := by decide +kernel
theorem dL_settles_49 : decode cL_settles 49 = .ok (.istore 12, 2) := by decide +kernel
theorem dL_settles_51 : decode cL_settles 51 = .ok (.iload 12, 2) := by decide +kernel
theorem dL_settles_53 : decode cL_settles 53 = .ok (.aload_n 2, 1) := by decide +kernel
theorem dL_settles_54 : decode cL_settles 54 = .ok (.iconst 0, 1) := by decide +kernel
theorem dL_settles_55 : decode cL_settles 55 = .ok (.iaload, 1) := by decide +kernel
theorem dL_settles_56 : decode cL_settles 56 = .ok (.if_icmp .ge 140, 3) := by decide +kernel
theorem dL_settles_59 : decode cL_settles 59 = .ok (.iload 9, 2) := by decide +kernel
theorem dL_settles_61 : decode cL_settles 61 = .ok (.bipush 8, 2) := by decide +kernel
theorem dL_settles_63 : decode cL_settles 63 = .ok (.idiv, 1) := by decide +kernel
theorem dL_settles_64 : decode cL_settles 64 = .ok (.iload 9, 2) := by decide +kernel
theorem dL_settles_66 : decode cL_settles 66 = .ok (.bipush 8, 2) := by decide +kernel
theorem dL_settles_68 : decode cL_settles 68 = .ok (.irem, 1) := by decide +kernel
theorem dL_settles_69 : decode cL_settles 69 = .ok (.if_icmp .eq 127, 3) := by decide +kernel
theorem dL_settles_72 : decode cL_settles 72 = .ok (.aload_n 1, 1) := by decide +kernel
theorem dL_settles_73 : decode cL_settles 73 = .ok (.iload 12, 2) := by decide +kernel
theorem dL_settles_75 : decode cL_settles 75 = .ok (.iaload, 1) := by decide +kernel
theorem dL_settles_76 : decode cL_settles 76 = .ok (.bipush 14, 2) := by decide +kernel
theorem dL_settles_78 : decode cL_settles 78 = .ok (.iconst 1, 1) := by decide +kernel
theorem dL_settles_79 : decode cL_settles 79 = .ok (.invokestatic 10, 3) := by decide +kernel
theorem dL_settles_82 : decode cL_settles 82 = .ok (.iconst 1, 1) := by decide +kernel
theorem dL_settles_83 : decode cL_settles 83 = .ok (.if_icmp .ne 44, 3) := by decide +kernel
theorem dL_settles_86 : decode cL_settles 86 = .ok (.aload_n 1, 1) := by decide +kernel
theorem dL_settles_87 : decode cL_settles 87 = .ok (.iload 12, 2) := by decide +kernel
theorem dL_settles_89 : decode cL_settles 89 = .ok (.iaload, 1) := by decide +kernel
theorem dL_settles_90 : decode cL_settles 90 = .ok (.iload 9, 2) := by decide +kernel
theorem dL_settles_92 : decode cL_settles 92 = .ok (.bipush 8, 2) := by decide +kernel
theorem dL_settles_94 : decode cL_settles 94 = .ok (.idiv, 1) := by decide +kernel
theorem dL_settles_95 : decode cL_settles 95 = .ok (.invokestatic 75, 3) := by decide +kernel
theorem dL_settles_98 : decode cL_settles 98 = .ok (.ifCond .eq 29, 3) := by decide +kernel
theorem dL_settles_101 : decode cL_settles 101 = .ok (.aload_n 3, 1) := by decide +kernel
theorem dL_settles_102 : decode cL_settles 102 = .ok (.bipush 8, 2) := by decide +kernel
theorem dL_settles_104 : decode cL_settles 104 = .ok (.aload_n 1, 1) := by decide +kernel
theorem dL_settles_105 : decode cL_settles 105 = .ok (.iload 12, 2) := by decide +kernel
theorem dL_settles_107 : decode cL_settles 107 = .ok (.iaload, 1) := by decide +kernel
theorem dL_settles_108 : decode cL_settles 108 = .ok (.iload 9, 2) := by decide +kernel
theorem dL_settles_110 : decode cL_settles 110 = .ok (.bipush 8, 2) := by decide +kernel
theorem dL_settles_112 : decode cL_settles 112 = .ok (.idiv, 1) := by decide +kernel
theorem dL_settles_113 : decode cL_settles 113 = .ok (.invokestatic 79, 3) := by decide +kernel
theorem dL_settles_116 : decode cL_settles 116 = .ok (.imul, 1) := by decide +kernel
theorem dL_settles_117 : decode cL_settles 117 = .ok (.iload 9, 2) := by decide +kernel
theorem dL_settles_119 : decode cL_settles 119 = .ok (.bipush 8, 2) := by decide +kernel
theorem dL_settles_121 : decode cL_settles 121 = .ok (.irem, 1) := by decide +kernel
theorem dL_settles_122 : decode cL_settles 122 = .ok (.iadd, 1) := by decide +kernel
theorem dL_settles_123 : decode cL_settles 123 = .ok (.iaload, 1) := by decide +kernel
theorem dL_settles_124 : decode cL_settles 124 = .ok (.goto 4, 3) := by decide +kernel
theorem dL_settles_127 : decode cL_settles 127 = .ok (.iconst (-1), 1) := by decide +kernel
theorem dL_settles_128 : decode cL_settles 128 = .ok (.istore 13, 2) := by decide +kernel
theorem dL_settles_130 : decode cL_settles 130 = .ok (.iload 13, 2) := by decide +kernel
theorem dL_settles_132 : decode cL_settles 132 = .ok (.ifCond .ge 8, 3) := by decide +kernel
theorem dL_settles_135 : decode cL_settles 135 = .ok (.bipush 99, 2) := by decide +kernel
theorem dL_settles_137 : decode cL_settles 137 = .ok (.goto 12, 3) := by decide +kernel
theorem dL_settles_140 : decode cL_settles 140 = .ok (.iload 13, 2) := by decide +kernel
theorem dL_settles_142 : decode cL_settles 142 = .ok (.aload_n 0, 1) := by decide +kernel
theorem dL_settles_143 : decode cL_settles 143 = .ok (.iload 12, 2) := by decide +kernel
theorem dL_settles_145 : decode cL_settles 145 = .ok (.invokevirtual 29, 3) := by decide +kernel
theorem dL_settles_148 : decode cL_settles 148 = .ok (.iadd, 1) := by decide +kernel
theorem dL_settles_149 : decode cL_settles 149 = .ok (.istore 14, 2) := by decide +kernel
theorem dL_settles_151 : decode cL_settles 151 = .ok (.iload 14, 2) := by decide +kernel
theorem dL_settles_153 : decode cL_settles 153 = .ok (.iload 10, 2) := by decide +kernel
theorem dL_settles_155 : decode cL_settles 155 = .ok (.if_icmp .ge 15, 3) := by decide +kernel
theorem dL_settles_158 : decode cL_settles 158 = .ok (.iload 14, 2) := by decide +kernel
theorem dL_settles_160 : decode cL_settles 160 = .ok (.bipush 40, 2) := by decide +kernel
theorem dL_settles_162 : decode cL_settles 162 = .ok (.if_icmp .gt 8, 3) := by decide +kernel
theorem dL_settles_165 : decode cL_settles 165 = .ok (.iload 12, 2) := by decide +kernel
theorem dL_settles_167 : decode cL_settles 167 = .ok (.goto 5, 3) := by decide +kernel
theorem dL_settles_170 : decode cL_settles 170 = .ok (.iload 11, 2) := by decide +kernel
theorem dL_settles_172 : decode cL_settles 172 = .ok (.istore 11, 2) := by decide +kernel
theorem dL_settles_174 : decode cL_settles 174 = .ok (.iload 14, 2) := by decide +kernel
theorem dL_settles_176 : decode cL_settles 176 = .ok (.iload 10, 2) := by decide +kernel
theorem dL_settles_178 : decode cL_settles 178 = .ok (.if_icmp .ge 8, 3) := by decide +kernel
theorem dL_settles_181 : decode cL_settles 181 = .ok (.iload 14, 2) := by decide +kernel
theorem dL_settles_183 : decode cL_settles 183 = .ok (.goto 5, 3) := by decide +kernel
theorem dL_settles_186 : decode cL_settles 186 = .ok (.iload 10, 2) := by decide +kernel
theorem dL_settles_188 : decode cL_settles 188 = .ok (.istore 10, 2) := by decide +kernel
theorem dL_settles_190 : decode cL_settles 190 = .ok (.iinc 12 1, 3) := by decide +kernel
theorem dL_settles_193 : decode cL_settles 193 = .ok (.goto (-142), 3) := by decide +kernel
theorem dL_settles_196 : decode cL_settles 196 = .ok (.iload 9, 2) := by decide +kernel
theorem dL_settles_198 : decode cL_settles 198 = .ok (.bipush 8, 2) := by decide +kernel
theorem dL_settles_200 : decode cL_settles 200 = .ok (.idiv, 1) := by decide +kernel
theorem dL_settles_201 : decode cL_settles 201 = .ok (.iload 9, 2) := by decide +kernel
theorem dL_settles_203 : decode cL_settles 203 = .ok (.bipush 8, 2) := by decide +kernel
theorem dL_settles_205 : decode cL_settles 205 = .ok (.irem, 1) := by decide +kernel
theorem dL_settles_206 : decode cL_settles 206 = .ok (.if_icmp .ne 7, 3) := by decide +kernel
theorem dL_settles_209 : decode cL_settles 209 = .ok (.iconst 0, 1) := by decide +kernel
theorem dL_settles_210 : decode cL_settles 210 = .ok (.goto 14, 3) := by decide +kernel
theorem dL_settles_213 : decode cL_settles 213 = .ok (.iload 11, 2) := by decide +kernel
theorem dL_settles_215 : decode cL_settles 215 = .ok (.ifCond .ge 7, 3) := by decide +kernel
theorem dL_settles_218 : decode cL_settles 218 = .ok (.iconst (-1), 1) := by decide +kernel
theorem dL_settles_219 : decode cL_settles 219 = .ok (.goto 5, 3) := by decide +kernel
theorem dL_settles_222 : decode cL_settles 222 = .ok (.iload 10, 2) := by decide +kernel
theorem dL_settles_224 : decode cL_settles 224 = .ok (.istore 12, 2) := by decide +kernel
theorem dL_settles_226 : decode cL_settles 226 = .ok (.iload 6, 2) := by decide +kernel
theorem dL_settles_228 : decode cL_settles 228 = .ok (.iload 12, 2) := by decide +kernel
theorem dL_settles_230 : decode cL_settles 230 = .ok (.aload_n 3, 1) := by decide +kernel
theorem dL_settles_231 : decode cL_settles 231 = .ok (.iload 9, 2) := by decide +kernel
theorem dL_settles_233 : decode cL_settles 233 = .ok (.iaload, 1) := by decide +kernel
theorem dL_settles_234 : decode cL_settles 234 = .ok (.if_icmp .ne 13, 3) := by decide +kernel
theorem dL_settles_237 : decode cL_settles 237 = .ok (.iload 11, 2) := by decide +kernel
theorem dL_settles_239 : decode cL_settles 239 = .ok (.aload 4, 2) := by decide +kernel
theorem dL_settles_241 : decode cL_settles 241 = .ok (.iload 9, 2) := by decide +kernel
theorem dL_settles_243 : decode cL_settles 243 = .ok (.iaload, 1) := by decide +kernel
theorem dL_settles_244 : decode cL_settles 244 = .ok (.if_icmp .eq 7, 3) := by decide +kernel
theorem dL_settles_247 : decode cL_settles 247 = .ok (.iconst 1, 1) := by decide +kernel
theorem dL_settles_248 : decode cL_settles 248 = .ok (.goto 4, 3) := by decide +kernel
theorem dL_settles_251 : decode cL_settles 251 = .ok (.iconst 0, 1) := by decide +kernel
theorem dL_settles_252 : decode cL_settles 252 = .ok (.iadd, 1) := by decide +kernel
theorem dL_settles_253 : decode cL_settles 253 = .ok (.istore 6, 2) := by decide +kernel
theorem dL_settles_255 : decode cL_settles 255 = .ok (.aload_n 0, 1) := by decide +kernel
theorem dL_settles_256 : decode cL_settles 256 = .ok (.iload 9, 2) := by decide +kernel
theorem dL_settles_258 : decode cL_settles 258 = .ok (.bipush 8, 2) := by decide +kernel
theorem dL_settles_260 : decode cL_settles 260 = .ok (.idiv, 1) := by decide +kernel
theorem dL_settles_261 : decode cL_settles 261 = .ok (.iload 9, 2) := by decide +kernel
theorem dL_settles_263 : decode cL_settles 263 = .ok (.bipush 8, 2) := by decide +kernel
theorem dL_settles_265 : decode cL_settles 265 = .ok (.irem, 1) := by decide +kernel
theorem dL_settles_266 : decode cL_settles 266 = .ok (.invokevirtual 57, 3) := by decide +kernel
theorem dL_settles_269 : decode cL_settles 269 = .ok (.iload 12, 2) := by decide +kernel
theorem dL_settles_271 : decode cL_settles 271 = .ok (.if_icmp .ne 26, 3) := by decide +kernel
theorem dL_settles_274 : decode cL_settles 274 = .ok (.aload_n 0, 1) := by decide +kernel
theorem dL_settles_275 : decode cL_settles 275 = .ok (.iload 9, 2) := by decide +kernel
theorem dL_settles_277 : decode cL_settles 277 = .ok (.bipush 8, 2) := by decide +kernel
theorem dL_settles_279 : decode cL_settles 279 = .ok (.idiv, 1) := by decide +kernel
theorem dL_settles_280 : decode cL_settles 280 = .ok (.iload 9, 2) := by decide +kernel
theorem dL_settles_282 : decode cL_settles 282 = .ok (.bipush 8, 2) := by decide +kernel
theorem dL_settles_284 : decode cL_settles 284 = .ok (.irem, 1) := by decide +kernel
theorem dL_settles_285 : decode cL_settles 285 = .ok (.invokevirtual 61, 3) := by decide +kernel
theorem dL_settles_288 : decode cL_settles 288 = .ok (.iload 11, 2) := by decide +kernel
theorem dL_settles_290 : decode cL_settles 290 = .ok (.if_icmp .ne 7, 3) := by decide +kernel
theorem dL_settles_293 : decode cL_settles 293 = .ok (.iconst 1, 1) := by decide +kernel
theorem dL_settles_294 : decode cL_settles 294 = .ok (.goto 4, 3) := by decide +kernel
theorem dL_settles_297 : decode cL_settles 297 = .ok (.iconst 0, 1) := by decide +kernel
theorem dL_settles_298 : decode cL_settles 298 = .ok (.istore 7, 2) := by decide +kernel
theorem dL_settles_300 : decode cL_settles 300 = .ok (.iinc 9 1, 3) := by decide +kernel
theorem dL_settles_303 : decode cL_settles 303 = .ok (.goto (-274), 3) := by decide +kernel
theorem dL_settles_306 : decode cL_settles 306 = .ok (.iload 7, 2) := by decide +kernel
theorem dL_settles_308 : decode cL_settles 308 = .ok (.ifCond .eq 29, 3) := by decide +kernel
theorem dL_settles_311 : decode cL_settles 311 = .ok (.iload 8, 2) := by decide +kernel
theorem dL_settles_313 : decode cL_settles 313 = .ok (.iload 6, 2) := by decide +kernel
theorem dL_settles_315 : decode cL_settles 315 = .ok (.if_icmp .ne 22, 3) := by decide +kernel
theorem dL_settles_318 : decode cL_settles 318 = .ok (.iload 5, 2) := by decide +kernel
theorem dL_settles_320 : decode cL_settles 320 = .ok (.iload 6, 2) := by decide +kernel
theorem dL_settles_322 : decode cL_settles 322 = .ok (.ifCond .ne 7, 3) := by decide +kernel
theorem dL_settles_325 : decode cL_settles 325 = .ok (.iconst 1, 1) := by decide +kernel
theorem dL_settles_326 : decode cL_settles 326 = .ok (.goto 4, 3) := by decide +kernel
theorem dL_settles_329 : decode cL_settles 329 = .ok (.iconst 0, 1) := by decide +kernel
theorem dL_settles_330 : decode cL_settles 330 = .ok (.if_icmp .ne 7, 3) := by decide +kernel
theorem dL_settles_333 : decode cL_settles 333 = .ok (.iconst 1, 1) := by decide +kernel
theorem dL_settles_334 : decode cL_settles 334 = .ok (.goto 4, 3) := by decide +kernel
theorem dL_settles_337 : decode cL_settles 337 = .ok (.iconst 0, 1) := by decide +kernel
theorem dL_settles_338 : decode cL_settles 338 = .ok (.ireturn, 1) := by decide +kernel
set_option maxRecDepth 20000 in
theorem ggL_areWays_X4_areStill : GoodIn wsL_areWays wsX4_areStill := goodIn_r _ [5, 6, 7, 8, 4, 9, 10, 11, 12, 13, 14, 15, 16, 17, 18, 19, 20, 21, 22, 23, 24, 25, 26, 27, 28, 29, 30, 31, 32, 33, 34, 35, 36, 37, 38, 39, 40, 41, 42, 43, 44, 45, 46, 47, 48, 49, 50, 51, 52, 53, 54, 55, 56, 57, 58, 59, 60, 61, 62, 63, 64, 65, 66, 67, 68, 69, 70, 71, 72, 73, 74, 75, 76, 77, 78, 79, 80, 81, 143, 144, 145, 146, 147, 148, 149, 150, 151, 152, 153, 154, 155, 156, 157, 158, 159, 160, 161, 162, 163, 164, 165] (by decide +kernel) (by decide +kernel)
set_option maxRecDepth 20000 in
theorem gL_areWays_X4_areStill : GoodIn wsL_areWays (wsV RL 64 RX4 yX4_areStill wsX4_areStill) := goodIn_app (goodIn_of _ (by decide +kernel)) ggL_areWays_X4_areStill
set_option maxRecDepth 20000 in
theorem ggL_areWays_L_notes : GoodIn wsL_areWays wsL_notes := goodIn_ca (goodIn_r _ [85, 86, 87, 88, 4, 89, 77, 90, 91, 92, 93, 94, 95, 96, 97, 10, 98, 99, 100, 101, 102, 103, 104, 105, 50, 106, 52, 107, 54, 149, 150, 151, 152, 153, 154, 161, 162, 143, 144, 145, 146, 147, 148, 155, 156, 157, 158, 159, 160] (by decide +kernel) (by decide +kernel)) (goodIn_sub (fun _ h => List.mem_cons_of_mem _ (List.mem_append_right _ h)) (by decide +kernel))
set_option maxRecDepth 20000 in
theorem gL_areWays_L_notes : GoodIn wsL_areWays (va_wsS RL 68 yL_notes wsL_notes) := goodIn_app (goodIn_of _ (by decide +kernel)) ggL_areWays_L_notes
set_option maxRecDepth 20000 in
theorem ggL_areWays_L_beyond : GoodIn wsL_areWays wsL_beyond := goodIn_r _ [110, 111, 112, 84, 113] (by decide +kernel) (by decide +kernel)
set_option maxRecDepth 20000 in
theorem gL_areWays_L_beyond : GoodIn wsL_areWays (va_wsS RL 79 yL_beyond wsL_beyond) := goodIn_app (goodIn_of _ (by decide +kernel)) ggL_areWays_L_beyond
set_option maxRecDepth 20000 in
theorem ggL_areWays_X4_cheapest : GoodIn wsL_areWays wsX4_cheapest := goodIn_ca (goodIn_r _ [117, 118, 91, 92, 93, 94, 4, 95, 96, 97, 10, 119, 120, 121, 122, 12, 13, 14, 15, 16, 24, 25, 26, 27, 28, 29, 30, 31, 32, 33, 34, 35, 36, 37, 38, 39, 40, 41, 42, 43, 44, 45, 46, 123, 57, 58, 59, 60, 61, 62, 63, 64, 65, 66, 50, 67, 68, 124, 125, 126, 127, 143, 144, 145, 146, 147, 148, 149, 150, 151, 152, 153, 154, 155, 156, 157, 158, 159, 160, 163, 164, 165] (by decide +kernel) (by decide +kernel)) (goodIn_sub (fun _ h => List.mem_cons_of_mem _ (List.mem_append_right _ h)) (by decide +kernel))
set_option maxRecDepth 20000 in
theorem gL_areWays_X4_cheapest : GoodIn wsL_areWays (wsV RL 82 RX4 yX4_cheapest wsX4_cheapest) := goodIn_app (goodIn_of _ (by decide +kernel)) ggL_areWays_X4_cheapest
set_option maxRecDepth 20000 in
theorem ggL_areWays_X4_isLoop : GoodIn wsL_areWays wsX4_isLoop := goodIn_ca (goodIn_r _ [131, 92, 93, 94, 4, 95, 96, 97, 10, 132, 133, 134, 103, 104, 105, 50, 106, 52, 107, 54, 135, 136, 137, 59, 138, 62, 63, 143, 144, 145, 146, 147, 148, 149, 150, 151, 152, 153, 154, 161, 162, 155, 156, 157, 158, 159, 160] (by decide +kernel) (by decide +kernel)) (goodIn_sub (fun _ h => List.mem_cons_of_mem _ (List.mem_append_right _ h)) (by decide +kernel))
set_option maxRecDepth 20000 in
theorem gL_areWays_X4_isLoop : GoodIn wsL_areWays (wsV RL 85 RX4 yX4_isLoop wsX4_isLoop) := goodIn_app (goodIn_of _ (by decide +kernel)) ggL_areWays_X4_isLoop
set_option maxRecDepth 20000 in
theorem ggL_areWays_X4_loops : GoodIn wsL_areWays wsX4_loops := goodIn_r _ [142, 10, 132, 133, 4, 134, 103, 104, 105, 50, 106, 52, 107, 54, 135, 136, 137, 59, 138, 62, 63, 143, 144, 145, 146, 147, 148, 149, 150, 151, 152, 153, 154, 161, 162, 155, 156, 157, 158, 159, 160] (by decide +kernel) (by decide +kernel)
set_option maxRecDepth 20000 in
theorem gL_areWays_X4_loops : GoodIn wsL_areWays (wsV RL 88 RX4 yX4_loops wsX4_loops) := goodIn_app (goodIn_of _ (by decide +kernel)) ggL_areWays_X4_loops
theorem dL_areWays_0 : decode cL_areWays 0 = .ok (.aload_n 0, 1) := by decide +kernel
theorem dL_areWays_1 : decode cL_areWays 1 = .ok (.invokevirtual 64, 3) := by decide +kernel
theorem dL_areWays_4 : decode cL_areWays 4 = .ok (.istore 4, 2) := by decide +kernel
theorem dL_areWays_6 : decode cL_areWays 6 = .ok (.iconst 0, 1) := by decide +kernel
theorem dL_areWays_7 : decode cL_areWays 7 = .ok (.istore 5, 2) := by decide +kernel
theorem dL_areWays_9 : decode cL_areWays 9 = .ok (.iconst 1, 1) := by decide +kernel
theorem dL_areWays_10 : decode cL_areWays 10 = .ok (.istore 6, 2) := by decide +kernel
theorem dL_areWays_12 : decode cL_areWays 12 = .ok (.aload_n 0, 1) := by decide +kernel
theorem dL_areWays_13 : decode cL_areWays 13 = .ok (.aload_n 2, 1) := by decide +kernel
theorem dL_areWays_14 : decode cL_areWays 14 = .ok (.aload_n 3, 1) := by decide +kernel
theorem dL_areWays_15 : decode cL_areWays 15 = .ok (.invokestatic 68, 3) := by decide +kernel
theorem dL_areWays_18 : decode cL_areWays 18 = .ok (.iconst 0, 1) := by decide +kernel
theorem dL_areWays_19 : decode cL_areWays 19 = .ok (.istore 7, 2) := by decide +kernel
theorem dL_areWays_21 : decode cL_areWays 21 = .ok (.iload 7, 2) := by decide +kernel
theorem dL_areWays_23 : decode cL_areWays 23 = .ok (.bipush 64, 2) := by decide +kernel
theorem dL_areWays_25 : decode cL_areWays 25 = .ok (.if_icmp .ge 279, 3) := by decide +kernel
theorem dL_areWays_28 : decode cL_areWays 28 = .ok (.iload 6, 2) := by decide +kernel
theorem dL_areWays_30 : decode cL_areWays 30 = .ok (.ifCond .eq 274, 3) := by decide +kernel
theorem dL_areWays_33 : decode cL_areWays 33 = .ok (.iload 7, 2) := by decide +kernel
theorem dL_areWays_35 : decode cL_areWays 35 = .ok (.bipush 8, 2) := by decide +kernel
theorem dL_areWays_37 : decode cL_areWays 37 = .ok (.idiv, 1) := by decide +kernel
theorem dL_areWays_38 : decode cL_areWays 38 = .ok (.istore 8, 2) := by decide +kernel
theorem dL_areWays_40 : decode cL_areWays 40 = .ok (.iconst 0, 1) := by decide +kernel
theorem dL_areWays_41 : decode cL_areWays 41 = .ok (.istore 9, 2) := by decide +kernel
theorem dL_areWays_43 : decode cL_areWays 43 = .ok (.iload 8, 2) := by decide +kernel
theorem dL_areWays_45 : decode cL_areWays 45 = .ok (.ifCond .lt 61, 3) := by decide +kernel
theorem dL_areWays_48 : decode cL_areWays 48 = .ok (.iload 8, 2) := by decide +kernel
theorem dL_areWays_50 : decode cL_areWays 50 = .ok (.iload 7, 2) := by decide +kernel
theorem dL_areWays_52 : decode cL_areWays 52 = .ok (.bipush 8, 2) := by decide +kernel
theorem dL_areWays_54 : decode cL_areWays 54 = .ok (.irem, 1) := by decide +kernel
theorem dL_areWays_55 : decode cL_areWays 55 = .ok (.if_icmp .eq 51, 3) := by decide +kernel
theorem dL_areWays_58 : decode cL_areWays 58 = .ok (.iload 9, 2) := by decide +kernel
theorem dL_areWays_60 : decode cL_areWays 60 = .ok (.bipush 9, 2) := by decide +kernel
theorem dL_areWays_62 : decode cL_areWays 62 = .ok (.if_icmp .ge 44, 3) := by decide +kernel
theorem dL_areWays_65 : decode cL_areWays 65 = .ok (.aload_n 3, 1) := by decide +kernel
theorem dL_areWays_66 : decode cL_areWays 66 = .ok (.bipush 8, 2) := by decide +kernel
theorem dL_areWays_68 : decode cL_areWays 68 = .ok (.iload 8, 2) := by decide +kernel
theorem dL_areWays_70 : decode cL_areWays 70 = .ok (.imul, 1) := by decide +kernel
theorem dL_areWays_71 : decode cL_areWays 71 = .ok (.iload 7, 2) := by decide +kernel
theorem dL_areWays_73 : decode cL_areWays 73 = .ok (.bipush 8, 2) := by decide +kernel
theorem dL_areWays_75 : decode cL_areWays 75 = .ok (.irem, 1) := by decide +kernel
theorem dL_areWays_76 : decode cL_areWays 76 = .ok (.iadd, 1) := by decide +kernel
theorem dL_areWays_77 : decode cL_areWays 77 = .ok (.iaload, 1) := by decide +kernel
theorem dL_areWays_78 : decode cL_areWays 78 = .ok (.istore 10, 2) := by decide +kernel
theorem dL_areWays_80 : decode cL_areWays 80 = .ok (.iload 10, 2) := by decide +kernel
theorem dL_areWays_82 : decode cL_areWays 82 = .ok (.ifCond .ge 7, 3) := by decide +kernel
theorem dL_areWays_85 : decode cL_areWays 85 = .ok (.iconst (-1), 1) := by decide +kernel
theorem dL_areWays_86 : decode cL_areWays 86 = .ok (.goto 12, 3) := by decide +kernel
theorem dL_areWays_89 : decode cL_areWays 89 = .ok (.aload_n 1, 1) := by decide +kernel
theorem dL_areWays_90 : decode cL_areWays 90 = .ok (.iload 10, 2) := by decide +kernel
theorem dL_areWays_92 : decode cL_areWays 92 = .ok (.iaload, 1) := by decide +kernel
theorem dL_areWays_93 : decode cL_areWays 93 = .ok (.iload 8, 2) := by decide +kernel
theorem dL_areWays_95 : decode cL_areWays 95 = .ok (.invokestatic 79, 3) := by decide +kernel
theorem dL_areWays_98 : decode cL_areWays 98 = .ok (.istore 8, 2) := by decide +kernel
theorem dL_areWays_100 : decode cL_areWays 100 = .ok (.iinc 9 1, 3) := by decide +kernel
theorem dL_areWays_103 : decode cL_areWays 103 = .ok (.goto (-60), 3) := by decide +kernel
theorem dL_areWays_106 : decode cL_areWays 106 = .ok (.iload 9, 2) := by decide +kernel
theorem dL_areWays_108 : decode cL_areWays 108 = .ok (.bipush 9, 2) := by decide +kernel
theorem dL_areWays_110 : decode cL_areWays 110 = .ok (.if_icmp .ne 7, 3) := by decide +kernel
theorem dL_areWays_113 : decode cL_areWays 113 = .ok (.iconst 1, 1) := by decide +kernel
theorem dL_areWays_114 : decode cL_areWays 114 = .ok (.goto 4, 3) := by decide +kernel
theorem dL_areWays_117 : decode cL_areWays 117 = .ok (.iconst 0, 1) := by decide +kernel
theorem dL_areWays_118 : decode cL_areWays 118 = .ok (.istore 10, 2) := by decide +kernel
theorem dL_areWays_120 : decode cL_areWays 120 = .ok (.aload_n 0, 1) := by decide +kernel
theorem dL_areWays_121 : decode cL_areWays 121 = .ok (.iload 7, 2) := by decide +kernel
theorem dL_areWays_123 : decode cL_areWays 123 = .ok (.bipush 8, 2) := by decide +kernel
theorem dL_areWays_125 : decode cL_areWays 125 = .ok (.idiv, 1) := by decide +kernel
theorem dL_areWays_126 : decode cL_areWays 126 = .ok (.iload 7, 2) := by decide +kernel
theorem dL_areWays_128 : decode cL_areWays 128 = .ok (.bipush 8, 2) := by decide +kernel
theorem dL_areWays_130 : decode cL_areWays 130 = .ok (.irem, 1) := by decide +kernel
theorem dL_areWays_131 : decode cL_areWays 131 = .ok (.invokevirtual 82, 3) := by decide +kernel
theorem dL_areWays_134 : decode cL_areWays 134 = .ok (.istore 11, 2) := by decide +kernel
theorem dL_areWays_136 : decode cL_areWays 136 = .ok (.iload 5, 2) := by decide +kernel
theorem dL_areWays_138 : decode cL_areWays 138 = .ok (.iload 10, 2) := by decide +kernel
theorem dL_areWays_140 : decode cL_areWays 140 = .ok (.ifCond .eq 7, 3) := by decide +kernel
theorem dL_areWays_143 : decode cL_areWays 143 = .ok (.iconst 1, 1) := by decide +kernel
theorem dL_areWays_144 : decode cL_areWays 144 = .ok (.goto 4, 3) := by decide +kernel
theorem dL_areWays_147 : decode cL_areWays 147 = .ok (.iconst 0, 1) := by decide +kernel
theorem dL_areWays_148 : decode cL_areWays 148 = .ok (.iadd, 1) := by decide +kernel
theorem dL_areWays_149 : decode cL_areWays 149 = .ok (.istore 5, 2) := by decide +kernel
theorem dL_areWays_151 : decode cL_areWays 151 = .ok (.aload_n 0, 1) := by decide +kernel
theorem dL_areWays_152 : decode cL_areWays 152 = .ok (.iload 7, 2) := by decide +kernel
theorem dL_areWays_154 : decode cL_areWays 154 = .ok (.bipush 8, 2) := by decide +kernel
theorem dL_areWays_156 : decode cL_areWays 156 = .ok (.idiv, 1) := by decide +kernel
theorem dL_areWays_157 : decode cL_areWays 157 = .ok (.iload 7, 2) := by decide +kernel
theorem dL_areWays_159 : decode cL_areWays 159 = .ok (.bipush 8, 2) := by decide +kernel
theorem dL_areWays_161 : decode cL_areWays 161 = .ok (.irem, 1) := by decide +kernel
theorem dL_areWays_162 : decode cL_areWays 162 = .ok (.invokevirtual 85, 3) := by decide +kernel
theorem dL_areWays_165 : decode cL_areWays 165 = .ok (.iload 10, 2) := by decide +kernel
theorem dL_areWays_167 : decode cL_areWays 167 = .ok (.if_icmp .ne 128, 3) := by decide +kernel
theorem dL_areWays_170 : decode cL_areWays 170 = .ok (.iload 11, 2) := by decide +kernel
theorem dL_areWays_172 : decode cL_areWays 172 = .ok (.iconst (-1), 1) := by decide +kernel
theorem dL_areWays_173 : decode cL_areWays 173 = .ok (.if_icmp .lt 122, 3) := by decide +kernel
theorem dL_areWays_176 : decode cL_areWays 176 = .ok (.iload 11, 2) := by decide +kernel
theorem dL_areWays_178 : decode cL_areWays 178 = .ok (.bipush 40, 2) := by decide +kernel
theorem dL_areWays_180 : decode cL_areWays 180 = .ok (.if_icmp .gt 115, 3) := by decide +kernel
theorem dL_areWays_183 : decode cL_areWays 183 = .ok (.iload 11, 2) := by decide +kernel
theorem dL_areWays_185 : decode cL_areWays 185 = .ok (.ifCond .ne 7, 3) := by decide +kernel
theorem dL_areWays_188 : decode cL_areWays 188 = .ok (.iconst 1, 1) := by decide +kernel
theorem dL_areWays_189 : decode cL_areWays 189 = .ok (.goto 4, 3) := by decide +kernel
theorem dL_areWays_192 : decode cL_areWays 192 = .ok (.iconst 0, 1) := by decide +kernel
theorem dL_areWays_193 : decode cL_areWays 193 = .ok (.iload 7, 2) := by decide +kernel
theorem dL_areWays_195 : decode cL_areWays 195 = .ok (.bipush 8, 2) := by decide +kernel
theorem dL_areWays_197 : decode cL_areWays 197 = .ok (.idiv, 1) := by decide +kernel
theorem dL_areWays_198 : decode cL_areWays 198 = .ok (.iload 7, 2) := by decide +kernel
theorem dL_areWays_200 : decode cL_areWays 200 = .ok (.bipush 8, 2) := by decide +kernel
theorem dL_areWays_202 : decode cL_areWays 202 = .ok (.irem, 1) := by decide +kernel
theorem dL_areWays_203 : decode cL_areWays 203 = .ok (.if_icmp .ne 7, 3) := by decide +kernel
theorem dL_areWays_206 : decode cL_areWays 206 = .ok (.iconst 1, 1) := by decide +kernel
theorem dL_areWays_207 : decode cL_areWays 207 = .ok (.goto 4, 3) := by decide +kernel
theorem dL_areWays_210 : decode cL_areWays 210 = .ok (.iconst 0, 1) := by decide +kernel
theorem dL_areWays_211 : decode cL_areWays 211 = .ok (.if_icmp .ne 84, 3) := by decide +kernel
theorem dL_areWays_214 : decode cL_areWays 214 = .ok (.iload 4, 2) := by decide +kernel
theorem dL_areWays_216 : decode cL_areWays 216 = .ok (.ifCond .eq 17, 3) := by decide +kernel
theorem dL_areWays_219 : decode cL_areWays 219 = .ok (.iload 11, 2) := by decide +kernel
theorem dL_areWays_221 : decode cL_areWays 221 = .ok (.aload_n 2, 1) := by decide +kernel
theorem dL_areWays_222 : decode cL_areWays 222 = .ok (.iload 7, 2) := by decide +kernel
theorem dL_areWays_224 : decode cL_areWays 224 = .ok (.iaload, 1) := by decide +kernel
theorem dL_areWays_225 : decode cL_areWays 225 = .ok (.if_icmp .ne 70, 3) := by decide +kernel
theorem dL_areWays_228 : decode cL_areWays 228 = .ok (.iload 10, 2) := by decide +kernel
theorem dL_areWays_230 : decode cL_areWays 230 = .ok (.ifCond .ne 65, 3) := by decide +kernel
theorem dL_areWays_233 : decode cL_areWays 233 = .ok (.iload 7, 2) := by decide +kernel
theorem dL_areWays_235 : decode cL_areWays 235 = .ok (.bipush 9, 2) := by decide +kernel
theorem dL_areWays_237 : decode cL_areWays 237 = .ok (.irem, 1) := by decide +kernel
theorem dL_areWays_238 : decode cL_areWays 238 = .ok (.ifCond .gt 18, 3) := by decide +kernel
theorem dL_areWays_241 : decode cL_areWays 241 = .ok (.aload_n 2, 1) := by decide +kernel
theorem dL_areWays_242 : decode cL_areWays 242 = .ok (.iload 7, 2) := by decide +kernel
theorem dL_areWays_244 : decode cL_areWays 244 = .ok (.iaload, 1) := by decide +kernel
theorem dL_areWays_245 : decode cL_areWays 245 = .ok (.ifCond .ne 50, 3) := by decide +kernel
theorem dL_areWays_248 : decode cL_areWays 248 = .ok (.aload_n 3, 1) := by decide +kernel
theorem dL_areWays_249 : decode cL_areWays 249 = .ok (.iload 7, 2) := by decide +kernel
theorem dL_areWays_251 : decode cL_areWays 251 = .ok (.iaload, 1) := by decide +kernel
theorem dL_areWays_252 : decode cL_areWays 252 = .ok (.iconst (-1), 1) := by decide +kernel
theorem dL_areWays_253 : decode cL_areWays 253 = .ok (.if_icmp .ne 42, 3) := by decide +kernel
theorem dL_areWays_256 : decode cL_areWays 256 = .ok (.aload_n 2, 1) := by decide +kernel
theorem dL_areWays_257 : decode cL_areWays 257 = .ok (.iload 7, 2) := by decide +kernel
theorem dL_areWays_259 : decode cL_areWays 259 = .ok (.iaload, 1) := by decide +kernel
theorem dL_areWays_260 : decode cL_areWays 260 = .ok (.ifCond .lt 7, 3) := by decide +kernel
theorem dL_areWays_263 : decode cL_areWays 263 = .ok (.iconst 1, 1) := by decide +kernel
theorem dL_areWays_264 : decode cL_areWays 264 = .ok (.goto 4, 3) := by decide +kernel
theorem dL_areWays_267 : decode cL_areWays 267 = .ok (.iconst 0, 1) := by decide +kernel
theorem dL_areWays_268 : decode cL_areWays 268 = .ok (.aload_n 3, 1) := by decide +kernel
theorem dL_areWays_269 : decode cL_areWays 269 = .ok (.iload 7, 2) := by decide +kernel
theorem dL_areWays_271 : decode cL_areWays 271 = .ok (.iaload, 1) := by decide +kernel
theorem dL_areWays_272 : decode cL_areWays 272 = .ok (.ifCond .ge 11, 3) := by decide +kernel
theorem dL_areWays_275 : decode cL_areWays 275 = .ok (.iload 7, 2) := by decide +kernel
theorem dL_areWays_277 : decode cL_areWays 277 = .ok (.bipush 9, 2) := by decide +kernel
theorem dL_areWays_279 : decode cL_areWays 279 = .ok (.irem, 1) := by decide +kernel
theorem dL_areWays_280 : decode cL_areWays 280 = .ok (.ifCond .ne 7, 3) := by decide +kernel
theorem dL_areWays_283 : decode cL_areWays 283 = .ok (.iconst 1, 1) := by decide +kernel
theorem dL_areWays_284 : decode cL_areWays 284 = .ok (.goto 4, 3) := by decide +kernel
theorem dL_areWays_287 : decode cL_areWays 287 = .ok (.iconst 0, 1) := by decide +kernel
theorem dL_areWays_288 : decode cL_areWays 288 = .ok (.if_icmp .ne 7, 3) := by decide +kernel
theorem dL_areWays_291 : decode cL_areWays 291 = .ok (.iconst 1, 1) := by decide +kernel
theorem dL_areWays_292 : decode cL_areWays 292 = .ok (.goto 4, 3) := by decide +kernel
theorem dL_areWays_295 : decode cL_areWays 295 = .ok (.iconst 0, 1) := by decide +kernel
theorem dL_areWays_296 : decode cL_areWays 296 = .ok (.istore 6, 2) := by decide +kernel
theorem dL_areWays_298 : decode cL_areWays 298 = .ok (.iinc 7 1, 3) := by decide +kernel
theorem dL_areWays_301 : decode cL_areWays 301 = .ok (.goto (-280), 3) := by decide +kernel
theorem dL_areWays_304 : decode cL_areWays 304 = .ok (.iload 6, 2) := by decide +kernel
theorem dL_areWays_306 : decode cL_areWays 306 = .ok (.ifCond .eq 16, 3) := by decide +kernel
theorem dL_areWays_309 : decode cL_areWays 309 = .ok (.aload_n 0, 1) := by decide +kernel
theorem dL_areWays_310 : decode cL_areWays 310 = .ok (.invokevirtual 88, 3) := by decide +kernel
theorem dL_areWays_313 : decode cL_areWays 313 = .ok (.iload 5, 2) := by decide +kernel
theorem dL_areWays_315 : decode cL_areWays 315 = .ok (.if_icmp .ne 7, 3) := by decide +kernel
theorem dL_areWays_318 : decode cL_areWays 318 = .ok (.iconst 1, 1) := by decide +kernel
theorem dL_areWays_319 : decode cL_areWays 319 = .ok (.goto 4, 3) := by decide +kernel
theorem dL_areWays_322 : decode cL_areWays 322 = .ok (.iconst 0, 1) := by decide +kernel
theorem dL_areWays_323 : decode cL_areWays 323 = .ok (.ireturn, 1) := by decide +kernel
set_option maxRecDepth 20000 in
theorem ggL_areBarges_X4_barges : GoodIn wsL_areBarges wsX4_barges := goodIn_r _ [6, 7, 8, 9, 10, 11, 12, 13, 90, 91, 92, 93, 94, 95, 96, 97, 98] (by decide +kernel) (by decide +kernel)
set_option maxRecDepth 20000 in
theorem gL_areBarges_X4_barges : GoodIn wsL_areBarges (wsV RL 91 RX4 yX4_barges wsX4_barges) := goodIn_app (goodIn_of _ (by decide +kernel)) ggL_areBarges_X4_barges
set_option maxRecDepth 20000 in
theorem ggL_areBarges_X4_ticks : GoodIn wsL_areBarges wsX4_ticks := goodIn_r _ [17, 18, 90, 91, 92, 93, 94, 95] (by decide +kernel) (by decide +kernel)
set_option maxRecDepth 20000 in
theorem gL_areBarges_X4_ticks : GoodIn wsL_areBarges (wsV RL 94 RX4 yX4_ticks wsX4_ticks) := goodIn_app (goodIn_of _ (by decide +kernel)) ggL_areBarges_X4_ticks
set_option maxRecDepth 20000 in
theorem ggL_areBarges_X4_queue : GoodIn wsL_areBarges wsX4_queue := goodIn_ca (goodIn_r _ [22, 23, 24, 25, 26, 5, 27, 28, 29, 30, 8, 9, 10, 11, 12, 13, 99, 100, 101, 102, 103, 104, 90, 91, 92, 93, 94, 95, 96, 97, 98] (by decide +kernel) (by decide +kernel)) (goodIn_sub (fun _ h => List.mem_cons_of_mem _ (List.mem_append_left _ (List.mem_append_right _ h))) (by decide +kernel))
set_option maxRecDepth 20000 in
theorem gL_areBarges_X4_queue : GoodIn wsL_areBarges (wsV RL 97 RX4 yX4_queue wsX4_queue) := goodIn_app (goodIn_of _ (by decide +kernel)) ggL_areBarges_X4_queue
set_option maxRecDepth 20000 in
theorem ggL_areBarges_X4_queued : GoodIn wsL_areBarges wsX4_queued := goodIn_ca (goodIn_ca (goodIn_r _ [34, 35, 36, 23, 37, 38, 24, 25, 26, 5, 27, 28, 29, 30, 8, 9, 10, 11, 12, 13, 39, 40, 41, 42, 43, 44, 45, 46, 47, 48, 49, 50, 51, 52, 53, 54, 55, 99, 100, 101, 102, 103, 104, 105, 106, 107, 108, 109, 110, 111, 112, 113, 90, 91, 92, 93, 94, 95, 96, 97, 98] (by decide +kernel) (by decide +kernel)) (goodIn_sub (fun _ h => List.mem_cons_of_mem _ (List.mem_append_right _ h)) (by decide +kernel))) (goodIn_sub (fun _ h => List.mem_cons_of_mem _ (List.mem_append_left _ (List.mem_append_right _ h))) (by decide +kernel))
set_option maxRecDepth 20000 in
theorem gL_areBarges_X4_queued : GoodIn wsL_areBarges (wsV RL 100 RX4 yX4_queued wsX4_queued) := goodIn_app (goodIn_of _ (by decide +kernel)) ggL_areBarges_X4_queued
set_option maxRecDepth 20000 in
theorem ggL_areBarges_X4_state : GoodIn wsL_areBarges wsX4_state := goodIn_ca (goodIn_r _ [59, 60, 61, 62, 63, 5, 64, 28, 29, 7, 37, 8, 9, 10, 11, 12, 13, 39, 40, 41, 42, 43, 44, 45, 46, 47, 48, 49, 50, 51, 52, 53, 54, 55, 105, 106, 107, 108, 109, 110, 111, 112, 113, 90, 91, 92, 93, 94, 95, 96, 97, 98] (by decide +kernel) (by decide +kernel)) (goodIn_sub (fun _ h => List.mem_cons_of_mem _ (List.mem_append_left _ (List.mem_append_right _ h))) (by decide +kernel))
set_option maxRecDepth 20000 in
theorem gL_areBarges_X4_state : GoodIn wsL_areBarges (wsV RL 103 RX4 yX4_state wsX4_state) := goodIn_app (goodIn_of _ (by decide +kernel)) ggL_areBarges_X4_state
set_option maxRecDepth 20000 in
theorem ggL_areBarges_X4_basinOf : GoodIn wsL_areBarges wsX4_basinOf := goodIn_ca (goodIn_r _ [68, 69, 70, 61, 62, 63, 5, 64, 28, 29, 7, 37, 8, 9, 10, 11, 12, 13, 39, 40, 41, 42, 43, 44, 45, 46, 47, 48, 49, 50, 51, 52, 53, 54, 55, 105, 106, 107, 108, 109, 110, 111, 112, 113, 99, 100, 101, 102, 103, 104, 90, 91, 92, 93, 94, 95, 96, 97, 98] (by decide +kernel) (by decide +kernel)) (goodIn_sub (fun _ h => List.mem_cons_of_mem _ (List.mem_append_left _ (List.mem_append_right _ h))) (by decide +kernel))
set_option maxRecDepth 20000 in
theorem gL_areBarges_X4_basinOf : GoodIn wsL_areBarges (wsV RL 106 RX4 yX4_basinOf wsX4_basinOf) := goodIn_app (goodIn_of _ (by decide +kernel)) ggL_areBarges_X4_basinOf
set_option maxRecDepth 20000 in
theorem ggL_areBarges_X4_life : GoodIn wsL_areBarges wsX4_life := goodIn_ca (goodIn_r _ [74, 75, 61, 62, 63, 5, 64, 28, 29, 7, 37, 8, 9, 10, 11, 12, 13, 39, 40, 41, 42, 43, 44, 45, 46, 47, 48, 49, 50, 51, 52, 53, 54, 55, 105, 106, 107, 108, 109, 110, 111, 112, 113, 90, 91, 92, 93, 94, 95, 96, 97, 98] (by decide +kernel) (by decide +kernel)) (goodIn_sub (fun _ h => List.mem_cons_of_mem _ (List.mem_append_left _ (List.mem_append_right _ h))) (by decide +kernel))
set_option maxRecDepth 20000 in
theorem gL_areBarges_X4_life : GoodIn wsL_areBarges (wsV RL 109 RX4 yX4_life wsX4_life) := goodIn_app (goodIn_of _ (by decide +kernel)) ggL_areBarges_X4_life
set_option maxRecDepth 20000 in
theorem ggL_areBarges_X4_hops : GoodIn wsL_areBarges wsX4_hops := goodIn_ca (goodIn_r _ [79, 80, 61, 62, 63, 5, 64, 28, 29, 7, 37, 8, 9, 10, 11, 12, 13, 39, 40, 41, 42, 43, 44, 45, 46, 47, 48, 49, 50, 51, 52, 53, 54, 55, 105, 106, 107, 108, 109, 110, 111, 112, 113, 90, 91, 92, 93, 94, 95, 96, 97, 98] (by decide +kernel) (by decide +kernel)) (goodIn_sub (fun _ h => List.mem_cons_of_mem _ (List.mem_append_left _ (List.mem_append_right _ h))) (by decide +kernel))
set_option maxRecDepth 20000 in
theorem gL_areBarges_X4_hops : GoodIn wsL_areBarges (wsV RL 112 RX4 yX4_hops wsX4_hops) := goodIn_app (goodIn_of _ (by decide +kernel)) ggL_areBarges_X4_hops
set_option maxRecDepth 20000 in
theorem ggL_areBarges_X4_repeats : GoodIn wsL_areBarges wsX4_repeats := goodIn_ca (goodIn_r _ [84, 85, 61, 62, 63, 5, 64, 28, 29, 7, 37, 8, 9, 10, 11, 12, 13, 39, 40, 41, 42, 43, 44, 45, 46, 47, 48, 49, 50, 51, 52, 53, 54, 55, 105, 106, 107, 108, 109, 110, 111, 112, 113, 90, 91, 92, 93, 94, 95, 96, 97, 98] (by decide +kernel) (by decide +kernel)) (goodIn_sub (fun _ h => List.mem_cons_of_mem _ (List.mem_append_left _ (List.mem_append_right _ h))) (by decide +kernel))
set_option maxRecDepth 20000 in
theorem gL_areBarges_X4_repeats : GoodIn wsL_areBarges (wsV RL 115 RX4 yX4_repeats wsX4_repeats) := goodIn_app (goodIn_of _ (by decide +kernel)) ggL_areBarges_X4_repeats
set_option maxRecDepth 20000 in
theorem ggL_areBarges_X4_laidBy : GoodIn wsL_areBarges wsX4_laidBy := goodIn_r _ [89, 7, 37, 60, 8, 9, 10, 11, 12, 13, 39, 40, 41, 42, 43, 44, 45, 46, 47, 48, 49, 50, 51, 52, 53, 54, 55, 90, 91, 92, 93, 94, 95, 105, 106, 107, 108, 109, 110, 111, 112, 113, 96, 97, 98] (by decide +kernel) (by decide +kernel)
set_option maxRecDepth 20000 in
theorem gL_areBarges_X4_laidBy : GoodIn wsL_areBarges (wsV RL 118 RX4 yX4_laidBy wsX4_laidBy) := goodIn_app (goodIn_of _ (by decide +kernel)) ggL_areBarges_X4_laidBy
theorem dL_areBarges_0 : decode cL_areBarges 0 = .ok (.lconst 0, 1) := by decide +kernel
theorem dL_areBarges_1 : decode cL_areBarges 1 = .ok (.lstore_n 3, 1) := by decide +kernel
theorem dL_areBarges_2 : decode cL_areBarges 2 = .ok (.iconst 0, 1) := by decide +kernel
theorem dL_areBarges_3 : decode cL_areBarges 3 = .ok (.istore 5, 2) := by decide +kernel
theorem dL_areBarges_5 : decode cL_areBarges 5 = .ok (.iconst 0, 1) := by decide +kernel
theorem dL_areBarges_6 : decode cL_areBarges 6 = .ok (.istore 6, 2) := by decide +kernel
theorem dL_areBarges_8 : decode cL_areBarges 8 = .ok (.aload_n 0, 1) := by decide +kernel
theorem dL_areBarges_9 : decode cL_areBarges 9 = .ok (.invokevirtual 91, 3) := by decide +kernel
theorem dL_areBarges_12 : decode cL_areBarges 12 = .ok (.aload_n 2, 1) := by decide +kernel
theorem dL_areBarges_13 : decode cL_areBarges 13 = .ok (.iconst 1, 1) := by decide +kernel
theorem dL_areBarges_14 : decode cL_areBarges 14 = .ok (.iaload, 1) := by decide +kernel
theorem dL_areBarges_15 : decode cL_areBarges 15 = .ok (.if_icmp .ne 17, 3) := by decide +kernel
theorem dL_areBarges_18 : decode cL_areBarges 18 = .ok (.aload_n 0, 1) := by decide +kernel
theorem dL_areBarges_19 : decode cL_areBarges 19 = .ok (.invokevirtual 94, 3) := by decide +kernel
theorem dL_areBarges_22 : decode cL_areBarges 22 = .ok (.aload_n 2, 1) := by decide +kernel
theorem dL_areBarges_23 : decode cL_areBarges 23 = .ok (.iconst 2, 1) := by decide +kernel
theorem dL_areBarges_24 : decode cL_areBarges 24 = .ok (.iaload, 1) := by decide +kernel
theorem dL_areBarges_25 : decode cL_areBarges 25 = .ok (.if_icmp .ne 7, 3) := by decide +kernel
theorem dL_areBarges_28 : decode cL_areBarges 28 = .ok (.iconst 1, 1) := by decide +kernel
theorem dL_areBarges_29 : decode cL_areBarges 29 = .ok (.goto 4, 3) := by decide +kernel
theorem dL_areBarges_32 : decode cL_areBarges 32 = .ok (.iconst 0, 1) := by decide +kernel
theorem dL_areBarges_33 : decode cL_areBarges 33 = .ok (.istore 7, 2) := by decide +kernel
theorem dL_areBarges_35 : decode cL_areBarges 35 = .ok (.iconst 0, 1) := by decide +kernel
theorem dL_areBarges_36 : decode cL_areBarges 36 = .ok (.istore 8, 2) := by decide +kernel
theorem dL_areBarges_38 : decode cL_areBarges 38 = .ok (.iload 8, 2) := by decide +kernel
theorem dL_areBarges_40 : decode cL_areBarges 40 = .ok (.bipush 8, 2) := by decide +kernel
theorem dL_areBarges_42 : decode cL_areBarges 42 = .ok (.if_icmp .ge 157, 3) := by decide +kernel
theorem dL_areBarges_45 : decode cL_areBarges 45 = .ok (.iload 7, 2) := by decide +kernel
theorem dL_areBarges_47 : decode cL_areBarges 47 = .ok (.ifCond .eq 152, 3) := by decide +kernel
theorem dL_areBarges_50 : decode cL_areBarges 50 = .ok (.aload_n 0, 1) := by decide +kernel
theorem dL_areBarges_51 : decode cL_areBarges 51 = .ok (.iload 8, 2) := by decide +kernel
theorem dL_areBarges_53 : decode cL_areBarges 53 = .ok (.invokevirtual 97, 3) := by decide +kernel
