theorem dX4_findCheapestWays_111 : decode cX4_findCheapestWays 111 = .ok (.iinc 3 1, 3) := by decide +kernel
theorem dX4_findCheapestWays_114 : decode cX4_findCheapestWays 114 = .ok (.goto (-73), 3) := by decide +kernel
theorem dX4_findCheapestWays_117 : decode cX4_findCheapestWays 117 = .ok (.iinc 2 1, 3) := by decide +kernel
theorem dX4_findCheapestWays_120 : decode cX4_findCheapestWays 120 = .ok (.goto (-87), 3) := by decide +kernel
theorem dX4_findCheapestWays_123 : decode cX4_findCheapestWays 123 = .ok (.return_, 1) := by decide +kernel
theorem dX4_extendWay_0 : decode cX4_extendWay 0 = .ok (.aload_n 0, 1) := by decide +kernel
theorem dX4_extendWay_1 : decode cX4_extendWay 1 = .ok (.getfield 25, 3) := by decide +kernel
theorem dX4_extendWay_4 : decode cX4_extendWay 4 = .ok (.aload_n 1, 1) := by decide +kernel
theorem dX4_extendWay_5 : decode cX4_extendWay 5 = .ok (.getfield 142, 3) := by decide +kernel
theorem dX4_extendWay_8 : decode cX4_extendWay 8 = .ok (.iaload, 1) := by decide +kernel
theorem dX4_extendWay_9 : decode cX4_extendWay 9 = .ok (.istore 4, 2) := by decide +kernel
theorem dX4_extendWay_11 : decode cX4_extendWay 11 = .ok (.iload 4, 2) := by decide +kernel
theorem dX4_extendWay_13 : decode cX4_extendWay 13 = .ok (.iconst (-1), 1) := by decide +kernel
theorem dX4_extendWay_14 : decode cX4_extendWay 14 = .ok (.if_icmp .ne 4, 3) := by decide +kernel
theorem dX4_extendWay_17 : decode cX4_extendWay 17 = .ok (.return_, 1) := by decide +kernel
theorem dX4_extendWay_18 : decode cX4_extendWay 18 = .ok (.aload_n 0, 1) := by decide +kernel
theorem dX4_extendWay_19 : decode cX4_extendWay 19 = .ok (.getfield 25, 3) := by decide +kernel
theorem dX4_extendWay_22 : decode cX4_extendWay 22 = .ok (.aload_n 2, 1) := by decide +kernel
theorem dX4_extendWay_23 : decode cX4_extendWay 23 = .ok (.getfield 142, 3) := by decide +kernel
theorem dX4_extendWay_26 : decode cX4_extendWay 26 = .ok (.iaload, 1) := by decide +kernel
theorem dX4_extendWay_27 : decode cX4_extendWay 27 = .ok (.istore 5, 2) := by decide +kernel
theorem dX4_extendWay_29 : decode cX4_extendWay 29 = .ok (.iload 5, 2) := by decide +kernel
theorem dX4_extendWay_31 : decode cX4_extendWay 31 = .ok (.iconst (-1), 1) := by decide +kernel
theorem dX4_extendWay_32 : decode cX4_extendWay 32 = .ok (.if_icmp .eq 12, 3) := by decide +kernel
theorem dX4_extendWay_35 : decode cX4_extendWay 35 = .ok (.iload 4, 2) := by decide +kernel
theorem dX4_extendWay_37 : decode cX4_extendWay 37 = .ok (.iload_n 3, 1) := by decide +kernel
theorem dX4_extendWay_38 : decode cX4_extendWay 38 = .ok (.iadd, 1) := by decide +kernel
theorem dX4_extendWay_39 : decode cX4_extendWay 39 = .ok (.iload 5, 2) := by decide +kernel
theorem dX4_extendWay_41 : decode cX4_extendWay 41 = .ok (.if_icmp .ge 16, 3) := by decide +kernel
theorem dX4_extendWay_44 : decode cX4_extendWay 44 = .ok (.aload_n 0, 1) := by decide +kernel
theorem dX4_extendWay_45 : decode cX4_extendWay 45 = .ok (.getfield 25, 3) := by decide +kernel
theorem dX4_extendWay_48 : decode cX4_extendWay 48 = .ok (.aload_n 2, 1) := by decide +kernel
theorem dX4_extendWay_49 : decode cX4_extendWay 49 = .ok (.getfield 142, 3) := by decide +kernel
theorem dX4_extendWay_52 : decode cX4_extendWay 52 = .ok (.iload 4, 2) := by decide +kernel
theorem dX4_extendWay_54 : decode cX4_extendWay 54 = .ok (.iload_n 3, 1) := by decide +kernel
theorem dX4_extendWay_55 : decode cX4_extendWay 55 = .ok (.iadd, 1) := by decide +kernel
theorem dX4_extendWay_56 : decode cX4_extendWay 56 = .ok (.iastore, 1) := by decide +kernel
theorem dX4_extendWay_57 : decode cX4_extendWay 57 = .ok (.return_, 1) := by decide +kernel
set_option maxRecDepth 20000 in
theorem ggX4_goesRound_X1_canalTowards : GoodIn wsX4_goesRound wsX1_canalTowards := goodIn_r _ [5, 6, 7, 8, 16, 17, 18, 19, 20, 21, 22, 23] (by decide +kernel) (by decide +kernel)
set_option maxRecDepth 20000 in
theorem gX4_goesRound_X1_canalTowards : GoodIn wsX4_goesRound (wsV RX4 145 RX1 yX1_canalTowards wsX1_canalTowards) := goodIn_app (goodIn_of _ (by decide +kernel)) ggX4_goesRound_X1_canalTowards
set_option maxRecDepth 20000 in
theorem ggX4_goesRound_X2_otherEnd : GoodIn wsX4_goesRound wsX2_otherEnd := goodIn_r _ [13, 14, 15, 24, 25, 26, 27, 28, 29] (by decide +kernel) (by decide +kernel)
set_option maxRecDepth 20000 in
theorem gX4_goesRound_X2_otherEnd : GoodIn wsX4_goesRound (wsV RX4 217 RX2 yX2_otherEnd wsX2_otherEnd) := goodIn_app (goodIn_of _ (by decide +kernel)) ggX4_goesRound_X2_otherEnd
theorem dX4_goesRound_0 : decode cX4_goesRound 0 = .ok (.aload_n 0, 1) := by decide +kernel
theorem dX4_goesRound_1 : decode cX4_goesRound 1 = .ok (.astore_n 2, 1) := by decide +kernel
theorem dX4_goesRound_2 : decode cX4_goesRound 2 = .ok (.iconst 0, 1) := by decide +kernel
theorem dX4_goesRound_3 : decode cX4_goesRound 3 = .ok (.istore_n 3, 1) := by decide +kernel
theorem dX4_goesRound_4 : decode cX4_goesRound 4 = .ok (.iload_n 3, 1) := by decide +kernel
theorem dX4_goesRound_5 : decode cX4_goesRound 5 = .ok (.bipush 8, 2) := by decide +kernel
theorem dX4_goesRound_7 : decode cX4_goesRound 7 = .ok (.if_icmp .ge 37, 3) := by decide +kernel
theorem dX4_goesRound_10 : decode cX4_goesRound 10 = .ok (.aload_n 2, 1) := by decide +kernel
theorem dX4_goesRound_11 : decode cX4_goesRound 11 = .ok (.aload_n 1, 1) := by decide +kernel
theorem dX4_goesRound_12 : decode cX4_goesRound 12 = .ok (.if_acmp .ne 5, 3) := by decide +kernel
theorem dX4_goesRound_15 : decode cX4_goesRound 15 = .ok (.iconst 0, 1) := by decide +kernel
theorem dX4_goesRound_16 : decode cX4_goesRound 16 = .ok (.ireturn, 1) := by decide +kernel
theorem dX4_goesRound_17 : decode cX4_goesRound 17 = .ok (.aload_n 2, 1) := by decide +kernel
theorem dX4_goesRound_18 : decode cX4_goesRound 18 = .ok (.aload_n 1, 1) := by decide +kernel
theorem dX4_goesRound_19 : decode cX4_goesRound 19 = .ok (.invokevirtual 145, 3) := by decide +kernel
theorem dX4_goesRound_22 : decode cX4_goesRound 22 = .ok (.astore 4, 2) := by decide +kernel
theorem dX4_goesRound_24 : decode cX4_goesRound 24 = .ok (.aload 4, 2) := by decide +kernel
theorem dX4_goesRound_26 : decode cX4_goesRound 26 = .ok (.ifnonnull 5, 3) := by decide +kernel
theorem dX4_goesRound_29 : decode cX4_goesRound 29 = .ok (.iconst 0, 1) := by decide +kernel
theorem dX4_goesRound_30 : decode cX4_goesRound 30 = .ok (.ireturn, 1) := by decide +kernel
theorem dX4_goesRound_31 : decode cX4_goesRound 31 = .ok (.aload 4, 2) := by decide +kernel
theorem dX4_goesRound_33 : decode cX4_goesRound 33 = .ok (.aload_n 2, 1) := by decide +kernel
theorem dX4_goesRound_34 : decode cX4_goesRound 34 = .ok (.invokevirtual 217, 3) := by decide +kernel
theorem dX4_goesRound_37 : decode cX4_goesRound 37 = .ok (.astore_n 2, 1) := by decide +kernel
theorem dX4_goesRound_38 : decode cX4_goesRound 38 = .ok (.iinc 3 1, 3) := by decide +kernel
theorem dX4_goesRound_41 : decode cX4_goesRound 41 = .ok (.goto (-37), 3) := by decide +kernel
theorem dX4_goesRound_44 : decode cX4_goesRound 44 = .ok (.iconst 1, 1) := by decide +kernel
theorem dX4_goesRound_45 : decode cX4_goesRound 45 = .ok (.ireturn, 1) := by decide +kernel
set_option maxRecDepth 20000 in
theorem ggX4_tickBarges_X4_sendFirst : GoodIn wsX4_tickBarges wsX4_sendFirst := goodIn_r _ [7, 8, 9, 10, 1, 11, 12, 13, 14, 15, 16, 17, 18, 19, 20, 21, 22, 23, 24, 25, 26, 27, 28, 29, 30, 31, 32, 33, 34, 35, 36, 37, 38, 39, 40, 41, 42, 43, 44, 45, 46, 47, 48, 49, 50, 51, 52, 53, 54, 55, 56, 57, 58, 59, 60, 61, 6, 62, 63, 64, 65, 66, 67, 68, 69, 70, 71, 72, 73, 74, 75, 76, 77, 78, 79, 80, 81, 82, 83, 84, 85, 86, 87, 88, 89, 90, 91, 92, 93, 94, 95, 96, 97, 98, 99, 100, 101, 102, 103, 104, 105, 106, 107, 108, 109, 110, 111, 112, 113, 114, 115, 116, 117, 118, 119, 120, 121, 122, 123, 124, 125, 126, 127, 128, 129, 130, 131, 132, 133, 134, 135, 136, 137, 138, 139, 140, 141, 142, 143, 144, 145, 146, 147, 148, 149, 150, 151, 152, 153, 154, 155, 156, 157, 158, 159, 166, 167, 168, 169, 170, 171, 172, 173, 174, 175, 176, 177, 178, 179, 180, 160, 161, 162, 163, 164, 165, 181, 182, 183, 184, 185, 186, 187, 188, 189, 190, 191] (by decide +kernel) (by decide +kernel)
set_option maxRecDepth 20000 in
theorem gX4_tickBarges_X4_sendFirst : GoodIn wsX4_tickBarges (wsV RX4 221 RX4 yX4_sendFirst wsX4_sendFirst) := goodIn_app (goodIn_of _ (by decide +kernel)) ggX4_tickBarges_X4_sendFirst
theorem dX4_tickBarges_0 : decode cX4_tickBarges 0 = .ok (.aload_n 0, 1) := by decide +kernel
theorem dX4_tickBarges_1 : decode cX4_tickBarges 1 = .ok (.dup, 1) := by decide +kernel
theorem dX4_tickBarges_2 : decode cX4_tickBarges 2 = .ok (.getfield 119, 3) := by decide +kernel
theorem dX4_tickBarges_5 : decode cX4_tickBarges 5 = .ok (.iconst 1, 1) := by decide +kernel
theorem dX4_tickBarges_6 : decode cX4_tickBarges 6 = .ok (.iadd, 1) := by decide +kernel
theorem dX4_tickBarges_7 : decode cX4_tickBarges 7 = .ok (.putfield 119, 3) := by decide +kernel
theorem dX4_tickBarges_10 : decode cX4_tickBarges 10 = .ok (.iconst 0, 1) := by decide +kernel
theorem dX4_tickBarges_11 : decode cX4_tickBarges 11 = .ok (.istore_n 1, 1) := by decide +kernel
theorem dX4_tickBarges_12 : decode cX4_tickBarges 12 = .ok (.iconst 0, 1) := by decide +kernel
theorem dX4_tickBarges_13 : decode cX4_tickBarges 13 = .ok (.istore_n 2, 1) := by decide +kernel
theorem dX4_tickBarges_14 : decode cX4_tickBarges 14 = .ok (.iload_n 2, 1) := by decide +kernel
theorem dX4_tickBarges_15 : decode cX4_tickBarges 15 = .ok (.bipush 8, 2) := by decide +kernel
theorem dX4_tickBarges_17 : decode cX4_tickBarges 17 = .ok (.if_icmp .ge 25, 3) := by decide +kernel
theorem dX4_tickBarges_20 : decode cX4_tickBarges 20 = .ok (.aload_n 0, 1) := by decide +kernel
theorem dX4_tickBarges_21 : decode cX4_tickBarges 21 = .ok (.aload_n 0, 1) := by decide +kernel
theorem dX4_tickBarges_22 : decode cX4_tickBarges 22 = .ok (.getfield 11, 3) := by decide +kernel
theorem dX4_tickBarges_25 : decode cX4_tickBarges 25 = .ok (.iload_n 2, 1) := by decide +kernel
theorem dX4_tickBarges_26 : decode cX4_tickBarges 26 = .ok (.aaload, 1) := by decide +kernel
theorem dX4_tickBarges_27 : decode cX4_tickBarges 27 = .ok (.invokevirtual 221, 3) := by decide +kernel
theorem dX4_tickBarges_30 : decode cX4_tickBarges 30 = .ok (.ifCond .eq 6, 3) := by decide +kernel
theorem dX4_tickBarges_33 : decode cX4_tickBarges 33 = .ok (.iinc 1 1, 3) := by decide +kernel
theorem dX4_tickBarges_36 : decode cX4_tickBarges 36 = .ok (.iinc 2 1, 3) := by decide +kernel
theorem dX4_tickBarges_39 : decode cX4_tickBarges 39 = .ok (.goto (-25), 3) := by decide +kernel
theorem dX4_tickBarges_42 : decode cX4_tickBarges 42 = .ok (.iload_n 1, 1) := by decide +kernel
theorem dX4_tickBarges_43 : decode cX4_tickBarges 43 = .ok (.ireturn, 1) := by decide +kernel
set_option maxRecDepth 20000 in
theorem ggX4_sendFirst_Jx4a65c_isEmpty_aae02 : GoodIn wsX4_sendFirst wsJx4a65c_isEmpty_aae02 := goodIn_r _ [12, 13, 176, 177, 178] (by decide +kernel) (by decide +kernel)
set_option maxRecDepth 20000 in
theorem gX4_sendFirst_Jx4a65c_isEmpty_aae02 : GoodIn wsX4_sendFirst (wsV RX4 225 RJx4a65c yJx4a65c_isEmpty_aae02 wsJx4a65c_isEmpty_aae02) := goodIn_app (goodIn_of _ (by decide +kernel)) ggX4_sendFirst_Jx4a65c_isEmpty_aae02
set_option maxRecDepth 20000 in
theorem ggX4_sendFirst_Jx4a65c_get_915e3 : GoodIn wsX4_sendFirst wsJx4a65c_get_915e3 := goodIn_r _ [17, 13, 18, 19, 20, 21, 22, 23, 24, 25, 26, 27, 28, 11, 29, 30, 176, 177, 178] (by decide +kernel) (by decide +kernel)
set_option maxRecDepth 20000 in
theorem gX4_sendFirst_Jx4a65c_get_915e3 : GoodIn wsX4_sendFirst (wsV RX4 177 RJx4a65c yJx4a65c_get_915e3 wsJx4a65c_get_915e3) := goodIn_app (goodIn_of _ (by decide +kernel)) ggX4_sendFirst_Jx4a65c_get_915e3
set_option maxRecDepth 20000 in
theorem ggX4_sendFirst_X1_canalTowards : GoodIn wsX4_sendFirst wsX1_canalTowards := goodIn_r _ [35, 36, 37, 38, 155, 156, 157, 158, 159, 160, 179, 180] (by decide +kernel) (by decide +kernel)
set_option maxRecDepth 20000 in
theorem gX4_sendFirst_X1_canalTowards : GoodIn wsX4_sendFirst (wsV RX4 145 RX1 yX1_canalTowards wsX1_canalTowards) := goodIn_app (goodIn_of _ (by decide +kernel)) ggX4_sendFirst_X1_canalTowards
set_option maxRecDepth 20000 in
theorem ggX4_sendFirst_X2_isPassable : GoodIn wsX4_sendFirst wsX2_isPassable := goodIn_r _ [43, 44, 45, 46, 47, 181, 182, 183, 184, 185, 186, 155, 156, 157, 158, 159, 160] (by decide +kernel) (by decide +kernel)
set_option maxRecDepth 20000 in
theorem gX4_sendFirst_X2_isPassable : GoodIn wsX4_sendFirst (wsV RX4 130 RX2 yX2_isPassable wsX2_isPassable) := goodIn_app (goodIn_of _ (by decide +kernel)) ggX4_sendFirst_X2_isPassable
set_option maxRecDepth 20000 in
theorem ggX4_sendFirst_X2_otherEnd : GoodIn wsX4_sendFirst wsX2_otherEnd := goodIn_r _ [51, 45, 52, 181, 182, 183, 184, 185, 186] (by decide +kernel) (by decide +kernel)
set_option maxRecDepth 20000 in
theorem gX4_sendFirst_X2_otherEnd : GoodIn wsX4_sendFirst (wsV RX4 217 RX2 yX2_otherEnd wsX2_otherEnd) := goodIn_app (goodIn_of _ (by decide +kernel)) ggX4_sendFirst_X2_otherEnd
set_option maxRecDepth 20000 in
theorem ggX4_sendFirst_X4_takesIn : GoodIn wsX4_sendFirst wsX4_takesIn := goodIn_r _ [57, 5, 1, 58, 4, 59, 60, 61, 34, 62, 63, 64, 65, 66, 11, 67, 13, 68, 161, 162, 163, 164, 165, 166, 167, 168, 169, 155, 156, 157, 158, 159, 160, 170, 171, 172, 173, 174, 175, 176, 177, 178] (by decide +kernel) (by decide +kernel)
set_option maxRecDepth 20000 in
theorem gX4_sendFirst_X4_takesIn : GoodIn wsX4_sendFirst (wsV RX4 234 RX4 yX4_takesIn wsX4_takesIn) := goodIn_app (goodIn_of _ (by decide +kernel)) ggX4_sendFirst_X4_takesIn
set_option maxRecDepth 20000 in
theorem ggX4_sendFirst_Jx4a65c_remove_915e3 : GoodIn wsX4_sendFirst wsJx4a65c_remove_915e3 := goodIn_r _ [72, 13, 30, 18, 19, 20, 21, 22, 23, 24, 25, 73, 74, 75, 11, 76, 77, 78, 79, 80, 81, 82, 176, 177, 178] (by decide +kernel) (by decide +kernel)
set_option maxRecDepth 20000 in
theorem gX4_sendFirst_Jx4a65c_remove_915e3 : GoodIn wsX4_sendFirst (wsV RX4 238 RJx4a65c yJx4a65c_remove_915e3 wsJx4a65c_remove_915e3) := goodIn_app (goodIn_of _ (by decide +kernel)) ggX4_sendFirst_Jx4a65c_remove_915e3
set_option maxRecDepth 20000 in
theorem ggX4_sendFirst_X2_lockThrough : GoodIn wsX4_sendFirst wsX2_lockThrough := goodIn_r _ [86, 45, 46, 47, 52, 87, 88, 89, 34, 90, 91, 92, 93, 94, 95, 181, 182, 183, 184, 185, 186, 155, 156, 157, 158, 159, 160] (by decide +kernel) (by decide +kernel)
set_option maxRecDepth 20000 in
theorem gX4_sendFirst_X2_lockThrough : GoodIn wsX4_sendFirst (wsV RX4 241 RX2 yX2_lockThrough wsX2_lockThrough) := goodIn_app (goodIn_of _ (by decide +kernel)) ggX4_sendFirst_X2_lockThrough
set_option maxRecDepth 20000 in
theorem ggX4_sendFirst_X0_comeTo : GoodIn wsX4_sendFirst wsX0_comeTo := goodIn_r _ [100, 101, 102, 103, 104, 105, 106, 107, 108, 109, 161, 162, 163, 164, 165, 166, 167, 168, 169, 155, 156, 157, 158, 159, 160] (by decide +kernel) (by decide +kernel)
set_option maxRecDepth 20000 in
theorem gX4_sendFirst_X0_comeTo : GoodIn wsX4_sendFirst (wsV RX4 244 RX0 yX0_comeTo wsX0_comeTo) := goodIn_app (goodIn_of _ (by decide +kernel)) ggX4_sendFirst_X0_comeTo
set_option maxRecDepth 20000 in
theorem ggX4_sendFirst_Jx4a65c_add_9ea2d : GoodIn wsX4_sendFirst wsJx4a65c_add_9ea2d := goodIn_r _ [113, 77, 78, 30, 13, 114, 115, 116, 11, 117, 118, 119, 120, 121, 122, 123, 124, 125, 126, 127, 93, 94, 95, 128, 129, 130, 131, 132, 133, 134, 135, 136, 137, 138, 139, 140, 141, 142, 143, 144, 145, 146, 147, 148, 149, 150, 151, 152, 153, 154, 80, 81, 82, 176, 177, 178] (by decide +kernel) (by decide +kernel)
set_option maxRecDepth 20000 in
theorem gX4_sendFirst_Jx4a65c_add_9ea2d : GoodIn wsX4_sendFirst (wsV RX4 61 RJx4a65c yJx4a65c_add_9ea2d wsJx4a65c_add_9ea2d) := goodIn_app (goodIn_of _ (by decide +kernel)) ggX4_sendFirst_Jx4a65c_add_9ea2d
theorem dX4_sendFirst_0 : decode cX4_sendFirst 0 = .ok (.aload_n 1, 1) := by decide +kernel
theorem dX4_sendFirst_1 : decode cX4_sendFirst 1 = .ok (.getfield 116, 3) := by decide +kernel
theorem dX4_sendFirst_4 : decode cX4_sendFirst 4 = .ok (.invokevirtual 225, 3) := by decide +kernel
theorem dX4_sendFirst_7 : decode cX4_sendFirst 7 = .ok (.ifCond .eq 5, 3) := by decide +kernel
theorem dX4_sendFirst_10 : decode cX4_sendFirst 10 = .ok (.iconst 0, 1) := by decide +kernel
theorem dX4_sendFirst_11 : decode cX4_sendFirst 11 = .ok (.ireturn, 1) := by decide +kernel
theorem dX4_sendFirst_12 : decode cX4_sendFirst 12 = .ok (.aload_n 1, 1) := by decide +kernel
theorem dX4_sendFirst_13 : decode cX4_sendFirst 13 = .ok (.getfield 116, 3) := by decide +kernel
theorem dX4_sendFirst_16 : decode cX4_sendFirst 16 = .ok (.iconst 0, 1) := by decide +kernel
theorem dX4_sendFirst_17 : decode cX4_sendFirst 17 = .ok (.invokevirtual 177, 3) := by decide +kernel
theorem dX4_sendFirst_20 : decode cX4_sendFirst 20 = .ok (.checkcast 108, 3) := by decide +kernel
theorem dX4_sendFirst_23 : decode cX4_sendFirst 23 = .ok (.astore_n 2, 1) := by decide +kernel
theorem dX4_sendFirst_24 : decode cX4_sendFirst 24 = .ok (.aload_n 2, 1) := by decide +kernel
theorem dX4_sendFirst_25 : decode cX4_sendFirst 25 = .ok (.getfield 228, 3) := by decide +kernel
theorem dX4_sendFirst_28 : decode cX4_sendFirst 28 = .ok (.aload_n 0, 1) := by decide +kernel
theorem dX4_sendFirst_29 : decode cX4_sendFirst 29 = .ok (.getfield 119, 3) := by decide +kernel
theorem dX4_sendFirst_32 : decode cX4_sendFirst 32 = .ok (.if_icmp .ne 5, 3) := by decide +kernel
theorem dX4_sendFirst_35 : decode cX4_sendFirst 35 = .ok (.iconst 0, 1) := by decide +kernel
theorem dX4_sendFirst_36 : decode cX4_sendFirst 36 = .ok (.ireturn, 1) := by decide +kernel
theorem dX4_sendFirst_37 : decode cX4_sendFirst 37 = .ok (.aload_n 1, 1) := by decide +kernel
theorem dX4_sendFirst_38 : decode cX4_sendFirst 38 = .ok (.aload_n 2, 1) := by decide +kernel
theorem dX4_sendFirst_39 : decode cX4_sendFirst 39 = .ok (.getfield 231, 3) := by decide +kernel
theorem dX4_sendFirst_42 : decode cX4_sendFirst 42 = .ok (.invokevirtual 145, 3) := by decide +kernel
theorem dX4_sendFirst_45 : decode cX4_sendFirst 45 = .ok (.astore_n 3, 1) := by decide +kernel
theorem dX4_sendFirst_46 : decode cX4_sendFirst 46 = .ok (.aload_n 3, 1) := by decide +kernel
theorem dX4_sendFirst_47 : decode cX4_sendFirst 47 = .ok (.ifnull 10, 3) := by decide +kernel
theorem dX4_sendFirst_50 : decode cX4_sendFirst 50 = .ok (.aload_n 3, 1) := by decide +kernel
theorem dX4_sendFirst_51 : decode cX4_sendFirst 51 = .ok (.invokevirtual 130, 3) := by decide +kernel
theorem dX4_sendFirst_54 : decode cX4_sendFirst 54 = .ok (.ifCond .ne 5, 3) := by decide +kernel
theorem dX4_sendFirst_57 : decode cX4_sendFirst 57 = .ok (.iconst 0, 1) := by decide +kernel
theorem dX4_sendFirst_58 : decode cX4_sendFirst 58 = .ok (.ireturn, 1) := by decide +kernel
theorem dX4_sendFirst_59 : decode cX4_sendFirst 59 = .ok (.aload_n 3, 1) := by decide +kernel
theorem dX4_sendFirst_60 : decode cX4_sendFirst 60 = .ok (.aload_n 1, 1) := by decide +kernel
theorem dX4_sendFirst_61 : decode cX4_sendFirst 61 = .ok (.invokevirtual 217, 3) := by decide +kernel
theorem dX4_sendFirst_64 : decode cX4_sendFirst 64 = .ok (.astore 4, 2) := by decide +kernel
theorem dX4_sendFirst_66 : decode cX4_sendFirst 66 = .ok (.aload_n 0, 1) := by decide +kernel
theorem dX4_sendFirst_67 : decode cX4_sendFirst 67 = .ok (.aload 4, 2) := by decide +kernel
theorem dX4_sendFirst_69 : decode cX4_sendFirst 69 = .ok (.aload_n 2, 1) := by decide +kernel
theorem dX4_sendFirst_70 : decode cX4_sendFirst 70 = .ok (.invokevirtual 234, 3) := by decide +kernel
theorem dX4_sendFirst_73 : decode cX4_sendFirst 73 = .ok (.ifCond .ne 5, 3) := by decide +kernel
theorem dX4_sendFirst_76 : decode cX4_sendFirst 76 = .ok (.iconst 0, 1) := by decide +kernel
theorem dX4_sendFirst_77 : decode cX4_sendFirst 77 = .ok (.ireturn, 1) := by decide +kernel
theorem dX4_sendFirst_78 : decode cX4_sendFirst 78 = .ok (.aload_n 1, 1) := by decide +kernel
theorem dX4_sendFirst_79 : decode cX4_sendFirst 79 = .ok (.getfield 116, 3) := by decide +kernel
theorem dX4_sendFirst_82 : decode cX4_sendFirst 82 = .ok (.iconst 0, 1) := by decide +kernel
theorem dX4_sendFirst_83 : decode cX4_sendFirst 83 = .ok (.invokevirtual 238, 3) := by decide +kernel
theorem dX4_sendFirst_86 : decode cX4_sendFirst 86 = .ok (.pop, 1) := by decide +kernel
theorem dX4_sendFirst_87 : decode cX4_sendFirst 87 = .ok (.aload_n 0, 1) := by decide +kernel
theorem dX4_sendFirst_88 : decode cX4_sendFirst 88 = .ok (.dup, 1) := by decide +kernel
theorem dX4_sendFirst_89 : decode cX4_sendFirst 89 = .ok (.getfield 77, 3) := by decide +kernel
theorem dX4_sendFirst_92 : decode cX4_sendFirst 92 = .ok (.aload_n 3, 1) := by decide +kernel
theorem dX4_sendFirst_93 : decode cX4_sendFirst 93 = .ok (.invokevirtual 241, 3) := by decide +kernel
theorem dX4_sendFirst_96 : decode cX4_sendFirst 96 = .ok (.iadd, 1) := by decide +kernel
theorem dX4_sendFirst_97 : decode cX4_sendFirst 97 = .ok (.putfield 77, 3) := by decide +kernel
theorem dX4_sendFirst_100 : decode cX4_sendFirst 100 = .ok (.aload_n 2, 1) := by decide +kernel
theorem dX4_sendFirst_101 : decode cX4_sendFirst 101 = .ok (.aload 4, 2) := by decide +kernel
theorem dX4_sendFirst_103 : decode cX4_sendFirst 103 = .ok (.aload_n 0, 1) := by decide +kernel
theorem dX4_sendFirst_104 : decode cX4_sendFirst 104 = .ok (.getfield 119, 3) := by decide +kernel
theorem dX4_sendFirst_107 : decode cX4_sendFirst 107 = .ok (.invokevirtual 244, 3) := by decide +kernel
theorem dX4_sendFirst_110 : decode cX4_sendFirst 110 = .ok (.aload_n 2, 1) := by decide +kernel
theorem dX4_sendFirst_111 : decode cX4_sendFirst 111 = .ok (.getfield 113, 3) := by decide +kernel
theorem dX4_sendFirst_114 : decode cX4_sendFirst 114 = .ok (.ifCond .ne 13, 3) := by decide +kernel
theorem dX4_sendFirst_117 : decode cX4_sendFirst 117 = .ok (.aload 4, 2) := by decide +kernel
theorem dX4_sendFirst_119 : decode cX4_sendFirst 119 = .ok (.getfield 116, 3) := by decide +kernel
theorem dX4_sendFirst_122 : decode cX4_sendFirst 122 = .ok (.aload_n 2, 1) := by decide +kernel
theorem dX4_sendFirst_123 : decode cX4_sendFirst 123 = .ok (.invokevirtual 61, 3) := by decide +kernel
theorem dX4_sendFirst_126 : decode cX4_sendFirst 126 = .ok (.pop, 1) := by decide +kernel
theorem dX4_sendFirst_127 : decode cX4_sendFirst 127 = .ok (.iconst 1, 1) := by decide +kernel
theorem dX4_sendFirst_128 : decode cX4_sendFirst 128 = .ok (.ireturn, 1) := by decide +kernel
set_option maxRecDepth 20000 in
theorem ggX4_takesIn_X1_isFull : GoodIn wsX4_takesIn wsX1_isFull := goodIn_r _ [9, 10, 11, 12, 13, 14, 15, 16, 27, 28, 29, 30, 31, 32, 39, 40, 41] (by decide +kernel) (by decide +kernel)
set_option maxRecDepth 20000 in
theorem gX4_takesIn_X1_isFull : GoodIn wsX4_takesIn (wsV RX4 102 RX1 yX1_isFull wsX1_isFull) := goodIn_app (goodIn_of _ (by decide +kernel)) ggX4_takesIn_X1_isFull
set_option maxRecDepth 20000 in
theorem ggX4_takesIn_Jx4a65c_size_8abf5 : GoodIn wsX4_takesIn wsJx4a65c_size_8abf5 := goodIn_r _ [15, 16, 39, 40, 41] (by decide +kernel) (by decide +kernel)
set_option maxRecDepth 20000 in
theorem gX4_takesIn_Jx4a65c_size_8abf5 : GoodIn wsX4_takesIn (wsV RX4 47 RJx4a65c yJx4a65c_size_8abf5 wsJx4a65c_size_8abf5) := goodIn_app (goodIn_of _ (by decide +kernel)) ggX4_takesIn_Jx4a65c_size_8abf5
theorem dX4_takesIn_0 : decode cX4_takesIn 0 = .ok (.aload_n 1, 1) := by decide +kernel
theorem dX4_takesIn_1 : decode cX4_takesIn 1 = .ok (.aload_n 2, 1) := by decide +kernel
theorem dX4_takesIn_2 : decode cX4_takesIn 2 = .ok (.getfield 231, 3) := by decide +kernel
theorem dX4_takesIn_5 : decode cX4_takesIn 5 = .ok (.if_acmp .ne 5, 3) := by decide +kernel
theorem dX4_takesIn_8 : decode cX4_takesIn 8 = .ok (.iconst 1, 1) := by decide +kernel
theorem dX4_takesIn_9 : decode cX4_takesIn 9 = .ok (.ireturn, 1) := by decide +kernel
theorem dX4_takesIn_10 : decode cX4_takesIn 10 = .ok (.aload_n 1, 1) := by decide +kernel
theorem dX4_takesIn_11 : decode cX4_takesIn 11 = .ok (.invokevirtual 102, 3) := by decide +kernel
theorem dX4_takesIn_14 : decode cX4_takesIn 14 = .ok (.ifCond .eq 5, 3) := by decide +kernel
theorem dX4_takesIn_17 : decode cX4_takesIn 17 = .ok (.iconst 0, 1) := by decide +kernel
theorem dX4_takesIn_18 : decode cX4_takesIn 18 = .ok (.ireturn, 1) := by decide +kernel
theorem dX4_takesIn_19 : decode cX4_takesIn 19 = .ok (.aload_n 1, 1) := by decide +kernel
theorem dX4_takesIn_20 : decode cX4_takesIn 20 = .ok (.getfield 116, 3) := by decide +kernel
theorem dX4_takesIn_23 : decode cX4_takesIn 23 = .ok (.invokevirtual 47, 3) := by decide +kernel
theorem dX4_takesIn_26 : decode cX4_takesIn 26 = .ok (.aload_n 1, 1) := by decide +kernel
theorem dX4_takesIn_27 : decode cX4_takesIn 27 = .ok (.getfield 73, 3) := by decide +kernel
theorem dX4_takesIn_30 : decode cX4_takesIn 30 = .ok (.if_icmp .lt 12, 3) := by decide +kernel
theorem dX4_takesIn_33 : decode cX4_takesIn 33 = .ok (.aload_n 0, 1) := by decide +kernel
theorem dX4_takesIn_34 : decode cX4_takesIn 34 = .ok (.getfield 119, 3) := by decide +kernel
theorem dX4_takesIn_37 : decode cX4_takesIn 37 = .ok (.iconst 2, 1) := by decide +kernel
theorem dX4_takesIn_38 : decode cX4_takesIn 38 = .ok (.irem, 1) := by decide +kernel
theorem dX4_takesIn_39 : decode cX4_takesIn 39 = .ok (.ifCond .ne 7, 3) := by decide +kernel
theorem dX4_takesIn_42 : decode cX4_takesIn 42 = .ok (.iconst 1, 1) := by decide +kernel
theorem dX4_takesIn_43 : decode cX4_takesIn 43 = .ok (.goto 4, 3) := by decide +kernel
theorem dX4_takesIn_46 : decode cX4_takesIn 46 = .ok (.iconst 0, 1) := by decide +kernel
theorem dX4_takesIn_47 : decode cX4_takesIn 47 = .ok (.ireturn, 1) := by decide +kernel
theorem dX5_init_0 : decode cX5_init 0 = .ok (.aload_n 0, 1) := by decide +kernel
theorem dX5_init_1 : decode cX5_init 1 = .ok (.invokespecial 1, 3) := by decide +kernel
theorem dX5_init_4 : decode cX5_init 4 = .ok (.aload_n 0, 1) := by decide +kernel
theorem dX5_init_5 : decode cX5_init 5 = .ok (.bipush 8, 2) := by decide +kernel
theorem dX5_init_7 : decode cX5_init 7 = .ok (.newarray .int, 2) := by decide +kernel
theorem dX5_init_9 : decode cX5_init 9 = .ok (.putfield 7, 3) := by decide +kernel
theorem dX5_init_12 : decode cX5_init 12 = .ok (.aload_n 0, 1) := by decide +kernel
theorem dX5_init_13 : decode cX5_init 13 = .ok (.bipush 8, 2) := by decide +kernel
theorem dX5_init_15 : decode cX5_init 15 = .ok (.newarray .int, 2) := by decide +kernel
theorem dX5_init_17 : decode cX5_init 17 = .ok (.putfield 13, 3) := by decide +kernel
theorem dX5_init_20 : decode cX5_init 20 = .ok (.aload_n 0, 1) := by decide +kernel
theorem dX5_init_21 : decode cX5_init 21 = .ok (.bipush 8, 2) := by decide +kernel
theorem dX5_init_23 : decode cX5_init 23 = .ok (.newarray .int, 2) := by decide +kernel
theorem dX5_init_25 : decode cX5_init 25 = .ok (.putfield 16, 3) := by decide +kernel
theorem dX5_init_28 : decode cX5_init 28 = .ok (.aload_n 0, 1) := by decide +kernel
theorem dX5_init_29 : decode cX5_init 29 = .ok (.bipush 48, 2) := by decide +kernel
theorem dX5_init_31 : decode cX5_init 31 = .ok (.newarray .int, 2) := by decide +kernel
theorem dX5_init_33 : decode cX5_init 33 = .ok (.putfield 19, 3) := by decide +kernel
theorem dX5_init_36 : decode cX5_init 36 = .ok (.aload_n 0, 1) := by decide +kernel
theorem dX5_init_37 : decode cX5_init 37 = .ok (.bipush 14, 2) := by decide +kernel
theorem dX5_init_39 : decode cX5_init 39 = .ok (.newarray .int, 2) := by decide +kernel
theorem dX5_init_41 : decode cX5_init 41 = .ok (.putfield 22, 3) := by decide +kernel
theorem dX5_init_44 : decode cX5_init 44 = .ok (.aload_n 0, 1) := by decide +kernel
theorem dX5_init_45 : decode cX5_init 45 = .ok (.bipush 14, 2) := by decide +kernel
theorem dX5_init_47 : decode cX5_init 47 = .ok (.newarray .int, 2) := by decide +kernel
theorem dX5_init_49 : decode cX5_init 49 = .ok (.putfield 25, 3) := by decide +kernel
theorem dX5_init_52 : decode cX5_init 52 = .ok (.aload_n 0, 1) := by decide +kernel
theorem dX5_init_53 : decode cX5_init 53 = .ok (.bipush 14, 2) := by decide +kernel
theorem dX5_init_55 : decode cX5_init 55 = .ok (.newarray .int, 2) := by decide +kernel
theorem dX5_init_57 : decode cX5_init 57 = .ok (.putfield 28, 3) := by decide +kernel
theorem dX5_init_60 : decode cX5_init 60 = .ok (.aload_n 0, 1) := by decide +kernel
theorem dX5_init_61 : decode cX5_init 61 = .ok (.bipush 14, 2) := by decide +kernel
theorem dX5_init_63 : decode cX5_init 63 = .ok (.newarray .int, 2) := by decide +kernel
theorem dX5_init_65 : decode cX5_init 65 = .ok (.putfield 31, 3) := by decide +kernel
theorem dX5_init_68 : decode cX5_init 68 = .ok (.aload_n 0, 1) := by decide +kernel
theorem dX5_init_69 : decode cX5_init 69 = .ok (.bipush 14, 2) := by decide +kernel
theorem dX5_init_71 : decode cX5_init 71 = .ok (.newarray .boolean, 2) := by decide +kernel
theorem dX5_init_73 : decode cX5_init 73 = .ok (.putfield 34, 3) := by decide +kernel
theorem dX5_init_76 : decode cX5_init 76 = .ok (.aload_n 0, 1) := by decide +kernel
theorem dX5_init_77 : decode cX5_init 77 = .ok (.bipush 64, 2) := by decide +kernel
theorem dX5_init_79 : decode cX5_init 79 = .ok (.newarray .int, 2) := by decide +kernel
theorem dX5_init_81 : decode cX5_init 81 = .ok (.putfield 38, 3) := by decide +kernel
theorem dX5_init_84 : decode cX5_init 84 = .ok (.aload_n 0, 1) := by decide +kernel
theorem dX5_init_85 : decode cX5_init 85 = .ok (.bipush 64, 2) := by decide +kernel
theorem dX5_init_87 : decode cX5_init 87 = .ok (.newarray .int, 2) := by decide +kernel
theorem dX5_init_89 : decode cX5_init 89 = .ok (.putfield 41, 3) := by decide +kernel
theorem dX5_init_92 : decode cX5_init 92 = .ok (.aload_n 0, 1) := by decide +kernel
theorem dX5_init_93 : decode cX5_init 93 = .ok (.bipush 64, 2) := by decide +kernel
theorem dX5_init_95 : decode cX5_init 95 = .ok (.newarray .int, 2) := by decide +kernel
theorem dX5_init_97 : decode cX5_init 97 = .ok (.putfield 44, 3) := by decide +kernel
theorem dX5_init_100 : decode cX5_init 100 = .ok (.aload_n 0, 1) := by decide +kernel
theorem dX5_init_101 : decode cX5_init 101 = .ok (.bipush 64, 2) := by decide +kernel
theorem dX5_init_103 : decode cX5_init 103 = .ok (.newarray .int, 2) := by decide +kernel
theorem dX5_init_105 : decode cX5_init 105 = .ok (.putfield 47, 3) := by decide +kernel
theorem dX5_init_108 : decode cX5_init 108 = .ok (.aload_n 0, 1) := by decide +kernel
theorem dX5_init_109 : decode cX5_init 109 = .ok (.bipush 40, 2) := by decide +kernel
theorem dX5_init_111 : decode cX5_init 111 = .ok (.newarray .int, 2) := by decide +kernel
theorem dX5_init_113 : decode cX5_init 113 = .ok (.putfield 50, 3) := by decide +kernel
theorem dX5_init_116 : decode cX5_init 116 = .ok (.aload_n 0, 1) := by decide +kernel
theorem dX5_init_117 : decode cX5_init 117 = .ok (.bipush 40, 2) := by decide +kernel
theorem dX5_init_119 : decode cX5_init 119 = .ok (.newarray .int, 2) := by decide +kernel
theorem dX5_init_121 : decode cX5_init 121 = .ok (.putfield 53, 3) := by decide +kernel
theorem dX5_init_124 : decode cX5_init 124 = .ok (.aload_n 0, 1) := by decide +kernel
theorem dX5_init_125 : decode cX5_init 125 = .ok (.bipush 40, 2) := by decide +kernel
theorem dX5_init_127 : decode cX5_init 127 = .ok (.newarray .int, 2) := by decide +kernel
theorem dX5_init_129 : decode cX5_init 129 = .ok (.putfield 56, 3) := by decide +kernel
theorem dX5_init_132 : decode cX5_init 132 = .ok (.aload_n 0, 1) := by decide +kernel
theorem dX5_init_133 : decode cX5_init 133 = .ok (.bipush 40, 2) := by decide +kernel
theorem dX5_init_135 : decode cX5_init 135 = .ok (.newarray .int, 2) := by decide +kernel
theorem dX5_init_137 : decode cX5_init 137 = .ok (.putfield 59, 3) := by decide +kernel
theorem dX5_init_140 : decode cX5_init 140 = .ok (.aload_n 0, 1) := by decide +kernel
theorem dX5_init_141 : decode cX5_init 141 = .ok (.bipush 40, 2) := by decide +kernel
theorem dX5_init_143 : decode cX5_init 143 = .ok (.newarray .int, 2) := by decide +kernel
theorem dX5_init_145 : decode cX5_init 145 = .ok (.putfield 62, 3) := by decide +kernel
theorem dX5_init_148 : decode cX5_init 148 = .ok (.aload_n 0, 1) := by decide +kernel
theorem dX5_init_149 : decode cX5_init 149 = .ok (.bipush 40, 2) := by decide +kernel
theorem dX5_init_151 : decode cX5_init 151 = .ok (.newarray .int, 2) := by decide +kernel
theorem dX5_init_153 : decode cX5_init 153 = .ok (.putfield 65, 3) := by decide +kernel
theorem dX5_init_156 : decode cX5_init 156 = .ok (.aload_n 0, 1) := by decide +kernel
theorem dX5_init_157 : decode cX5_init 157 = .ok (.bipush 40, 2) := by decide +kernel
theorem dX5_init_159 : decode cX5_init 159 = .ok (.newarray .int, 2) := by decide +kernel
theorem dX5_init_161 : decode cX5_init 161 = .ok (.putfield 68, 3) := by decide +kernel
theorem dX5_init_164 : decode cX5_init 164 = .ok (.aload_n 0, 1) := by decide +kernel
theorem dX5_init_165 : decode cX5_init 165 = .ok (.bipush 40, 2) := by decide +kernel
theorem dX5_init_167 : decode cX5_init 167 = .ok (.newarray .int, 2) := by decide +kernel
theorem dX5_init_169 : decode cX5_init 169 = .ok (.putfield 71, 3) := by decide +kernel
theorem dX5_init_172 : decode cX5_init 172 = .ok (.iconst 0, 1) := by decide +kernel
theorem dX5_init_173 : decode cX5_init 173 = .ok (.istore_n 1, 1) := by decide +kernel
theorem dX5_init_174 : decode cX5_init 174 = .ok (.iload_n 1, 1) := by decide +kernel
theorem dX5_init_175 : decode cX5_init 175 = .ok (.bipush 64, 2) := by decide +kernel
theorem dX5_init_177 : decode cX5_init 177 = .ok (.if_icmp .ge 38, 3) := by decide +kernel
theorem dX5_init_180 : decode cX5_init 180 = .ok (.aload_n 0, 1) := by decide +kernel
theorem dX5_init_181 : decode cX5_init 181 = .ok (.getfield 38, 3) := by decide +kernel
theorem dX5_init_184 : decode cX5_init 184 = .ok (.iload_n 1, 1) := by decide +kernel
theorem dX5_init_185 : decode cX5_init 185 = .ok (.iload_n 1, 1) := by decide +kernel
theorem dX5_init_186 : decode cX5_init 186 = .ok (.bipush 8, 2) := by decide +kernel
theorem dX5_init_188 : decode cX5_init 188 = .ok (.idiv, 1) := by decide +kernel
theorem dX5_init_189 : decode cX5_init 189 = .ok (.iload_n 1, 1) := by decide +kernel
theorem dX5_init_190 : decode cX5_init 190 = .ok (.bipush 8, 2) := by decide +kernel
theorem dX5_init_192 : decode cX5_init 192 = .ok (.irem, 1) := by decide +kernel
theorem dX5_init_193 : decode cX5_init 193 = .ok (.if_icmp .ne 7, 3) := by decide +kernel
theorem dX5_init_196 : decode cX5_init 196 = .ok (.iconst 0, 1) := by decide +kernel
theorem dX5_init_197 : decode cX5_init 197 = .ok (.goto 4, 3) := by decide +kernel
theorem dX5_init_200 : decode cX5_init 200 = .ok (.iconst (-1), 1) := by decide +kernel
theorem dX5_init_201 : decode cX5_init 201 = .ok (.iastore, 1) := by decide +kernel
theorem dX5_init_202 : decode cX5_init 202 = .ok (.aload_n 0, 1) := by decide +kernel
theorem dX5_init_203 : decode cX5_init 203 = .ok (.getfield 41, 3) := by decide +kernel
theorem dX5_init_206 : decode cX5_init 206 = .ok (.iload_n 1, 1) := by decide +kernel
theorem dX5_init_207 : decode cX5_init 207 = .ok (.iconst (-1), 1) := by decide +kernel
theorem dX5_init_208 : decode cX5_init 208 = .ok (.iastore, 1) := by decide +kernel
theorem dX5_init_209 : decode cX5_init 209 = .ok (.iinc 1 1, 3) := by decide +kernel
theorem dX5_init_212 : decode cX5_init 212 = .ok (.goto (-38), 3) := by decide +kernel
theorem dX5_init_215 : decode cX5_init 215 = .ok (.iconst 0, 1) := by decide +kernel
theorem dX5_init_216 : decode cX5_init 216 = .ok (.istore_n 1, 1) := by decide +kernel
theorem dX5_init_217 : decode cX5_init 217 = .ok (.iload_n 1, 1) := by decide +kernel
theorem dX5_init_218 : decode cX5_init 218 = .ok (.bipush 8, 2) := by decide +kernel
theorem dX5_init_220 : decode cX5_init 220 = .ok (.if_icmp .ge 24, 3) := by decide +kernel
theorem dX5_init_223 : decode cX5_init 223 = .ok (.aload_n 0, 1) := by decide +kernel
theorem dX5_init_224 : decode cX5_init 224 = .ok (.getfield 7, 3) := by decide +kernel
theorem dX5_init_227 : decode cX5_init 227 = .ok (.iload_n 1, 1) := by decide +kernel
theorem dX5_init_228 : decode cX5_init 228 = .ok (.bipush 60, 2) := by decide +kernel
theorem dX5_init_230 : decode cX5_init 230 = .ok (.iastore, 1) := by decide +kernel
theorem dX5_init_231 : decode cX5_init 231 = .ok (.aload_n 0, 1) := by decide +kernel
theorem dX5_init_232 : decode cX5_init 232 = .ok (.getfield 13, 3) := by decide +kernel
theorem dX5_init_235 : decode cX5_init 235 = .ok (.iload_n 1, 1) := by decide +kernel
theorem dX5_init_236 : decode cX5_init 236 = .ok (.iconst 4, 1) := by decide +kernel
theorem dX5_init_237 : decode cX5_init 237 = .ok (.iastore, 1) := by decide +kernel
theorem dX5_init_238 : decode cX5_init 238 = .ok (.iinc 1 1, 3) := by decide +kernel
theorem dX5_init_241 : decode cX5_init 241 = .ok (.goto (-24), 3) := by decide +kernel
theorem dX5_init_244 : decode cX5_init 244 = .ok (.return_, 1) := by decide +kernel
theorem dX5_thrown_0 : decode cX5_thrown 0 = .ok (.aload_n 0, 1) := by decide +kernel
theorem dX5_thrown_1 : decode cX5_thrown 1 = .ok (.getfield 74, 3) := by decide +kernel
theorem dX5_thrown_4 : decode cX5_thrown 4 = .ok (.ireturn, 1) := by decide +kernel
theorem dX5_can_0 : decode cX5_can 0 = .ok (.aload_n 0, 1) := by decide +kernel
theorem dX5_can_1 : decode cX5_can 1 = .ok (.iload_n 1, 1) := by decide +kernel
theorem dX5_can_2 : decode cX5_can 2 = .ok (.putfield 74, 3) := by decide +kernel
theorem dX5_can_5 : decode cX5_can 5 = .ok (.iload_n 1, 1) := by decide +kernel
theorem dX5_can_6 : decode cX5_can 6 = .ok (.ifCond .ne 7, 3) := by decide +kernel
theorem dX5_can_9 : decode cX5_can 9 = .ok (.iconst 1, 1) := by decide +kernel
theorem dX5_can_10 : decode cX5_can 10 = .ok (.goto 4, 3) := by decide +kernel
theorem dX5_can_13 : decode cX5_can 13 = .ok (.iconst 0, 1) := by decide +kernel
theorem dX5_can_14 : decode cX5_can 14 = .ok (.ireturn, 1) := by decide +kernel
theorem dX5_isIn_0 : decode cX5_isIn 0 = .ok (.iload_n 0, 1) := by decide +kernel
theorem dX5_isIn_1 : decode cX5_isIn 1 = .ok (.iload_n 1, 1) := by decide +kernel
theorem dX5_isIn_2 : decode cX5_isIn 2 = .ok (.if_icmp .lt 12, 3) := by decide +kernel
theorem dX5_isIn_5 : decode cX5_isIn 5 = .ok (.iload_n 0, 1) := by decide +kernel
theorem dX5_isIn_6 : decode cX5_isIn 6 = .ok (.iload_n 2, 1) := by decide +kernel
theorem dX5_isIn_7 : decode cX5_isIn 7 = .ok (.if_icmp .gt 7, 3) := by decide +kernel
theorem dX5_isIn_10 : decode cX5_isIn 10 = .ok (.iconst 1, 1) := by decide +kernel
theorem dX5_isIn_11 : decode cX5_isIn 11 = .ok (.goto 4, 3) := by decide +kernel
theorem dX5_isIn_14 : decode cX5_isIn 14 = .ok (.iconst 0, 1) := by decide +kernel
theorem dX5_isIn_15 : decode cX5_isIn 15 = .ok (.ireturn, 1) := by decide +kernel
set_option maxRecDepth 20000 in
theorem ggX5_isBasin_X5_isIn : GoodIn wsX5_isBasin wsX5_isIn := goodIn_r _ [4] (by decide +kernel) (by decide +kernel)
set_option maxRecDepth 20000 in
theorem gX5_isBasin_X5_isIn : GoodIn wsX5_isBasin (va_wsS RX5 78 yX5_isIn wsX5_isIn) := goodIn_app (goodIn_of _ (by decide +kernel)) ggX5_isBasin_X5_isIn
theorem dX5_isBasin_0 : decode cX5_isBasin 0 = .ok (.iload_n 0, 1) := by decide +kernel
theorem dX5_isBasin_1 : decode cX5_isBasin 1 = .ok (.iconst 0, 1) := by decide +kernel
theorem dX5_isBasin_2 : decode cX5_isBasin 2 = .ok (.bipush 7, 2) := by decide +kernel
theorem dX5_isBasin_4 : decode cX5_isBasin 4 = .ok (.invokestatic 78, 3) := by decide +kernel
theorem dX5_isBasin_7 : decode cX5_isBasin 7 = .ok (.ireturn, 1) := by decide +kernel
set_option maxRecDepth 20000 in
theorem ggX5_isCanal_X5_isIn : GoodIn wsX5_isCanal wsX5_isIn := goodIn_r _ [5] (by decide +kernel) (by decide +kernel)
set_option maxRecDepth 20000 in
theorem gX5_isCanal_X5_isIn : GoodIn wsX5_isCanal (va_wsS RX5 78 yX5_isIn wsX5_isIn) := goodIn_app (goodIn_of _ (by decide +kernel)) ggX5_isCanal_X5_isIn
theorem dX5_isCanal_0 : decode cX5_isCanal 0 = .ok (.iload_n 1, 1) := by decide +kernel
theorem dX5_isCanal_1 : decode cX5_isCanal 1 = .ok (.iconst 0, 1) := by decide +kernel
theorem dX5_isCanal_2 : decode cX5_isCanal 2 = .ok (.aload_n 0, 1) := by decide +kernel
theorem dX5_isCanal_3 : decode cX5_isCanal 3 = .ok (.getfield 82, 3) := by decide +kernel
theorem dX5_isCanal_6 : decode cX5_isCanal 6 = .ok (.iconst 1, 1) := by decide +kernel
theorem dX5_isCanal_7 : decode cX5_isCanal 7 = .ok (.isub, 1) := by decide +kernel
theorem dX5_isCanal_8 : decode cX5_isCanal 8 = .ok (.invokestatic 78, 3) := by decide +kernel
theorem dX5_isCanal_11 : decode cX5_isCanal 11 = .ok (.ireturn, 1) := by decide +kernel
set_option maxRecDepth 20000 in
theorem ggX5_isBarge_X5_isIn : GoodIn wsX5_isBarge wsX5_isIn := goodIn_r _ [5] (by decide +kernel) (by decide +kernel)
set_option maxRecDepth 20000 in
theorem gX5_isBarge_X5_isIn : GoodIn wsX5_isBarge (va_wsS RX5 78 yX5_isIn wsX5_isIn) := goodIn_app (goodIn_of _ (by decide +kernel)) ggX5_isBarge_X5_isIn
theorem dX5_isBarge_0 : decode cX5_isBarge 0 = .ok (.iload_n 1, 1) := by decide +kernel
theorem dX5_isBarge_1 : decode cX5_isBarge 1 = .ok (.iconst 0, 1) := by decide +kernel
theorem dX5_isBarge_2 : decode cX5_isBarge 2 = .ok (.aload_n 0, 1) := by decide +kernel
theorem dX5_isBarge_3 : decode cX5_isBarge 3 = .ok (.getfield 85, 3) := by decide +kernel
theorem dX5_isBarge_6 : decode cX5_isBarge 6 = .ok (.iconst 1, 1) := by decide +kernel
theorem dX5_isBarge_7 : decode cX5_isBarge 7 = .ok (.isub, 1) := by decide +kernel
theorem dX5_isBarge_8 : decode cX5_isBarge 8 = .ok (.invokestatic 78, 3) := by decide +kernel
theorem dX5_isBarge_11 : decode cX5_isBarge 11 = .ok (.ireturn, 1) := by decide +kernel
set_option maxRecDepth 20000 in
theorem ggX5_dig_X5_isBasin : GoodIn wsX5_dig wsX5_isBasin := goodIn_r _ [10, 11, 12, 9, 13] (by decide +kernel) (by decide +kernel)
set_option maxRecDepth 20000 in
theorem gX5_dig_X5_isBasin : GoodIn wsX5_dig (va_wsS RX5 88 yX5_isBasin wsX5_isBasin) := goodIn_app (goodIn_of _ (by decide +kernel)) ggX5_dig_X5_isBasin
set_option maxRecDepth 20000 in
theorem ggX5_dig_X5_isIn : GoodIn wsX5_dig wsX5_isIn := goodIn_r _ [13] (by decide +kernel) (by decide +kernel)
set_option maxRecDepth 20000 in
theorem gX5_dig_X5_isIn : GoodIn wsX5_dig (va_wsS RX5 78 yX5_isIn wsX5_isIn) := goodIn_app (goodIn_of _ (by decide +kernel)) ggX5_dig_X5_isIn
set_option maxRecDepth 20000 in
theorem ggX5_dig_X5_can : GoodIn wsX5_dig wsX5_can := goodIn_r _ [17, 18, 19, 20, 21, 22, 23, 24, 25, 26, 27, 28, 29, 30, 31, 32, 33, 34, 35, 36, 37, 38, 39, 40, 41, 42, 43, 44] (by decide +kernel) (by decide +kernel)
set_option maxRecDepth 20000 in
theorem gX5_dig_X5_can : GoodIn wsX5_dig (wsV RX5 92 RX5 yX5_can wsX5_can) := goodIn_app (goodIn_of _ (by decide +kernel)) ggX5_dig_X5_can
theorem dX5_dig_0 : decode cX5_dig 0 = .ok (.iload_n 1, 1) := by decide +kernel
theorem dX5_dig_1 : decode cX5_dig 1 = .ok (.invokestatic 88, 3) := by decide +kernel
theorem dX5_dig_4 : decode cX5_dig 4 = .ok (.ifCond .eq 14, 3) := by decide +kernel
theorem dX5_dig_7 : decode cX5_dig 7 = .ok (.iload_n 2, 1) := by decide +kernel
theorem dX5_dig_8 : decode cX5_dig 8 = .ok (.invokestatic 88, 3) := by decide +kernel
theorem dX5_dig_11 : decode cX5_dig 11 = .ok (.ifCond .eq 7, 3) := by decide +kernel
theorem dX5_dig_14 : decode cX5_dig 14 = .ok (.iconst 1, 1) := by decide +kernel
theorem dX5_dig_15 : decode cX5_dig 15 = .ok (.goto 4, 3) := by decide +kernel
theorem dX5_dig_18 : decode cX5_dig 18 = .ok (.iconst 0, 1) := by decide +kernel
theorem dX5_dig_19 : decode cX5_dig 19 = .ok (.istore 5, 2) := by decide +kernel
theorem dX5_dig_21 : decode cX5_dig 21 = .ok (.iload_n 1, 1) := by decide +kernel
theorem dX5_dig_22 : decode cX5_dig 22 = .ok (.iload_n 2, 1) := by decide +kernel
theorem dX5_dig_23 : decode cX5_dig 23 = .ok (.if_icmp .eq 28, 3) := by decide +kernel
theorem dX5_dig_26 : decode cX5_dig 26 = .ok (.iload_n 3, 1) := by decide +kernel
theorem dX5_dig_27 : decode cX5_dig 27 = .ok (.iconst 1, 1) := by decide +kernel
theorem dX5_dig_28 : decode cX5_dig 28 = .ok (.bipush 9, 2) := by decide +kernel
theorem dX5_dig_30 : decode cX5_dig 30 = .ok (.invokestatic 78, 3) := by decide +kernel
theorem dX5_dig_33 : decode cX5_dig 33 = .ok (.ifCond .eq 18, 3) := by decide +kernel
theorem dX5_dig_36 : decode cX5_dig 36 = .ok (.iload 4, 2) := by decide +kernel
theorem dX5_dig_38 : decode cX5_dig 38 = .ok (.iconst 0, 1) := by decide +kernel
theorem dX5_dig_39 : decode cX5_dig 39 = .ok (.bipush 9, 2) := by decide +kernel
theorem dX5_dig_41 : decode cX5_dig 41 = .ok (.invokestatic 78, 3) := by decide +kernel
theorem dX5_dig_44 : decode cX5_dig 44 = .ok (.ifCond .eq 7, 3) := by decide +kernel
theorem dX5_dig_47 : decode cX5_dig 47 = .ok (.iconst 1, 1) := by decide +kernel
theorem dX5_dig_48 : decode cX5_dig 48 = .ok (.goto 4, 3) := by decide +kernel
theorem dX5_dig_51 : decode cX5_dig 51 = .ok (.iconst 0, 1) := by decide +kernel
theorem dX5_dig_52 : decode cX5_dig 52 = .ok (.istore 6, 2) := by decide +kernel
theorem dX5_dig_54 : decode cX5_dig 54 = .ok (.aload_n 0, 1) := by decide +kernel
theorem dX5_dig_55 : decode cX5_dig 55 = .ok (.iload 5, 2) := by decide +kernel
theorem dX5_dig_57 : decode cX5_dig 57 = .ok (.ifCond .ne 7, 3) := by decide +kernel
theorem dX5_dig_60 : decode cX5_dig 60 = .ok (.iconst 1, 1) := by decide +kernel
theorem dX5_dig_61 : decode cX5_dig 61 = .ok (.goto 26, 3) := by decide +kernel
theorem dX5_dig_64 : decode cX5_dig 64 = .ok (.iload 6, 2) := by decide +kernel
theorem dX5_dig_66 : decode cX5_dig 66 = .ok (.ifCond .ne 7, 3) := by decide +kernel
theorem dX5_dig_69 : decode cX5_dig 69 = .ok (.iconst 2, 1) := by decide +kernel
theorem dX5_dig_70 : decode cX5_dig 70 = .ok (.goto 17, 3) := by decide +kernel
theorem dX5_dig_73 : decode cX5_dig 73 = .ok (.aload_n 0, 1) := by decide +kernel
theorem dX5_dig_74 : decode cX5_dig 74 = .ok (.getfield 82, 3) := by decide +kernel
theorem dX5_dig_77 : decode cX5_dig 77 = .ok (.bipush 14, 2) := by decide +kernel
theorem dX5_dig_79 : decode cX5_dig 79 = .ok (.if_icmp .ne 7, 3) := by decide +kernel
theorem dX5_dig_82 : decode cX5_dig 82 = .ok (.iconst 3, 1) := by decide +kernel
theorem dX5_dig_83 : decode cX5_dig 83 = .ok (.goto 4, 3) := by decide +kernel
theorem dX5_dig_86 : decode cX5_dig 86 = .ok (.iconst 0, 1) := by decide +kernel
theorem dX5_dig_87 : decode cX5_dig 87 = .ok (.invokevirtual 92, 3) := by decide +kernel
theorem dX5_dig_90 : decode cX5_dig 90 = .ok (.ifCond .ne 5, 3) := by decide +kernel
theorem dX5_dig_93 : decode cX5_dig 93 = .ok (.iconst 0, 1) := by decide +kernel
theorem dX5_dig_94 : decode cX5_dig 94 = .ok (.ireturn, 1) := by decide +kernel
theorem dX5_dig_95 : decode cX5_dig 95 = .ok (.aload_n 0, 1) := by decide +kernel
theorem dX5_dig_96 : decode cX5_dig 96 = .ok (.getfield 22, 3) := by decide +kernel
theorem dX5_dig_99 : decode cX5_dig 99 = .ok (.aload_n 0, 1) := by decide +kernel
theorem dX5_dig_100 : decode cX5_dig 100 = .ok (.getfield 82, 3) := by decide +kernel
theorem dX5_dig_103 : decode cX5_dig 103 = .ok (.iload_n 1, 1) := by decide +kernel
theorem dX5_dig_104 : decode cX5_dig 104 = .ok (.iastore, 1) := by decide +kernel
theorem dX5_dig_105 : decode cX5_dig 105 = .ok (.aload_n 0, 1) := by decide +kernel
theorem dX5_dig_106 : decode cX5_dig 106 = .ok (.getfield 25, 3) := by decide +kernel
theorem dX5_dig_109 : decode cX5_dig 109 = .ok (.aload_n 0, 1) := by decide +kernel
theorem dX5_dig_110 : decode cX5_dig 110 = .ok (.getfield 82, 3) := by decide +kernel
theorem dX5_dig_113 : decode cX5_dig 113 = .ok (.iload_n 2, 1) := by decide +kernel
theorem dX5_dig_114 : decode cX5_dig 114 = .ok (.iastore, 1) := by decide +kernel
theorem dX5_dig_115 : decode cX5_dig 115 = .ok (.aload_n 0, 1) := by decide +kernel
theorem dX5_dig_116 : decode cX5_dig 116 = .ok (.getfield 28, 3) := by decide +kernel
theorem dX5_dig_119 : decode cX5_dig 119 = .ok (.aload_n 0, 1) := by decide +kernel
theorem dX5_dig_120 : decode cX5_dig 120 = .ok (.getfield 82, 3) := by decide +kernel
theorem dX5_dig_123 : decode cX5_dig 123 = .ok (.iload_n 3, 1) := by decide +kernel
theorem dX5_dig_124 : decode cX5_dig 124 = .ok (.iastore, 1) := by decide +kernel
theorem dX5_dig_125 : decode cX5_dig 125 = .ok (.aload_n 0, 1) := by decide +kernel
theorem dX5_dig_126 : decode cX5_dig 126 = .ok (.getfield 31, 3) := by decide +kernel
theorem dX5_dig_129 : decode cX5_dig 129 = .ok (.aload_n 0, 1) := by decide +kernel
theorem dX5_dig_130 : decode cX5_dig 130 = .ok (.getfield 82, 3) := by decide +kernel
theorem dX5_dig_133 : decode cX5_dig 133 = .ok (.iload 4, 2) := by decide +kernel
theorem dX5_dig_135 : decode cX5_dig 135 = .ok (.iastore, 1) := by decide +kernel
theorem dX5_dig_136 : decode cX5_dig 136 = .ok (.aload_n 0, 1) := by decide +kernel
theorem dX5_dig_137 : decode cX5_dig 137 = .ok (.getfield 34, 3) := by decide +kernel
theorem dX5_dig_140 : decode cX5_dig 140 = .ok (.aload_n 0, 1) := by decide +kernel
theorem dX5_dig_141 : decode cX5_dig 141 = .ok (.getfield 82, 3) := by decide +kernel
theorem dX5_dig_144 : decode cX5_dig 144 = .ok (.iconst 1, 1) := by decide +kernel
theorem dX5_dig_145 : decode cX5_dig 145 = .ok (.bastore, 1) := by decide +kernel
theorem dX5_dig_146 : decode cX5_dig 146 = .ok (.aload_n 0, 1) := by decide +kernel
theorem dX5_dig_147 : decode cX5_dig 147 = .ok (.dup, 1) := by decide +kernel
theorem dX5_dig_148 : decode cX5_dig 148 = .ok (.getfield 82, 3) := by decide +kernel
theorem dX5_dig_151 : decode cX5_dig 151 = .ok (.iconst 1, 1) := by decide +kernel
theorem dX5_dig_152 : decode cX5_dig 152 = .ok (.iadd, 1) := by decide +kernel
theorem dX5_dig_153 : decode cX5_dig 153 = .ok (.putfield 82, 3) := by decide +kernel
theorem dX5_dig_156 : decode cX5_dig 156 = .ok (.aload_n 0, 1) := by decide +kernel
theorem dX5_dig_157 : decode cX5_dig 157 = .ok (.getfield 82, 3) := by decide +kernel
theorem dX5_dig_160 : decode cX5_dig 160 = .ok (.iconst 1, 1) := by decide +kernel
theorem dX5_dig_161 : decode cX5_dig 161 = .ok (.isub, 1) := by decide +kernel
theorem dX5_dig_162 : decode cX5_dig 162 = .ok (.ireturn, 1) := by decide +kernel
set_option maxRecDepth 20000 in
theorem ggX5_setGate_X5_isCanal : GoodIn wsX5_setGate wsX5_isCanal := goodIn_r _ [6, 7, 8, 9, 5, 10, 16, 17, 18, 19, 20, 21, 22, 23, 24, 25, 26, 27, 28, 29, 30, 31, 32, 33, 34, 35, 36, 37, 38, 39, 40, 41] (by decide +kernel) (by decide +kernel)
set_option maxRecDepth 20000 in
theorem gX5_setGate_X5_isCanal : GoodIn wsX5_setGate (wsV RX5 95 RX5 yX5_isCanal wsX5_isCanal) := goodIn_app (goodIn_of _ (by decide +kernel)) ggX5_setGate_X5_isCanal
set_option maxRecDepth 20000 in
theorem ggX5_setGate_X5_can : GoodIn wsX5_setGate wsX5_can := goodIn_r _ [14, 15, 16, 17, 18, 19, 20, 21, 22, 23, 24, 25, 26, 27, 28, 29, 30, 31, 32, 33, 34, 35, 36, 37, 38, 39, 40, 41] (by decide +kernel) (by decide +kernel)
set_option maxRecDepth 20000 in
theorem gX5_setGate_X5_can : GoodIn wsX5_setGate (wsV RX5 92 RX5 yX5_can wsX5_can) := goodIn_app (goodIn_of _ (by decide +kernel)) ggX5_setGate_X5_can
theorem dX5_setGate_0 : decode cX5_setGate 0 = .ok (.aload_n 0, 1) := by decide +kernel
theorem dX5_setGate_1 : decode cX5_setGate 1 = .ok (.aload_n 0, 1) := by decide +kernel
theorem dX5_setGate_2 : decode cX5_setGate 2 = .ok (.iload_n 1, 1) := by decide +kernel
theorem dX5_setGate_3 : decode cX5_setGate 3 = .ok (.invokevirtual 95, 3) := by decide +kernel
theorem dX5_setGate_6 : decode cX5_setGate 6 = .ok (.ifCond .eq 7, 3) := by decide +kernel
theorem dX5_setGate_9 : decode cX5_setGate 9 = .ok (.iconst 0, 1) := by decide +kernel
theorem dX5_setGate_10 : decode cX5_setGate 10 = .ok (.goto 4, 3) := by decide +kernel
theorem dX5_setGate_13 : decode cX5_setGate 13 = .ok (.iconst 1, 1) := by decide +kernel
theorem dX5_setGate_14 : decode cX5_setGate 14 = .ok (.invokevirtual 92, 3) := by decide +kernel
theorem dX5_setGate_17 : decode cX5_setGate 17 = .ok (.ifCond .ne 5, 3) := by decide +kernel
theorem dX5_setGate_20 : decode cX5_setGate 20 = .ok (.iconst 0, 1) := by decide +kernel
theorem dX5_setGate_21 : decode cX5_setGate 21 = .ok (.ireturn, 1) := by decide +kernel
theorem dX5_setGate_22 : decode cX5_setGate 22 = .ok (.aload_n 0, 1) := by decide +kernel
theorem dX5_setGate_23 : decode cX5_setGate 23 = .ok (.getfield 34, 3) := by decide +kernel
theorem dX5_setGate_26 : decode cX5_setGate 26 = .ok (.iload_n 1, 1) := by decide +kernel
theorem dX5_setGate_27 : decode cX5_setGate 27 = .ok (.baload, 1) := by decide +kernel
theorem dX5_setGate_28 : decode cX5_setGate 28 = .ok (.istore_n 3, 1) := by decide +kernel
theorem dX5_setGate_29 : decode cX5_setGate 29 = .ok (.aload_n 0, 1) := by decide +kernel
theorem dX5_setGate_30 : decode cX5_setGate 30 = .ok (.getfield 34, 3) := by decide +kernel
theorem dX5_setGate_33 : decode cX5_setGate 33 = .ok (.iload_n 1, 1) := by decide +kernel
theorem dX5_setGate_34 : decode cX5_setGate 34 = .ok (.iload_n 2, 1) := by decide +kernel
theorem dX5_setGate_35 : decode cX5_setGate 35 = .ok (.bastore, 1) := by decide +kernel
theorem dX5_setGate_36 : decode cX5_setGate 36 = .ok (.iload_n 3, 1) := by decide +kernel
theorem dX5_setGate_37 : decode cX5_setGate 37 = .ok (.ireturn, 1) := by decide +kernel
set_option maxRecDepth 20000 in
theorem ggX5_setMark_X5_isBasin : GoodIn wsX5_setMark wsX5_isBasin := goodIn_r _ [5, 6, 7, 4, 8] (by decide +kernel) (by decide +kernel)
set_option maxRecDepth 20000 in
theorem gX5_setMark_X5_isBasin : GoodIn wsX5_setMark (va_wsS RX5 88 yX5_isBasin wsX5_isBasin) := goodIn_app (goodIn_of _ (by decide +kernel)) ggX5_setMark_X5_isBasin
set_option maxRecDepth 20000 in
theorem ggX5_setMark_X5_isIn : GoodIn wsX5_setMark wsX5_isIn := goodIn_r _ [8] (by decide +kernel) (by decide +kernel)
set_option maxRecDepth 20000 in
theorem gX5_setMark_X5_isIn : GoodIn wsX5_setMark (va_wsS RX5 78 yX5_isIn wsX5_isIn) := goodIn_app (goodIn_of _ (by decide +kernel)) ggX5_setMark_X5_isIn
set_option maxRecDepth 20000 in
theorem ggX5_setMark_X5_can : GoodIn wsX5_setMark wsX5_can := goodIn_r _ [12, 13, 14, 15, 16, 17, 18, 19, 20, 21, 22, 23, 24, 25, 26, 27, 28, 29, 30, 31, 32, 33, 34, 35, 36, 37, 38, 39] (by decide +kernel) (by decide +kernel)
set_option maxRecDepth 20000 in
theorem gX5_setMark_X5_can : GoodIn wsX5_setMark (wsV RX5 92 RX5 yX5_can wsX5_can) := goodIn_app (goodIn_of _ (by decide +kernel)) ggX5_setMark_X5_can
theorem dX5_setMark_0 : decode cX5_setMark 0 = .ok (.aload_n 0, 1) := by decide +kernel
theorem dX5_setMark_1 : decode cX5_setMark 1 = .ok (.iload_n 1, 1) := by decide +kernel
theorem dX5_setMark_2 : decode cX5_setMark 2 = .ok (.invokestatic 88, 3) := by decide +kernel
theorem dX5_setMark_5 : decode cX5_setMark 5 = .ok (.ifCond .ne 7, 3) := by decide +kernel
theorem dX5_setMark_8 : decode cX5_setMark 8 = .ok (.iconst 1, 1) := by decide +kernel
theorem dX5_setMark_9 : decode cX5_setMark 9 = .ok (.goto 18, 3) := by decide +kernel
theorem dX5_setMark_12 : decode cX5_setMark 12 = .ok (.iload_n 2, 1) := by decide +kernel
theorem dX5_setMark_13 : decode cX5_setMark 13 = .ok (.iconst 1, 1) := by decide +kernel
theorem dX5_setMark_14 : decode cX5_setMark 14 = .ok (.bipush 6, 2) := by decide +kernel
theorem dX5_setMark_16 : decode cX5_setMark 16 = .ok (.invokestatic 78, 3) := by decide +kernel
theorem dX5_setMark_19 : decode cX5_setMark 19 = .ok (.ifCond .eq 7, 3) := by decide +kernel
theorem dX5_setMark_22 : decode cX5_setMark 22 = .ok (.iconst 0, 1) := by decide +kernel
theorem dX5_setMark_23 : decode cX5_setMark 23 = .ok (.goto 4, 3) := by decide +kernel
theorem dX5_setMark_26 : decode cX5_setMark 26 = .ok (.iconst 2, 1) := by decide +kernel
theorem dX5_setMark_27 : decode cX5_setMark 27 = .ok (.invokevirtual 92, 3) := by decide +kernel
theorem dX5_setMark_30 : decode cX5_setMark 30 = .ok (.ifCond .ne 5, 3) := by decide +kernel
theorem dX5_setMark_33 : decode cX5_setMark 33 = .ok (.iconst 0, 1) := by decide +kernel
theorem dX5_setMark_34 : decode cX5_setMark 34 = .ok (.ireturn, 1) := by decide +kernel
theorem dX5_setMark_35 : decode cX5_setMark 35 = .ok (.aload_n 0, 1) := by decide +kernel
theorem dX5_setMark_36 : decode cX5_setMark 36 = .ok (.getfield 13, 3) := by decide +kernel
theorem dX5_setMark_39 : decode cX5_setMark 39 = .ok (.iload_n 1, 1) := by decide +kernel
theorem dX5_setMark_40 : decode cX5_setMark 40 = .ok (.iaload, 1) := by decide +kernel
theorem dX5_setMark_41 : decode cX5_setMark 41 = .ok (.istore_n 3, 1) := by decide +kernel
theorem dX5_setMark_42 : decode cX5_setMark 42 = .ok (.aload_n 0, 1) := by decide +kernel
theorem dX5_setMark_43 : decode cX5_setMark 43 = .ok (.getfield 13, 3) := by decide +kernel
theorem dX5_setMark_46 : decode cX5_setMark 46 = .ok (.iload_n 1, 1) := by decide +kernel
theorem dX5_setMark_47 : decode cX5_setMark 47 = .ok (.iload_n 2, 1) := by decide +kernel
theorem dX5_setMark_48 : decode cX5_setMark 48 = .ok (.iastore, 1) := by decide +kernel
theorem dX5_setMark_49 : decode cX5_setMark 49 = .ok (.iload_n 3, 1) := by decide +kernel
theorem dX5_setMark_50 : decode cX5_setMark 50 = .ok (.ireturn, 1) := by decide +kernel
theorem dX5_pours_0 : decode cX5_pours 0 = .ok (.aload_n 0, 1) := by decide +kernel
theorem dX5_pours_1 : decode cX5_pours 1 = .ok (.getfield 7, 3) := by decide +kernel
theorem dX5_pours_4 : decode cX5_pours 4 = .ok (.iload_n 1, 1) := by decide +kernel
theorem dX5_pours_5 : decode cX5_pours 5 = .ok (.iaload, 1) := by decide +kernel
theorem dX5_pours_6 : decode cX5_pours 6 = .ok (.iload_n 2, 1) := by decide +kernel
theorem dX5_pours_7 : decode cX5_pours 7 = .ok (.iadd, 1) := by decide +kernel
theorem dX5_pours_8 : decode cX5_pours 8 = .ok (.istore_n 3, 1) := by decide +kernel
theorem dX5_pours_9 : decode cX5_pours 9 = .ok (.aload_n 0, 1) := by decide +kernel
theorem dX5_pours_10 : decode cX5_pours 10 = .ok (.dup, 1) := by decide +kernel
theorem dX5_pours_11 : decode cX5_pours 11 = .ok (.getfield 98, 3) := by decide +kernel
theorem dX5_pours_14 : decode cX5_pours 14 = .ok (.iload_n 3, 1) := by decide +kernel
theorem dX5_pours_15 : decode cX5_pours 15 = .ok (.sipush 200, 3) := by decide +kernel
theorem dX5_pours_18 : decode cX5_pours 18 = .ok (.if_icmp .le 11, 3) := by decide +kernel
theorem dX5_pours_21 : decode cX5_pours 21 = .ok (.iload_n 3, 1) := by decide +kernel
theorem dX5_pours_22 : decode cX5_pours 22 = .ok (.sipush 200, 3) := by decide +kernel
theorem dX5_pours_25 : decode cX5_pours 25 = .ok (.isub, 1) := by decide +kernel
theorem dX5_pours_26 : decode cX5_pours 26 = .ok (.goto 4, 3) := by decide +kernel
theorem dX5_pours_29 : decode cX5_pours 29 = .ok (.iconst 0, 1) := by decide +kernel
theorem dX5_pours_30 : decode cX5_pours 30 = .ok (.iadd, 1) := by decide +kernel
theorem dX5_pours_31 : decode cX5_pours 31 = .ok (.putfield 98, 3) := by decide +kernel
theorem dX5_pours_34 : decode cX5_pours 34 = .ok (.aload_n 0, 1) := by decide +kernel
theorem dX5_pours_35 : decode cX5_pours 35 = .ok (.getfield 7, 3) := by decide +kernel
theorem dX5_pours_38 : decode cX5_pours 38 = .ok (.iload_n 1, 1) := by decide +kernel
theorem dX5_pours_39 : decode cX5_pours 39 = .ok (.iload_n 3, 1) := by decide +kernel
theorem dX5_pours_40 : decode cX5_pours 40 = .ok (.sipush 200, 3) := by decide +kernel
theorem dX5_pours_43 : decode cX5_pours 43 = .ok (.if_icmp .le 9, 3) := by decide +kernel
theorem dX5_pours_46 : decode cX5_pours 46 = .ok (.sipush 200, 3) := by decide +kernel
theorem dX5_pours_49 : decode cX5_pours 49 = .ok (.goto 4, 3) := by decide +kernel
theorem dX5_pours_52 : decode cX5_pours 52 = .ok (.iload_n 3, 1) := by decide +kernel
theorem dX5_pours_53 : decode cX5_pours 53 = .ok (.iastore, 1) := by decide +kernel
theorem dX5_pours_54 : decode cX5_pours 54 = .ok (.return_, 1) := by decide +kernel
set_option maxRecDepth 20000 in
theorem ggX5_rain_X5_isBasin : GoodIn wsX5_rain wsX5_isBasin := goodIn_r _ [5, 6, 7, 4, 8] (by decide +kernel) (by decide +kernel)
set_option maxRecDepth 20000 in
theorem gX5_rain_X5_isBasin : GoodIn wsX5_rain (va_wsS RX5 88 yX5_isBasin wsX5_isBasin) := goodIn_app (goodIn_of _ (by decide +kernel)) ggX5_rain_X5_isBasin
set_option maxRecDepth 20000 in
theorem ggX5_rain_X5_isIn : GoodIn wsX5_rain wsX5_isIn := goodIn_r _ [8] (by decide +kernel) (by decide +kernel)
set_option maxRecDepth 20000 in
theorem gX5_rain_X5_isIn : GoodIn wsX5_rain (va_wsS RX5 78 yX5_isIn wsX5_isIn) := goodIn_app (goodIn_of _ (by decide +kernel)) ggX5_rain_X5_isIn
set_option maxRecDepth 20000 in
theorem ggX5_rain_X5_can : GoodIn wsX5_rain wsX5_can := goodIn_r _ [12, 13, 19, 20, 21, 22, 23, 24, 25, 26, 27, 28, 29, 30, 31, 32, 33, 34, 35, 36, 37, 38, 39, 40, 41, 42, 43, 44] (by decide +kernel) (by decide +kernel)
set_option maxRecDepth 20000 in
theorem gX5_rain_X5_can : GoodIn wsX5_rain (wsV RX5 92 RX5 yX5_can wsX5_can) := goodIn_app (goodIn_of _ (by decide +kernel)) ggX5_rain_X5_can
set_option maxRecDepth 20000 in
theorem ggX5_rain_X5_pours : GoodIn wsX5_rain wsX5_pours := goodIn_r _ [17, 1, 18, 19, 20, 21, 22, 23, 24, 25, 26, 27, 28, 29, 30, 31, 32, 33, 34, 35, 36, 37, 38, 39, 40, 41, 42, 43, 44] (by decide +kernel) (by decide +kernel)
set_option maxRecDepth 20000 in
theorem gX5_rain_X5_pours : GoodIn wsX5_rain (wsV RX5 101 RX5 yX5_pours wsX5_pours) := goodIn_app (goodIn_of _ (by decide +kernel)) ggX5_rain_X5_pours
theorem dX5_rain_0 : decode cX5_rain 0 = .ok (.aload_n 0, 1) := by decide +kernel
theorem dX5_rain_1 : decode cX5_rain 1 = .ok (.iload_n 1, 1) := by decide +kernel
theorem dX5_rain_2 : decode cX5_rain 2 = .ok (.invokestatic 88, 3) := by decide +kernel
theorem dX5_rain_5 : decode cX5_rain 5 = .ok (.ifCond .ne 7, 3) := by decide +kernel
theorem dX5_rain_8 : decode cX5_rain 8 = .ok (.iconst 1, 1) := by decide +kernel
theorem dX5_rain_9 : decode cX5_rain 9 = .ok (.goto 19, 3) := by decide +kernel
theorem dX5_rain_12 : decode cX5_rain 12 = .ok (.iload_n 2, 1) := by decide +kernel
theorem dX5_rain_13 : decode cX5_rain 13 = .ok (.iconst 1, 1) := by decide +kernel
theorem dX5_rain_14 : decode cX5_rain 14 = .ok (.sipush 200, 3) := by decide +kernel
theorem dX5_rain_17 : decode cX5_rain 17 = .ok (.invokestatic 78, 3) := by decide +kernel
theorem dX5_rain_20 : decode cX5_rain 20 = .ok (.ifCond .eq 7, 3) := by decide +kernel
theorem dX5_rain_23 : decode cX5_rain 23 = .ok (.iconst 0, 1) := by decide +kernel
theorem dX5_rain_24 : decode cX5_rain 24 = .ok (.goto 4, 3) := by decide +kernel
theorem dX5_rain_27 : decode cX5_rain 27 = .ok (.iconst 2, 1) := by decide +kernel
theorem dX5_rain_28 : decode cX5_rain 28 = .ok (.invokevirtual 92, 3) := by decide +kernel
theorem dX5_rain_31 : decode cX5_rain 31 = .ok (.ifCond .ne 5, 3) := by decide +kernel
theorem dX5_rain_34 : decode cX5_rain 34 = .ok (.iconst 0, 1) := by decide +kernel
theorem dX5_rain_35 : decode cX5_rain 35 = .ok (.ireturn, 1) := by decide +kernel
theorem dX5_rain_36 : decode cX5_rain 36 = .ok (.aload_n 0, 1) := by decide +kernel
theorem dX5_rain_37 : decode cX5_rain 37 = .ok (.iload_n 1, 1) := by decide +kernel
theorem dX5_rain_38 : decode cX5_rain 38 = .ok (.iload_n 2, 1) := by decide +kernel
theorem dX5_rain_39 : decode cX5_rain 39 = .ok (.invokevirtual 101, 3) := by decide +kernel
theorem dX5_rain_42 : decode cX5_rain 42 = .ok (.aload_n 0, 1) := by decide +kernel
theorem dX5_rain_43 : decode cX5_rain 43 = .ok (.getfield 7, 3) := by decide +kernel
theorem dX5_rain_46 : decode cX5_rain 46 = .ok (.iload_n 1, 1) := by decide +kernel
theorem dX5_rain_47 : decode cX5_rain 47 = .ok (.iaload, 1) := by decide +kernel
theorem dX5_rain_48 : decode cX5_rain 48 = .ok (.ireturn, 1) := by decide +kernel
set_option maxRecDepth 20000 in
theorem ggX5_dry_X5_isIn : GoodIn wsX5_dry wsX5_isIn := goodIn_r _ [5] (by decide +kernel) (by decide +kernel)
set_option maxRecDepth 20000 in
theorem gX5_dry_X5_isIn : GoodIn wsX5_dry (va_wsS RX5 78 yX5_isIn wsX5_isIn) := goodIn_app (goodIn_of _ (by decide +kernel)) ggX5_dry_X5_isIn
set_option maxRecDepth 20000 in
theorem ggX5_dry_X5_can : GoodIn wsX5_dry wsX5_can := goodIn_r _ [9, 10, 11, 12, 13, 14, 15, 16, 17, 18, 19, 20, 21, 22, 23, 24, 25, 26, 27, 28, 29, 30, 31, 32, 33, 34, 35, 36] (by decide +kernel) (by decide +kernel)
set_option maxRecDepth 20000 in
theorem gX5_dry_X5_can : GoodIn wsX5_dry (wsV RX5 92 RX5 yX5_can wsX5_can) := goodIn_app (goodIn_of _ (by decide +kernel)) ggX5_dry_X5_can
theorem dX5_dry_0 : decode cX5_dry 0 = .ok (.aload_n 0, 1) := by decide +kernel
theorem dX5_dry_1 : decode cX5_dry 1 = .ok (.iload_n 1, 1) := by decide +kernel
theorem dX5_dry_2 : decode cX5_dry 2 = .ok (.iconst 1, 1) := by decide +kernel
theorem dX5_dry_3 : decode cX5_dry 3 = .ok (.bipush 50, 2) := by decide +kernel
theorem dX5_dry_5 : decode cX5_dry 5 = .ok (.invokestatic 78, 3) := by decide +kernel
theorem dX5_dry_8 : decode cX5_dry 8 = .ok (.ifCond .eq 7, 3) := by decide +kernel
theorem dX5_dry_11 : decode cX5_dry 11 = .ok (.iconst 0, 1) := by decide +kernel
theorem dX5_dry_12 : decode cX5_dry 12 = .ok (.goto 4, 3) := by decide +kernel
theorem dX5_dry_15 : decode cX5_dry 15 = .ok (.iconst 1, 1) := by decide +kernel
theorem dX5_dry_16 : decode cX5_dry 16 = .ok (.invokevirtual 92, 3) := by decide +kernel
theorem dX5_dry_19 : decode cX5_dry 19 = .ok (.ifCond .ne 5, 3) := by decide +kernel
theorem dX5_dry_22 : decode cX5_dry 22 = .ok (.iconst 0, 1) := by decide +kernel
theorem dX5_dry_23 : decode cX5_dry 23 = .ok (.ireturn, 1) := by decide +kernel
theorem dX5_dry_24 : decode cX5_dry 24 = .ok (.iconst 0, 1) := by decide +kernel
theorem dX5_dry_25 : decode cX5_dry 25 = .ok (.istore_n 2, 1) := by decide +kernel
theorem dX5_dry_26 : decode cX5_dry 26 = .ok (.iconst 0, 1) := by decide +kernel
theorem dX5_dry_27 : decode cX5_dry 27 = .ok (.istore_n 3, 1) := by decide +kernel
theorem dX5_dry_28 : decode cX5_dry 28 = .ok (.iload_n 3, 1) := by decide +kernel
theorem dX5_dry_29 : decode cX5_dry 29 = .ok (.bipush 8, 2) := by decide +kernel
theorem dX5_dry_31 : decode cX5_dry 31 = .ok (.if_icmp .ge 58, 3) := by decide +kernel
theorem dX5_dry_34 : decode cX5_dry 34 = .ok (.aload_n 0, 1) := by decide +kernel
theorem dX5_dry_35 : decode cX5_dry 35 = .ok (.getfield 7, 3) := by decide +kernel
theorem dX5_dry_38 : decode cX5_dry 38 = .ok (.iload_n 3, 1) := by decide +kernel
theorem dX5_dry_39 : decode cX5_dry 39 = .ok (.iaload, 1) := by decide +kernel
theorem dX5_dry_40 : decode cX5_dry 40 = .ok (.iconst 3, 1) := by decide +kernel
theorem dX5_dry_41 : decode cX5_dry 41 = .ok (.iload_n 1, 1) := by decide +kernel
theorem dX5_dry_42 : decode cX5_dry 42 = .ok (.imul, 1) := by decide +kernel
theorem dX5_dry_43 : decode cX5_dry 43 = .ok (.isub, 1) := by decide +kernel
theorem dX5_dry_44 : decode cX5_dry 44 = .ok (.istore 4, 2) := by decide +kernel
theorem dX5_dry_46 : decode cX5_dry 46 = .ok (.aload_n 0, 1) := by decide +kernel
theorem dX5_dry_47 : decode cX5_dry 47 = .ok (.getfield 7, 3) := by decide +kernel
theorem dX5_dry_50 : decode cX5_dry 50 = .ok (.iload_n 3, 1) := by decide +kernel
theorem dX5_dry_51 : decode cX5_dry 51 = .ok (.iload 4, 2) := by decide +kernel
theorem dX5_dry_53 : decode cX5_dry 53 = .ok (.iconst 5, 1) := by decide +kernel
theorem dX5_dry_54 : decode cX5_dry 54 = .ok (.if_icmp .ge 7, 3) := by decide +kernel
theorem dX5_dry_57 : decode cX5_dry 57 = .ok (.iconst 5, 1) := by decide +kernel
theorem dX5_dry_58 : decode cX5_dry 58 = .ok (.goto 5, 3) := by decide +kernel
theorem dX5_dry_61 : decode cX5_dry 61 = .ok (.iload 4, 2) := by decide +kernel
theorem dX5_dry_63 : decode cX5_dry 63 = .ok (.iastore, 1) := by decide +kernel
theorem dX5_dry_64 : decode cX5_dry 64 = .ok (.iload_n 2, 1) := by decide +kernel
theorem dX5_dry_65 : decode cX5_dry 65 = .ok (.aload_n 0, 1) := by decide +kernel
theorem dX5_dry_66 : decode cX5_dry 66 = .ok (.getfield 7, 3) := by decide +kernel
theorem dX5_dry_69 : decode cX5_dry 69 = .ok (.iload_n 3, 1) := by decide +kernel
theorem dX5_dry_70 : decode cX5_dry 70 = .ok (.iaload, 1) := by decide +kernel
theorem dX5_dry_71 : decode cX5_dry 71 = .ok (.bipush 30, 2) := by decide +kernel
theorem dX5_dry_73 : decode cX5_dry 73 = .ok (.if_icmp .ge 7, 3) := by decide +kernel
theorem dX5_dry_76 : decode cX5_dry 76 = .ok (.iconst 1, 1) := by decide +kernel
theorem dX5_dry_77 : decode cX5_dry 77 = .ok (.goto 4, 3) := by decide +kernel
theorem dX5_dry_80 : decode cX5_dry 80 = .ok (.iconst 0, 1) := by decide +kernel
theorem dX5_dry_81 : decode cX5_dry 81 = .ok (.iadd, 1) := by decide +kernel
theorem dX5_dry_82 : decode cX5_dry 82 = .ok (.istore_n 2, 1) := by decide +kernel
theorem dX5_dry_83 : decode cX5_dry 83 = .ok (.iinc 3 1, 3) := by decide +kernel
theorem dX5_dry_86 : decode cX5_dry 86 = .ok (.goto (-58), 3) := by decide +kernel
theorem dX5_dry_89 : decode cX5_dry 89 = .ok (.iload_n 2, 1) := by decide +kernel
theorem dX5_dry_90 : decode cX5_dry 90 = .ok (.ireturn, 1) := by decide +kernel
theorem dX5_dearer_0 : decode cX5_dearer 0 = .ok (.aload_n 0, 1) := by decide +kernel
theorem dX5_dearer_1 : decode cX5_dearer 1 = .ok (.getfield 7, 3) := by decide +kernel
theorem dX5_dearer_4 : decode cX5_dearer 4 = .ok (.iload_n 1, 1) := by decide +kernel
theorem dX5_dearer_5 : decode cX5_dearer 5 = .ok (.iaload, 1) := by decide +kernel
theorem dX5_dearer_6 : decode cX5_dearer 6 = .ok (.bipush 30, 2) := by decide +kernel
theorem dX5_dearer_8 : decode cX5_dearer 8 = .ok (.if_icmp .ge 7, 3) := by decide +kernel
theorem dX5_dearer_11 : decode cX5_dearer 11 = .ok (.iconst 5, 1) := by decide +kernel
theorem dX5_dearer_12 : decode cX5_dearer 12 = .ok (.goto 4, 3) := by decide +kernel
theorem dX5_dearer_15 : decode cX5_dearer 15 = .ok (.iconst 0, 1) := by decide +kernel
theorem dX5_dearer_16 : decode cX5_dearer 16 = .ok (.aload_n 0, 1) := by decide +kernel
theorem dX5_dearer_17 : decode cX5_dearer 17 = .ok (.getfield 7, 3) := by decide +kernel
theorem dX5_dearer_20 : decode cX5_dearer 20 = .ok (.iload_n 1, 1) := by decide +kernel
theorem dX5_dearer_21 : decode cX5_dearer 21 = .ok (.iaload, 1) := by decide +kernel
theorem dX5_dearer_22 : decode cX5_dearer 22 = .ok (.bipush 15, 2) := by decide +kernel
theorem dX5_dearer_24 : decode cX5_dearer 24 = .ok (.if_icmp .ge 7, 3) := by decide +kernel
theorem dX5_dearer_27 : decode cX5_dearer 27 = .ok (.iconst 5, 1) := by decide +kernel
theorem dX5_dearer_28 : decode cX5_dearer 28 = .ok (.goto 4, 3) := by decide +kernel
theorem dX5_dearer_31 : decode cX5_dearer 31 = .ok (.iconst 0, 1) := by decide +kernel
theorem dX5_dearer_32 : decode cX5_dearer 32 = .ok (.iadd, 1) := by decide +kernel
theorem dX5_dearer_33 : decode cX5_dearer 33 = .ok (.ireturn, 1) := by decide +kernel
set_option maxRecDepth 20000 in
theorem ggX5_costOf_X5_dearer : GoodIn wsX5_costOf wsX5_dearer := goodIn_r _ [8, 9, 10, 11, 12, 13, 14, 15, 16, 17, 18, 19, 20, 21, 22, 23, 24, 25, 26, 27, 28, 29, 30, 31, 32, 33, 34, 35] (by decide +kernel) (by decide +kernel)
set_option maxRecDepth 20000 in
theorem gX5_costOf_X5_dearer : GoodIn wsX5_costOf (wsV RX5 105 RX5 yX5_dearer wsX5_dearer) := goodIn_app (goodIn_of _ (by decide +kernel)) ggX5_costOf_X5_dearer
theorem dX5_costOf_0 : decode cX5_costOf 0 = .ok (.aload_n 0, 1) := by decide +kernel
theorem dX5_costOf_1 : decode cX5_costOf 1 = .ok (.getfield 28, 3) := by decide +kernel
theorem dX5_costOf_4 : decode cX5_costOf 4 = .ok (.iload_n 1, 1) := by decide +kernel
theorem dX5_costOf_5 : decode cX5_costOf 5 = .ok (.iaload, 1) := by decide +kernel
theorem dX5_costOf_6 : decode cX5_costOf 6 = .ok (.aload_n 0, 1) := by decide +kernel
theorem dX5_costOf_7 : decode cX5_costOf 7 = .ok (.aload_n 0, 1) := by decide +kernel
theorem dX5_costOf_8 : decode cX5_costOf 8 = .ok (.getfield 22, 3) := by decide +kernel
theorem dX5_costOf_11 : decode cX5_costOf 11 = .ok (.iload_n 1, 1) := by decide +kernel
theorem dX5_costOf_12 : decode cX5_costOf 12 = .ok (.iaload, 1) := by decide +kernel
theorem dX5_costOf_13 : decode cX5_costOf 13 = .ok (.invokevirtual 105, 3) := by decide +kernel
theorem dX5_costOf_16 : decode cX5_costOf 16 = .ok (.iadd, 1) := by decide +kernel
theorem dX5_costOf_17 : decode cX5_costOf 17 = .ok (.aload_n 0, 1) := by decide +kernel
theorem dX5_costOf_18 : decode cX5_costOf 18 = .ok (.aload_n 0, 1) := by decide +kernel
theorem dX5_costOf_19 : decode cX5_costOf 19 = .ok (.getfield 25, 3) := by decide +kernel
theorem dX5_costOf_22 : decode cX5_costOf 22 = .ok (.iload_n 1, 1) := by decide +kernel
theorem dX5_costOf_23 : decode cX5_costOf 23 = .ok (.iaload, 1) := by decide +kernel
theorem dX5_costOf_24 : decode cX5_costOf 24 = .ok (.invokevirtual 105, 3) := by decide +kernel
theorem dX5_costOf_27 : decode cX5_costOf 27 = .ok (.iadd, 1) := by decide +kernel
theorem dX5_costOf_28 : decode cX5_costOf 28 = .ok (.ireturn, 1) := by decide +kernel
theorem dX5_goes_0 : decode cX5_goes 0 = .ok (.aload_n 0, 1) := by decide +kernel
theorem dX5_goes_1 : decode cX5_goes 1 = .ok (.getfield 34, 3) := by decide +kernel
theorem dX5_goes_4 : decode cX5_goes 4 = .ok (.iload_n 1, 1) := by decide +kernel
theorem dX5_goes_5 : decode cX5_goes 5 = .ok (.baload, 1) := by decide +kernel
theorem dX5_goes_6 : decode cX5_goes 6 = .ok (.ifCond .eq 29, 3) := by decide +kernel
theorem dX5_goes_9 : decode cX5_goes 9 = .ok (.aload_n 0, 1) := by decide +kernel
theorem dX5_goes_10 : decode cX5_goes 10 = .ok (.getfield 7, 3) := by decide +kernel
theorem dX5_goes_13 : decode cX5_goes 13 = .ok (.aload_n 0, 1) := by decide +kernel
theorem dX5_goes_14 : decode cX5_goes 14 = .ok (.getfield 22, 3) := by decide +kernel
theorem dX5_goes_17 : decode cX5_goes 17 = .ok (.iload_n 1, 1) := by decide +kernel
theorem dX5_goes_18 : decode cX5_goes 18 = .ok (.iaload, 1) := by decide +kernel
theorem dX5_goes_19 : decode cX5_goes 19 = .ok (.iaload, 1) := by decide +kernel
theorem dX5_goes_20 : decode cX5_goes 20 = .ok (.aload_n 0, 1) := by decide +kernel
theorem dX5_goes_21 : decode cX5_goes 21 = .ok (.getfield 31, 3) := by decide +kernel
theorem dX5_goes_24 : decode cX5_goes 24 = .ok (.iload_n 1, 1) := by decide +kernel
theorem dX5_goes_25 : decode cX5_goes 25 = .ok (.iaload, 1) := by decide +kernel
theorem dX5_goes_26 : decode cX5_goes 26 = .ok (.iconst 5, 1) := by decide +kernel
theorem dX5_goes_27 : decode cX5_goes 27 = .ok (.iadd, 1) := by decide +kernel
theorem dX5_goes_28 : decode cX5_goes 28 = .ok (.if_icmp .lt 7, 3) := by decide +kernel
theorem dX5_goes_31 : decode cX5_goes 31 = .ok (.iconst 1, 1) := by decide +kernel
theorem dX5_goes_32 : decode cX5_goes 32 = .ok (.goto 4, 3) := by decide +kernel
theorem dX5_goes_35 : decode cX5_goes 35 = .ok (.iconst 0, 1) := by decide +kernel
theorem dX5_goes_36 : decode cX5_goes 36 = .ok (.ireturn, 1) := by decide +kernel
theorem dX5_isAt_0 : decode cX5_isAt 0 = .ok (.aload_n 0, 1) := by decide +kernel
theorem dX5_isAt_1 : decode cX5_isAt 1 = .ok (.getfield 22, 3) := by decide +kernel
theorem dX5_isAt_4 : decode cX5_isAt 4 = .ok (.iload_n 1, 1) := by decide +kernel
theorem dX5_isAt_5 : decode cX5_isAt 5 = .ok (.iaload, 1) := by decide +kernel
theorem dX5_isAt_6 : decode cX5_isAt 6 = .ok (.iload_n 2, 1) := by decide +kernel
theorem dX5_isAt_7 : decode cX5_isAt 7 = .ok (.if_icmp .eq 13, 3) := by decide +kernel
theorem dX5_isAt_10 : decode cX5_isAt 10 = .ok (.aload_n 0, 1) := by decide +kernel
theorem dX5_isAt_11 : decode cX5_isAt 11 = .ok (.getfield 25, 3) := by decide +kernel
theorem dX5_isAt_14 : decode cX5_isAt 14 = .ok (.iload_n 1, 1) := by decide +kernel
theorem dX5_isAt_15 : decode cX5_isAt 15 = .ok (.iaload, 1) := by decide +kernel
theorem dX5_isAt_16 : decode cX5_isAt 16 = .ok (.iload_n 2, 1) := by decide +kernel
theorem dX5_isAt_17 : decode cX5_isAt 17 = .ok (.if_icmp .ne 7, 3) := by decide +kernel
theorem dX5_isAt_20 : decode cX5_isAt 20 = .ok (.iconst 1, 1) := by decide +kernel
theorem dX5_isAt_21 : decode cX5_isAt 21 = .ok (.goto 4, 3) := by decide +kernel
theorem dX5_isAt_24 : decode cX5_isAt 24 = .ok (.iconst 0, 1) := by decide +kernel
theorem dX5_isAt_25 : decode cX5_isAt 25 = .ok (.ireturn, 1) := by decide +kernel
theorem dX5_beyond_0 : decode cX5_beyond 0 = .ok (.aload_n 0, 1) := by decide +kernel
theorem dX5_beyond_1 : decode cX5_beyond 1 = .ok (.getfield 22, 3) := by decide +kernel
theorem dX5_beyond_4 : decode cX5_beyond 4 = .ok (.iload_n 1, 1) := by decide +kernel
theorem dX5_beyond_5 : decode cX5_beyond 5 = .ok (.iaload, 1) := by decide +kernel
theorem dX5_beyond_6 : decode cX5_beyond 6 = .ok (.iload_n 2, 1) := by decide +kernel
theorem dX5_beyond_7 : decode cX5_beyond 7 = .ok (.if_icmp .ne 12, 3) := by decide +kernel
theorem dX5_beyond_10 : decode cX5_beyond 10 = .ok (.aload_n 0, 1) := by decide +kernel
theorem dX5_beyond_11 : decode cX5_beyond 11 = .ok (.getfield 25, 3) := by decide +kernel
theorem dX5_beyond_14 : decode cX5_beyond 14 = .ok (.iload_n 1, 1) := by decide +kernel
theorem dX5_beyond_15 : decode cX5_beyond 15 = .ok (.iaload, 1) := by decide +kernel
theorem dX5_beyond_16 : decode cX5_beyond 16 = .ok (.goto 9, 3) := by decide +kernel
theorem dX5_beyond_19 : decode cX5_beyond 19 = .ok (.aload_n 0, 1) := by decide +kernel
theorem dX5_beyond_20 : decode cX5_beyond 20 = .ok (.getfield 22, 3) := by decide +kernel
theorem dX5_beyond_23 : decode cX5_beyond 23 = .ok (.iload_n 1, 1) := by decide +kernel
theorem dX5_beyond_24 : decode cX5_beyond 24 = .ok (.iaload, 1) := by decide +kernel
theorem dX5_beyond_25 : decode cX5_beyond 25 = .ok (.ireturn, 1) := by decide +kernel
set_option maxRecDepth 20000 in
theorem ggX5_looksOn_X5_isAt : GoodIn wsX5_looksOn wsX5_isAt := goodIn_r _ [11, 12, 13, 28, 29, 30, 31, 32, 33, 34, 35, 36, 37, 38, 39, 40, 41, 42, 43, 44, 45, 46, 47, 48, 49, 50, 51, 52, 53] (by decide +kernel) (by decide +kernel)
set_option maxRecDepth 20000 in
theorem gX5_looksOn_X5_isAt : GoodIn wsX5_looksOn (wsV RX5 109 RX5 yX5_isAt wsX5_isAt) := goodIn_app (goodIn_of _ (by decide +kernel)) ggX5_looksOn_X5_isAt
set_option maxRecDepth 20000 in
theorem ggX5_looksOn_X5_beyond : GoodIn wsX5_looksOn wsX5_beyond := goodIn_r _ [17, 12, 13, 28, 29, 30, 31, 32, 33, 34, 35, 36, 37, 38, 39, 40, 41, 42, 43, 44, 45, 46, 47, 48, 49, 50, 51, 52, 53] (by decide +kernel) (by decide +kernel)
set_option maxRecDepth 20000 in
theorem gX5_looksOn_X5_beyond : GoodIn wsX5_looksOn (wsV RX5 113 RX5 yX5_beyond wsX5_beyond) := goodIn_app (goodIn_of _ (by decide +kernel)) ggX5_looksOn_X5_beyond
set_option maxRecDepth 20000 in
theorem ggX5_looksOn_X5_costOf : GoodIn wsX5_looksOn wsX5_costOf := goodIn_r _ [21, 22, 12, 13, 23, 24, 25, 10, 26, 27, 28, 29, 30, 31, 32, 33, 34, 35, 36, 37, 38, 39, 40, 41, 42, 43, 44, 45, 46, 47, 48, 49, 50, 51, 52, 53] (by decide +kernel) (by decide +kernel)
set_option maxRecDepth 20000 in
theorem gX5_looksOn_X5_costOf : GoodIn wsX5_looksOn (wsV RX5 117 RX5 yX5_costOf wsX5_costOf) := goodIn_app (goodIn_of _ (by decide +kernel)) ggX5_looksOn_X5_costOf
theorem dX5_looksOn_0 : decode cX5_looksOn 0 = .ok (.iconst 0, 1) := by decide +kernel
theorem dX5_looksOn_1 : decode cX5_looksOn 1 = .ok (.istore_n 1, 1) := by decide +kernel
theorem dX5_looksOn_2 : decode cX5_looksOn 2 = .ok (.iconst 0, 1) := by decide +kernel
theorem dX5_looksOn_3 : decode cX5_looksOn 3 = .ok (.istore_n 2, 1) := by decide +kernel
theorem dX5_looksOn_4 : decode cX5_looksOn 4 = .ok (.iload_n 2, 1) := by decide +kernel
theorem dX5_looksOn_5 : decode cX5_looksOn 5 = .ok (.bipush 64, 2) := by decide +kernel
theorem dX5_looksOn_7 : decode cX5_looksOn 7 = .ok (.if_icmp .ge 223, 3) := by decide +kernel
theorem dX5_looksOn_10 : decode cX5_looksOn 10 = .ok (.iload_n 2, 1) := by decide +kernel
theorem dX5_looksOn_11 : decode cX5_looksOn 11 = .ok (.bipush 8, 2) := by decide +kernel
theorem dX5_looksOn_13 : decode cX5_looksOn 13 = .ok (.idiv, 1) := by decide +kernel
theorem dX5_looksOn_14 : decode cX5_looksOn 14 = .ok (.istore_n 3, 1) := by decide +kernel
theorem dX5_looksOn_15 : decode cX5_looksOn 15 = .ok (.iload_n 2, 1) := by decide +kernel
theorem dX5_looksOn_16 : decode cX5_looksOn 16 = .ok (.bipush 8, 2) := by decide +kernel
theorem dX5_looksOn_18 : decode cX5_looksOn 18 = .ok (.irem, 1) := by decide +kernel
theorem dX5_looksOn_19 : decode cX5_looksOn 19 = .ok (.istore 4, 2) := by decide +kernel
theorem dX5_looksOn_21 : decode cX5_looksOn 21 = .ok (.aload_n 0, 1) := by decide +kernel
theorem dX5_looksOn_22 : decode cX5_looksOn 22 = .ok (.getfield 44, 3) := by decide +kernel
theorem dX5_looksOn_25 : decode cX5_looksOn 25 = .ok (.iload_n 2, 1) := by decide +kernel
theorem dX5_looksOn_26 : decode cX5_looksOn 26 = .ok (.iload_n 3, 1) := by decide +kernel
theorem dX5_looksOn_27 : decode cX5_looksOn 27 = .ok (.iload 4, 2) := by decide +kernel
theorem dX5_looksOn_29 : decode cX5_looksOn 29 = .ok (.if_icmp .ne 7, 3) := by decide +kernel
theorem dX5_looksOn_32 : decode cX5_looksOn 32 = .ok (.iconst 0, 1) := by decide +kernel
theorem dX5_looksOn_33 : decode cX5_looksOn 33 = .ok (.goto 4, 3) := by decide +kernel
theorem dX5_looksOn_36 : decode cX5_looksOn 36 = .ok (.iconst (-1), 1) := by decide +kernel
theorem dX5_looksOn_37 : decode cX5_looksOn 37 = .ok (.iastore, 1) := by decide +kernel
theorem dX5_looksOn_38 : decode cX5_looksOn 38 = .ok (.aload_n 0, 1) := by decide +kernel
theorem dX5_looksOn_39 : decode cX5_looksOn 39 = .ok (.getfield 47, 3) := by decide +kernel
theorem dX5_looksOn_42 : decode cX5_looksOn 42 = .ok (.iload_n 2, 1) := by decide +kernel
theorem dX5_looksOn_43 : decode cX5_looksOn 43 = .ok (.iconst (-1), 1) := by decide +kernel
theorem dX5_looksOn_44 : decode cX5_looksOn 44 = .ok (.iastore, 1) := by decide +kernel
theorem dX5_looksOn_45 : decode cX5_looksOn 45 = .ok (.iconst 0, 1) := by decide +kernel
theorem dX5_looksOn_46 : decode cX5_looksOn 46 = .ok (.istore 5, 2) := by decide +kernel
theorem dX5_looksOn_48 : decode cX5_looksOn 48 = .ok (.iload 5, 2) := by decide +kernel
theorem dX5_looksOn_50 : decode cX5_looksOn 50 = .ok (.aload_n 0, 1) := by decide +kernel
theorem dX5_looksOn_51 : decode cX5_looksOn 51 = .ok (.getfield 82, 3) := by decide +kernel
theorem dX5_looksOn_54 : decode cX5_looksOn 54 = .ok (.if_icmp .ge 132, 3) := by decide +kernel
theorem dX5_looksOn_57 : decode cX5_looksOn 57 = .ok (.iload_n 3, 1) := by decide +kernel
theorem dX5_looksOn_58 : decode cX5_looksOn 58 = .ok (.iload 4, 2) := by decide +kernel
theorem dX5_looksOn_60 : decode cX5_looksOn 60 = .ok (.if_icmp .eq 126, 3) := by decide +kernel
theorem dX5_looksOn_63 : decode cX5_looksOn 63 = .ok (.aload_n 0, 1) := by decide +kernel
theorem dX5_looksOn_64 : decode cX5_looksOn 64 = .ok (.getfield 34, 3) := by decide +kernel
theorem dX5_looksOn_67 : decode cX5_looksOn 67 = .ok (.iload 5, 2) := by decide +kernel
theorem dX5_looksOn_69 : decode cX5_looksOn 69 = .ok (.baload, 1) := by decide +kernel
theorem dX5_looksOn_70 : decode cX5_looksOn 70 = .ok (.ifCond .eq 17, 3) := by decide +kernel
theorem dX5_looksOn_73 : decode cX5_looksOn 73 = .ok (.aload_n 0, 1) := by decide +kernel
theorem dX5_looksOn_74 : decode cX5_looksOn 74 = .ok (.iload 5, 2) := by decide +kernel
theorem dX5_looksOn_76 : decode cX5_looksOn 76 = .ok (.iload_n 3, 1) := by decide +kernel
theorem dX5_looksOn_77 : decode cX5_looksOn 77 = .ok (.invokevirtual 109, 3) := by decide +kernel
theorem dX5_looksOn_80 : decode cX5_looksOn 80 = .ok (.ifCond .eq 7, 3) := by decide +kernel
theorem dX5_looksOn_83 : decode cX5_looksOn 83 = .ok (.iconst 1, 1) := by decide +kernel
theorem dX5_looksOn_84 : decode cX5_looksOn 84 = .ok (.goto 4, 3) := by decide +kernel
theorem dX5_looksOn_87 : decode cX5_looksOn 87 = .ok (.iconst 0, 1) := by decide +kernel
theorem dX5_looksOn_88 : decode cX5_looksOn 88 = .ok (.istore 6, 2) := by decide +kernel
theorem dX5_looksOn_90 : decode cX5_looksOn 90 = .ok (.iload 6, 2) := by decide +kernel
theorem dX5_looksOn_92 : decode cX5_looksOn 92 = .ok (.ifCond .eq 24, 3) := by decide +kernel
theorem dX5_looksOn_95 : decode cX5_looksOn 95 = .ok (.aload_n 0, 1) := by decide +kernel
theorem dX5_looksOn_96 : decode cX5_looksOn 96 = .ok (.getfield 38, 3) := by decide +kernel
theorem dX5_looksOn_99 : decode cX5_looksOn 99 = .ok (.bipush 8, 2) := by decide +kernel
theorem dX5_looksOn_101 : decode cX5_looksOn 101 = .ok (.aload_n 0, 1) := by decide +kernel
theorem dX5_looksOn_102 : decode cX5_looksOn 102 = .ok (.iload 5, 2) := by decide +kernel
theorem dX5_looksOn_104 : decode cX5_looksOn 104 = .ok (.iload_n 3, 1) := by decide +kernel
theorem dX5_looksOn_105 : decode cX5_looksOn 105 = .ok (.invokevirtual 113, 3) := by decide +kernel
theorem dX5_looksOn_108 : decode cX5_looksOn 108 = .ok (.imul, 1) := by decide +kernel
theorem dX5_looksOn_109 : decode cX5_looksOn 109 = .ok (.iload 4, 2) := by decide +kernel
theorem dX5_looksOn_111 : decode cX5_looksOn 111 = .ok (.iadd, 1) := by decide +kernel
theorem dX5_looksOn_112 : decode cX5_looksOn 112 = .ok (.iaload, 1) := by decide +kernel
theorem dX5_looksOn_113 : decode cX5_looksOn 113 = .ok (.goto 4, 3) := by decide +kernel
theorem dX5_looksOn_116 : decode cX5_looksOn 116 = .ok (.iconst (-1), 1) := by decide +kernel
theorem dX5_looksOn_117 : decode cX5_looksOn 117 = .ok (.istore 7, 2) := by decide +kernel
theorem dX5_looksOn_119 : decode cX5_looksOn 119 = .ok (.iload 7, 2) := by decide +kernel
theorem dX5_looksOn_121 : decode cX5_looksOn 121 = .ok (.aload_n 0, 1) := by decide +kernel
theorem dX5_looksOn_122 : decode cX5_looksOn 122 = .ok (.iload 5, 2) := by decide +kernel
theorem dX5_looksOn_124 : decode cX5_looksOn 124 = .ok (.invokevirtual 117, 3) := by decide +kernel
theorem dX5_looksOn_127 : decode cX5_looksOn 127 = .ok (.iadd, 1) := by decide +kernel
theorem dX5_looksOn_128 : decode cX5_looksOn 128 = .ok (.istore 8, 2) := by decide +kernel
theorem dX5_looksOn_130 : decode cX5_looksOn 130 = .ok (.iload 7, 2) := by decide +kernel
theorem dX5_looksOn_132 : decode cX5_looksOn 132 = .ok (.iconst (-1), 1) := by decide +kernel
theorem dX5_looksOn_133 : decode cX5_looksOn 133 = .ok (.if_icmp .eq 47, 3) := by decide +kernel
theorem dX5_looksOn_136 : decode cX5_looksOn 136 = .ok (.iload 8, 2) := by decide +kernel
theorem dX5_looksOn_138 : decode cX5_looksOn 138 = .ok (.bipush 40, 2) := by decide +kernel
theorem dX5_looksOn_140 : decode cX5_looksOn 140 = .ok (.if_icmp .gt 40, 3) := by decide +kernel
theorem dX5_looksOn_143 : decode cX5_looksOn 143 = .ok (.aload_n 0, 1) := by decide +kernel
theorem dX5_looksOn_144 : decode cX5_looksOn 144 = .ok (.getfield 47, 3) := by decide +kernel
theorem dX5_looksOn_147 : decode cX5_looksOn 147 = .ok (.iload_n 2, 1) := by decide +kernel
theorem dX5_looksOn_148 : decode cX5_looksOn 148 = .ok (.iaload, 1) := by decide +kernel
theorem dX5_looksOn_149 : decode cX5_looksOn 149 = .ok (.iconst (-1), 1) := by decide +kernel
theorem dX5_looksOn_150 : decode cX5_looksOn 150 = .ok (.if_icmp .eq 14, 3) := by decide +kernel
theorem dX5_looksOn_153 : decode cX5_looksOn 153 = .ok (.iload 8, 2) := by decide +kernel
theorem dX5_looksOn_155 : decode cX5_looksOn 155 = .ok (.aload_n 0, 1) := by decide +kernel
theorem dX5_looksOn_156 : decode cX5_looksOn 156 = .ok (.getfield 44, 3) := by decide +kernel
theorem dX5_looksOn_159 : decode cX5_looksOn 159 = .ok (.iload_n 2, 1) := by decide +kernel
theorem dX5_looksOn_160 : decode cX5_looksOn 160 = .ok (.iaload, 1) := by decide +kernel
theorem dX5_looksOn_161 : decode cX5_looksOn 161 = .ok (.if_icmp .ge 19, 3) := by decide +kernel
theorem dX5_looksOn_164 : decode cX5_looksOn 164 = .ok (.aload_n 0, 1) := by decide +kernel
theorem dX5_looksOn_165 : decode cX5_looksOn 165 = .ok (.getfield 44, 3) := by decide +kernel
theorem dX5_looksOn_168 : decode cX5_looksOn 168 = .ok (.iload_n 2, 1) := by decide +kernel
theorem dX5_looksOn_169 : decode cX5_looksOn 169 = .ok (.iload 8, 2) := by decide +kernel
theorem dX5_looksOn_171 : decode cX5_looksOn 171 = .ok (.iastore, 1) := by decide +kernel
theorem dX5_looksOn_172 : decode cX5_looksOn 172 = .ok (.aload_n 0, 1) := by decide +kernel
theorem dX5_looksOn_173 : decode cX5_looksOn 173 = .ok (.getfield 47, 3) := by decide +kernel
theorem dX5_looksOn_176 : decode cX5_looksOn 176 = .ok (.iload_n 2, 1) := by decide +kernel
theorem dX5_looksOn_177 : decode cX5_looksOn 177 = .ok (.iload 5, 2) := by decide +kernel
theorem dX5_looksOn_179 : decode cX5_looksOn 179 = .ok (.iastore, 1) := by decide +kernel
theorem dX5_looksOn_180 : decode cX5_looksOn 180 = .ok (.iinc 5 1, 3) := by decide +kernel
theorem dX5_looksOn_183 : decode cX5_looksOn 183 = .ok (.goto (-135), 3) := by decide +kernel
theorem dX5_looksOn_186 : decode cX5_looksOn 186 = .ok (.iload_n 1, 1) := by decide +kernel
theorem dX5_looksOn_187 : decode cX5_looksOn 187 = .ok (.aload_n 0, 1) := by decide +kernel
theorem dX5_looksOn_188 : decode cX5_looksOn 188 = .ok (.getfield 44, 3) := by decide +kernel
theorem dX5_looksOn_191 : decode cX5_looksOn 191 = .ok (.iload_n 2, 1) := by decide +kernel
theorem dX5_looksOn_192 : decode cX5_looksOn 192 = .ok (.iaload, 1) := by decide +kernel
theorem dX5_looksOn_193 : decode cX5_looksOn 193 = .ok (.aload_n 0, 1) := by decide +kernel
theorem dX5_looksOn_194 : decode cX5_looksOn 194 = .ok (.getfield 38, 3) := by decide +kernel
theorem dX5_looksOn_197 : decode cX5_looksOn 197 = .ok (.iload_n 2, 1) := by decide +kernel
theorem dX5_looksOn_198 : decode cX5_looksOn 198 = .ok (.iaload, 1) := by decide +kernel
theorem dX5_looksOn_199 : decode cX5_looksOn 199 = .ok (.if_icmp .ne 18, 3) := by decide +kernel
theorem dX5_looksOn_202 : decode cX5_looksOn 202 = .ok (.aload_n 0, 1) := by decide +kernel
theorem dX5_looksOn_203 : decode cX5_looksOn 203 = .ok (.getfield 47, 3) := by decide +kernel
theorem dX5_looksOn_206 : decode cX5_looksOn 206 = .ok (.iload_n 2, 1) := by decide +kernel
theorem dX5_looksOn_207 : decode cX5_looksOn 207 = .ok (.iaload, 1) := by decide +kernel
theorem dX5_looksOn_208 : decode cX5_looksOn 208 = .ok (.aload_n 0, 1) := by decide +kernel
theorem dX5_looksOn_209 : decode cX5_looksOn 209 = .ok (.getfield 41, 3) := by decide +kernel
theorem dX5_looksOn_212 : decode cX5_looksOn 212 = .ok (.iload_n 2, 1) := by decide +kernel
theorem dX5_looksOn_213 : decode cX5_looksOn 213 = .ok (.iaload, 1) := by decide +kernel
theorem dX5_looksOn_214 : decode cX5_looksOn 214 = .ok (.if_icmp .eq 7, 3) := by decide +kernel
theorem dX5_looksOn_217 : decode cX5_looksOn 217 = .ok (.iconst 1, 1) := by decide +kernel
theorem dX5_looksOn_218 : decode cX5_looksOn 218 = .ok (.goto 4, 3) := by decide +kernel
theorem dX5_looksOn_221 : decode cX5_looksOn 221 = .ok (.iconst 0, 1) := by decide +kernel
theorem dX5_looksOn_222 : decode cX5_looksOn 222 = .ok (.iadd, 1) := by decide +kernel
theorem dX5_looksOn_223 : decode cX5_looksOn 223 = .ok (.istore_n 1, 1) := by decide +kernel
theorem dX5_looksOn_224 : decode cX5_looksOn 224 = .ok (.iinc 2 1, 3) := by decide +kernel
theorem dX5_looksOn_227 : decode cX5_looksOn 227 = .ok (.goto (-223), 3) := by decide +kernel
theorem dX5_looksOn_230 : decode cX5_looksOn 230 = .ok (.iload_n 1, 1) := by decide +kernel
theorem dX5_looksOn_231 : decode cX5_looksOn 231 = .ok (.ireturn, 1) := by decide +kernel
set_option maxRecDepth 20000 in
theorem ggX5_settle_X5_isIn : GoodIn wsX5_settle wsX5_isIn := goodIn_r _ [8] (by decide +kernel) (by decide +kernel)
set_option maxRecDepth 20000 in
theorem gX5_settle_X5_isIn : GoodIn wsX5_settle (va_wsS RX5 78 yX5_isIn wsX5_isIn) := goodIn_app (goodIn_of _ (by decide +kernel)) ggX5_settle_X5_isIn
set_option maxRecDepth 20000 in
theorem ggX5_settle_X5_can : GoodIn wsX5_settle wsX5_can := goodIn_r _ [12, 13, 40, 41, 42, 43, 44, 45, 46, 47, 48, 49, 50, 51, 52, 53, 54, 55, 56, 57, 58, 59, 60, 61, 62, 63, 64, 65] (by decide +kernel) (by decide +kernel)
set_option maxRecDepth 20000 in
theorem gX5_settle_X5_can : GoodIn wsX5_settle (wsV RX5 92 RX5 yX5_can wsX5_can) := goodIn_app (goodIn_of _ (by decide +kernel)) ggX5_settle_X5_can
set_option maxRecDepth 20000 in
theorem ggX5_settle_X5_looksOn : GoodIn wsX5_settle wsX5_looksOn := goodIn_r _ [17, 2, 4, 18, 19, 1, 3, 20, 21, 22, 7, 23, 24, 25, 26, 27, 28, 29, 30, 31, 32, 33, 34, 35, 36, 37, 38, 39, 40, 41, 42, 43, 44, 45, 46, 47, 48, 49, 50, 51, 52, 53, 54, 55, 56, 57, 58, 59, 60, 61, 62, 63, 64, 65] (by decide +kernel) (by decide +kernel)
set_option maxRecDepth 20000 in
theorem gX5_settle_X5_looksOn : GoodIn wsX5_settle (wsV RX5 120 RX5 yX5_looksOn wsX5_looksOn) := goodIn_app (goodIn_of _ (by decide +kernel)) ggX5_settle_X5_looksOn
theorem dX5_settle_0 : decode cX5_settle 0 = .ok (.aload_n 0, 1) := by decide +kernel
theorem dX5_settle_1 : decode cX5_settle 1 = .ok (.iload_n 1, 1) := by decide +kernel
theorem dX5_settle_2 : decode cX5_settle 2 = .ok (.iconst 1, 1) := by decide +kernel
theorem dX5_settle_3 : decode cX5_settle 3 = .ok (.bipush 50, 2) := by decide +kernel
theorem dX5_settle_5 : decode cX5_settle 5 = .ok (.invokestatic 78, 3) := by decide +kernel
theorem dX5_settle_8 : decode cX5_settle 8 = .ok (.ifCond .eq 7, 3) := by decide +kernel
theorem dX5_settle_11 : decode cX5_settle 11 = .ok (.iconst 0, 1) := by decide +kernel
theorem dX5_settle_12 : decode cX5_settle 12 = .ok (.goto 4, 3) := by decide +kernel
theorem dX5_settle_15 : decode cX5_settle 15 = .ok (.iconst 1, 1) := by decide +kernel
theorem dX5_settle_16 : decode cX5_settle 16 = .ok (.invokevirtual 92, 3) := by decide +kernel
theorem dX5_settle_19 : decode cX5_settle 19 = .ok (.ifCond .ne 5, 3) := by decide +kernel
theorem dX5_settle_22 : decode cX5_settle 22 = .ok (.iconst 0, 1) := by decide +kernel
theorem dX5_settle_23 : decode cX5_settle 23 = .ok (.ireturn, 1) := by decide +kernel
theorem dX5_settle_24 : decode cX5_settle 24 = .ok (.iconst 0, 1) := by decide +kernel
theorem dX5_settle_25 : decode cX5_settle 25 = .ok (.istore_n 2, 1) := by decide +kernel
theorem dX5_settle_26 : decode cX5_settle 26 = .ok (.iconst 0, 1) := by decide +kernel
theorem dX5_settle_27 : decode cX5_settle 27 = .ok (.istore_n 3, 1) := by decide +kernel
theorem dX5_settle_28 : decode cX5_settle 28 = .ok (.iload_n 3, 1) := by decide +kernel
theorem dX5_settle_29 : decode cX5_settle 29 = .ok (.iload_n 1, 1) := by decide +kernel
theorem dX5_settle_30 : decode cX5_settle 30 = .ok (.if_icmp .ge 58, 3) := by decide +kernel
theorem dX5_settle_33 : decode cX5_settle 33 = .ok (.aload_n 0, 1) := by decide +kernel
theorem dX5_settle_34 : decode cX5_settle 34 = .ok (.invokevirtual 120, 3) := by decide +kernel
theorem dX5_settle_37 : decode cX5_settle 37 = .ok (.istore_n 2, 1) := by decide +kernel
theorem dX5_settle_38 : decode cX5_settle 38 = .ok (.iconst 0, 1) := by decide +kernel
theorem dX5_settle_39 : decode cX5_settle 39 = .ok (.istore 4, 2) := by decide +kernel
theorem dX5_settle_41 : decode cX5_settle 41 = .ok (.iload 4, 2) := by decide +kernel
theorem dX5_settle_43 : decode cX5_settle 43 = .ok (.bipush 64, 2) := by decide +kernel
theorem dX5_settle_45 : decode cX5_settle 45 = .ok (.if_icmp .ge 37, 3) := by decide +kernel
theorem dX5_settle_48 : decode cX5_settle 48 = .ok (.aload_n 0, 1) := by decide +kernel
theorem dX5_settle_49 : decode cX5_settle 49 = .ok (.getfield 38, 3) := by decide +kernel
theorem dX5_settle_52 : decode cX5_settle 52 = .ok (.iload 4, 2) := by decide +kernel
theorem dX5_settle_54 : decode cX5_settle 54 = .ok (.aload_n 0, 1) := by decide +kernel
theorem dX5_settle_55 : decode cX5_settle 55 = .ok (.getfield 44, 3) := by decide +kernel
theorem dX5_settle_58 : decode cX5_settle 58 = .ok (.iload 4, 2) := by decide +kernel
theorem dX5_settle_60 : decode cX5_settle 60 = .ok (.iaload, 1) := by decide +kernel
theorem dX5_settle_61 : decode cX5_settle 61 = .ok (.iastore, 1) := by decide +kernel
theorem dX5_settle_62 : decode cX5_settle 62 = .ok (.aload_n 0, 1) := by decide +kernel
theorem dX5_settle_63 : decode cX5_settle 63 = .ok (.getfield 41, 3) := by decide +kernel
theorem dX5_settle_66 : decode cX5_settle 66 = .ok (.iload 4, 2) := by decide +kernel
theorem dX5_settle_68 : decode cX5_settle 68 = .ok (.aload_n 0, 1) := by decide +kernel
theorem dX5_settle_69 : decode cX5_settle 69 = .ok (.getfield 47, 3) := by decide +kernel
theorem dX5_settle_72 : decode cX5_settle 72 = .ok (.iload 4, 2) := by decide +kernel
theorem dX5_settle_74 : decode cX5_settle 74 = .ok (.iaload, 1) := by decide +kernel
theorem dX5_settle_75 : decode cX5_settle 75 = .ok (.iastore, 1) := by decide +kernel
theorem dX5_settle_76 : decode cX5_settle 76 = .ok (.iinc 4 1, 3) := by decide +kernel
theorem dX5_settle_79 : decode cX5_settle 79 = .ok (.goto (-38), 3) := by decide +kernel
theorem dX5_settle_82 : decode cX5_settle 82 = .ok (.iinc 3 1, 3) := by decide +kernel
theorem dX5_settle_85 : decode cX5_settle 85 = .ok (.goto (-57), 3) := by decide +kernel
theorem dX5_settle_88 : decode cX5_settle 88 = .ok (.iload_n 2, 1) := by decide +kernel
theorem dX5_settle_89 : decode cX5_settle 89 = .ok (.ireturn, 1) := by decide +kernel
theorem dX5_joins_0 : decode cX5_joins 0 = .ok (.aload_n 0, 1) := by decide +kernel
theorem dX5_joins_1 : decode cX5_joins 1 = .ok (.getfield 19, 3) := by decide +kernel
theorem dX5_joins_4 : decode cX5_joins 4 = .ok (.bipush 6, 2) := by decide +kernel
theorem dX5_joins_6 : decode cX5_joins 6 = .ok (.iload_n 2, 1) := by decide +kernel
theorem dX5_joins_7 : decode cX5_joins 7 = .ok (.imul, 1) := by decide +kernel
theorem dX5_joins_8 : decode cX5_joins 8 = .ok (.aload_n 0, 1) := by decide +kernel
theorem dX5_joins_9 : decode cX5_joins 9 = .ok (.getfield 16, 3) := by decide +kernel
theorem dX5_joins_12 : decode cX5_joins 12 = .ok (.iload_n 2, 1) := by decide +kernel
theorem dX5_joins_13 : decode cX5_joins 13 = .ok (.iaload, 1) := by decide +kernel
theorem dX5_joins_14 : decode cX5_joins 14 = .ok (.iadd, 1) := by decide +kernel
theorem dX5_joins_15 : decode cX5_joins 15 = .ok (.iload_n 1, 1) := by decide +kernel
theorem dX5_joins_16 : decode cX5_joins 16 = .ok (.iastore, 1) := by decide +kernel
theorem dX5_joins_17 : decode cX5_joins 17 = .ok (.aload_n 0, 1) := by decide +kernel
theorem dX5_joins_18 : decode cX5_joins 18 = .ok (.getfield 16, 3) := by decide +kernel
theorem dX5_joins_21 : decode cX5_joins 21 = .ok (.iload_n 2, 1) := by decide +kernel
theorem dX5_joins_22 : decode cX5_joins 22 = .ok (.dup2, 1) := by decide +kernel
theorem dX5_joins_23 : decode cX5_joins 23 = .ok (.iaload, 1) := by decide +kernel
theorem dX5_joins_24 : decode cX5_joins 24 = .ok (.iconst 1, 1) := by decide +kernel
theorem dX5_joins_25 : decode cX5_joins 25 = .ok (.iadd, 1) := by decide +kernel
theorem dX5_joins_26 : decode cX5_joins 26 = .ok (.iastore, 1) := by decide +kernel
theorem dX5_joins_27 : decode cX5_joins 27 = .ok (.return_, 1) := by decide +kernel
set_option maxRecDepth 20000 in
theorem ggX5_setOut_X5_isBasin : GoodIn wsX5_setOut wsX5_isBasin := goodIn_r _ [12, 13, 14, 11, 15] (by decide +kernel) (by decide +kernel)
set_option maxRecDepth 20000 in
theorem gX5_setOut_X5_isBasin : GoodIn wsX5_setOut (va_wsS RX5 88 yX5_isBasin wsX5_isBasin) := goodIn_app (goodIn_of _ (by decide +kernel)) ggX5_setOut_X5_isBasin
set_option maxRecDepth 20000 in
theorem ggX5_setOut_X5_isIn : GoodIn wsX5_setOut wsX5_isIn := goodIn_r _ [15] (by decide +kernel) (by decide +kernel)
set_option maxRecDepth 20000 in
theorem gX5_setOut_X5_isIn : GoodIn wsX5_setOut (va_wsS RX5 78 yX5_isIn wsX5_isIn) := goodIn_app (goodIn_of _ (by decide +kernel)) ggX5_setOut_X5_isIn
set_option maxRecDepth 20000 in
theorem ggX5_setOut_X5_can : GoodIn wsX5_setOut wsX5_can := goodIn_r _ [19, 20, 26, 27, 28, 29, 30, 31, 32, 33, 34, 35, 36, 37, 38, 39, 40, 41, 42, 43, 44, 45, 46, 47, 48, 49, 50, 51] (by decide +kernel) (by decide +kernel)
set_option maxRecDepth 20000 in
theorem gX5_setOut_X5_can : GoodIn wsX5_setOut (wsV RX5 92 RX5 yX5_can wsX5_can) := goodIn_app (goodIn_of _ (by decide +kernel)) ggX5_setOut_X5_can
set_option maxRecDepth 20000 in
theorem ggX5_setOut_X5_joins : GoodIn wsX5_setOut wsX5_joins := goodIn_r _ [24, 25, 2, 26, 27, 28, 29, 30, 31, 32, 33, 34, 35, 36, 37, 38, 39, 40, 41, 42, 43, 44, 45, 46, 47, 48, 49, 50, 51] (by decide +kernel) (by decide +kernel)
set_option maxRecDepth 20000 in
theorem gX5_setOut_X5_joins : GoodIn wsX5_setOut (wsV RX5 124 RX5 yX5_joins wsX5_joins) := goodIn_app (goodIn_of _ (by decide +kernel)) ggX5_setOut_X5_joins
theorem dX5_setOut_0 : decode cX5_setOut 0 = .ok (.iload_n 1, 1) := by decide +kernel
theorem dX5_setOut_1 : decode cX5_setOut 1 = .ok (.invokestatic 88, 3) := by decide +kernel
theorem dX5_setOut_4 : decode cX5_setOut 4 = .ok (.ifCond .eq 14, 3) := by decide +kernel
theorem dX5_setOut_7 : decode cX5_setOut 7 = .ok (.iload_n 2, 1) := by decide +kernel
theorem dX5_setOut_8 : decode cX5_setOut 8 = .ok (.invokestatic 88, 3) := by decide +kernel
theorem dX5_setOut_11 : decode cX5_setOut 11 = .ok (.ifCond .eq 7, 3) := by decide +kernel
theorem dX5_setOut_14 : decode cX5_setOut 14 = .ok (.iconst 1, 1) := by decide +kernel
theorem dX5_setOut_15 : decode cX5_setOut 15 = .ok (.goto 4, 3) := by decide +kernel
theorem dX5_setOut_18 : decode cX5_setOut 18 = .ok (.iconst 0, 1) := by decide +kernel
theorem dX5_setOut_19 : decode cX5_setOut 19 = .ok (.istore 4, 2) := by decide +kernel
theorem dX5_setOut_21 : decode cX5_setOut 21 = .ok (.iload 4, 2) := by decide +kernel
theorem dX5_setOut_23 : decode cX5_setOut 23 = .ok (.ifCond .eq 32, 3) := by decide +kernel
theorem dX5_setOut_26 : decode cX5_setOut 26 = .ok (.aload_n 0, 1) := by decide +kernel
theorem dX5_setOut_27 : decode cX5_setOut 27 = .ok (.getfield 85, 3) := by decide +kernel
theorem dX5_setOut_30 : decode cX5_setOut 30 = .ok (.bipush 40, 2) := by decide +kernel
theorem dX5_setOut_32 : decode cX5_setOut 32 = .ok (.if_icmp .eq 19, 3) := by decide +kernel
theorem dX5_setOut_35 : decode cX5_setOut 35 = .ok (.aload_n 0, 1) := by decide +kernel
theorem dX5_setOut_36 : decode cX5_setOut 36 = .ok (.getfield 16, 3) := by decide +kernel
theorem dX5_setOut_39 : decode cX5_setOut 39 = .ok (.iload_n 1, 1) := by decide +kernel
theorem dX5_setOut_40 : decode cX5_setOut 40 = .ok (.iaload, 1) := by decide +kernel
theorem dX5_setOut_41 : decode cX5_setOut 41 = .ok (.bipush 6, 2) := by decide +kernel
theorem dX5_setOut_43 : decode cX5_setOut 43 = .ok (.if_icmp .ne 12, 3) := by decide +kernel
theorem dX5_setOut_46 : decode cX5_setOut 46 = .ok (.iload_n 1, 1) := by decide +kernel
theorem dX5_setOut_47 : decode cX5_setOut 47 = .ok (.iload_n 2, 1) := by decide +kernel
theorem dX5_setOut_48 : decode cX5_setOut 48 = .ok (.if_icmp .eq 7, 3) := by decide +kernel
theorem dX5_setOut_51 : decode cX5_setOut 51 = .ok (.iconst 1, 1) := by decide +kernel
theorem dX5_setOut_52 : decode cX5_setOut 52 = .ok (.goto 4, 3) := by decide +kernel
theorem dX5_setOut_55 : decode cX5_setOut 55 = .ok (.iconst 0, 1) := by decide +kernel
theorem dX5_setOut_56 : decode cX5_setOut 56 = .ok (.istore 5, 2) := by decide +kernel
theorem dX5_setOut_58 : decode cX5_setOut 58 = .ok (.aload_n 0, 1) := by decide +kernel
theorem dX5_setOut_59 : decode cX5_setOut 59 = .ok (.iload 4, 2) := by decide +kernel
theorem dX5_setOut_61 : decode cX5_setOut 61 = .ok (.ifCond .ne 7, 3) := by decide +kernel
theorem dX5_setOut_64 : decode cX5_setOut 64 = .ok (.iconst 1, 1) := by decide +kernel
theorem dX5_setOut_65 : decode cX5_setOut 65 = .ok (.goto 27, 3) := by decide +kernel
theorem dX5_setOut_68 : decode cX5_setOut 68 = .ok (.iload_n 3, 1) := by decide +kernel
theorem dX5_setOut_69 : decode cX5_setOut 69 = .ok (.iconst 1, 1) := by decide +kernel
theorem dX5_setOut_70 : decode cX5_setOut 70 = .ok (.bipush 20, 2) := by decide +kernel
theorem dX5_setOut_72 : decode cX5_setOut 72 = .ok (.invokestatic 78, 3) := by decide +kernel
theorem dX5_setOut_75 : decode cX5_setOut 75 = .ok (.ifCond .ne 7, 3) := by decide +kernel
theorem dX5_setOut_78 : decode cX5_setOut 78 = .ok (.iconst 2, 1) := by decide +kernel
theorem dX5_setOut_79 : decode cX5_setOut 79 = .ok (.goto 13, 3) := by decide +kernel
theorem dX5_setOut_82 : decode cX5_setOut 82 = .ok (.iload 5, 2) := by decide +kernel
theorem dX5_setOut_84 : decode cX5_setOut 84 = .ok (.ifCond .eq 7, 3) := by decide +kernel
theorem dX5_setOut_87 : decode cX5_setOut 87 = .ok (.iconst 3, 1) := by decide +kernel
theorem dX5_setOut_88 : decode cX5_setOut 88 = .ok (.goto 4, 3) := by decide +kernel
theorem dX5_setOut_91 : decode cX5_setOut 91 = .ok (.iconst 0, 1) := by decide +kernel
theorem dX5_setOut_92 : decode cX5_setOut 92 = .ok (.invokevirtual 92, 3) := by decide +kernel
theorem dX5_setOut_95 : decode cX5_setOut 95 = .ok (.ifCond .ne 5, 3) := by decide +kernel
theorem dX5_setOut_98 : decode cX5_setOut 98 = .ok (.iconst 0, 1) := by decide +kernel
theorem dX5_setOut_99 : decode cX5_setOut 99 = .ok (.ireturn, 1) := by decide +kernel
theorem dX5_setOut_100 : decode cX5_setOut 100 = .ok (.aload_n 0, 1) := by decide +kernel
theorem dX5_setOut_101 : decode cX5_setOut 101 = .ok (.getfield 85, 3) := by decide +kernel
theorem dX5_setOut_104 : decode cX5_setOut 104 = .ok (.istore 6, 2) := by decide +kernel
theorem dX5_setOut_106 : decode cX5_setOut 106 = .ok (.aload_n 0, 1) := by decide +kernel
theorem dX5_setOut_107 : decode cX5_setOut 107 = .ok (.dup, 1) := by decide +kernel
theorem dX5_setOut_108 : decode cX5_setOut 108 = .ok (.getfield 85, 3) := by decide +kernel
theorem dX5_setOut_111 : decode cX5_setOut 111 = .ok (.iconst 1, 1) := by decide +kernel
theorem dX5_setOut_112 : decode cX5_setOut 112 = .ok (.iadd, 1) := by decide +kernel
theorem dX5_setOut_113 : decode cX5_setOut 113 = .ok (.putfield 85, 3) := by decide +kernel
theorem dX5_setOut_116 : decode cX5_setOut 116 = .ok (.aload_n 0, 1) := by decide +kernel
theorem dX5_setOut_117 : decode cX5_setOut 117 = .ok (.getfield 50, 3) := by decide +kernel
theorem dX5_setOut_120 : decode cX5_setOut 120 = .ok (.iload 6, 2) := by decide +kernel
theorem dX5_setOut_122 : decode cX5_setOut 122 = .ok (.iload_n 2, 1) := by decide +kernel
theorem dX5_setOut_123 : decode cX5_setOut 123 = .ok (.iastore, 1) := by decide +kernel
theorem dX5_setOut_124 : decode cX5_setOut 124 = .ok (.aload_n 0, 1) := by decide +kernel
theorem dX5_setOut_125 : decode cX5_setOut 125 = .ok (.getfield 53, 3) := by decide +kernel
theorem dX5_setOut_128 : decode cX5_setOut 128 = .ok (.iload 6, 2) := by decide +kernel
theorem dX5_setOut_130 : decode cX5_setOut 130 = .ok (.iload_n 3, 1) := by decide +kernel
theorem dX5_setOut_131 : decode cX5_setOut 131 = .ok (.iastore, 1) := by decide +kernel
theorem dX5_setOut_132 : decode cX5_setOut 132 = .ok (.aload_n 0, 1) := by decide +kernel
theorem dX5_setOut_133 : decode cX5_setOut 133 = .ok (.getfield 65, 3) := by decide +kernel
theorem dX5_setOut_136 : decode cX5_setOut 136 = .ok (.iload 6, 2) := by decide +kernel
theorem dX5_setOut_138 : decode cX5_setOut 138 = .ok (.iload_n 1, 1) := by decide +kernel
theorem dX5_setOut_139 : decode cX5_setOut 139 = .ok (.iastore, 1) := by decide +kernel
theorem dX5_setOut_140 : decode cX5_setOut 140 = .ok (.aload_n 0, 1) := by decide +kernel
theorem dX5_setOut_141 : decode cX5_setOut 141 = .ok (.getfield 68, 3) := by decide +kernel
theorem dX5_setOut_144 : decode cX5_setOut 144 = .ok (.iload 6, 2) := by decide +kernel
theorem dX5_setOut_146 : decode cX5_setOut 146 = .ok (.iconst 1, 1) := by decide +kernel
theorem dX5_setOut_147 : decode cX5_setOut 147 = .ok (.iload_n 1, 1) := by decide +kernel
theorem dX5_setOut_148 : decode cX5_setOut 148 = .ok (.ishl, 1) := by decide +kernel
theorem dX5_setOut_149 : decode cX5_setOut 149 = .ok (.iastore, 1) := by decide +kernel
theorem dX5_setOut_150 : decode cX5_setOut 150 = .ok (.aload_n 0, 1) := by decide +kernel
theorem dX5_setOut_151 : decode cX5_setOut 151 = .ok (.getfield 71, 3) := by decide +kernel
theorem dX5_setOut_154 : decode cX5_setOut 154 = .ok (.iload 6, 2) := by decide +kernel
theorem dX5_setOut_156 : decode cX5_setOut 156 = .ok (.iconst (-1), 1) := by decide +kernel
theorem dX5_setOut_157 : decode cX5_setOut 157 = .ok (.iastore, 1) := by decide +kernel
theorem dX5_setOut_158 : decode cX5_setOut 158 = .ok (.aload_n 0, 1) := by decide +kernel
theorem dX5_setOut_159 : decode cX5_setOut 159 = .ok (.getfield 62, 3) := by decide +kernel
theorem dX5_setOut_162 : decode cX5_setOut 162 = .ok (.iload 6, 2) := by decide +kernel
theorem dX5_setOut_164 : decode cX5_setOut 164 = .ok (.iload_n 1, 1) := by decide +kernel
theorem dX5_setOut_165 : decode cX5_setOut 165 = .ok (.iload_n 2, 1) := by decide +kernel
theorem dX5_setOut_166 : decode cX5_setOut 166 = .ok (.if_icmp .ne 7, 3) := by decide +kernel
theorem dX5_setOut_169 : decode cX5_setOut 169 = .ok (.iconst 1, 1) := by decide +kernel
theorem dX5_setOut_170 : decode cX5_setOut 170 = .ok (.goto 4, 3) := by decide +kernel
theorem dX5_setOut_173 : decode cX5_setOut 173 = .ok (.iconst 0, 1) := by decide +kernel
theorem dX5_setOut_174 : decode cX5_setOut 174 = .ok (.iastore, 1) := by decide +kernel
theorem dX5_setOut_175 : decode cX5_setOut 175 = .ok (.iload_n 1, 1) := by decide +kernel
theorem dX5_setOut_176 : decode cX5_setOut 176 = .ok (.iload_n 2, 1) := by decide +kernel
theorem dX5_setOut_177 : decode cX5_setOut 177 = .ok (.if_icmp .eq 10, 3) := by decide +kernel
theorem dX5_setOut_180 : decode cX5_setOut 180 = .ok (.aload_n 0, 1) := by decide +kernel
theorem dX5_setOut_181 : decode cX5_setOut 181 = .ok (.iload 6, 2) := by decide +kernel
theorem dX5_setOut_183 : decode cX5_setOut 183 = .ok (.iload_n 1, 1) := by decide +kernel
theorem dX5_setOut_184 : decode cX5_setOut 184 = .ok (.invokevirtual 124, 3) := by decide +kernel
theorem dX5_setOut_187 : decode cX5_setOut 187 = .ok (.iload 6, 2) := by decide +kernel
theorem dX5_setOut_189 : decode cX5_setOut 189 = .ok (.ireturn, 1) := by decide +kernel
set_option maxRecDepth 20000 in
theorem ggX5_wayFrom_X5_goes : GoodIn wsX5_wayFrom wsX5_goes := goodIn_r _ [12, 13, 14, 15, 16, 22, 23, 24, 25, 26, 27, 28, 29, 30, 31, 32, 33, 34, 35, 36, 37, 38, 39, 40, 41, 42, 43, 44, 45, 46, 47] (by decide +kernel) (by decide +kernel)
set_option maxRecDepth 20000 in
theorem gX5_wayFrom_X5_goes : GoodIn wsX5_wayFrom (wsV RX5 130 RX5 yX5_goes wsX5_goes) := goodIn_app (goodIn_of _ (by decide +kernel)) ggX5_wayFrom_X5_goes
set_option maxRecDepth 20000 in
theorem ggX5_wayFrom_X5_beyond : GoodIn wsX5_wayFrom wsX5_beyond := goodIn_r _ [20, 15, 21, 22, 23, 24, 25, 26, 27, 28, 29, 30, 31, 32, 33, 34, 35, 36, 37, 38, 39, 40, 41, 42, 43, 44, 45, 46, 47] (by decide +kernel) (by decide +kernel)
set_option maxRecDepth 20000 in
theorem gX5_wayFrom_X5_beyond : GoodIn wsX5_wayFrom (wsV RX5 113 RX5 yX5_beyond wsX5_beyond) := goodIn_app (goodIn_of _ (by decide +kernel)) ggX5_wayFrom_X5_beyond
theorem dX5_wayFrom_0 : decode cX5_wayFrom 0 = .ok (.aload_n 0, 1) := by decide +kernel
theorem dX5_wayFrom_1 : decode cX5_wayFrom 1 = .ok (.getfield 16, 3) := by decide +kernel
theorem dX5_wayFrom_4 : decode cX5_wayFrom 4 = .ok (.iload_n 1, 1) := by decide +kernel
theorem dX5_wayFrom_5 : decode cX5_wayFrom 5 = .ok (.iaload, 1) := by decide +kernel
theorem dX5_wayFrom_6 : decode cX5_wayFrom 6 = .ok (.ifCond .ne 5, 3) := by decide +kernel
theorem dX5_wayFrom_9 : decode cX5_wayFrom 9 = .ok (.iconst (-1), 1) := by decide +kernel
theorem dX5_wayFrom_10 : decode cX5_wayFrom 10 = .ok (.ireturn, 1) := by decide +kernel
theorem dX5_wayFrom_11 : decode cX5_wayFrom 11 = .ok (.aload_n 0, 1) := by decide +kernel
theorem dX5_wayFrom_12 : decode cX5_wayFrom 12 = .ok (.getfield 19, 3) := by decide +kernel
theorem dX5_wayFrom_15 : decode cX5_wayFrom 15 = .ok (.bipush 6, 2) := by decide +kernel
theorem dX5_wayFrom_17 : decode cX5_wayFrom 17 = .ok (.iload_n 1, 1) := by decide +kernel
theorem dX5_wayFrom_18 : decode cX5_wayFrom 18 = .ok (.imul, 1) := by decide +kernel
theorem dX5_wayFrom_19 : decode cX5_wayFrom 19 = .ok (.iaload, 1) := by decide +kernel
theorem dX5_wayFrom_20 : decode cX5_wayFrom 20 = .ok (.istore_n 2, 1) := by decide +kernel
theorem dX5_wayFrom_21 : decode cX5_wayFrom 21 = .ok (.aload_n 0, 1) := by decide +kernel
theorem dX5_wayFrom_22 : decode cX5_wayFrom 22 = .ok (.getfield 41, 3) := by decide +kernel
theorem dX5_wayFrom_25 : decode cX5_wayFrom 25 = .ok (.bipush 8, 2) := by decide +kernel
theorem dX5_wayFrom_27 : decode cX5_wayFrom 27 = .ok (.iload_n 1, 1) := by decide +kernel
theorem dX5_wayFrom_28 : decode cX5_wayFrom 28 = .ok (.imul, 1) := by decide +kernel
theorem dX5_wayFrom_29 : decode cX5_wayFrom 29 = .ok (.aload_n 0, 1) := by decide +kernel
theorem dX5_wayFrom_30 : decode cX5_wayFrom 30 = .ok (.getfield 50, 3) := by decide +kernel
theorem dX5_wayFrom_33 : decode cX5_wayFrom 33 = .ok (.iload_n 2, 1) := by decide +kernel
theorem dX5_wayFrom_34 : decode cX5_wayFrom 34 = .ok (.iaload, 1) := by decide +kernel
theorem dX5_wayFrom_35 : decode cX5_wayFrom 35 = .ok (.iadd, 1) := by decide +kernel
theorem dX5_wayFrom_36 : decode cX5_wayFrom 36 = .ok (.iaload, 1) := by decide +kernel
theorem dX5_wayFrom_37 : decode cX5_wayFrom 37 = .ok (.istore_n 3, 1) := by decide +kernel
theorem dX5_wayFrom_38 : decode cX5_wayFrom 38 = .ok (.aload_n 0, 1) := by decide +kernel
theorem dX5_wayFrom_39 : decode cX5_wayFrom 39 = .ok (.getfield 71, 3) := by decide +kernel
theorem dX5_wayFrom_42 : decode cX5_wayFrom 42 = .ok (.iload_n 2, 1) := by decide +kernel
theorem dX5_wayFrom_43 : decode cX5_wayFrom 43 = .ok (.iaload, 1) := by decide +kernel
theorem dX5_wayFrom_44 : decode cX5_wayFrom 44 = .ok (.aload_n 0, 1) := by decide +kernel
theorem dX5_wayFrom_45 : decode cX5_wayFrom 45 = .ok (.getfield 127, 3) := by decide +kernel
theorem dX5_wayFrom_48 : decode cX5_wayFrom 48 = .ok (.if_icmp .eq 16, 3) := by decide +kernel
theorem dX5_wayFrom_51 : decode cX5_wayFrom 51 = .ok (.iload_n 3, 1) := by decide +kernel
theorem dX5_wayFrom_52 : decode cX5_wayFrom 52 = .ok (.iconst (-1), 1) := by decide +kernel
theorem dX5_wayFrom_53 : decode cX5_wayFrom 53 = .ok (.if_icmp .eq 11, 3) := by decide +kernel
theorem dX5_wayFrom_56 : decode cX5_wayFrom 56 = .ok (.aload_n 0, 1) := by decide +kernel
theorem dX5_wayFrom_57 : decode cX5_wayFrom 57 = .ok (.iload_n 3, 1) := by decide +kernel
theorem dX5_wayFrom_58 : decode cX5_wayFrom 58 = .ok (.invokevirtual 130, 3) := by decide +kernel
theorem dX5_wayFrom_61 : decode cX5_wayFrom 61 = .ok (.ifCond .ne 5, 3) := by decide +kernel
theorem dX5_wayFrom_64 : decode cX5_wayFrom 64 = .ok (.iconst (-1), 1) := by decide +kernel
theorem dX5_wayFrom_65 : decode cX5_wayFrom 65 = .ok (.ireturn, 1) := by decide +kernel
theorem dX5_wayFrom_66 : decode cX5_wayFrom 66 = .ok (.aload_n 0, 1) := by decide +kernel
theorem dX5_wayFrom_67 : decode cX5_wayFrom 67 = .ok (.iload_n 3, 1) := by decide +kernel
theorem dX5_wayFrom_68 : decode cX5_wayFrom 68 = .ok (.iload_n 1, 1) := by decide +kernel
theorem dX5_wayFrom_69 : decode cX5_wayFrom 69 = .ok (.invokevirtual 113, 3) := by decide +kernel
theorem dX5_wayFrom_72 : decode cX5_wayFrom 72 = .ok (.istore 4, 2) := by decide +kernel
theorem dX5_wayFrom_74 : decode cX5_wayFrom 74 = .ok (.iload 4, 2) := by decide +kernel
theorem dX5_wayFrom_76 : decode cX5_wayFrom 76 = .ok (.aload_n 0, 1) := by decide +kernel
theorem dX5_wayFrom_77 : decode cX5_wayFrom 77 = .ok (.getfield 50, 3) := by decide +kernel
theorem dX5_wayFrom_80 : decode cX5_wayFrom 80 = .ok (.iload_n 2, 1) := by decide +kernel
theorem dX5_wayFrom_81 : decode cX5_wayFrom 81 = .ok (.iaload, 1) := by decide +kernel
theorem dX5_wayFrom_82 : decode cX5_wayFrom 82 = .ok (.if_icmp .eq 41, 3) := by decide +kernel
theorem dX5_wayFrom_85 : decode cX5_wayFrom 85 = .ok (.aload_n 0, 1) := by decide +kernel
theorem dX5_wayFrom_86 : decode cX5_wayFrom 86 = .ok (.getfield 16, 3) := by decide +kernel
theorem dX5_wayFrom_89 : decode cX5_wayFrom 89 = .ok (.iload 4, 2) := by decide +kernel
theorem dX5_wayFrom_91 : decode cX5_wayFrom 91 = .ok (.iaload, 1) := by decide +kernel
theorem dX5_wayFrom_92 : decode cX5_wayFrom 92 = .ok (.bipush 6, 2) := by decide +kernel
theorem dX5_wayFrom_94 : decode cX5_wayFrom 94 = .ok (.if_icmp .ge 33, 3) := by decide +kernel
theorem dX5_wayFrom_97 : decode cX5_wayFrom 97 = .ok (.aload_n 0, 1) := by decide +kernel
theorem dX5_wayFrom_98 : decode cX5_wayFrom 98 = .ok (.getfield 16, 3) := by decide +kernel
theorem dX5_wayFrom_101 : decode cX5_wayFrom 101 = .ok (.iload 4, 2) := by decide +kernel
theorem dX5_wayFrom_103 : decode cX5_wayFrom 103 = .ok (.iaload, 1) := by decide +kernel
theorem dX5_wayFrom_104 : decode cX5_wayFrom 104 = .ok (.aload_n 0, 1) := by decide +kernel
theorem dX5_wayFrom_105 : decode cX5_wayFrom 105 = .ok (.getfield 13, 3) := by decide +kernel
theorem dX5_wayFrom_108 : decode cX5_wayFrom 108 = .ok (.iload 4, 2) := by decide +kernel
theorem dX5_wayFrom_110 : decode cX5_wayFrom 110 = .ok (.iaload, 1) := by decide +kernel
theorem dX5_wayFrom_111 : decode cX5_wayFrom 111 = .ok (.if_icmp .lt 12, 3) := by decide +kernel
theorem dX5_wayFrom_114 : decode cX5_wayFrom 114 = .ok (.aload_n 0, 1) := by decide +kernel
theorem dX5_wayFrom_115 : decode cX5_wayFrom 115 = .ok (.getfield 127, 3) := by decide +kernel
theorem dX5_wayFrom_118 : decode cX5_wayFrom 118 = .ok (.iconst 2, 1) := by decide +kernel
theorem dX5_wayFrom_119 : decode cX5_wayFrom 119 = .ok (.irem, 1) := by decide +kernel
theorem dX5_wayFrom_120 : decode cX5_wayFrom 120 = .ok (.ifCond .ne 7, 3) := by decide +kernel
theorem dX5_wayFrom_123 : decode cX5_wayFrom 123 = .ok (.iconst 1, 1) := by decide +kernel
theorem dX5_wayFrom_124 : decode cX5_wayFrom 124 = .ok (.goto 4, 3) := by decide +kernel
theorem dX5_wayFrom_127 : decode cX5_wayFrom 127 = .ok (.iconst 0, 1) := by decide +kernel
theorem dX5_wayFrom_128 : decode cX5_wayFrom 128 = .ok (.istore 5, 2) := by decide +kernel
theorem dX5_wayFrom_130 : decode cX5_wayFrom 130 = .ok (.iload 5, 2) := by decide +kernel
theorem dX5_wayFrom_132 : decode cX5_wayFrom 132 = .ok (.ifCond .eq 7, 3) := by decide +kernel
theorem dX5_wayFrom_135 : decode cX5_wayFrom 135 = .ok (.iload_n 3, 1) := by decide +kernel
theorem dX5_wayFrom_136 : decode cX5_wayFrom 136 = .ok (.goto 4, 3) := by decide +kernel
theorem dX5_wayFrom_139 : decode cX5_wayFrom 139 = .ok (.iconst (-1), 1) := by decide +kernel
theorem dX5_wayFrom_140 : decode cX5_wayFrom 140 = .ok (.ireturn, 1) := by decide +kernel
set_option maxRecDepth 20000 in
theorem ggX5_passes_X5_beyond : GoodIn wsX5_passes wsX5_beyond := goodIn_r _ [20, 4, 6, 30, 31, 32, 33, 34, 35, 36, 37, 38, 39, 40, 41, 42, 43, 44, 45, 46, 47, 48, 49, 50, 51, 52, 53, 54, 55] (by decide +kernel) (by decide +kernel)
set_option maxRecDepth 20000 in
theorem gX5_passes_X5_beyond : GoodIn wsX5_passes (wsV RX5 113 RX5 yX5_beyond wsX5_beyond) := goodIn_app (goodIn_of _ (by decide +kernel)) ggX5_passes_X5_beyond
set_option maxRecDepth 20000 in
theorem ggX5_passes_X5_pours : GoodIn wsX5_passes wsX5_pours := goodIn_r _ [24, 3, 25, 30, 31, 32, 33, 34, 35, 36, 37, 38, 39, 40, 41, 42, 43, 44, 45, 46, 47, 48, 49, 50, 51, 52, 53, 54, 55] (by decide +kernel) (by decide +kernel)
set_option maxRecDepth 20000 in
theorem gX5_passes_X5_pours : GoodIn wsX5_passes (wsV RX5 101 RX5 yX5_pours wsX5_pours) := goodIn_app (goodIn_of _ (by decide +kernel)) ggX5_passes_X5_pours
set_option maxRecDepth 20000 in
theorem ggX5_passes_X5_joins : GoodIn wsX5_passes wsX5_joins := goodIn_r _ [29, 1, 2, 30, 31, 32, 33, 34, 35, 36, 37, 38, 39, 40, 41, 42, 43, 44, 45, 46, 47, 48, 49, 50, 51, 52, 53, 54, 55] (by decide +kernel) (by decide +kernel)
set_option maxRecDepth 20000 in
theorem gX5_passes_X5_joins : GoodIn wsX5_passes (wsV RX5 124 RX5 yX5_joins wsX5_joins) := goodIn_app (goodIn_of _ (by decide +kernel)) ggX5_passes_X5_joins
theorem dX5_passes_0 : decode cX5_passes 0 = .ok (.aload_n 0, 1) := by decide +kernel
theorem dX5_passes_1 : decode cX5_passes 1 = .ok (.getfield 19, 3) := by decide +kernel
theorem dX5_passes_4 : decode cX5_passes 4 = .ok (.bipush 6, 2) := by decide +kernel
theorem dX5_passes_6 : decode cX5_passes 6 = .ok (.iload_n 1, 1) := by decide +kernel
theorem dX5_passes_7 : decode cX5_passes 7 = .ok (.imul, 1) := by decide +kernel
theorem dX5_passes_8 : decode cX5_passes 8 = .ok (.iaload, 1) := by decide +kernel
theorem dX5_passes_9 : decode cX5_passes 9 = .ok (.istore_n 3, 1) := by decide +kernel
theorem dX5_passes_10 : decode cX5_passes 10 = .ok (.aload_n 0, 1) := by decide +kernel
theorem dX5_passes_11 : decode cX5_passes 11 = .ok (.iload_n 2, 1) := by decide +kernel
theorem dX5_passes_12 : decode cX5_passes 12 = .ok (.iload_n 1, 1) := by decide +kernel
theorem dX5_passes_13 : decode cX5_passes 13 = .ok (.invokevirtual 113, 3) := by decide +kernel
theorem dX5_passes_16 : decode cX5_passes 16 = .ok (.istore 4, 2) := by decide +kernel
theorem dX5_passes_18 : decode cX5_passes 18 = .ok (.aload_n 0, 1) := by decide +kernel
theorem dX5_passes_19 : decode cX5_passes 19 = .ok (.getfield 16, 3) := by decide +kernel
theorem dX5_passes_22 : decode cX5_passes 22 = .ok (.iload_n 1, 1) := by decide +kernel
theorem dX5_passes_23 : decode cX5_passes 23 = .ok (.dup2, 1) := by decide +kernel
theorem dX5_passes_24 : decode cX5_passes 24 = .ok (.iaload, 1) := by decide +kernel
theorem dX5_passes_25 : decode cX5_passes 25 = .ok (.iconst 1, 1) := by decide +kernel
theorem dX5_passes_26 : decode cX5_passes 26 = .ok (.isub, 1) := by decide +kernel
theorem dX5_passes_27 : decode cX5_passes 27 = .ok (.iastore, 1) := by decide +kernel
theorem dX5_passes_28 : decode cX5_passes 28 = .ok (.bipush 6, 2) := by decide +kernel
theorem dX5_passes_30 : decode cX5_passes 30 = .ok (.iload_n 1, 1) := by decide +kernel
theorem dX5_passes_31 : decode cX5_passes 31 = .ok (.imul, 1) := by decide +kernel
theorem dX5_passes_32 : decode cX5_passes 32 = .ok (.istore 5, 2) := by decide +kernel
theorem dX5_passes_34 : decode cX5_passes 34 = .ok (.iload 5, 2) := by decide +kernel
theorem dX5_passes_36 : decode cX5_passes 36 = .ok (.bipush 6, 2) := by decide +kernel
theorem dX5_passes_38 : decode cX5_passes 38 = .ok (.iload_n 1, 1) := by decide +kernel
theorem dX5_passes_39 : decode cX5_passes 39 = .ok (.imul, 1) := by decide +kernel
theorem dX5_passes_40 : decode cX5_passes 40 = .ok (.aload_n 0, 1) := by decide +kernel
theorem dX5_passes_41 : decode cX5_passes 41 = .ok (.getfield 16, 3) := by decide +kernel
theorem dX5_passes_44 : decode cX5_passes 44 = .ok (.iload_n 1, 1) := by decide +kernel
theorem dX5_passes_45 : decode cX5_passes 45 = .ok (.iaload, 1) := by decide +kernel
theorem dX5_passes_46 : decode cX5_passes 46 = .ok (.iadd, 1) := by decide +kernel
theorem dX5_passes_47 : decode cX5_passes 47 = .ok (.if_icmp .ge 25, 3) := by decide +kernel
theorem dX5_passes_50 : decode cX5_passes 50 = .ok (.aload_n 0, 1) := by decide +kernel
theorem dX5_passes_51 : decode cX5_passes 51 = .ok (.getfield 19, 3) := by decide +kernel
theorem dX5_passes_54 : decode cX5_passes 54 = .ok (.iload 5, 2) := by decide +kernel
theorem dX5_passes_56 : decode cX5_passes 56 = .ok (.aload_n 0, 1) := by decide +kernel
theorem dX5_passes_57 : decode cX5_passes 57 = .ok (.getfield 19, 3) := by decide +kernel
theorem dX5_passes_60 : decode cX5_passes 60 = .ok (.iload 5, 2) := by decide +kernel
theorem dX5_passes_62 : decode cX5_passes 62 = .ok (.iconst 1, 1) := by decide +kernel
theorem dX5_passes_63 : decode cX5_passes 63 = .ok (.iadd, 1) := by decide +kernel
theorem dX5_passes_64 : decode cX5_passes 64 = .ok (.iaload, 1) := by decide +kernel
theorem dX5_passes_65 : decode cX5_passes 65 = .ok (.iastore, 1) := by decide +kernel
theorem dX5_passes_66 : decode cX5_passes 66 = .ok (.iinc 5 1, 3) := by decide +kernel
theorem dX5_passes_69 : decode cX5_passes 69 = .ok (.goto (-35), 3) := by decide +kernel
theorem dX5_passes_72 : decode cX5_passes 72 = .ok (.aload_n 0, 1) := by decide +kernel
theorem dX5_passes_73 : decode cX5_passes 73 = .ok (.getfield 7, 3) := by decide +kernel
theorem dX5_passes_76 : decode cX5_passes 76 = .ok (.aload_n 0, 1) := by decide +kernel
theorem dX5_passes_77 : decode cX5_passes 77 = .ok (.getfield 22, 3) := by decide +kernel
theorem dX5_passes_80 : decode cX5_passes 80 = .ok (.iload_n 2, 1) := by decide +kernel
theorem dX5_passes_81 : decode cX5_passes 81 = .ok (.iaload, 1) := by decide +kernel
theorem dX5_passes_82 : decode cX5_passes 82 = .ok (.dup2, 1) := by decide +kernel
theorem dX5_passes_83 : decode cX5_passes 83 = .ok (.iaload, 1) := by decide +kernel
theorem dX5_passes_84 : decode cX5_passes 84 = .ok (.aload_n 0, 1) := by decide +kernel
theorem dX5_passes_85 : decode cX5_passes 85 = .ok (.getfield 31, 3) := by decide +kernel
theorem dX5_passes_88 : decode cX5_passes 88 = .ok (.iload_n 2, 1) := by decide +kernel
theorem dX5_passes_89 : decode cX5_passes 89 = .ok (.iaload, 1) := by decide +kernel
theorem dX5_passes_90 : decode cX5_passes 90 = .ok (.isub, 1) := by decide +kernel
theorem dX5_passes_91 : decode cX5_passes 91 = .ok (.iastore, 1) := by decide +kernel
theorem dX5_passes_92 : decode cX5_passes 92 = .ok (.aload_n 0, 1) := by decide +kernel
theorem dX5_passes_93 : decode cX5_passes 93 = .ok (.aload_n 0, 1) := by decide +kernel
theorem dX5_passes_94 : decode cX5_passes 94 = .ok (.getfield 25, 3) := by decide +kernel
theorem dX5_passes_97 : decode cX5_passes 97 = .ok (.iload_n 2, 1) := by decide +kernel
theorem dX5_passes_98 : decode cX5_passes 98 = .ok (.iaload, 1) := by decide +kernel
theorem dX5_passes_99 : decode cX5_passes 99 = .ok (.aload_n 0, 1) := by decide +kernel
theorem dX5_passes_100 : decode cX5_passes 100 = .ok (.getfield 31, 3) := by decide +kernel
theorem dX5_passes_103 : decode cX5_passes 103 = .ok (.iload_n 2, 1) := by decide +kernel
theorem dX5_passes_104 : decode cX5_passes 104 = .ok (.iaload, 1) := by decide +kernel
theorem dX5_passes_105 : decode cX5_passes 105 = .ok (.invokevirtual 101, 3) := by decide +kernel
theorem dX5_passes_108 : decode cX5_passes 108 = .ok (.aload_n 0, 1) := by decide +kernel
theorem dX5_passes_109 : decode cX5_passes 109 = .ok (.getfield 56, 3) := by decide +kernel
theorem dX5_passes_112 : decode cX5_passes 112 = .ok (.iload_n 3, 1) := by decide +kernel
theorem dX5_passes_113 : decode cX5_passes 113 = .ok (.dup2, 1) := by decide +kernel
theorem dX5_passes_114 : decode cX5_passes 114 = .ok (.iaload, 1) := by decide +kernel
theorem dX5_passes_115 : decode cX5_passes 115 = .ok (.iconst 1, 1) := by decide +kernel
theorem dX5_passes_116 : decode cX5_passes 116 = .ok (.iadd, 1) := by decide +kernel
theorem dX5_passes_117 : decode cX5_passes 117 = .ok (.iastore, 1) := by decide +kernel
theorem dX5_passes_118 : decode cX5_passes 118 = .ok (.aload_n 0, 1) := by decide +kernel
theorem dX5_passes_119 : decode cX5_passes 119 = .ok (.getfield 53, 3) := by decide +kernel
theorem dX5_passes_122 : decode cX5_passes 122 = .ok (.iload_n 3, 1) := by decide +kernel
theorem dX5_passes_123 : decode cX5_passes 123 = .ok (.dup2, 1) := by decide +kernel
theorem dX5_passes_124 : decode cX5_passes 124 = .ok (.iaload, 1) := by decide +kernel
theorem dX5_passes_125 : decode cX5_passes 125 = .ok (.iconst 1, 1) := by decide +kernel
theorem dX5_passes_126 : decode cX5_passes 126 = .ok (.isub, 1) := by decide +kernel
theorem dX5_passes_127 : decode cX5_passes 127 = .ok (.iastore, 1) := by decide +kernel
theorem dX5_passes_128 : decode cX5_passes 128 = .ok (.aload_n 0, 1) := by decide +kernel
theorem dX5_passes_129 : decode cX5_passes 129 = .ok (.getfield 59, 3) := by decide +kernel
theorem dX5_passes_132 : decode cX5_passes 132 = .ok (.iload_n 3, 1) := by decide +kernel
theorem dX5_passes_133 : decode cX5_passes 133 = .ok (.dup2, 1) := by decide +kernel
theorem dX5_passes_134 : decode cX5_passes 134 = .ok (.iaload, 1) := by decide +kernel
theorem dX5_passes_135 : decode cX5_passes 135 = .ok (.aload_n 0, 1) := by decide +kernel
theorem dX5_passes_136 : decode cX5_passes 136 = .ok (.getfield 68, 3) := by decide +kernel
theorem dX5_passes_139 : decode cX5_passes 139 = .ok (.iload_n 3, 1) := by decide +kernel
theorem dX5_passes_140 : decode cX5_passes 140 = .ok (.iaload, 1) := by decide +kernel
theorem dX5_passes_141 : decode cX5_passes 141 = .ok (.iload 4, 2) := by decide +kernel
theorem dX5_passes_143 : decode cX5_passes 143 = .ok (.ishr, 1) := by decide +kernel
theorem dX5_passes_144 : decode cX5_passes 144 = .ok (.iconst 1, 1) := by decide +kernel
theorem dX5_passes_145 : decode cX5_passes 145 = .ok (.iand, 1) := by decide +kernel
theorem dX5_passes_146 : decode cX5_passes 146 = .ok (.iadd, 1) := by decide +kernel
theorem dX5_passes_147 : decode cX5_passes 147 = .ok (.iastore, 1) := by decide +kernel
theorem dX5_passes_148 : decode cX5_passes 148 = .ok (.aload_n 0, 1) := by decide +kernel
theorem dX5_passes_149 : decode cX5_passes 149 = .ok (.getfield 68, 3) := by decide +kernel
theorem dX5_passes_152 : decode cX5_passes 152 = .ok (.iload_n 3, 1) := by decide +kernel
theorem dX5_passes_153 : decode cX5_passes 153 = .ok (.dup2, 1) := by decide +kernel
theorem dX5_passes_154 : decode cX5_passes 154 = .ok (.iaload, 1) := by decide +kernel
theorem dX5_passes_155 : decode cX5_passes 155 = .ok (.iconst 1, 1) := by decide +kernel
theorem dX5_passes_156 : decode cX5_passes 156 = .ok (.iload 4, 2) := by decide +kernel
