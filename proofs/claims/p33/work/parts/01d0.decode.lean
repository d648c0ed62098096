theorem dX0_init_0 : decode cX0_init 0 = .ok (.aload_n 0, 1) := by decide +kernel
theorem dX0_init_1 : decode cX0_init 1 = .ok (.invokespecial 3, 3) := by decide +kernel
theorem dX0_init_4 : decode cX0_init 4 = .ok (.aload_n 0, 1) := by decide +kernel
theorem dX0_init_5 : decode cX0_init 5 = .ok (.bipush 8, 2) := by decide +kernel
theorem dX0_init_7 : decode cX0_init 7 = .ok (.newarray .boolean, 2) := by decide +kernel
theorem dX0_init_9 : decode cX0_init 9 = .ok (.putfield 9, 3) := by decide +kernel
theorem dX0_init_12 : decode cX0_init 12 = .ok (.aload_n 0, 1) := by decide +kernel
theorem dX0_init_13 : decode cX0_init 13 = .ok (.iconst 0, 1) := by decide +kernel
theorem dX0_init_14 : decode cX0_init 14 = .ok (.putfield 15, 3) := by decide +kernel
theorem dX0_init_17 : decode cX0_init 17 = .ok (.aload_n 0, 1) := by decide +kernel
theorem dX0_init_18 : decode cX0_init 18 = .ok (.iload_n 1, 1) := by decide +kernel
theorem dX0_init_19 : decode cX0_init 19 = .ok (.putfield 19, 3) := by decide +kernel
theorem dX0_init_22 : decode cX0_init 22 = .ok (.aload_n 0, 1) := by decide +kernel
theorem dX0_init_23 : decode cX0_init 23 = .ok (.aload_n 3, 1) := by decide +kernel
theorem dX0_init_24 : decode cX0_init 24 = .ok (.putfield 22, 3) := by decide +kernel
theorem dX0_init_27 : decode cX0_init 27 = .ok (.aload_n 0, 1) := by decide +kernel
theorem dX0_init_28 : decode cX0_init 28 = .ok (.aload_n 2, 1) := by decide +kernel
theorem dX0_init_29 : decode cX0_init 29 = .ok (.putfield 26, 3) := by decide +kernel
theorem dX0_init_32 : decode cX0_init 32 = .ok (.aload_n 0, 1) := by decide +kernel
theorem dX0_init_33 : decode cX0_init 33 = .ok (.getfield 9, 3) := by decide +kernel
theorem dX0_init_36 : decode cX0_init 36 = .ok (.aload_n 2, 1) := by decide +kernel
theorem dX0_init_37 : decode cX0_init 37 = .ok (.getfield 29, 3) := by decide +kernel
theorem dX0_init_40 : decode cX0_init 40 = .ok (.iconst 1, 1) := by decide +kernel
theorem dX0_init_41 : decode cX0_init 41 = .ok (.bastore, 1) := by decide +kernel
theorem dX0_init_42 : decode cX0_init 42 = .ok (.aload_n 0, 1) := by decide +kernel
theorem dX0_init_43 : decode cX0_init 43 = .ok (.iload 4, 2) := by decide +kernel
theorem dX0_init_45 : decode cX0_init 45 = .ok (.putfield 32, 3) := by decide +kernel
theorem dX0_init_48 : decode cX0_init 48 = .ok (.return_, 1) := by decide +kernel
theorem dX0_comeTo_0 : decode cX0_comeTo 0 = .ok (.aload_n 0, 1) := by decide +kernel
theorem dX0_comeTo_1 : decode cX0_comeTo 1 = .ok (.aload_n 1, 1) := by decide +kernel
theorem dX0_comeTo_2 : decode cX0_comeTo 2 = .ok (.putfield 26, 3) := by decide +kernel
theorem dX0_comeTo_5 : decode cX0_comeTo 5 = .ok (.aload_n 0, 1) := by decide +kernel
theorem dX0_comeTo_6 : decode cX0_comeTo 6 = .ok (.iload_n 2, 1) := by decide +kernel
theorem dX0_comeTo_7 : decode cX0_comeTo 7 = .ok (.putfield 35, 3) := by decide +kernel
theorem dX0_comeTo_10 : decode cX0_comeTo 10 = .ok (.aload_n 0, 1) := by decide +kernel
theorem dX0_comeTo_11 : decode cX0_comeTo 11 = .ok (.dup, 1) := by decide +kernel
theorem dX0_comeTo_12 : decode cX0_comeTo 12 = .ok (.getfield 38, 3) := by decide +kernel
theorem dX0_comeTo_15 : decode cX0_comeTo 15 = .ok (.iconst 1, 1) := by decide +kernel
theorem dX0_comeTo_16 : decode cX0_comeTo 16 = .ok (.iadd, 1) := by decide +kernel
theorem dX0_comeTo_17 : decode cX0_comeTo 17 = .ok (.putfield 38, 3) := by decide +kernel
theorem dX0_comeTo_20 : decode cX0_comeTo 20 = .ok (.aload_n 0, 1) := by decide +kernel
theorem dX0_comeTo_21 : decode cX0_comeTo 21 = .ok (.dup, 1) := by decide +kernel
theorem dX0_comeTo_22 : decode cX0_comeTo 22 = .ok (.getfield 32, 3) := by decide +kernel
theorem dX0_comeTo_25 : decode cX0_comeTo 25 = .ok (.iconst 1, 1) := by decide +kernel
theorem dX0_comeTo_26 : decode cX0_comeTo 26 = .ok (.isub, 1) := by decide +kernel
theorem dX0_comeTo_27 : decode cX0_comeTo 27 = .ok (.putfield 32, 3) := by decide +kernel
theorem dX0_comeTo_30 : decode cX0_comeTo 30 = .ok (.aload_n 0, 1) := by decide +kernel
theorem dX0_comeTo_31 : decode cX0_comeTo 31 = .ok (.getfield 9, 3) := by decide +kernel
theorem dX0_comeTo_34 : decode cX0_comeTo 34 = .ok (.aload_n 1, 1) := by decide +kernel
theorem dX0_comeTo_35 : decode cX0_comeTo 35 = .ok (.getfield 29, 3) := by decide +kernel
theorem dX0_comeTo_38 : decode cX0_comeTo 38 = .ok (.baload, 1) := by decide +kernel
theorem dX0_comeTo_39 : decode cX0_comeTo 39 = .ok (.ifCond .eq 13, 3) := by decide +kernel
theorem dX0_comeTo_42 : decode cX0_comeTo 42 = .ok (.aload_n 0, 1) := by decide +kernel
theorem dX0_comeTo_43 : decode cX0_comeTo 43 = .ok (.dup, 1) := by decide +kernel
theorem dX0_comeTo_44 : decode cX0_comeTo 44 = .ok (.getfield 41, 3) := by decide +kernel
theorem dX0_comeTo_47 : decode cX0_comeTo 47 = .ok (.iconst 1, 1) := by decide +kernel
theorem dX0_comeTo_48 : decode cX0_comeTo 48 = .ok (.iadd, 1) := by decide +kernel
theorem dX0_comeTo_49 : decode cX0_comeTo 49 = .ok (.putfield 41, 3) := by decide +kernel
theorem dX0_comeTo_52 : decode cX0_comeTo 52 = .ok (.aload_n 0, 1) := by decide +kernel
theorem dX0_comeTo_53 : decode cX0_comeTo 53 = .ok (.getfield 9, 3) := by decide +kernel
theorem dX0_comeTo_56 : decode cX0_comeTo 56 = .ok (.aload_n 1, 1) := by decide +kernel
theorem dX0_comeTo_57 : decode cX0_comeTo 57 = .ok (.getfield 29, 3) := by decide +kernel
theorem dX0_comeTo_60 : decode cX0_comeTo 60 = .ok (.iconst 1, 1) := by decide +kernel
theorem dX0_comeTo_61 : decode cX0_comeTo 61 = .ok (.bastore, 1) := by decide +kernel
theorem dX0_comeTo_62 : decode cX0_comeTo 62 = .ok (.aload_n 1, 1) := by decide +kernel
theorem dX0_comeTo_63 : decode cX0_comeTo 63 = .ok (.aload_n 0, 1) := by decide +kernel
theorem dX0_comeTo_64 : decode cX0_comeTo 64 = .ok (.getfield 22, 3) := by decide +kernel
theorem dX0_comeTo_67 : decode cX0_comeTo 67 = .ok (.if_acmp .ne 11, 3) := by decide +kernel
theorem dX0_comeTo_70 : decode cX0_comeTo 70 = .ok (.aload_n 0, 1) := by decide +kernel
theorem dX0_comeTo_71 : decode cX0_comeTo 71 = .ok (.iconst 1, 1) := by decide +kernel
theorem dX0_comeTo_72 : decode cX0_comeTo 72 = .ok (.putfield 15, 3) := by decide +kernel
theorem dX0_comeTo_75 : decode cX0_comeTo 75 = .ok (.goto 15, 3) := by decide +kernel
theorem dX0_comeTo_78 : decode cX0_comeTo 78 = .ok (.aload_n 0, 1) := by decide +kernel
theorem dX0_comeTo_79 : decode cX0_comeTo 79 = .ok (.getfield 32, 3) := by decide +kernel
theorem dX0_comeTo_82 : decode cX0_comeTo 82 = .ok (.ifCond .ne 8, 3) := by decide +kernel
theorem dX0_comeTo_85 : decode cX0_comeTo 85 = .ok (.aload_n 0, 1) := by decide +kernel
theorem dX0_comeTo_86 : decode cX0_comeTo 86 = .ok (.iconst 2, 1) := by decide +kernel
theorem dX0_comeTo_87 : decode cX0_comeTo 87 = .ok (.putfield 15, 3) := by decide +kernel
theorem dX0_comeTo_90 : decode cX0_comeTo 90 = .ok (.return_, 1) := by decide +kernel
set_option maxRecDepth 20000 in
theorem ggX1_init_Jx4a65c_init_da8c8 : GoodIn wsX1_init wsJx4a65c_init_da8c8 := goodIn_r _ [18, 19, 20, 21, 22, 23, 24, 25, 26, 27, 28, 29, 30, 2, 3, 42, 43, 44] (by decide +kernel) (by decide +kernel)
set_option maxRecDepth 20000 in
theorem gX1_init_Jx4a65c_init_da8c8 : GoodIn wsX1_init (wsJx4a65c_init_da8c8) := ggX1_init_Jx4a65c_init_da8c8
set_option maxRecDepth 20000 in
theorem ggX1_init_X3_init : GoodIn wsX1_init wsX3_init := goodIn_r _ [32, 33, 2, 3, 34, 35, 36, 37, 51, 52] (by decide +kernel) (by decide +kernel)
set_option maxRecDepth 20000 in
theorem gX1_init_X3_init_n27 : GoodIn wsX1_init (wsX3_init) := ggX1_init_X3_init
set_option maxRecDepth 20000 in
theorem ggX1_init_X3_clearFor : GoodIn wsX1_init wsX3_clearFor := goodIn_r _ [41, 35, 37, 51, 52] (by decide +kernel) (by decide +kernel)
set_option maxRecDepth 20000 in
theorem gX1_init_X3_clearFor : GoodIn wsX1_init (wsV RX1 38 RX3 yX3_clearFor wsX3_clearFor) := goodIn_app (goodIn_of _ (by decide +kernel)) ggX1_init_X3_clearFor
theorem dX1_init_0 : decode cX1_init 0 = .ok (.aload_n 0, 1) := by decide +kernel
theorem dX1_init_1 : decode cX1_init 1 = .ok (.invokespecial 3, 3) := by decide +kernel
theorem dX1_init_4 : decode cX1_init 4 = .ok (.aload_n 0, 1) := by decide +kernel
theorem dX1_init_5 : decode cX1_init 5 = .ok (.new 9, 3) := by decide +kernel
theorem dX1_init_8 : decode cX1_init 8 = .ok (.dup, 1) := by decide +kernel
theorem dX1_init_9 : decode cX1_init 9 = .ok (.invokespecial 11, 3) := by decide +kernel
theorem dX1_init_12 : decode cX1_init 12 = .ok (.putfield 12, 3) := by decide +kernel
theorem dX1_init_15 : decode cX1_init 15 = .ok (.aload_n 0, 1) := by decide +kernel
theorem dX1_init_16 : decode cX1_init 16 = .ok (.bipush 60, 2) := by decide +kernel
theorem dX1_init_18 : decode cX1_init 18 = .ok (.putfield 18, 3) := by decide +kernel
theorem dX1_init_21 : decode cX1_init 21 = .ok (.aload_n 0, 1) := by decide +kernel
theorem dX1_init_22 : decode cX1_init 22 = .ok (.iconst 4, 1) := by decide +kernel
theorem dX1_init_23 : decode cX1_init 23 = .ok (.putfield 22, 3) := by decide +kernel
theorem dX1_init_26 : decode cX1_init 26 = .ok (.aload_n 0, 1) := by decide +kernel
theorem dX1_init_27 : decode cX1_init 27 = .ok (.new 25, 3) := by decide +kernel
theorem dX1_init_30 : decode cX1_init 30 = .ok (.dup, 1) := by decide +kernel
theorem dX1_init_31 : decode cX1_init 31 = .ok (.invokespecial 27, 3) := by decide +kernel
theorem dX1_init_34 : decode cX1_init 34 = .ok (.putfield 28, 3) := by decide +kernel
theorem dX1_init_37 : decode cX1_init 37 = .ok (.aload_n 0, 1) := by decide +kernel
theorem dX1_init_38 : decode cX1_init 38 = .ok (.new 25, 3) := by decide +kernel
theorem dX1_init_41 : decode cX1_init 41 = .ok (.dup, 1) := by decide +kernel
theorem dX1_init_42 : decode cX1_init 42 = .ok (.invokespecial 27, 3) := by decide +kernel
theorem dX1_init_45 : decode cX1_init 45 = .ok (.putfield 32, 3) := by decide +kernel
theorem dX1_init_48 : decode cX1_init 48 = .ok (.aload_n 0, 1) := by decide +kernel
theorem dX1_init_49 : decode cX1_init 49 = .ok (.iload_n 1, 1) := by decide +kernel
theorem dX1_init_50 : decode cX1_init 50 = .ok (.putfield 35, 3) := by decide +kernel
theorem dX1_init_53 : decode cX1_init 53 = .ok (.aload_n 0, 1) := by decide +kernel
theorem dX1_init_54 : decode cX1_init 54 = .ok (.getfield 28, 3) := by decide +kernel
theorem dX1_init_57 : decode cX1_init 57 = .ok (.iload_n 1, 1) := by decide +kernel
theorem dX1_init_58 : decode cX1_init 58 = .ok (.invokevirtual 38, 3) := by decide +kernel
theorem dX1_init_61 : decode cX1_init 61 = .ok (.return_, 1) := by decide +kernel
set_option maxRecDepth 20000 in
theorem ggX1_isFull_Jx4a65c_size_8abf5 : GoodIn wsX1_isFull wsJx4a65c_size_8abf5 := goodIn_r _ [6, 7, 14, 15, 16] (by decide +kernel) (by decide +kernel)
set_option maxRecDepth 20000 in
theorem gX1_isFull_Jx4a65c_size_8abf5 : GoodIn wsX1_isFull (wsV RX1 42 RJx4a65c yJx4a65c_size_8abf5 wsJx4a65c_size_8abf5) := goodIn_app (goodIn_of _ (by decide +kernel)) ggX1_isFull_Jx4a65c_size_8abf5
theorem dX1_isFull_0 : decode cX1_isFull 0 = .ok (.aload_n 0, 1) := by decide +kernel
theorem dX1_isFull_1 : decode cX1_isFull 1 = .ok (.getfield 12, 3) := by decide +kernel
theorem dX1_isFull_4 : decode cX1_isFull 4 = .ok (.invokevirtual 42, 3) := by decide +kernel
theorem dX1_isFull_7 : decode cX1_isFull 7 = .ok (.bipush 6, 2) := by decide +kernel
theorem dX1_isFull_9 : decode cX1_isFull 9 = .ok (.if_icmp .lt 7, 3) := by decide +kernel
theorem dX1_isFull_12 : decode cX1_isFull 12 = .ok (.iconst 1, 1) := by decide +kernel
theorem dX1_isFull_13 : decode cX1_isFull 13 = .ok (.goto 4, 3) := by decide +kernel
theorem dX1_isFull_16 : decode cX1_isFull 16 = .ok (.iconst 0, 1) := by decide +kernel
theorem dX1_isFull_17 : decode cX1_isFull 17 = .ok (.ireturn, 1) := by decide +kernel
theorem dX1_costOfLowWater_0 : decode cX1_costOfLowWater 0 = .ok (.aload_n 0, 1) := by decide +kernel
theorem dX1_costOfLowWater_1 : decode cX1_costOfLowWater 1 = .ok (.getfield 18, 3) := by decide +kernel
theorem dX1_costOfLowWater_4 : decode cX1_costOfLowWater 4 = .ok (.bipush 15, 2) := by decide +kernel
theorem dX1_costOfLowWater_6 : decode cX1_costOfLowWater 6 = .ok (.if_icmp .ge 6, 3) := by decide +kernel
theorem dX1_costOfLowWater_9 : decode cX1_costOfLowWater 9 = .ok (.bipush 10, 2) := by decide +kernel
theorem dX1_costOfLowWater_11 : decode cX1_costOfLowWater 11 = .ok (.ireturn, 1) := by decide +kernel
theorem dX1_costOfLowWater_12 : decode cX1_costOfLowWater 12 = .ok (.aload_n 0, 1) := by decide +kernel
theorem dX1_costOfLowWater_13 : decode cX1_costOfLowWater 13 = .ok (.getfield 18, 3) := by decide +kernel
theorem dX1_costOfLowWater_16 : decode cX1_costOfLowWater 16 = .ok (.bipush 30, 2) := by decide +kernel
theorem dX1_costOfLowWater_18 : decode cX1_costOfLowWater 18 = .ok (.if_icmp .ge 7, 3) := by decide +kernel
theorem dX1_costOfLowWater_21 : decode cX1_costOfLowWater 21 = .ok (.iconst 5, 1) := by decide +kernel
theorem dX1_costOfLowWater_22 : decode cX1_costOfLowWater 22 = .ok (.goto 4, 3) := by decide +kernel
theorem dX1_costOfLowWater_25 : decode cX1_costOfLowWater 25 = .ok (.iconst 0, 1) := by decide +kernel
theorem dX1_costOfLowWater_26 : decode cX1_costOfLowWater 26 = .ok (.ireturn, 1) := by decide +kernel
theorem dX1_fill_0 : decode cX1_fill 0 = .ok (.iconst 0, 1) := by decide +kernel
theorem dX1_fill_1 : decode cX1_fill 1 = .ok (.aload_n 0, 1) := by decide +kernel
theorem dX1_fill_2 : decode cX1_fill 2 = .ok (.getfield 18, 3) := by decide +kernel
theorem dX1_fill_5 : decode cX1_fill 5 = .ok (.iload_n 1, 1) := by decide +kernel
theorem dX1_fill_6 : decode cX1_fill 6 = .ok (.iadd, 1) := by decide +kernel
theorem dX1_fill_7 : decode cX1_fill 7 = .ok (.sipush 200, 3) := by decide +kernel
theorem dX1_fill_10 : decode cX1_fill 10 = .ok (.isub, 1) := by decide +kernel
theorem dX1_fill_11 : decode cX1_fill 11 = .ok (.invokestatic 46, 3) := by decide +kernel
theorem dX1_fill_14 : decode cX1_fill 14 = .ok (.istore_n 2, 1) := by decide +kernel
theorem dX1_fill_15 : decode cX1_fill 15 = .ok (.aload_n 0, 1) := by decide +kernel
theorem dX1_fill_16 : decode cX1_fill 16 = .ok (.dup, 1) := by decide +kernel
theorem dX1_fill_17 : decode cX1_fill 17 = .ok (.getfield 18, 3) := by decide +kernel
theorem dX1_fill_20 : decode cX1_fill 20 = .ok (.iload_n 1, 1) := by decide +kernel
theorem dX1_fill_21 : decode cX1_fill 21 = .ok (.iload_n 2, 1) := by decide +kernel
theorem dX1_fill_22 : decode cX1_fill 22 = .ok (.isub, 1) := by decide +kernel
theorem dX1_fill_23 : decode cX1_fill 23 = .ok (.iadd, 1) := by decide +kernel
theorem dX1_fill_24 : decode cX1_fill 24 = .ok (.putfield 18, 3) := by decide +kernel
theorem dX1_fill_27 : decode cX1_fill 27 = .ok (.iload_n 2, 1) := by decide +kernel
theorem dX1_fill_28 : decode cX1_fill 28 = .ok (.ireturn, 1) := by decide +kernel
theorem dX1_loseDryDayWater_0 : decode cX1_loseDryDayWater 0 = .ok (.aload_n 0, 1) := by decide +kernel
theorem dX1_loseDryDayWater_1 : decode cX1_loseDryDayWater 1 = .ok (.iconst 5, 1) := by decide +kernel
theorem dX1_loseDryDayWater_2 : decode cX1_loseDryDayWater 2 = .ok (.aload_n 0, 1) := by decide +kernel
theorem dX1_loseDryDayWater_3 : decode cX1_loseDryDayWater 3 = .ok (.getfield 18, 3) := by decide +kernel
theorem dX1_loseDryDayWater_6 : decode cX1_loseDryDayWater 6 = .ok (.iconst 3, 1) := by decide +kernel
theorem dX1_loseDryDayWater_7 : decode cX1_loseDryDayWater 7 = .ok (.isub, 1) := by decide +kernel
theorem dX1_loseDryDayWater_8 : decode cX1_loseDryDayWater 8 = .ok (.invokestatic 46, 3) := by decide +kernel
theorem dX1_loseDryDayWater_11 : decode cX1_loseDryDayWater 11 = .ok (.putfield 18, 3) := by decide +kernel
theorem dX1_loseDryDayWater_14 : decode cX1_loseDryDayWater 14 = .ok (.return_, 1) := by decide +kernel
theorem dX1_canalTowards_0 : decode cX1_canalTowards 0 = .ok (.aload_n 0, 1) := by decide +kernel
theorem dX1_canalTowards_1 : decode cX1_canalTowards 1 = .ok (.getfield 28, 3) := by decide +kernel
theorem dX1_canalTowards_4 : decode cX1_canalTowards 4 = .ok (.getfield 52, 3) := by decide +kernel
theorem dX1_canalTowards_7 : decode cX1_canalTowards 7 = .ok (.aload_n 1, 1) := by decide +kernel
theorem dX1_canalTowards_8 : decode cX1_canalTowards 8 = .ok (.getfield 35, 3) := by decide +kernel
theorem dX1_canalTowards_11 : decode cX1_canalTowards 11 = .ok (.aaload, 1) := by decide +kernel
theorem dX1_canalTowards_12 : decode cX1_canalTowards 12 = .ok (.areturn, 1) := by decide +kernel
set_option maxRecDepth 20000 in
theorem ggX1_hearNeighbour_X2_costNow : GoodIn wsX1_hearNeighbour wsX2_costNow := goodIn_r _ [9, 10, 11, 12, 13, 14, 15, 16, 17, 18, 34, 35, 36, 37, 38, 39, 26, 27, 28, 29, 30, 31] (by decide +kernel) (by decide +kernel)
set_option maxRecDepth 20000 in
theorem gX1_hearNeighbour_X2_costNow : GoodIn wsX1_hearNeighbour (wsV RX1 56 RX2 yX2_costNow wsX2_costNow) := goodIn_app (goodIn_of _ (by decide +kernel)) ggX1_hearNeighbour_X2_costNow
set_option maxRecDepth 20000 in
theorem ggX1_hearNeighbour_X3_offer : GoodIn wsX1_hearNeighbour wsX3_offer := goodIn_r _ [23, 24, 25, 32, 33] (by decide +kernel) (by decide +kernel)
set_option maxRecDepth 20000 in
theorem gX1_hearNeighbour_X3_offer : GoodIn wsX1_hearNeighbour (wsV RX1 65 RX3 yX3_offer wsX3_offer) := goodIn_app (goodIn_of _ (by decide +kernel)) ggX1_hearNeighbour_X3_offer
theorem dX1_hearNeighbour_0 : decode cX1_hearNeighbour 0 = .ok (.aload_n 2, 1) := by decide +kernel
theorem dX1_hearNeighbour_1 : decode cX1_hearNeighbour 1 = .ok (.invokevirtual 56, 3) := by decide +kernel
theorem dX1_hearNeighbour_4 : decode cX1_hearNeighbour 4 = .ok (.istore_n 3, 1) := by decide +kernel
theorem dX1_hearNeighbour_5 : decode cX1_hearNeighbour 5 = .ok (.iconst 0, 1) := by decide +kernel
theorem dX1_hearNeighbour_6 : decode cX1_hearNeighbour 6 = .ok (.istore 4, 2) := by decide +kernel
theorem dX1_hearNeighbour_8 : decode cX1_hearNeighbour 8 = .ok (.iload 4, 2) := by decide +kernel
theorem dX1_hearNeighbour_10 : decode cX1_hearNeighbour 10 = .ok (.bipush 8, 2) := by decide +kernel
theorem dX1_hearNeighbour_12 : decode cX1_hearNeighbour 12 = .ok (.if_icmp .ge 50, 3) := by decide +kernel
theorem dX1_hearNeighbour_15 : decode cX1_hearNeighbour 15 = .ok (.aload_n 1, 1) := by decide +kernel
theorem dX1_hearNeighbour_16 : decode cX1_hearNeighbour 16 = .ok (.getfield 28, 3) := by decide +kernel
theorem dX1_hearNeighbour_19 : decode cX1_hearNeighbour 19 = .ok (.getfield 61, 3) := by decide +kernel
theorem dX1_hearNeighbour_22 : decode cX1_hearNeighbour 22 = .ok (.iload 4, 2) := by decide +kernel
theorem dX1_hearNeighbour_24 : decode cX1_hearNeighbour 24 = .ok (.iaload, 1) := by decide +kernel
theorem dX1_hearNeighbour_25 : decode cX1_hearNeighbour 25 = .ok (.istore 5, 2) := by decide +kernel
theorem dX1_hearNeighbour_27 : decode cX1_hearNeighbour 27 = .ok (.iload 4, 2) := by decide +kernel
theorem dX1_hearNeighbour_29 : decode cX1_hearNeighbour 29 = .ok (.aload_n 0, 1) := by decide +kernel
theorem dX1_hearNeighbour_30 : decode cX1_hearNeighbour 30 = .ok (.getfield 35, 3) := by decide +kernel
theorem dX1_hearNeighbour_33 : decode cX1_hearNeighbour 33 = .ok (.if_icmp .eq 23, 3) := by decide +kernel
theorem dX1_hearNeighbour_36 : decode cX1_hearNeighbour 36 = .ok (.iload 5, 2) := by decide +kernel
theorem dX1_hearNeighbour_38 : decode cX1_hearNeighbour 38 = .ok (.iconst (-1), 1) := by decide +kernel
theorem dX1_hearNeighbour_39 : decode cX1_hearNeighbour 39 = .ok (.if_icmp .eq 17, 3) := by decide +kernel
theorem dX1_hearNeighbour_42 : decode cX1_hearNeighbour 42 = .ok (.aload_n 0, 1) := by decide +kernel
theorem dX1_hearNeighbour_43 : decode cX1_hearNeighbour 43 = .ok (.getfield 32, 3) := by decide +kernel
theorem dX1_hearNeighbour_46 : decode cX1_hearNeighbour 46 = .ok (.iload 4, 2) := by decide +kernel
theorem dX1_hearNeighbour_48 : decode cX1_hearNeighbour 48 = .ok (.iload 5, 2) := by decide +kernel
theorem dX1_hearNeighbour_50 : decode cX1_hearNeighbour 50 = .ok (.iload_n 3, 1) := by decide +kernel
theorem dX1_hearNeighbour_51 : decode cX1_hearNeighbour 51 = .ok (.iadd, 1) := by decide +kernel
theorem dX1_hearNeighbour_52 : decode cX1_hearNeighbour 52 = .ok (.aload_n 2, 1) := by decide +kernel
theorem dX1_hearNeighbour_53 : decode cX1_hearNeighbour 53 = .ok (.invokevirtual 65, 3) := by decide +kernel
theorem dX1_hearNeighbour_56 : decode cX1_hearNeighbour 56 = .ok (.iinc 4 1, 3) := by decide +kernel
theorem dX1_hearNeighbour_59 : decode cX1_hearNeighbour 59 = .ok (.goto (-51), 3) := by decide +kernel
theorem dX1_hearNeighbour_62 : decode cX1_hearNeighbour 62 = .ok (.return_, 1) := by decide +kernel
theorem dX1_turnTable_0 : decode cX1_turnTable 0 = .ok (.aload_n 0, 1) := by decide +kernel
theorem dX1_turnTable_1 : decode cX1_turnTable 1 = .ok (.getfield 28, 3) := by decide +kernel
theorem dX1_turnTable_4 : decode cX1_turnTable 4 = .ok (.astore_n 1, 1) := by decide +kernel
theorem dX1_turnTable_5 : decode cX1_turnTable 5 = .ok (.aload_n 0, 1) := by decide +kernel
theorem dX1_turnTable_6 : decode cX1_turnTable 6 = .ok (.aload_n 0, 1) := by decide +kernel
theorem dX1_turnTable_7 : decode cX1_turnTable 7 = .ok (.getfield 32, 3) := by decide +kernel
theorem dX1_turnTable_10 : decode cX1_turnTable 10 = .ok (.putfield 28, 3) := by decide +kernel
theorem dX1_turnTable_13 : decode cX1_turnTable 13 = .ok (.aload_n 0, 1) := by decide +kernel
theorem dX1_turnTable_14 : decode cX1_turnTable 14 = .ok (.aload_n 1, 1) := by decide +kernel
theorem dX1_turnTable_15 : decode cX1_turnTable 15 = .ok (.putfield 32, 3) := by decide +kernel
theorem dX1_turnTable_18 : decode cX1_turnTable 18 = .ok (.return_, 1) := by decide +kernel
theorem dX2_init_0 : decode cX2_init 0 = .ok (.aload_n 0, 1) := by decide +kernel
theorem dX2_init_1 : decode cX2_init 1 = .ok (.invokespecial 3, 3) := by decide +kernel
theorem dX2_init_4 : decode cX2_init 4 = .ok (.aload_n 0, 1) := by decide +kernel
theorem dX2_init_5 : decode cX2_init 5 = .ok (.iconst 1, 1) := by decide +kernel
theorem dX2_init_6 : decode cX2_init 6 = .ok (.putfield 9, 3) := by decide +kernel
theorem dX2_init_9 : decode cX2_init 9 = .ok (.aload_n 0, 1) := by decide +kernel
theorem dX2_init_10 : decode cX2_init 10 = .ok (.iload_n 1, 1) := by decide +kernel
theorem dX2_init_11 : decode cX2_init 11 = .ok (.putfield 15, 3) := by decide +kernel
theorem dX2_init_14 : decode cX2_init 14 = .ok (.aload_n 0, 1) := by decide +kernel
theorem dX2_init_15 : decode cX2_init 15 = .ok (.aload_n 2, 1) := by decide +kernel
theorem dX2_init_16 : decode cX2_init 16 = .ok (.putfield 19, 3) := by decide +kernel
theorem dX2_init_19 : decode cX2_init 19 = .ok (.aload_n 0, 1) := by decide +kernel
theorem dX2_init_20 : decode cX2_init 20 = .ok (.aload_n 3, 1) := by decide +kernel
theorem dX2_init_21 : decode cX2_init 21 = .ok (.putfield 23, 3) := by decide +kernel
theorem dX2_init_24 : decode cX2_init 24 = .ok (.aload_n 0, 1) := by decide +kernel
theorem dX2_init_25 : decode cX2_init 25 = .ok (.iload 4, 2) := by decide +kernel
theorem dX2_init_27 : decode cX2_init 27 = .ok (.putfield 26, 3) := by decide +kernel
theorem dX2_init_30 : decode cX2_init 30 = .ok (.aload_n 0, 1) := by decide +kernel
theorem dX2_init_31 : decode cX2_init 31 = .ok (.iload 5, 2) := by decide +kernel
theorem dX2_init_33 : decode cX2_init 33 = .ok (.putfield 29, 3) := by decide +kernel
theorem dX2_init_36 : decode cX2_init 36 = .ok (.return_, 1) := by decide +kernel
set_option maxRecDepth 20000 in
theorem ggX2_costNow_X1_costOfLowWater : GoodIn wsX2_costNow wsX1_costOfLowWater := goodIn_r _ [8, 9, 16, 17, 18, 19, 20, 21] (by decide +kernel) (by decide +kernel)
set_option maxRecDepth 20000 in
theorem gX2_costNow_X1_costOfLowWater : GoodIn wsX2_costNow (wsV RX2 32 RX1 yX1_costOfLowWater wsX1_costOfLowWater) := goodIn_app (goodIn_of _ (by decide +kernel)) ggX2_costNow_X1_costOfLowWater
theorem dX2_costNow_0 : decode cX2_costNow 0 = .ok (.aload_n 0, 1) := by decide +kernel
theorem dX2_costNow_1 : decode cX2_costNow 1 = .ok (.getfield 26, 3) := by decide +kernel
theorem dX2_costNow_4 : decode cX2_costNow 4 = .ok (.aload_n 0, 1) := by decide +kernel
theorem dX2_costNow_5 : decode cX2_costNow 5 = .ok (.getfield 19, 3) := by decide +kernel
theorem dX2_costNow_8 : decode cX2_costNow 8 = .ok (.invokevirtual 32, 3) := by decide +kernel
theorem dX2_costNow_11 : decode cX2_costNow 11 = .ok (.iadd, 1) := by decide +kernel
theorem dX2_costNow_12 : decode cX2_costNow 12 = .ok (.aload_n 0, 1) := by decide +kernel
theorem dX2_costNow_13 : decode cX2_costNow 13 = .ok (.getfield 23, 3) := by decide +kernel
theorem dX2_costNow_16 : decode cX2_costNow 16 = .ok (.invokevirtual 32, 3) := by decide +kernel
theorem dX2_costNow_19 : decode cX2_costNow 19 = .ok (.iadd, 1) := by decide +kernel
theorem dX2_costNow_20 : decode cX2_costNow 20 = .ok (.ireturn, 1) := by decide +kernel
theorem dX2_isPassable_0 : decode cX2_isPassable 0 = .ok (.aload_n 0, 1) := by decide +kernel
theorem dX2_isPassable_1 : decode cX2_isPassable 1 = .ok (.getfield 9, 3) := by decide +kernel
theorem dX2_isPassable_4 : decode cX2_isPassable 4 = .ok (.ifCond .eq 23, 3) := by decide +kernel
theorem dX2_isPassable_7 : decode cX2_isPassable 7 = .ok (.aload_n 0, 1) := by decide +kernel
theorem dX2_isPassable_8 : decode cX2_isPassable 8 = .ok (.getfield 19, 3) := by decide +kernel
theorem dX2_isPassable_11 : decode cX2_isPassable 11 = .ok (.getfield 38, 3) := by decide +kernel
theorem dX2_isPassable_14 : decode cX2_isPassable 14 = .ok (.aload_n 0, 1) := by decide +kernel
theorem dX2_isPassable_15 : decode cX2_isPassable 15 = .ok (.getfield 29, 3) := by decide +kernel
theorem dX2_isPassable_18 : decode cX2_isPassable 18 = .ok (.iconst 5, 1) := by decide +kernel
theorem dX2_isPassable_19 : decode cX2_isPassable 19 = .ok (.iadd, 1) := by decide +kernel
theorem dX2_isPassable_20 : decode cX2_isPassable 20 = .ok (.if_icmp .lt 7, 3) := by decide +kernel
theorem dX2_isPassable_23 : decode cX2_isPassable 23 = .ok (.iconst 1, 1) := by decide +kernel
theorem dX2_isPassable_24 : decode cX2_isPassable 24 = .ok (.goto 4, 3) := by decide +kernel
theorem dX2_isPassable_27 : decode cX2_isPassable 27 = .ok (.iconst 0, 1) := by decide +kernel
theorem dX2_isPassable_28 : decode cX2_isPassable 28 = .ok (.ireturn, 1) := by decide +kernel
theorem dX2_otherEnd_0 : decode cX2_otherEnd 0 = .ok (.aload_n 1, 1) := by decide +kernel
theorem dX2_otherEnd_1 : decode cX2_otherEnd 1 = .ok (.aload_n 0, 1) := by decide +kernel
theorem dX2_otherEnd_2 : decode cX2_otherEnd 2 = .ok (.getfield 19, 3) := by decide +kernel
theorem dX2_otherEnd_5 : decode cX2_otherEnd 5 = .ok (.if_acmp .ne 10, 3) := by decide +kernel
theorem dX2_otherEnd_8 : decode cX2_otherEnd 8 = .ok (.aload_n 0, 1) := by decide +kernel
theorem dX2_otherEnd_9 : decode cX2_otherEnd 9 = .ok (.getfield 23, 3) := by decide +kernel
theorem dX2_otherEnd_12 : decode cX2_otherEnd 12 = .ok (.goto 7, 3) := by decide +kernel
theorem dX2_otherEnd_15 : decode cX2_otherEnd 15 = .ok (.aload_n 0, 1) := by decide +kernel
theorem dX2_otherEnd_16 : decode cX2_otherEnd 16 = .ok (.getfield 19, 3) := by decide +kernel
theorem dX2_otherEnd_19 : decode cX2_otherEnd 19 = .ok (.areturn, 1) := by decide +kernel
set_option maxRecDepth 20000 in
theorem ggX2_lockThrough_X1_fill : GoodIn wsX2_lockThrough wsX1_fill := goodIn_r _ [9, 10, 11, 12, 13, 14, 21, 22, 23, 24, 25, 26] (by decide +kernel) (by decide +kernel)
set_option maxRecDepth 20000 in
theorem gX2_lockThrough_X1_fill : GoodIn wsX2_lockThrough (wsV RX2 41 RX1 yX1_fill wsX1_fill) := goodIn_app (goodIn_of _ (by decide +kernel)) ggX2_lockThrough_X1_fill
theorem dX2_lockThrough_0 : decode cX2_lockThrough 0 = .ok (.aload_n 0, 1) := by decide +kernel
theorem dX2_lockThrough_1 : decode cX2_lockThrough 1 = .ok (.getfield 19, 3) := by decide +kernel
theorem dX2_lockThrough_4 : decode cX2_lockThrough 4 = .ok (.dup, 1) := by decide +kernel
theorem dX2_lockThrough_5 : decode cX2_lockThrough 5 = .ok (.getfield 38, 3) := by decide +kernel
theorem dX2_lockThrough_8 : decode cX2_lockThrough 8 = .ok (.aload_n 0, 1) := by decide +kernel
theorem dX2_lockThrough_9 : decode cX2_lockThrough 9 = .ok (.getfield 29, 3) := by decide +kernel
theorem dX2_lockThrough_12 : decode cX2_lockThrough 12 = .ok (.isub, 1) := by decide +kernel
theorem dX2_lockThrough_13 : decode cX2_lockThrough 13 = .ok (.putfield 38, 3) := by decide +kernel
theorem dX2_lockThrough_16 : decode cX2_lockThrough 16 = .ok (.aload_n 0, 1) := by decide +kernel
theorem dX2_lockThrough_17 : decode cX2_lockThrough 17 = .ok (.getfield 23, 3) := by decide +kernel
theorem dX2_lockThrough_20 : decode cX2_lockThrough 20 = .ok (.aload_n 0, 1) := by decide +kernel
theorem dX2_lockThrough_21 : decode cX2_lockThrough 21 = .ok (.getfield 29, 3) := by decide +kernel
theorem dX2_lockThrough_24 : decode cX2_lockThrough 24 = .ok (.invokevirtual 41, 3) := by decide +kernel
theorem dX2_lockThrough_27 : decode cX2_lockThrough 27 = .ok (.ireturn, 1) := by decide +kernel
theorem dX3_init_0 : decode cX3_init 0 = .ok (.aload_n 0, 1) := by decide +kernel
theorem dX3_init_1 : decode cX3_init 1 = .ok (.invokespecial 3, 3) := by decide +kernel
theorem dX3_init_4 : decode cX3_init 4 = .ok (.aload_n 0, 1) := by decide +kernel
theorem dX3_init_5 : decode cX3_init 5 = .ok (.bipush 8, 2) := by decide +kernel
theorem dX3_init_7 : decode cX3_init 7 = .ok (.newarray .int, 2) := by decide +kernel
theorem dX3_init_9 : decode cX3_init 9 = .ok (.putfield 9, 3) := by decide +kernel
theorem dX3_init_12 : decode cX3_init 12 = .ok (.aload_n 0, 1) := by decide +kernel
theorem dX3_init_13 : decode cX3_init 13 = .ok (.bipush 8, 2) := by decide +kernel
theorem dX3_init_15 : decode cX3_init 15 = .ok (.anewarray 15, 3) := by decide +kernel
theorem dX3_init_18 : decode cX3_init 18 = .ok (.putfield 17, 3) := by decide +kernel
theorem dX3_init_21 : decode cX3_init 21 = .ok (.return_, 1) := by decide +kernel
theorem dX3_clearFor_0 : decode cX3_clearFor 0 = .ok (.iconst 0, 1) := by decide +kernel
theorem dX3_clearFor_1 : decode cX3_clearFor 1 = .ok (.istore_n 2, 1) := by decide +kernel
theorem dX3_clearFor_2 : decode cX3_clearFor 2 = .ok (.iload_n 2, 1) := by decide +kernel
theorem dX3_clearFor_3 : decode cX3_clearFor 3 = .ok (.bipush 8, 2) := by decide +kernel
theorem dX3_clearFor_5 : decode cX3_clearFor 5 = .ok (.if_icmp .ge 32, 3) := by decide +kernel
theorem dX3_clearFor_8 : decode cX3_clearFor 8 = .ok (.aload_n 0, 1) := by decide +kernel
theorem dX3_clearFor_9 : decode cX3_clearFor 9 = .ok (.getfield 9, 3) := by decide +kernel
theorem dX3_clearFor_12 : decode cX3_clearFor 12 = .ok (.iload_n 2, 1) := by decide +kernel
theorem dX3_clearFor_13 : decode cX3_clearFor 13 = .ok (.iload_n 2, 1) := by decide +kernel
theorem dX3_clearFor_14 : decode cX3_clearFor 14 = .ok (.iload_n 1, 1) := by decide +kernel
theorem dX3_clearFor_15 : decode cX3_clearFor 15 = .ok (.if_icmp .ne 7, 3) := by decide +kernel
theorem dX3_clearFor_18 : decode cX3_clearFor 18 = .ok (.iconst 0, 1) := by decide +kernel
theorem dX3_clearFor_19 : decode cX3_clearFor 19 = .ok (.goto 4, 3) := by decide +kernel
theorem dX3_clearFor_22 : decode cX3_clearFor 22 = .ok (.iconst (-1), 1) := by decide +kernel
theorem dX3_clearFor_23 : decode cX3_clearFor 23 = .ok (.iastore, 1) := by decide +kernel
theorem dX3_clearFor_24 : decode cX3_clearFor 24 = .ok (.aload_n 0, 1) := by decide +kernel
theorem dX3_clearFor_25 : decode cX3_clearFor 25 = .ok (.getfield 17, 3) := by decide +kernel
theorem dX3_clearFor_28 : decode cX3_clearFor 28 = .ok (.iload_n 2, 1) := by decide +kernel
theorem dX3_clearFor_29 : decode cX3_clearFor 29 = .ok (.aconst_null, 1) := by decide +kernel
theorem dX3_clearFor_30 : decode cX3_clearFor 30 = .ok (.aastore, 1) := by decide +kernel
theorem dX3_clearFor_31 : decode cX3_clearFor 31 = .ok (.iinc 2 1, 3) := by decide +kernel
theorem dX3_clearFor_34 : decode cX3_clearFor 34 = .ok (.goto (-32), 3) := by decide +kernel
theorem dX3_clearFor_37 : decode cX3_clearFor 37 = .ok (.return_, 1) := by decide +kernel
theorem dX3_offer_0 : decode cX3_offer 0 = .ok (.iload_n 2, 1) := by decide +kernel
theorem dX3_offer_1 : decode cX3_offer 1 = .ok (.bipush 40, 2) := by decide +kernel
theorem dX3_offer_3 : decode cX3_offer 3 = .ok (.if_icmp .le 4, 3) := by decide +kernel
theorem dX3_offer_6 : decode cX3_offer 6 = .ok (.return_, 1) := by decide +kernel
theorem dX3_offer_7 : decode cX3_offer 7 = .ok (.aload_n 0, 1) := by decide +kernel
theorem dX3_offer_8 : decode cX3_offer 8 = .ok (.getfield 9, 3) := by decide +kernel
theorem dX3_offer_11 : decode cX3_offer 11 = .ok (.iload_n 1, 1) := by decide +kernel
theorem dX3_offer_12 : decode cX3_offer 12 = .ok (.iaload, 1) := by decide +kernel
theorem dX3_offer_13 : decode cX3_offer 13 = .ok (.iconst (-1), 1) := by decide +kernel
theorem dX3_offer_14 : decode cX3_offer 14 = .ok (.if_icmp .eq 13, 3) := by decide +kernel
theorem dX3_offer_17 : decode cX3_offer 17 = .ok (.iload_n 2, 1) := by decide +kernel
theorem dX3_offer_18 : decode cX3_offer 18 = .ok (.aload_n 0, 1) := by decide +kernel
theorem dX3_offer_19 : decode cX3_offer 19 = .ok (.getfield 9, 3) := by decide +kernel
theorem dX3_offer_22 : decode cX3_offer 22 = .ok (.iload_n 1, 1) := by decide +kernel
theorem dX3_offer_23 : decode cX3_offer 23 = .ok (.iaload, 1) := by decide +kernel
theorem dX3_offer_24 : decode cX3_offer 24 = .ok (.if_icmp .ge 17, 3) := by decide +kernel
theorem dX3_offer_27 : decode cX3_offer 27 = .ok (.aload_n 0, 1) := by decide +kernel
theorem dX3_offer_28 : decode cX3_offer 28 = .ok (.getfield 9, 3) := by decide +kernel
theorem dX3_offer_31 : decode cX3_offer 31 = .ok (.iload_n 1, 1) := by decide +kernel
theorem dX3_offer_32 : decode cX3_offer 32 = .ok (.iload_n 2, 1) := by decide +kernel
theorem dX3_offer_33 : decode cX3_offer 33 = .ok (.iastore, 1) := by decide +kernel
theorem dX3_offer_34 : decode cX3_offer 34 = .ok (.aload_n 0, 1) := by decide +kernel
theorem dX3_offer_35 : decode cX3_offer 35 = .ok (.getfield 17, 3) := by decide +kernel
theorem dX3_offer_38 : decode cX3_offer 38 = .ok (.iload_n 1, 1) := by decide +kernel
theorem dX3_offer_39 : decode cX3_offer 39 = .ok (.aload_n 3, 1) := by decide +kernel
theorem dX3_offer_40 : decode cX3_offer 40 = .ok (.aastore, 1) := by decide +kernel
theorem dX3_offer_41 : decode cX3_offer 41 = .ok (.return_, 1) := by decide +kernel
theorem dX3_countDifferences_0 : decode cX3_countDifferences 0 = .ok (.iconst 0, 1) := by decide +kernel
theorem dX3_countDifferences_1 : decode cX3_countDifferences 1 = .ok (.istore_n 2, 1) := by decide +kernel
theorem dX3_countDifferences_2 : decode cX3_countDifferences 2 = .ok (.iconst 0, 1) := by decide +kernel
theorem dX3_countDifferences_3 : decode cX3_countDifferences 3 = .ok (.istore_n 3, 1) := by decide +kernel
theorem dX3_countDifferences_4 : decode cX3_countDifferences 4 = .ok (.iload_n 3, 1) := by decide +kernel
theorem dX3_countDifferences_5 : decode cX3_countDifferences 5 = .ok (.bipush 8, 2) := by decide +kernel
theorem dX3_countDifferences_7 : decode cX3_countDifferences 7 = .ok (.if_icmp .ge 42, 3) := by decide +kernel
theorem dX3_countDifferences_10 : decode cX3_countDifferences 10 = .ok (.aload_n 0, 1) := by decide +kernel
theorem dX3_countDifferences_11 : decode cX3_countDifferences 11 = .ok (.getfield 9, 3) := by decide +kernel
theorem dX3_countDifferences_14 : decode cX3_countDifferences 14 = .ok (.iload_n 3, 1) := by decide +kernel
theorem dX3_countDifferences_15 : decode cX3_countDifferences 15 = .ok (.iaload, 1) := by decide +kernel
theorem dX3_countDifferences_16 : decode cX3_countDifferences 16 = .ok (.aload_n 1, 1) := by decide +kernel
theorem dX3_countDifferences_17 : decode cX3_countDifferences 17 = .ok (.getfield 9, 3) := by decide +kernel
theorem dX3_countDifferences_20 : decode cX3_countDifferences 20 = .ok (.iload_n 3, 1) := by decide +kernel
theorem dX3_countDifferences_21 : decode cX3_countDifferences 21 = .ok (.iaload, 1) := by decide +kernel
theorem dX3_countDifferences_22 : decode cX3_countDifferences 22 = .ok (.if_icmp .ne 18, 3) := by decide +kernel
theorem dX3_countDifferences_25 : decode cX3_countDifferences 25 = .ok (.aload_n 0, 1) := by decide +kernel
theorem dX3_countDifferences_26 : decode cX3_countDifferences 26 = .ok (.getfield 17, 3) := by decide +kernel
theorem dX3_countDifferences_29 : decode cX3_countDifferences 29 = .ok (.iload_n 3, 1) := by decide +kernel
theorem dX3_countDifferences_30 : decode cX3_countDifferences 30 = .ok (.aaload, 1) := by decide +kernel
theorem dX3_countDifferences_31 : decode cX3_countDifferences 31 = .ok (.aload_n 1, 1) := by decide +kernel
theorem dX3_countDifferences_32 : decode cX3_countDifferences 32 = .ok (.getfield 17, 3) := by decide +kernel
theorem dX3_countDifferences_35 : decode cX3_countDifferences 35 = .ok (.iload_n 3, 1) := by decide +kernel
theorem dX3_countDifferences_36 : decode cX3_countDifferences 36 = .ok (.aaload, 1) := by decide +kernel
theorem dX3_countDifferences_37 : decode cX3_countDifferences 37 = .ok (.if_acmp .eq 6, 3) := by decide +kernel
theorem dX3_countDifferences_40 : decode cX3_countDifferences 40 = .ok (.iinc 2 1, 3) := by decide +kernel
theorem dX3_countDifferences_43 : decode cX3_countDifferences 43 = .ok (.iinc 3 1, 3) := by decide +kernel
theorem dX3_countDifferences_46 : decode cX3_countDifferences 46 = .ok (.goto (-42), 3) := by decide +kernel
theorem dX3_countDifferences_49 : decode cX3_countDifferences 49 = .ok (.iload_n 2, 1) := by decide +kernel
theorem dX3_countDifferences_50 : decode cX3_countDifferences 50 = .ok (.ireturn, 1) := by decide +kernel
set_option maxRecDepth 20000 in
theorem ggX4_init_Jx4a65c_init_da8c8 : GoodIn wsX4_init wsJx4a65c_init_da8c8 := goodIn_r _ [17, 18, 19, 20, 21, 22, 23, 24, 25, 26, 27, 28, 29, 2, 3, 61, 62, 63] (by decide +kernel) (by decide +kernel)
set_option maxRecDepth 20000 in
theorem gX4_init_Jx4a65c_init_da8c8 : GoodIn wsX4_init (wsJx4a65c_init_da8c8) := ggX4_init_Jx4a65c_init_da8c8
set_option maxRecDepth 20000 in
theorem ggX4_init_X1_init : GoodIn wsX4_init wsX1_init := goodIn_r _ [32, 33, 2, 3, 34, 7, 8, 35, 36, 37, 38, 39, 40, 41, 42, 43, 44, 16, 17, 18, 19, 20, 21, 22, 23, 24, 25, 26, 27, 28, 29, 45, 46, 47, 11, 48, 49, 50, 51, 52, 53, 54, 61, 62, 63, 64, 65, 66, 67, 68, 69, 70, 71] (by decide +kernel) (by decide +kernel)
set_option maxRecDepth 20000 in
theorem gX4_init_X1_init : GoodIn wsX4_init (wsX1_init) := ggX4_init_X1_init
theorem dX4_init_0 : decode cX4_init 0 = .ok (.aload_n 0, 1) := by decide +kernel
theorem dX4_init_1 : decode cX4_init 1 = .ok (.invokespecial 1, 3) := by decide +kernel
theorem dX4_init_4 : decode cX4_init 4 = .ok (.aload_n 0, 1) := by decide +kernel
theorem dX4_init_5 : decode cX4_init 5 = .ok (.bipush 8, 2) := by decide +kernel
theorem dX4_init_7 : decode cX4_init 7 = .ok (.anewarray 9, 3) := by decide +kernel
theorem dX4_init_10 : decode cX4_init 10 = .ok (.putfield 11, 3) := by decide +kernel
theorem dX4_init_13 : decode cX4_init 13 = .ok (.aload_n 0, 1) := by decide +kernel
theorem dX4_init_14 : decode cX4_init 14 = .ok (.new 15, 3) := by decide +kernel
theorem dX4_init_17 : decode cX4_init 17 = .ok (.dup, 1) := by decide +kernel
theorem dX4_init_18 : decode cX4_init 18 = .ok (.invokespecial 17, 3) := by decide +kernel
theorem dX4_init_21 : decode cX4_init 21 = .ok (.putfield 18, 3) := by decide +kernel
theorem dX4_init_24 : decode cX4_init 24 = .ok (.aload_n 0, 1) := by decide +kernel
theorem dX4_init_25 : decode cX4_init 25 = .ok (.new 15, 3) := by decide +kernel
theorem dX4_init_28 : decode cX4_init 28 = .ok (.dup, 1) := by decide +kernel
theorem dX4_init_29 : decode cX4_init 29 = .ok (.invokespecial 17, 3) := by decide +kernel
theorem dX4_init_32 : decode cX4_init 32 = .ok (.putfield 22, 3) := by decide +kernel
theorem dX4_init_35 : decode cX4_init 35 = .ok (.aload_n 0, 1) := by decide +kernel
theorem dX4_init_36 : decode cX4_init 36 = .ok (.bipush 8, 2) := by decide +kernel
theorem dX4_init_38 : decode cX4_init 38 = .ok (.newarray .int, 2) := by decide +kernel
theorem dX4_init_40 : decode cX4_init 40 = .ok (.putfield 25, 3) := by decide +kernel
theorem dX4_init_43 : decode cX4_init 43 = .ok (.iconst 0, 1) := by decide +kernel
theorem dX4_init_44 : decode cX4_init 44 = .ok (.istore_n 1, 1) := by decide +kernel
theorem dX4_init_45 : decode cX4_init 45 = .ok (.iload_n 1, 1) := by decide +kernel
theorem dX4_init_46 : decode cX4_init 46 = .ok (.bipush 8, 2) := by decide +kernel
theorem dX4_init_48 : decode cX4_init 48 = .ok (.if_icmp .ge 23, 3) := by decide +kernel
theorem dX4_init_51 : decode cX4_init 51 = .ok (.aload_n 0, 1) := by decide +kernel
theorem dX4_init_52 : decode cX4_init 52 = .ok (.getfield 11, 3) := by decide +kernel
theorem dX4_init_55 : decode cX4_init 55 = .ok (.iload_n 1, 1) := by decide +kernel
theorem dX4_init_56 : decode cX4_init 56 = .ok (.new 9, 3) := by decide +kernel
theorem dX4_init_59 : decode cX4_init 59 = .ok (.dup, 1) := by decide +kernel
theorem dX4_init_60 : decode cX4_init 60 = .ok (.iload_n 1, 1) := by decide +kernel
theorem dX4_init_61 : decode cX4_init 61 = .ok (.invokespecial 29, 3) := by decide +kernel
theorem dX4_init_64 : decode cX4_init 64 = .ok (.aastore, 1) := by decide +kernel
theorem dX4_init_65 : decode cX4_init 65 = .ok (.iinc 1 1, 3) := by decide +kernel
theorem dX4_init_68 : decode cX4_init 68 = .ok (.goto (-23), 3) := by decide +kernel
theorem dX4_init_71 : decode cX4_init 71 = .ok (.return_, 1) := by decide +kernel
set_option maxRecDepth 20000 in
theorem ggX4_dig_X4_basinNumbered : GoodIn wsX4_dig wsX4_basinNumbered := goodIn_ca (goodIn_r _ [13, 14, 15, 16, 92, 93, 94, 95, 96, 97] (by decide +kernel) (by decide +kernel)) (goodIn_sub (fun _ h => List.mem_cons_of_mem _ (List.mem_append_right _ h)) (by decide +kernel))
set_option maxRecDepth 20000 in
theorem gX4_dig_X4_basinNumbered : GoodIn wsX4_dig (wsV RX4 32 RX4 yX4_basinNumbered wsX4_basinNumbered) := goodIn_app (goodIn_of _ (by decide +kernel)) ggX4_dig_X4_basinNumbered
set_option maxRecDepth 20000 in
theorem ggX4_dig_X4_requireRange : GoodIn wsX4_dig wsX4_requireRange := goodIn_ca (goodIn_r _ [19, 1, 2] (by decide +kernel) (by decide +kernel)) (goodIn_sub (fun _ h => List.mem_cons_of_mem _ (List.mem_append_left _ (List.mem_append_left _ (List.mem_append_right _ h)))) (by decide +kernel))
set_option maxRecDepth 20000 in
theorem gX4_dig_X4_requireRange : GoodIn wsX4_dig (va_wsS RX4 43 yX4_requireRange wsX4_requireRange) := goodIn_app (goodIn_of _ (by decide +kernel)) ggX4_dig_X4_requireRange
set_option maxRecDepth 20000 in
theorem ggX4_dig_Jx4a65c_size_8abf5 : GoodIn wsX4_dig wsJx4a65c_size_8abf5 := goodIn_r _ [24, 25, 104, 105, 106] (by decide +kernel) (by decide +kernel)
set_option maxRecDepth 20000 in
theorem gX4_dig_Jx4a65c_size_8abf5 : GoodIn wsX4_dig (wsV RX4 47 RJx4a65c yJx4a65c_size_8abf5 wsJx4a65c_size_8abf5) := goodIn_app (goodIn_of _ (by decide +kernel)) ggX4_dig_Jx4a65c_size_8abf5
set_option maxRecDepth 20000 in
theorem ggX4_dig_X2_init : GoodIn wsX4_dig wsX2_init := goodIn_r _ [28, 29, 30, 31, 32, 33, 34, 35, 36, 37, 98, 99, 100, 101, 102, 103] (by decide +kernel) (by decide +kernel)
set_option maxRecDepth 20000 in
theorem gX4_dig_X2_init : GoodIn wsX4_dig (wsX2_init) := ggX4_dig_X2_init
set_option maxRecDepth 20000 in
theorem ggX4_dig_Jx4a65c_add_9ea2d : GoodIn wsX4_dig wsJx4a65c_add_9ea2d := goodIn_r _ [41, 42, 43, 44, 25, 45, 46, 47, 23, 48, 49, 50, 51, 52, 53, 54, 55, 56, 57, 58, 59, 60, 61, 62, 63, 64, 65, 66, 67, 68, 69, 70, 71, 72, 73, 74, 75, 76, 77, 78, 79, 80, 81, 82, 83, 84, 85, 86, 87, 88, 89, 90, 91, 104, 105, 106] (by decide +kernel) (by decide +kernel)
set_option maxRecDepth 20000 in
theorem gX4_dig_Jx4a65c_add_9ea2d : GoodIn wsX4_dig (wsV RX4 61 RJx4a65c yJx4a65c_add_9ea2d wsJx4a65c_add_9ea2d) := goodIn_app (goodIn_of _ (by decide +kernel)) ggX4_dig_Jx4a65c_add_9ea2d
theorem dX4_dig_0 : decode cX4_dig 0 = .ok (.aload_n 0, 1) := by decide +kernel
theorem dX4_dig_1 : decode cX4_dig 1 = .ok (.iload_n 1, 1) := by decide +kernel
theorem dX4_dig_2 : decode cX4_dig 2 = .ok (.invokevirtual 32, 3) := by decide +kernel
theorem dX4_dig_5 : decode cX4_dig 5 = .ok (.astore 5, 2) := by decide +kernel
theorem dX4_dig_7 : decode cX4_dig 7 = .ok (.aload_n 0, 1) := by decide +kernel
theorem dX4_dig_8 : decode cX4_dig 8 = .ok (.iload_n 2, 1) := by decide +kernel
theorem dX4_dig_9 : decode cX4_dig 9 = .ok (.invokevirtual 32, 3) := by decide +kernel
theorem dX4_dig_12 : decode cX4_dig 12 = .ok (.astore 6, 2) := by decide +kernel
theorem dX4_dig_14 : decode cX4_dig 14 = .ok (.aload 5, 2) := by decide +kernel
theorem dX4_dig_16 : decode cX4_dig 16 = .ok (.aload 6, 2) := by decide +kernel
theorem dX4_dig_18 : decode cX4_dig 18 = .ok (.if_acmp .ne 13, 3) := by decide +kernel
theorem dX4_dig_21 : decode cX4_dig 21 = .ok (.new 36, 3) := by decide +kernel
theorem dX4_dig_24 : decode cX4_dig 24 = .ok (.dup, 1) := by decide +kernel
theorem dX4_dig_25 : decode cX4_dig 25 = .ok (.ldc 38, 2) := by decide +kernel
theorem dX4_dig_27 : decode cX4_dig 27 = .ok (.invokespecial 40, 3) := by decide +kernel
theorem dX4_dig_30 : decode cX4_dig 30 = .ok (.athrow, 1) := by decide +kernel
theorem dX4_dig_31 : decode cX4_dig 31 = .ok (.iload_n 3, 1) := by decide +kernel
theorem dX4_dig_32 : decode cX4_dig 32 = .ok (.iconst 1, 1) := by decide +kernel
theorem dX4_dig_33 : decode cX4_dig 33 = .ok (.bipush 9, 2) := by decide +kernel
theorem dX4_dig_35 : decode cX4_dig 35 = .ok (.invokestatic 43, 3) := by decide +kernel
theorem dX4_dig_38 : decode cX4_dig 38 = .ok (.iload 4, 2) := by decide +kernel
theorem dX4_dig_40 : decode cX4_dig 40 = .ok (.iconst 0, 1) := by decide +kernel
theorem dX4_dig_41 : decode cX4_dig 41 = .ok (.bipush 9, 2) := by decide +kernel
theorem dX4_dig_43 : decode cX4_dig 43 = .ok (.invokestatic 43, 3) := by decide +kernel
theorem dX4_dig_46 : decode cX4_dig 46 = .ok (.aload_n 0, 1) := by decide +kernel
theorem dX4_dig_47 : decode cX4_dig 47 = .ok (.getfield 18, 3) := by decide +kernel
theorem dX4_dig_50 : decode cX4_dig 50 = .ok (.invokevirtual 47, 3) := by decide +kernel
theorem dX4_dig_53 : decode cX4_dig 53 = .ok (.istore 7, 2) := by decide +kernel
theorem dX4_dig_55 : decode cX4_dig 55 = .ok (.iload 7, 2) := by decide +kernel
theorem dX4_dig_57 : decode cX4_dig 57 = .ok (.bipush 14, 2) := by decide +kernel
theorem dX4_dig_59 : decode cX4_dig 59 = .ok (.if_icmp .lt 13, 3) := by decide +kernel
theorem dX4_dig_62 : decode cX4_dig 62 = .ok (.new 51, 3) := by decide +kernel
theorem dX4_dig_65 : decode cX4_dig 65 = .ok (.dup, 1) := by decide +kernel
theorem dX4_dig_66 : decode cX4_dig 66 = .ok (.ldc 53, 2) := by decide +kernel
theorem dX4_dig_68 : decode cX4_dig 68 = .ok (.invokespecial 55, 3) := by decide +kernel
theorem dX4_dig_71 : decode cX4_dig 71 = .ok (.athrow, 1) := by decide +kernel
theorem dX4_dig_72 : decode cX4_dig 72 = .ok (.aload_n 0, 1) := by decide +kernel
theorem dX4_dig_73 : decode cX4_dig 73 = .ok (.getfield 18, 3) := by decide +kernel
theorem dX4_dig_76 : decode cX4_dig 76 = .ok (.new 56, 3) := by decide +kernel
theorem dX4_dig_79 : decode cX4_dig 79 = .ok (.dup, 1) := by decide +kernel
theorem dX4_dig_80 : decode cX4_dig 80 = .ok (.iload 7, 2) := by decide +kernel
theorem dX4_dig_82 : decode cX4_dig 82 = .ok (.aload 5, 2) := by decide +kernel
theorem dX4_dig_84 : decode cX4_dig 84 = .ok (.aload 6, 2) := by decide +kernel
theorem dX4_dig_86 : decode cX4_dig 86 = .ok (.iload_n 3, 1) := by decide +kernel
theorem dX4_dig_87 : decode cX4_dig 87 = .ok (.iload 4, 2) := by decide +kernel
theorem dX4_dig_89 : decode cX4_dig 89 = .ok (.invokespecial 58, 3) := by decide +kernel
theorem dX4_dig_92 : decode cX4_dig 92 = .ok (.invokevirtual 61, 3) := by decide +kernel
theorem dX4_dig_95 : decode cX4_dig 95 = .ok (.pop, 1) := by decide +kernel
theorem dX4_dig_96 : decode cX4_dig 96 = .ok (.iload 7, 2) := by decide +kernel
theorem dX4_dig_98 : decode cX4_dig 98 = .ok (.ireturn, 1) := by decide +kernel
set_option maxRecDepth 20000 in
theorem ggX4_setGate_X4_canalNumbered : GoodIn wsX4_setGate wsX4_canalNumbered := goodIn_ca (goodIn_r _ [6, 7, 8, 9, 10, 11, 12, 13, 14, 15, 16, 17, 18, 19, 20, 21, 22, 23, 24, 25, 26, 27, 28, 29, 30, 31, 32, 33, 40, 41, 42, 43, 44, 45, 46, 47, 48] (by decide +kernel) (by decide +kernel)) (goodIn_sub (fun _ h => List.mem_cons_of_mem _ (List.mem_append_right _ h)) (by decide +kernel))
set_option maxRecDepth 20000 in
theorem gX4_setGate_X4_canalNumbered : GoodIn wsX4_setGate (wsV RX4 65 RX4 yX4_canalNumbered wsX4_canalNumbered) := goodIn_app (goodIn_of _ (by decide +kernel)) ggX4_setGate_X4_canalNumbered
theorem dX4_setGate_0 : decode cX4_setGate 0 = .ok (.aload_n 0, 1) := by decide +kernel
theorem dX4_setGate_1 : decode cX4_setGate 1 = .ok (.iload_n 1, 1) := by decide +kernel
theorem dX4_setGate_2 : decode cX4_setGate 2 = .ok (.invokevirtual 65, 3) := by decide +kernel
theorem dX4_setGate_5 : decode cX4_setGate 5 = .ok (.astore_n 3, 1) := by decide +kernel
theorem dX4_setGate_6 : decode cX4_setGate 6 = .ok (.aload_n 3, 1) := by decide +kernel
theorem dX4_setGate_7 : decode cX4_setGate 7 = .ok (.getfield 69, 3) := by decide +kernel
theorem dX4_setGate_10 : decode cX4_setGate 10 = .ok (.istore 4, 2) := by decide +kernel
theorem dX4_setGate_12 : decode cX4_setGate 12 = .ok (.aload_n 3, 1) := by decide +kernel
theorem dX4_setGate_13 : decode cX4_setGate 13 = .ok (.iload_n 2, 1) := by decide +kernel
theorem dX4_setGate_14 : decode cX4_setGate 14 = .ok (.putfield 69, 3) := by decide +kernel
theorem dX4_setGate_17 : decode cX4_setGate 17 = .ok (.iload 4, 2) := by decide +kernel
theorem dX4_setGate_19 : decode cX4_setGate 19 = .ok (.ireturn, 1) := by decide +kernel
set_option maxRecDepth 20000 in
theorem ggX4_setMark_X4_basinNumbered : GoodIn wsX4_setMark wsX4_basinNumbered := goodIn_ca (goodIn_r _ [6, 7, 8, 9, 21, 22, 23, 24, 25, 26] (by decide +kernel) (by decide +kernel)) (goodIn_sub (fun _ h => List.mem_cons_of_mem _ (List.mem_append_left _ (List.mem_append_right _ h))) (by decide +kernel))
set_option maxRecDepth 20000 in
theorem gX4_setMark_X4_basinNumbered : GoodIn wsX4_setMark (wsV RX4 32 RX4 yX4_basinNumbered wsX4_basinNumbered) := goodIn_app (goodIn_of _ (by decide +kernel)) ggX4_setMark_X4_basinNumbered
set_option maxRecDepth 20000 in
theorem ggX4_setMark_X4_requireRange : GoodIn wsX4_setMark wsX4_requireRange := goodIn_ca (goodIn_r _ [12, 13, 14] (by decide +kernel) (by decide +kernel)) (goodIn_sub (fun _ h => List.mem_cons_of_mem _ (List.mem_append_right _ h)) (by decide +kernel))
set_option maxRecDepth 20000 in
theorem gX4_setMark_X4_requireRange : GoodIn wsX4_setMark (va_wsS RX4 43 yX4_requireRange wsX4_requireRange) := goodIn_app (goodIn_of _ (by decide +kernel)) ggX4_setMark_X4_requireRange
theorem dX4_setMark_0 : decode cX4_setMark 0 = .ok (.aload_n 0, 1) := by decide +kernel
theorem dX4_setMark_1 : decode cX4_setMark 1 = .ok (.iload_n 1, 1) := by decide +kernel
theorem dX4_setMark_2 : decode cX4_setMark 2 = .ok (.invokevirtual 32, 3) := by decide +kernel
theorem dX4_setMark_5 : decode cX4_setMark 5 = .ok (.astore_n 3, 1) := by decide +kernel
theorem dX4_setMark_6 : decode cX4_setMark 6 = .ok (.iload_n 2, 1) := by decide +kernel
theorem dX4_setMark_7 : decode cX4_setMark 7 = .ok (.iconst 1, 1) := by decide +kernel
theorem dX4_setMark_8 : decode cX4_setMark 8 = .ok (.bipush 6, 2) := by decide +kernel
theorem dX4_setMark_10 : decode cX4_setMark 10 = .ok (.invokestatic 43, 3) := by decide +kernel
theorem dX4_setMark_13 : decode cX4_setMark 13 = .ok (.aload_n 3, 1) := by decide +kernel
theorem dX4_setMark_14 : decode cX4_setMark 14 = .ok (.getfield 73, 3) := by decide +kernel
theorem dX4_setMark_17 : decode cX4_setMark 17 = .ok (.istore 4, 2) := by decide +kernel
theorem dX4_setMark_19 : decode cX4_setMark 19 = .ok (.aload_n 3, 1) := by decide +kernel
theorem dX4_setMark_20 : decode cX4_setMark 20 = .ok (.iload_n 2, 1) := by decide +kernel
theorem dX4_setMark_21 : decode cX4_setMark 21 = .ok (.putfield 73, 3) := by decide +kernel
theorem dX4_setMark_24 : decode cX4_setMark 24 = .ok (.iload 4, 2) := by decide +kernel
theorem dX4_setMark_26 : decode cX4_setMark 26 = .ok (.ireturn, 1) := by decide +kernel
set_option maxRecDepth 20000 in
theorem ggX4_rain_X4_basinNumbered : GoodIn wsX4_rain wsX4_basinNumbered := goodIn_ca (goodIn_r _ [7, 8, 9, 10, 26, 27, 28, 29, 30, 31] (by decide +kernel) (by decide +kernel)) (goodIn_sub (fun _ h => List.mem_cons_of_mem _ (List.mem_append_left _ (List.mem_append_right _ h))) (by decide +kernel))
set_option maxRecDepth 20000 in
theorem gX4_rain_X4_basinNumbered : GoodIn wsX4_rain (wsV RX4 32 RX4 yX4_basinNumbered wsX4_basinNumbered) := goodIn_app (goodIn_of _ (by decide +kernel)) ggX4_rain_X4_basinNumbered
set_option maxRecDepth 20000 in
theorem ggX4_rain_X4_requireRange : GoodIn wsX4_rain wsX4_requireRange := goodIn_ca (goodIn_r _ [13, 14, 15] (by decide +kernel) (by decide +kernel)) (goodIn_sub (fun _ h => List.mem_cons_of_mem _ (List.mem_append_right _ h)) (by decide +kernel))
set_option maxRecDepth 20000 in
theorem gX4_rain_X4_requireRange : GoodIn wsX4_rain (va_wsS RX4 43 yX4_requireRange wsX4_requireRange) := goodIn_app (goodIn_of _ (by decide +kernel)) ggX4_rain_X4_requireRange
set_option maxRecDepth 20000 in
theorem ggX4_rain_X1_fill : GoodIn wsX4_rain wsX1_fill := goodIn_r _ [20, 21, 22, 23, 24, 25, 32, 33, 34, 35, 36, 37] (by decide +kernel) (by decide +kernel)
set_option maxRecDepth 20000 in
theorem gX4_rain_X1_fill : GoodIn wsX4_rain (wsV RX4 80 RX1 yX1_fill wsX1_fill) := goodIn_app (goodIn_of _ (by decide +kernel)) ggX4_rain_X1_fill
theorem dX4_rain_0 : decode cX4_rain 0 = .ok (.aload_n 0, 1) := by decide +kernel
theorem dX4_rain_1 : decode cX4_rain 1 = .ok (.iload_n 1, 1) := by decide +kernel
theorem dX4_rain_2 : decode cX4_rain 2 = .ok (.invokevirtual 32, 3) := by decide +kernel
theorem dX4_rain_5 : decode cX4_rain 5 = .ok (.astore_n 3, 1) := by decide +kernel
theorem dX4_rain_6 : decode cX4_rain 6 = .ok (.iload_n 2, 1) := by decide +kernel
theorem dX4_rain_7 : decode cX4_rain 7 = .ok (.iconst 1, 1) := by decide +kernel
theorem dX4_rain_8 : decode cX4_rain 8 = .ok (.sipush 200, 3) := by decide +kernel
theorem dX4_rain_11 : decode cX4_rain 11 = .ok (.invokestatic 43, 3) := by decide +kernel
theorem dX4_rain_14 : decode cX4_rain 14 = .ok (.aload_n 0, 1) := by decide +kernel
theorem dX4_rain_15 : decode cX4_rain 15 = .ok (.dup, 1) := by decide +kernel
theorem dX4_rain_16 : decode cX4_rain 16 = .ok (.getfield 77, 3) := by decide +kernel
theorem dX4_rain_19 : decode cX4_rain 19 = .ok (.aload_n 3, 1) := by decide +kernel
theorem dX4_rain_20 : decode cX4_rain 20 = .ok (.iload_n 2, 1) := by decide +kernel
theorem dX4_rain_21 : decode cX4_rain 21 = .ok (.invokevirtual 80, 3) := by decide +kernel
theorem dX4_rain_24 : decode cX4_rain 24 = .ok (.iadd, 1) := by decide +kernel
theorem dX4_rain_25 : decode cX4_rain 25 = .ok (.putfield 77, 3) := by decide +kernel
theorem dX4_rain_28 : decode cX4_rain 28 = .ok (.aload_n 3, 1) := by decide +kernel
theorem dX4_rain_29 : decode cX4_rain 29 = .ok (.getfield 84, 3) := by decide +kernel
theorem dX4_rain_32 : decode cX4_rain 32 = .ok (.ireturn, 1) := by decide +kernel
set_option maxRecDepth 20000 in
theorem ggX4_dry_X4_requireRange : GoodIn wsX4_dry wsX4_requireRange := goodIn_ca (goodIn_r _ [5, 6, 7] (by decide +kernel) (by decide +kernel)) (goodIn_sub (fun _ h => List.mem_cons_of_mem _ (List.mem_append_right _ h)) (by decide +kernel))
set_option maxRecDepth 20000 in
theorem gX4_dry_X4_requireRange : GoodIn wsX4_dry (va_wsS RX4 43 yX4_requireRange wsX4_requireRange) := goodIn_app (goodIn_of _ (by decide +kernel)) ggX4_dry_X4_requireRange
set_option maxRecDepth 20000 in
theorem ggX4_dry_X1_loseDryDayWater : GoodIn wsX4_dry wsX1_loseDryDayWater := goodIn_r _ [12, 13, 14, 15, 16, 17, 29, 30, 31, 32, 33, 34] (by decide +kernel) (by decide +kernel)
set_option maxRecDepth 20000 in
theorem gX4_dry_X1_loseDryDayWater : GoodIn wsX4_dry (wsV RX4 87 RX1 yX1_loseDryDayWater wsX1_loseDryDayWater) := goodIn_app (goodIn_of _ (by decide +kernel)) ggX4_dry_X1_loseDryDayWater
set_option maxRecDepth 20000 in
theorem ggX4_dry_X4_countLowBasins : GoodIn wsX4_dry wsX4_countLowBasins := goodIn_r _ [21, 1, 22, 23, 24, 25, 26, 27, 28, 29, 30, 31, 32, 33, 34] (by decide +kernel) (by decide +kernel)
set_option maxRecDepth 20000 in
theorem gX4_dry_X4_countLowBasins : GoodIn wsX4_dry (wsV RX4 90 RX4 yX4_countLowBasins wsX4_countLowBasins) := goodIn_app (goodIn_of _ (by decide +kernel)) ggX4_dry_X4_countLowBasins
theorem dX4_dry_0 : decode cX4_dry 0 = .ok (.iload_n 1, 1) := by decide +kernel
theorem dX4_dry_1 : decode cX4_dry 1 = .ok (.iconst 1, 1) := by decide +kernel
theorem dX4_dry_2 : decode cX4_dry 2 = .ok (.bipush 50, 2) := by decide +kernel
theorem dX4_dry_4 : decode cX4_dry 4 = .ok (.invokestatic 43, 3) := by decide +kernel
theorem dX4_dry_7 : decode cX4_dry 7 = .ok (.iconst 0, 1) := by decide +kernel
theorem dX4_dry_8 : decode cX4_dry 8 = .ok (.istore_n 2, 1) := by decide +kernel
theorem dX4_dry_9 : decode cX4_dry 9 = .ok (.iload_n 2, 1) := by decide +kernel
theorem dX4_dry_10 : decode cX4_dry 10 = .ok (.iload_n 1, 1) := by decide +kernel
theorem dX4_dry_11 : decode cX4_dry 11 = .ok (.if_icmp .ge 32, 3) := by decide +kernel
theorem dX4_dry_14 : decode cX4_dry 14 = .ok (.iconst 0, 1) := by decide +kernel
theorem dX4_dry_15 : decode cX4_dry 15 = .ok (.istore_n 3, 1) := by decide +kernel
theorem dX4_dry_16 : decode cX4_dry 16 = .ok (.iload_n 3, 1) := by decide +kernel
theorem dX4_dry_17 : decode cX4_dry 17 = .ok (.bipush 8, 2) := by decide +kernel
theorem dX4_dry_19 : decode cX4_dry 19 = .ok (.if_icmp .ge 18, 3) := by decide +kernel
theorem dX4_dry_22 : decode cX4_dry 22 = .ok (.aload_n 0, 1) := by decide +kernel
theorem dX4_dry_23 : decode cX4_dry 23 = .ok (.getfield 11, 3) := by decide +kernel
theorem dX4_dry_26 : decode cX4_dry 26 = .ok (.iload_n 3, 1) := by decide +kernel
theorem dX4_dry_27 : decode cX4_dry 27 = .ok (.aaload, 1) := by decide +kernel
theorem dX4_dry_28 : decode cX4_dry 28 = .ok (.invokevirtual 87, 3) := by decide +kernel
theorem dX4_dry_31 : decode cX4_dry 31 = .ok (.iinc 3 1, 3) := by decide +kernel
theorem dX4_dry_34 : decode cX4_dry 34 = .ok (.goto (-18), 3) := by decide +kernel
theorem dX4_dry_37 : decode cX4_dry 37 = .ok (.iinc 2 1, 3) := by decide +kernel
theorem dX4_dry_40 : decode cX4_dry 40 = .ok (.goto (-31), 3) := by decide +kernel
theorem dX4_dry_43 : decode cX4_dry 43 = .ok (.aload_n 0, 1) := by decide +kernel
theorem dX4_dry_44 : decode cX4_dry 44 = .ok (.invokevirtual 90, 3) := by decide +kernel
theorem dX4_dry_47 : decode cX4_dry 47 = .ok (.ireturn, 1) := by decide +kernel
set_option maxRecDepth 20000 in
theorem ggX4_settle_X4_requireRange : GoodIn wsX4_settle wsX4_requireRange := goodIn_ca (goodIn_r _ [5, 6, 7] (by decide +kernel) (by decide +kernel)) (goodIn_sub (fun _ h => List.mem_cons_of_mem _ (List.mem_append_right _ h)) (by decide +kernel))
set_option maxRecDepth 20000 in
theorem gX4_settle_X4_requireRange : GoodIn wsX4_settle (va_wsS RX4 43 yX4_requireRange wsX4_requireRange) := goodIn_app (goodIn_of _ (by decide +kernel)) ggX4_settle_X4_requireRange
set_option maxRecDepth 20000 in
theorem ggX4_settle_X4_prepareNextTables : GoodIn wsX4_settle wsX4_prepareNextTables := goodIn_r _ [11, 1, 12, 13, 14, 15, 16, 17, 18, 19, 20, 21, 22, 23, 24, 25, 26, 27, 28, 29, 30, 31, 32, 33, 34, 35, 36, 37, 38, 39, 40, 41, 42, 43, 44, 45, 46, 47, 48, 49, 50, 51, 52, 53, 54, 55, 56, 57, 58, 59, 60, 61, 62, 63, 64, 65, 66, 67, 68, 69, 70, 71, 72, 73, 87, 88, 89, 90, 91, 92, 93, 94, 95, 96, 97, 98, 99, 100, 101, 102, 103, 104, 105, 106, 107, 108, 109] (by decide +kernel) (by decide +kernel)
set_option maxRecDepth 20000 in
theorem gX4_settle_X4_prepareNextTables : GoodIn wsX4_settle (wsV RX4 93 RX4 yX4_prepareNextTables wsX4_prepareNextTables) := goodIn_app (goodIn_of _ (by decide +kernel)) ggX4_settle_X4_prepareNextTables
set_option maxRecDepth 20000 in
theorem ggX4_settle_X4_countNextChanges : GoodIn wsX4_settle wsX4_countNextChanges := goodIn_r _ [77, 1, 78, 12, 79, 80, 81, 21, 82, 23, 24, 87, 88, 89, 90, 91, 92, 93, 94, 95, 96, 97, 98, 105, 106] (by decide +kernel) (by decide +kernel)
set_option maxRecDepth 20000 in
theorem gX4_settle_X4_countNextChanges : GoodIn wsX4_settle (wsV RX4 96 RX4 yX4_countNextChanges wsX4_countNextChanges) := goodIn_app (goodIn_of _ (by decide +kernel)) ggX4_settle_X4_countNextChanges
set_option maxRecDepth 20000 in
theorem ggX4_settle_X1_turnTable : GoodIn wsX4_settle wsX1_turnTable := goodIn_r _ [86, 53, 56, 93, 94, 95, 96, 97, 98] (by decide +kernel) (by decide +kernel)
set_option maxRecDepth 20000 in
theorem gX4_settle_X1_turnTable : GoodIn wsX4_settle (wsV RX4 99 RX1 yX1_turnTable wsX1_turnTable) := goodIn_app (goodIn_of _ (by decide +kernel)) ggX4_settle_X1_turnTable
theorem dX4_settle_0 : decode cX4_settle 0 = .ok (.iload_n 1, 1) := by decide +kernel
theorem dX4_settle_1 : decode cX4_settle 1 = .ok (.iconst 1, 1) := by decide +kernel
theorem dX4_settle_2 : decode cX4_settle 2 = .ok (.bipush 50, 2) := by decide +kernel
theorem dX4_settle_4 : decode cX4_settle 4 = .ok (.invokestatic 43, 3) := by decide +kernel
theorem dX4_settle_7 : decode cX4_settle 7 = .ok (.iconst 0, 1) := by decide +kernel
theorem dX4_settle_8 : decode cX4_settle 8 = .ok (.istore_n 2, 1) := by decide +kernel
theorem dX4_settle_9 : decode cX4_settle 9 = .ok (.iconst 0, 1) := by decide +kernel
theorem dX4_settle_10 : decode cX4_settle 10 = .ok (.istore_n 3, 1) := by decide +kernel
theorem dX4_settle_11 : decode cX4_settle 11 = .ok (.iload_n 3, 1) := by decide +kernel
theorem dX4_settle_12 : decode cX4_settle 12 = .ok (.iload_n 1, 1) := by decide +kernel
theorem dX4_settle_13 : decode cX4_settle 13 = .ok (.if_icmp .ge 44, 3) := by decide +kernel
theorem dX4_settle_16 : decode cX4_settle 16 = .ok (.aload_n 0, 1) := by decide +kernel
theorem dX4_settle_17 : decode cX4_settle 17 = .ok (.invokevirtual 93, 3) := by decide +kernel
theorem dX4_settle_20 : decode cX4_settle 20 = .ok (.aload_n 0, 1) := by decide +kernel
theorem dX4_settle_21 : decode cX4_settle 21 = .ok (.invokevirtual 96, 3) := by decide +kernel
theorem dX4_settle_24 : decode cX4_settle 24 = .ok (.istore_n 2, 1) := by decide +kernel
theorem dX4_settle_25 : decode cX4_settle 25 = .ok (.iconst 0, 1) := by decide +kernel
theorem dX4_settle_26 : decode cX4_settle 26 = .ok (.istore 4, 2) := by decide +kernel
theorem dX4_settle_28 : decode cX4_settle 28 = .ok (.iload 4, 2) := by decide +kernel
theorem dX4_settle_30 : decode cX4_settle 30 = .ok (.bipush 8, 2) := by decide +kernel
theorem dX4_settle_32 : decode cX4_settle 32 = .ok (.if_icmp .ge 19, 3) := by decide +kernel
theorem dX4_settle_35 : decode cX4_settle 35 = .ok (.aload_n 0, 1) := by decide +kernel
theorem dX4_settle_36 : decode cX4_settle 36 = .ok (.getfield 11, 3) := by decide +kernel
theorem dX4_settle_39 : decode cX4_settle 39 = .ok (.iload 4, 2) := by decide +kernel
theorem dX4_settle_41 : decode cX4_settle 41 = .ok (.aaload, 1) := by decide +kernel
theorem dX4_settle_42 : decode cX4_settle 42 = .ok (.invokevirtual 99, 3) := by decide +kernel
theorem dX4_settle_45 : decode cX4_settle 45 = .ok (.iinc 4 1, 3) := by decide +kernel
theorem dX4_settle_48 : decode cX4_settle 48 = .ok (.goto (-20), 3) := by decide +kernel
theorem dX4_settle_51 : decode cX4_settle 51 = .ok (.iinc 3 1, 3) := by decide +kernel
theorem dX4_settle_54 : decode cX4_settle 54 = .ok (.goto (-43), 3) := by decide +kernel
theorem dX4_settle_57 : decode cX4_settle 57 = .ok (.iload_n 2, 1) := by decide +kernel
theorem dX4_settle_58 : decode cX4_settle 58 = .ok (.ireturn, 1) := by decide +kernel
set_option maxRecDepth 20000 in
theorem ggX4_setOut_X4_basinNumbered : GoodIn wsX4_setOut wsX4_basinNumbered := goodIn_ca (goodIn_r _ [13, 14, 15, 16, 103, 104, 105, 106, 107, 108] (by decide +kernel) (by decide +kernel)) (goodIn_sub (fun _ h => List.mem_cons_of_mem _ (List.mem_append_left _ (List.mem_append_right _ h))) (by decide +kernel))
set_option maxRecDepth 20000 in
theorem gX4_setOut_X4_basinNumbered : GoodIn wsX4_setOut (wsV RX4 32 RX4 yX4_basinNumbered wsX4_basinNumbered) := goodIn_app (goodIn_of _ (by decide +kernel)) ggX4_setOut_X4_basinNumbered
set_option maxRecDepth 20000 in
theorem ggX4_setOut_X4_requireRange : GoodIn wsX4_setOut wsX4_requireRange := goodIn_ca (goodIn_r _ [19, 20, 21] (by decide +kernel) (by decide +kernel)) (goodIn_sub (fun _ h => List.mem_cons_of_mem _ (List.mem_append_right _ h)) (by decide +kernel))
set_option maxRecDepth 20000 in
theorem gX4_setOut_X4_requireRange : GoodIn wsX4_setOut (va_wsS RX4 43 yX4_requireRange wsX4_requireRange) := goodIn_app (goodIn_of _ (by decide +kernel)) ggX4_setOut_X4_requireRange
set_option maxRecDepth 20000 in
theorem ggX4_setOut_Jx4a65c_size_8abf5 : GoodIn wsX4_setOut wsJx4a65c_size_8abf5 := goodIn_r _ [26, 27, 124, 125, 126] (by decide +kernel) (by decide +kernel)
set_option maxRecDepth 20000 in
theorem gX4_setOut_Jx4a65c_size_8abf5 : GoodIn wsX4_setOut (wsV RX4 47 RJx4a65c yJx4a65c_size_8abf5 wsJx4a65c_size_8abf5) := goodIn_app (goodIn_of _ (by decide +kernel)) ggX4_setOut_Jx4a65c_size_8abf5
set_option maxRecDepth 20000 in
theorem ggX4_setOut_X1_isFull : GoodIn wsX4_setOut wsX1_isFull := goodIn_r _ [32, 33, 34, 23, 24, 25, 26, 27, 118, 119, 120, 121, 122, 123, 124, 125, 126] (by decide +kernel) (by decide +kernel)
set_option maxRecDepth 20000 in
theorem gX4_setOut_X1_isFull : GoodIn wsX4_setOut (wsV RX4 102 RX1 yX1_isFull wsX1_isFull) := goodIn_app (goodIn_of _ (by decide +kernel)) ggX4_setOut_X1_isFull
set_option maxRecDepth 20000 in
theorem ggX4_setOut_X0_init : GoodIn wsX4_setOut wsX0_init := goodIn_r _ [37, 38, 39, 40, 41, 42, 43, 44, 45, 46, 47, 48, 109, 110, 111, 112, 113, 114, 115, 116, 117, 118, 119, 120, 121, 122, 123] (by decide +kernel) (by decide +kernel)
set_option maxRecDepth 20000 in
theorem gX4_setOut_X0_init : GoodIn wsX4_setOut (wsX0_init) := ggX4_setOut_X0_init
set_option maxRecDepth 20000 in
theorem ggX4_setOut_Jx4a65c_add_9ea2d : GoodIn wsX4_setOut wsJx4a65c_add_9ea2d := goodIn_r _ [52, 53, 54, 55, 27, 56, 57, 58, 25, 59, 60, 61, 62, 63, 64, 65, 66, 67, 68, 69, 70, 71, 72, 73, 74, 75, 76, 77, 78, 79, 80, 81, 82, 83, 84, 85, 86, 87, 88, 89, 90, 91, 92, 93, 94, 95, 96, 97, 98, 99, 100, 101, 102, 124, 125, 126] (by decide +kernel) (by decide +kernel)
set_option maxRecDepth 20000 in
theorem gX4_setOut_Jx4a65c_add_9ea2d : GoodIn wsX4_setOut (wsV RX4 61 RJx4a65c yJx4a65c_add_9ea2d wsJx4a65c_add_9ea2d) := goodIn_app (goodIn_of _ (by decide +kernel)) ggX4_setOut_Jx4a65c_add_9ea2d
theorem dX4_setOut_0 : decode cX4_setOut 0 = .ok (.aload_n 0, 1) := by decide +kernel
theorem dX4_setOut_1 : decode cX4_setOut 1 = .ok (.iload_n 1, 1) := by decide +kernel
theorem dX4_setOut_2 : decode cX4_setOut 2 = .ok (.invokevirtual 32, 3) := by decide +kernel
theorem dX4_setOut_5 : decode cX4_setOut 5 = .ok (.astore 4, 2) := by decide +kernel
theorem dX4_setOut_7 : decode cX4_setOut 7 = .ok (.aload_n 0, 1) := by decide +kernel
theorem dX4_setOut_8 : decode cX4_setOut 8 = .ok (.iload_n 2, 1) := by decide +kernel
theorem dX4_setOut_9 : decode cX4_setOut 9 = .ok (.invokevirtual 32, 3) := by decide +kernel
theorem dX4_setOut_12 : decode cX4_setOut 12 = .ok (.astore 5, 2) := by decide +kernel
theorem dX4_setOut_14 : decode cX4_setOut 14 = .ok (.iload_n 3, 1) := by decide +kernel
theorem dX4_setOut_15 : decode cX4_setOut 15 = .ok (.iconst 1, 1) := by decide +kernel
theorem dX4_setOut_16 : decode cX4_setOut 16 = .ok (.bipush 20, 2) := by decide +kernel
theorem dX4_setOut_18 : decode cX4_setOut 18 = .ok (.invokestatic 43, 3) := by decide +kernel
theorem dX4_setOut_21 : decode cX4_setOut 21 = .ok (.aload_n 0, 1) := by decide +kernel
theorem dX4_setOut_22 : decode cX4_setOut 22 = .ok (.getfield 22, 3) := by decide +kernel
theorem dX4_setOut_25 : decode cX4_setOut 25 = .ok (.invokevirtual 47, 3) := by decide +kernel
theorem dX4_setOut_28 : decode cX4_setOut 28 = .ok (.istore 6, 2) := by decide +kernel
theorem dX4_setOut_30 : decode cX4_setOut 30 = .ok (.iload 6, 2) := by decide +kernel
theorem dX4_setOut_32 : decode cX4_setOut 32 = .ok (.bipush 40, 2) := by decide +kernel
theorem dX4_setOut_34 : decode cX4_setOut 34 = .ok (.if_icmp .ge 18, 3) := by decide +kernel
theorem dX4_setOut_37 : decode cX4_setOut 37 = .ok (.aload 4, 2) := by decide +kernel
theorem dX4_setOut_39 : decode cX4_setOut 39 = .ok (.aload 5, 2) := by decide +kernel
theorem dX4_setOut_41 : decode cX4_setOut 41 = .ok (.if_acmp .eq 21, 3) := by decide +kernel
theorem dX4_setOut_44 : decode cX4_setOut 44 = .ok (.aload 4, 2) := by decide +kernel
theorem dX4_setOut_46 : decode cX4_setOut 46 = .ok (.invokevirtual 102, 3) := by decide +kernel
theorem dX4_setOut_49 : decode cX4_setOut 49 = .ok (.ifCond .eq 13, 3) := by decide +kernel
theorem dX4_setOut_52 : decode cX4_setOut 52 = .ok (.new 51, 3) := by decide +kernel
theorem dX4_setOut_55 : decode cX4_setOut 55 = .ok (.dup, 1) := by decide +kernel
theorem dX4_setOut_56 : decode cX4_setOut 56 = .ok (.ldc 106, 2) := by decide +kernel
theorem dX4_setOut_58 : decode cX4_setOut 58 = .ok (.invokespecial 55, 3) := by decide +kernel
theorem dX4_setOut_61 : decode cX4_setOut 61 = .ok (.athrow, 1) := by decide +kernel
theorem dX4_setOut_62 : decode cX4_setOut 62 = .ok (.new 108, 3) := by decide +kernel
theorem dX4_setOut_65 : decode cX4_setOut 65 = .ok (.dup, 1) := by decide +kernel
theorem dX4_setOut_66 : decode cX4_setOut 66 = .ok (.iload 6, 2) := by decide +kernel
theorem dX4_setOut_68 : decode cX4_setOut 68 = .ok (.aload 4, 2) := by decide +kernel
theorem dX4_setOut_70 : decode cX4_setOut 70 = .ok (.aload 5, 2) := by decide +kernel
theorem dX4_setOut_72 : decode cX4_setOut 72 = .ok (.iload_n 3, 1) := by decide +kernel
theorem dX4_setOut_73 : decode cX4_setOut 73 = .ok (.invokespecial 110, 3) := by decide +kernel
theorem dX4_setOut_76 : decode cX4_setOut 76 = .ok (.astore 7, 2) := by decide +kernel
theorem dX4_setOut_78 : decode cX4_setOut 78 = .ok (.aload_n 0, 1) := by decide +kernel
theorem dX4_setOut_79 : decode cX4_setOut 79 = .ok (.getfield 22, 3) := by decide +kernel
theorem dX4_setOut_82 : decode cX4_setOut 82 = .ok (.aload 7, 2) := by decide +kernel
theorem dX4_setOut_84 : decode cX4_setOut 84 = .ok (.invokevirtual 61, 3) := by decide +kernel
theorem dX4_setOut_87 : decode cX4_setOut 87 = .ok (.pop, 1) := by decide +kernel
theorem dX4_setOut_88 : decode cX4_setOut 88 = .ok (.aload 4, 2) := by decide +kernel
theorem dX4_setOut_90 : decode cX4_setOut 90 = .ok (.aload 5, 2) := by decide +kernel
theorem dX4_setOut_92 : decode cX4_setOut 92 = .ok (.if_acmp .ne 12, 3) := by decide +kernel
theorem dX4_setOut_95 : decode cX4_setOut 95 = .ok (.aload 7, 2) := by decide +kernel
theorem dX4_setOut_97 : decode cX4_setOut 97 = .ok (.iconst 1, 1) := by decide +kernel
theorem dX4_setOut_98 : decode cX4_setOut 98 = .ok (.putfield 113, 3) := by decide +kernel
theorem dX4_setOut_101 : decode cX4_setOut 101 = .ok (.goto 14, 3) := by decide +kernel
theorem dX4_setOut_104 : decode cX4_setOut 104 = .ok (.aload 4, 2) := by decide +kernel
theorem dX4_setOut_106 : decode cX4_setOut 106 = .ok (.getfield 116, 3) := by decide +kernel
theorem dX4_setOut_109 : decode cX4_setOut 109 = .ok (.aload 7, 2) := by decide +kernel
theorem dX4_setOut_111 : decode cX4_setOut 111 = .ok (.invokevirtual 61, 3) := by decide +kernel
theorem dX4_setOut_114 : decode cX4_setOut 114 = .ok (.pop, 1) := by decide +kernel
theorem dX4_setOut_115 : decode cX4_setOut 115 = .ok (.iload 6, 2) := by decide +kernel
theorem dX4_setOut_117 : decode cX4_setOut 117 = .ok (.ireturn, 1) := by decide +kernel
set_option maxRecDepth 20000 in
theorem ggX4_move_X4_requireRange : GoodIn wsX4_move wsX4_requireRange := goodIn_ca (goodIn_r _ [7, 8, 9] (by decide +kernel) (by decide +kernel)) (goodIn_sub (fun _ h => List.mem_cons_of_mem _ (List.mem_append_right _ h)) (by decide +kernel))
set_option maxRecDepth 20000 in
theorem gX4_move_X4_requireRange : GoodIn wsX4_move (va_wsS RX4 43 yX4_requireRange wsX4_requireRange) := goodIn_app (goodIn_of _ (by decide +kernel)) ggX4_move_X4_requireRange
set_option maxRecDepth 20000 in
theorem ggX4_move_X4_tickBarges : GoodIn wsX4_move wsX4_tickBarges := goodIn_r _ [13, 3, 14, 15, 16, 17, 6, 18, 19, 20, 21, 22, 23, 24, 25, 26, 27, 28, 29, 30, 31, 32, 33, 34, 35, 36, 37, 38, 39, 40, 41, 42, 43, 44, 45, 46, 47, 48, 49, 50, 51, 52, 53, 54, 55, 56, 57, 58, 59, 60, 61, 62, 63, 64, 65, 66, 67, 68, 69, 70, 71, 72, 73, 74, 75, 76, 77, 78, 79, 80, 81, 82, 83, 84, 85, 86, 87, 88, 89, 90, 91, 92, 93, 94, 95, 96, 97, 98, 99, 100, 101, 102, 103, 104, 105, 106, 107, 108, 109, 110, 111, 112, 113, 114, 115, 116, 117, 118, 119, 120, 121, 122, 123, 124, 125, 126, 127, 128, 129, 130, 131, 132, 133, 134, 135, 136, 137, 138, 139, 140, 141, 142, 143, 144, 145, 146, 147, 148, 149, 150, 151, 152, 153, 154, 155, 156, 157, 158, 159, 160, 161, 162, 163, 164, 165, 166, 167, 168, 169, 170, 171, 172, 173, 174, 175, 176, 177, 178, 179, 180, 181, 182, 183, 184, 185, 186, 187, 188, 189, 190, 191, 192, 193, 194, 195, 196, 197, 198, 199, 200, 201, 202] (by decide +kernel) (by decide +kernel)
set_option maxRecDepth 20000 in
theorem gX4_move_X4_tickBarges : GoodIn wsX4_move (wsV RX4 124 RX4 yX4_tickBarges wsX4_tickBarges) := goodIn_app (goodIn_of _ (by decide +kernel)) ggX4_move_X4_tickBarges
theorem dX4_move_0 : decode cX4_move 0 = .ok (.iload_n 1, 1) := by decide +kernel
theorem dX4_move_1 : decode cX4_move 1 = .ok (.iconst 1, 1) := by decide +kernel
theorem dX4_move_2 : decode cX4_move 2 = .ok (.bipush 50, 2) := by decide +kernel
theorem dX4_move_4 : decode cX4_move 4 = .ok (.invokestatic 43, 3) := by decide +kernel
theorem dX4_move_7 : decode cX4_move 7 = .ok (.iload_n 1, 1) := by decide +kernel
theorem dX4_move_8 : decode cX4_move 8 = .ok (.sipush 2000, 3) := by decide +kernel
theorem dX4_move_11 : decode cX4_move 11 = .ok (.aload_n 0, 1) := by decide +kernel
theorem dX4_move_12 : decode cX4_move 12 = .ok (.getfield 119, 3) := by decide +kernel
theorem dX4_move_15 : decode cX4_move 15 = .ok (.isub, 1) := by decide +kernel
theorem dX4_move_16 : decode cX4_move 16 = .ok (.if_icmp .le 13, 3) := by decide +kernel
theorem dX4_move_19 : decode cX4_move 19 = .ok (.new 51, 3) := by decide +kernel
theorem dX4_move_22 : decode cX4_move 22 = .ok (.dup, 1) := by decide +kernel
theorem dX4_move_23 : decode cX4_move 23 = .ok (.ldc 122, 2) := by decide +kernel
theorem dX4_move_25 : decode cX4_move 25 = .ok (.invokespecial 55, 3) := by decide +kernel
theorem dX4_move_28 : decode cX4_move 28 = .ok (.athrow, 1) := by decide +kernel
theorem dX4_move_29 : decode cX4_move 29 = .ok (.iconst 0, 1) := by decide +kernel
theorem dX4_move_30 : decode cX4_move 30 = .ok (.istore_n 2, 1) := by decide +kernel
theorem dX4_move_31 : decode cX4_move 31 = .ok (.iconst 0, 1) := by decide +kernel
theorem dX4_move_32 : decode cX4_move 32 = .ok (.istore_n 3, 1) := by decide +kernel
theorem dX4_move_33 : decode cX4_move 33 = .ok (.iload_n 3, 1) := by decide +kernel
theorem dX4_move_34 : decode cX4_move 34 = .ok (.iload_n 1, 1) := by decide +kernel
theorem dX4_move_35 : decode cX4_move 35 = .ok (.if_icmp .ge 16, 3) := by decide +kernel
theorem dX4_move_38 : decode cX4_move 38 = .ok (.iload_n 2, 1) := by decide +kernel
theorem dX4_move_39 : decode cX4_move 39 = .ok (.aload_n 0, 1) := by decide +kernel
theorem dX4_move_40 : decode cX4_move 40 = .ok (.invokevirtual 124, 3) := by decide +kernel
theorem dX4_move_43 : decode cX4_move 43 = .ok (.iadd, 1) := by decide +kernel
theorem dX4_move_44 : decode cX4_move 44 = .ok (.istore_n 2, 1) := by decide +kernel
theorem dX4_move_45 : decode cX4_move 45 = .ok (.iinc 3 1, 3) := by decide +kernel
theorem dX4_move_48 : decode cX4_move 48 = .ok (.goto (-15), 3) := by decide +kernel
theorem dX4_move_51 : decode cX4_move 51 = .ok (.iload_n 2, 1) := by decide +kernel
theorem dX4_move_52 : decode cX4_move 52 = .ok (.ireturn, 1) := by decide +kernel
set_option maxRecDepth 20000 in
theorem ggX4_canals_Jx4a65c_size_8abf5 : GoodIn wsX4_canals wsJx4a65c_size_8abf5 := goodIn_r _ [6, 7, 14, 15, 16] (by decide +kernel) (by decide +kernel)
set_option maxRecDepth 20000 in
theorem gX4_canals_Jx4a65c_size_8abf5 : GoodIn wsX4_canals (wsV RX4 47 RJx4a65c yJx4a65c_size_8abf5 wsJx4a65c_size_8abf5) := goodIn_app (goodIn_of _ (by decide +kernel)) ggX4_canals_Jx4a65c_size_8abf5
theorem dX4_canals_0 : decode cX4_canals 0 = .ok (.aload_n 0, 1) := by decide +kernel
theorem dX4_canals_1 : decode cX4_canals 1 = .ok (.getfield 18, 3) := by decide +kernel
theorem dX4_canals_4 : decode cX4_canals 4 = .ok (.invokevirtual 47, 3) := by decide +kernel
theorem dX4_canals_7 : decode cX4_canals 7 = .ok (.ireturn, 1) := by decide +kernel
set_option maxRecDepth 20000 in
theorem ggX4_water_X4_basinNumbered : GoodIn wsX4_water wsX4_basinNumbered := goodIn_ca (goodIn_r _ [6, 7, 8, 9, 16, 17, 18, 19, 20, 21] (by decide +kernel) (by decide +kernel)) (goodIn_sub (fun _ h => List.mem_cons_of_mem _ (List.mem_append_right _ h)) (by decide +kernel))
set_option maxRecDepth 20000 in
theorem gX4_water_X4_basinNumbered : GoodIn wsX4_water (wsV RX4 32 RX4 yX4_basinNumbered wsX4_basinNumbered) := goodIn_app (goodIn_of _ (by decide +kernel)) ggX4_water_X4_basinNumbered
theorem dX4_water_0 : decode cX4_water 0 = .ok (.aload_n 0, 1) := by decide +kernel
theorem dX4_water_1 : decode cX4_water 1 = .ok (.iload_n 1, 1) := by decide +kernel
theorem dX4_water_2 : decode cX4_water 2 = .ok (.invokevirtual 32, 3) := by decide +kernel
theorem dX4_water_5 : decode cX4_water 5 = .ok (.getfield 84, 3) := by decide +kernel
theorem dX4_water_8 : decode cX4_water 8 = .ok (.ireturn, 1) := by decide +kernel
theorem dX4_allWater_0 : decode cX4_allWater 0 = .ok (.iconst 0, 1) := by decide +kernel
theorem dX4_allWater_1 : decode cX4_allWater 1 = .ok (.istore_n 1, 1) := by decide +kernel
theorem dX4_allWater_2 : decode cX4_allWater 2 = .ok (.iconst 0, 1) := by decide +kernel
theorem dX4_allWater_3 : decode cX4_allWater 3 = .ok (.istore_n 2, 1) := by decide +kernel
theorem dX4_allWater_4 : decode cX4_allWater 4 = .ok (.iload_n 2, 1) := by decide +kernel
theorem dX4_allWater_5 : decode cX4_allWater 5 = .ok (.bipush 8, 2) := by decide +kernel
theorem dX4_allWater_7 : decode cX4_allWater 7 = .ok (.if_icmp .ge 21, 3) := by decide +kernel
theorem dX4_allWater_10 : decode cX4_allWater 10 = .ok (.iload_n 1, 1) := by decide +kernel
theorem dX4_allWater_11 : decode cX4_allWater 11 = .ok (.aload_n 0, 1) := by decide +kernel
theorem dX4_allWater_12 : decode cX4_allWater 12 = .ok (.getfield 11, 3) := by decide +kernel
theorem dX4_allWater_15 : decode cX4_allWater 15 = .ok (.iload_n 2, 1) := by decide +kernel
theorem dX4_allWater_16 : decode cX4_allWater 16 = .ok (.aaload, 1) := by decide +kernel
theorem dX4_allWater_17 : decode cX4_allWater 17 = .ok (.getfield 84, 3) := by decide +kernel
theorem dX4_allWater_20 : decode cX4_allWater 20 = .ok (.iadd, 1) := by decide +kernel
theorem dX4_allWater_21 : decode cX4_allWater 21 = .ok (.istore_n 1, 1) := by decide +kernel
theorem dX4_allWater_22 : decode cX4_allWater 22 = .ok (.iinc 2 1, 3) := by decide +kernel
theorem dX4_allWater_25 : decode cX4_allWater 25 = .ok (.goto (-21), 3) := by decide +kernel
theorem dX4_allWater_28 : decode cX4_allWater 28 = .ok (.iload_n 1, 1) := by decide +kernel
theorem dX4_allWater_29 : decode cX4_allWater 29 = .ok (.ireturn, 1) := by decide +kernel
theorem dX4_spilt_0 : decode cX4_spilt 0 = .ok (.aload_n 0, 1) := by decide +kernel
theorem dX4_spilt_1 : decode cX4_spilt 1 = .ok (.getfield 77, 3) := by decide +kernel
theorem dX4_spilt_4 : decode cX4_spilt 4 = .ok (.ireturn, 1) := by decide +kernel
set_option maxRecDepth 20000 in
theorem ggX4_cost_X4_canalNumbered : GoodIn wsX4_cost wsX4_canalNumbered := goodIn_ca (goodIn_r _ [5, 6, 7, 8, 9, 10, 11, 12, 13, 14, 15, 16, 17, 18, 19, 20, 21, 22, 23, 24, 25, 26, 27, 28, 29, 30, 31, 32, 47, 48, 49, 50, 51, 52, 53, 54, 55] (by decide +kernel) (by decide +kernel)) (goodIn_sub (fun _ h => List.mem_cons_of_mem _ (List.mem_append_right _ h)) (by decide +kernel))
set_option maxRecDepth 20000 in
theorem gX4_cost_X4_canalNumbered : GoodIn wsX4_cost (wsV RX4 65 RX4 yX4_canalNumbered wsX4_canalNumbered) := goodIn_app (goodIn_of _ (by decide +kernel)) ggX4_cost_X4_canalNumbered
set_option maxRecDepth 20000 in
theorem ggX4_cost_X2_costNow : GoodIn wsX4_cost wsX2_costNow := goodIn_r _ [37, 38, 39, 40, 41, 42, 43, 44, 45, 46, 56, 57, 58, 59, 60, 61, 62, 63, 64, 65, 66, 67] (by decide +kernel) (by decide +kernel)
set_option maxRecDepth 20000 in
theorem gX4_cost_X2_costNow : GoodIn wsX4_cost (wsV RX4 127 RX2 yX2_costNow wsX2_costNow) := goodIn_app (goodIn_of _ (by decide +kernel)) ggX4_cost_X2_costNow
theorem dX4_cost_0 : decode cX4_cost 0 = .ok (.aload_n 0, 1) := by decide +kernel
theorem dX4_cost_1 : decode cX4_cost 1 = .ok (.iload_n 1, 1) := by decide +kernel
theorem dX4_cost_2 : decode cX4_cost 2 = .ok (.invokevirtual 65, 3) := by decide +kernel
theorem dX4_cost_5 : decode cX4_cost 5 = .ok (.invokevirtual 127, 3) := by decide +kernel
theorem dX4_cost_8 : decode cX4_cost 8 = .ok (.ireturn, 1) := by decide +kernel
set_option maxRecDepth 20000 in
theorem ggX4_canPass_X4_canalNumbered : GoodIn wsX4_canPass wsX4_canalNumbered := goodIn_ca (goodIn_r _ [5, 6, 7, 8, 9, 10, 11, 12, 13, 14, 15, 16, 17, 18, 19, 20, 21, 22, 23, 24, 25, 26, 27, 28, 29, 30, 31, 32, 42, 43, 44, 45, 46, 47, 48, 49, 50] (by decide +kernel) (by decide +kernel)) (goodIn_sub (fun _ h => List.mem_cons_of_mem _ (List.mem_append_right _ h)) (by decide +kernel))
set_option maxRecDepth 20000 in
theorem gX4_canPass_X4_canalNumbered : GoodIn wsX4_canPass (wsV RX4 65 RX4 yX4_canalNumbered wsX4_canalNumbered) := goodIn_app (goodIn_of _ (by decide +kernel)) ggX4_canPass_X4_canalNumbered
set_option maxRecDepth 20000 in
theorem ggX4_canPass_X2_isPassable : GoodIn wsX4_canPass wsX2_isPassable := goodIn_r _ [37, 38, 39, 40, 41, 51, 52, 53, 54, 55, 56, 57, 58, 59, 60, 61, 62] (by decide +kernel) (by decide +kernel)
set_option maxRecDepth 20000 in
theorem gX4_canPass_X2_isPassable : GoodIn wsX4_canPass (wsV RX4 130 RX2 yX2_isPassable wsX2_isPassable) := goodIn_app (goodIn_of _ (by decide +kernel)) ggX4_canPass_X2_isPassable
theorem dX4_canPass_0 : decode cX4_canPass 0 = .ok (.aload_n 0, 1) := by decide +kernel
theorem dX4_canPass_1 : decode cX4_canPass 1 = .ok (.iload_n 1, 1) := by decide +kernel
theorem dX4_canPass_2 : decode cX4_canPass 2 = .ok (.invokevirtual 65, 3) := by decide +kernel
theorem dX4_canPass_5 : decode cX4_canPass 5 = .ok (.invokevirtual 130, 3) := by decide +kernel
theorem dX4_canPass_8 : decode cX4_canPass 8 = .ok (.ireturn, 1) := by decide +kernel
set_option maxRecDepth 20000 in
theorem ggX4_distance_X4_basinNumbered : GoodIn wsX4_distance wsX4_basinNumbered := goodIn_ca (goodIn_r _ [8, 9, 10, 11, 20, 21, 22, 23, 24, 25] (by decide +kernel) (by decide +kernel)) (goodIn_sub (fun _ h => List.mem_cons_of_mem _ (List.mem_append_right _ h)) (by decide +kernel))
set_option maxRecDepth 20000 in
theorem gX4_distance_X4_basinNumbered : GoodIn wsX4_distance (wsV RX4 32 RX4 yX4_basinNumbered wsX4_basinNumbered) := goodIn_app (goodIn_of _ (by decide +kernel)) ggX4_distance_X4_basinNumbered
theorem dX4_distance_0 : decode cX4_distance 0 = .ok (.aload_n 0, 1) := by decide +kernel
theorem dX4_distance_1 : decode cX4_distance 1 = .ok (.iload_n 1, 1) := by decide +kernel
theorem dX4_distance_2 : decode cX4_distance 2 = .ok (.invokevirtual 32, 3) := by decide +kernel
theorem dX4_distance_5 : decode cX4_distance 5 = .ok (.astore_n 3, 1) := by decide +kernel
theorem dX4_distance_6 : decode cX4_distance 6 = .ok (.aload_n 3, 1) := by decide +kernel
theorem dX4_distance_7 : decode cX4_distance 7 = .ok (.getfield 133, 3) := by decide +kernel
theorem dX4_distance_10 : decode cX4_distance 10 = .ok (.getfield 137, 3) := by decide +kernel
theorem dX4_distance_13 : decode cX4_distance 13 = .ok (.aload_n 0, 1) := by decide +kernel
theorem dX4_distance_14 : decode cX4_distance 14 = .ok (.iload_n 2, 1) := by decide +kernel
theorem dX4_distance_15 : decode cX4_distance 15 = .ok (.invokevirtual 32, 3) := by decide +kernel
theorem dX4_distance_18 : decode cX4_distance 18 = .ok (.getfield 142, 3) := by decide +kernel
theorem dX4_distance_21 : decode cX4_distance 21 = .ok (.iaload, 1) := by decide +kernel
theorem dX4_distance_22 : decode cX4_distance 22 = .ok (.ireturn, 1) := by decide +kernel
set_option maxRecDepth 20000 in
theorem ggX4_canalTo_X4_basinNumbered : GoodIn wsX4_canalTo wsX4_basinNumbered := goodIn_ca (goodIn_r _ [6, 7, 8, 9, 24, 25, 26, 27, 28, 29] (by decide +kernel) (by decide +kernel)) (goodIn_sub (fun _ h => List.mem_cons_of_mem _ (List.mem_append_right _ h)) (by decide +kernel))
set_option maxRecDepth 20000 in
theorem gX4_canalTo_X4_basinNumbered : GoodIn wsX4_canalTo (wsV RX4 32 RX4 yX4_basinNumbered wsX4_basinNumbered) := goodIn_app (goodIn_of _ (by decide +kernel)) ggX4_canalTo_X4_basinNumbered
set_option maxRecDepth 20000 in
theorem ggX4_canalTo_X1_canalTowards : GoodIn wsX4_canalTo wsX1_canalTowards := goodIn_r _ [14, 15, 16, 17, 30, 31, 32, 33, 34, 35, 36, 37] (by decide +kernel) (by decide +kernel)
set_option maxRecDepth 20000 in
theorem gX4_canalTo_X1_canalTowards : GoodIn wsX4_canalTo (wsV RX4 145 RX1 yX1_canalTowards wsX1_canalTowards) := goodIn_app (goodIn_of _ (by decide +kernel)) ggX4_canalTo_X1_canalTowards
theorem dX4_canalTo_0 : decode cX4_canalTo 0 = .ok (.aload_n 0, 1) := by decide +kernel
theorem dX4_canalTo_1 : decode cX4_canalTo 1 = .ok (.iload_n 1, 1) := by decide +kernel
theorem dX4_canalTo_2 : decode cX4_canalTo 2 = .ok (.invokevirtual 32, 3) := by decide +kernel
theorem dX4_canalTo_5 : decode cX4_canalTo 5 = .ok (.astore_n 3, 1) := by decide +kernel
theorem dX4_canalTo_6 : decode cX4_canalTo 6 = .ok (.aload_n 3, 1) := by decide +kernel
theorem dX4_canalTo_7 : decode cX4_canalTo 7 = .ok (.aload_n 0, 1) := by decide +kernel
theorem dX4_canalTo_8 : decode cX4_canalTo 8 = .ok (.iload_n 2, 1) := by decide +kernel
theorem dX4_canalTo_9 : decode cX4_canalTo 9 = .ok (.invokevirtual 32, 3) := by decide +kernel
theorem dX4_canalTo_12 : decode cX4_canalTo 12 = .ok (.invokevirtual 145, 3) := by decide +kernel
theorem dX4_canalTo_15 : decode cX4_canalTo 15 = .ok (.astore 4, 2) := by decide +kernel
theorem dX4_canalTo_17 : decode cX4_canalTo 17 = .ok (.aload 4, 2) := by decide +kernel
theorem dX4_canalTo_19 : decode cX4_canalTo 19 = .ok (.ifnonnull 7, 3) := by decide +kernel
theorem dX4_canalTo_22 : decode cX4_canalTo 22 = .ok (.iconst (-1), 1) := by decide +kernel
theorem dX4_canalTo_23 : decode cX4_canalTo 23 = .ok (.goto 8, 3) := by decide +kernel
theorem dX4_canalTo_26 : decode cX4_canalTo 26 = .ok (.aload 4, 2) := by decide +kernel
theorem dX4_canalTo_28 : decode cX4_canalTo 28 = .ok (.getfield 149, 3) := by decide +kernel
theorem dX4_canalTo_31 : decode cX4_canalTo 31 = .ok (.ireturn, 1) := by decide +kernel
set_option maxRecDepth 20000 in
theorem ggX4_areStill_X4_prepareNextTables : GoodIn wsX4_areStill wsX4_prepareNextTables := goodIn_r _ [5, 6, 7, 8, 9, 10, 11, 12, 13, 14, 15, 16, 17, 18, 19, 20, 21, 22, 23, 24, 25, 26, 27, 28, 29, 30, 31, 32, 33, 34, 35, 36, 37, 38, 39, 40, 41, 42, 43, 44, 45, 46, 47, 48, 49, 50, 51, 52, 53, 54, 55, 56, 57, 58, 59, 60, 61, 62, 63, 64, 65, 66, 67, 68, 78, 79, 80, 81, 82, 83, 84, 85, 86, 87, 88, 89, 90, 91, 92, 93, 94, 95, 96, 97, 98, 99, 100] (by decide +kernel) (by decide +kernel)
set_option maxRecDepth 20000 in
theorem gX4_areStill_X4_prepareNextTables : GoodIn wsX4_areStill (wsV RX4 93 RX4 yX4_prepareNextTables wsX4_prepareNextTables) := goodIn_app (goodIn_of _ (by decide +kernel)) ggX4_areStill_X4_prepareNextTables
set_option maxRecDepth 20000 in
theorem ggX4_areStill_X4_countNextChanges : GoodIn wsX4_areStill wsX4_countNextChanges := goodIn_r _ [72, 6, 73, 7, 74, 75, 76, 16, 77, 18, 19, 78, 79, 80, 81, 82, 83, 84, 85, 86, 87, 88, 89, 96, 97] (by decide +kernel) (by decide +kernel)
set_option maxRecDepth 20000 in
theorem gX4_areStill_X4_countNextChanges : GoodIn wsX4_areStill (wsV RX4 96 RX4 yX4_countNextChanges wsX4_countNextChanges) := goodIn_app (goodIn_of _ (by decide +kernel)) ggX4_areStill_X4_countNextChanges
theorem dX4_areStill_0 : decode cX4_areStill 0 = .ok (.aload_n 0, 1) := by decide +kernel
theorem dX4_areStill_1 : decode cX4_areStill 1 = .ok (.invokevirtual 93, 3) := by decide +kernel
theorem dX4_areStill_4 : decode cX4_areStill 4 = .ok (.aload_n 0, 1) := by decide +kernel
theorem dX4_areStill_5 : decode cX4_areStill 5 = .ok (.invokevirtual 96, 3) := by decide +kernel
theorem dX4_areStill_8 : decode cX4_areStill 8 = .ok (.ifCond .ne 7, 3) := by decide +kernel
theorem dX4_areStill_11 : decode cX4_areStill 11 = .ok (.iconst 1, 1) := by decide +kernel
theorem dX4_areStill_12 : decode cX4_areStill 12 = .ok (.goto 4, 3) := by decide +kernel
theorem dX4_areStill_15 : decode cX4_areStill 15 = .ok (.iconst 0, 1) := by decide +kernel
theorem dX4_areStill_16 : decode cX4_areStill 16 = .ok (.ireturn, 1) := by decide +kernel
set_option maxRecDepth 20000 in
theorem ggX4_cheapest_X4_basinNumbered : GoodIn wsX4_cheapest wsX4_basinNumbered := goodIn_ca (goodIn_r _ [7, 8, 9, 10, 61, 62, 63, 64, 65, 66] (by decide +kernel) (by decide +kernel)) (goodIn_sub (fun _ h => List.mem_cons_of_mem _ (List.mem_append_right _ h)) (by decide +kernel))
set_option maxRecDepth 20000 in
theorem gX4_cheapest_X4_basinNumbered : GoodIn wsX4_cheapest (wsV RX4 32 RX4 yX4_basinNumbered wsX4_basinNumbered) := goodIn_app (goodIn_of _ (by decide +kernel)) ggX4_cheapest_X4_basinNumbered
set_option maxRecDepth 20000 in
theorem ggX4_cheapest_X4_findCheapestWays : GoodIn wsX4_cheapest wsX4_findCheapestWays := goodIn_r _ [14, 1, 2, 15, 16, 17, 18, 19, 20, 21, 22, 23, 24, 25, 26, 27, 28, 29, 30, 31, 32, 33, 34, 35, 36, 37, 38, 39, 40, 41, 42, 43, 44, 45, 46, 47, 48, 49, 50, 51, 52, 53, 54, 55, 56, 57, 58, 59, 6, 60, 61, 62, 63, 64, 65, 66, 67, 68, 69, 70, 71, 72, 73, 74, 75, 76, 77, 78, 79, 80, 81] (by decide +kernel) (by decide +kernel)
set_option maxRecDepth 20000 in
theorem gX4_cheapest_X4_findCheapestWays : GoodIn wsX4_cheapest (wsV RX4 150 RX4 yX4_findCheapestWays wsX4_findCheapestWays) := goodIn_app (goodIn_of _ (by decide +kernel)) ggX4_cheapest_X4_findCheapestWays
theorem dX4_cheapest_0 : decode cX4_cheapest 0 = .ok (.aload_n 0, 1) := by decide +kernel
theorem dX4_cheapest_1 : decode cX4_cheapest 1 = .ok (.iload_n 1, 1) := by decide +kernel
theorem dX4_cheapest_2 : decode cX4_cheapest 2 = .ok (.invokevirtual 32, 3) := by decide +kernel
theorem dX4_cheapest_5 : decode cX4_cheapest 5 = .ok (.astore_n 3, 1) := by decide +kernel
theorem dX4_cheapest_6 : decode cX4_cheapest 6 = .ok (.aload_n 0, 1) := by decide +kernel
theorem dX4_cheapest_7 : decode cX4_cheapest 7 = .ok (.iload_n 2, 1) := by decide +kernel
theorem dX4_cheapest_8 : decode cX4_cheapest 8 = .ok (.invokevirtual 32, 3) := by decide +kernel
theorem dX4_cheapest_11 : decode cX4_cheapest 11 = .ok (.astore 4, 2) := by decide +kernel
theorem dX4_cheapest_13 : decode cX4_cheapest 13 = .ok (.aload_n 0, 1) := by decide +kernel
theorem dX4_cheapest_14 : decode cX4_cheapest 14 = .ok (.aload_n 3, 1) := by decide +kernel
theorem dX4_cheapest_15 : decode cX4_cheapest 15 = .ok (.invokevirtual 150, 3) := by decide +kernel
theorem dX4_cheapest_18 : decode cX4_cheapest 18 = .ok (.aload_n 0, 1) := by decide +kernel
theorem dX4_cheapest_19 : decode cX4_cheapest 19 = .ok (.getfield 25, 3) := by decide +kernel
theorem dX4_cheapest_22 : decode cX4_cheapest 22 = .ok (.aload 4, 2) := by decide +kernel
theorem dX4_cheapest_24 : decode cX4_cheapest 24 = .ok (.getfield 142, 3) := by decide +kernel
theorem dX4_cheapest_27 : decode cX4_cheapest 27 = .ok (.iaload, 1) := by decide +kernel
theorem dX4_cheapest_28 : decode cX4_cheapest 28 = .ok (.istore 5, 2) := by decide +kernel
theorem dX4_cheapest_30 : decode cX4_cheapest 30 = .ok (.iload 5, 2) := by decide +kernel
theorem dX4_cheapest_32 : decode cX4_cheapest 32 = .ok (.bipush 40, 2) := by decide +kernel
theorem dX4_cheapest_34 : decode cX4_cheapest 34 = .ok (.if_icmp .le 7, 3) := by decide +kernel
theorem dX4_cheapest_37 : decode cX4_cheapest 37 = .ok (.iconst (-1), 1) := by decide +kernel
theorem dX4_cheapest_38 : decode cX4_cheapest 38 = .ok (.goto 5, 3) := by decide +kernel
theorem dX4_cheapest_41 : decode cX4_cheapest 41 = .ok (.iload 5, 2) := by decide +kernel
theorem dX4_cheapest_43 : decode cX4_cheapest 43 = .ok (.ireturn, 1) := by decide +kernel
set_option maxRecDepth 20000 in
theorem ggX4_isLoop_X4_basinNumbered : GoodIn wsX4_isLoop wsX4_basinNumbered := goodIn_ca (goodIn_r _ [5, 6, 7, 8, 27, 28, 29, 30, 31, 32] (by decide +kernel) (by decide +kernel)) (goodIn_sub (fun _ h => List.mem_cons_of_mem _ (List.mem_append_right _ h)) (by decide +kernel))
set_option maxRecDepth 20000 in
theorem gX4_isLoop_X4_basinNumbered : GoodIn wsX4_isLoop (wsV RX4 32 RX4 yX4_basinNumbered wsX4_basinNumbered) := goodIn_app (goodIn_of _ (by decide +kernel)) ggX4_isLoop_X4_basinNumbered
set_option maxRecDepth 20000 in
theorem ggX4_isLoop_X4_goesRound : GoodIn wsX4_isLoop wsX4_goesRound := goodIn_r _ [11, 12, 13, 14, 15, 16, 17, 18, 19, 20, 21, 22, 23, 24, 25, 26, 33, 34, 35, 36, 37, 38, 39, 40, 41, 42, 43, 44, 45, 46] (by decide +kernel) (by decide +kernel)
set_option maxRecDepth 20000 in
theorem gX4_isLoop_X4_goesRound : GoodIn wsX4_isLoop (va_wsS RX4 154 yX4_goesRound wsX4_goesRound) := goodIn_app (goodIn_of _ (by decide +kernel)) ggX4_isLoop_X4_goesRound
theorem dX4_isLoop_0 : decode cX4_isLoop 0 = .ok (.aload_n 0, 1) := by decide +kernel
theorem dX4_isLoop_1 : decode cX4_isLoop 1 = .ok (.iload_n 1, 1) := by decide +kernel
theorem dX4_isLoop_2 : decode cX4_isLoop 2 = .ok (.invokevirtual 32, 3) := by decide +kernel
theorem dX4_isLoop_5 : decode cX4_isLoop 5 = .ok (.astore_n 3, 1) := by decide +kernel
theorem dX4_isLoop_6 : decode cX4_isLoop 6 = .ok (.aload_n 3, 1) := by decide +kernel
theorem dX4_isLoop_7 : decode cX4_isLoop 7 = .ok (.aload_n 0, 1) := by decide +kernel
theorem dX4_isLoop_8 : decode cX4_isLoop 8 = .ok (.iload_n 2, 1) := by decide +kernel
theorem dX4_isLoop_9 : decode cX4_isLoop 9 = .ok (.invokevirtual 32, 3) := by decide +kernel
theorem dX4_isLoop_12 : decode cX4_isLoop 12 = .ok (.invokestatic 154, 3) := by decide +kernel
theorem dX4_isLoop_15 : decode cX4_isLoop 15 = .ok (.ireturn, 1) := by decide +kernel
set_option maxRecDepth 20000 in
theorem ggX4_loops_X4_goesRound : GoodIn wsX4_loops wsX4_goesRound := goodIn_r _ [5, 6, 7, 8, 9, 10, 11, 12, 13, 14, 15, 16, 17, 18, 19, 20, 27, 28, 29, 30, 31, 32, 33, 34, 35, 36, 37, 38, 39, 40] (by decide +kernel) (by decide +kernel)
set_option maxRecDepth 20000 in
theorem gX4_loops_X4_goesRound : GoodIn wsX4_loops (va_wsS RX4 154 yX4_goesRound wsX4_goesRound) := goodIn_app (goodIn_of _ (by decide +kernel)) ggX4_loops_X4_goesRound
theorem dX4_loops_0 : decode cX4_loops 0 = .ok (.iconst 0, 1) := by decide +kernel
theorem dX4_loops_1 : decode cX4_loops 1 = .ok (.istore_n 1, 1) := by decide +kernel
theorem dX4_loops_2 : decode cX4_loops 2 = .ok (.iconst 0, 1) := by decide +kernel
theorem dX4_loops_3 : decode cX4_loops 3 = .ok (.istore_n 2, 1) := by decide +kernel
theorem dX4_loops_4 : decode cX4_loops 4 = .ok (.iload_n 2, 1) := by decide +kernel
theorem dX4_loops_5 : decode cX4_loops 5 = .ok (.bipush 8, 2) := by decide +kernel
theorem dX4_loops_7 : decode cX4_loops 7 = .ok (.if_icmp .ge 44, 3) := by decide +kernel
theorem dX4_loops_10 : decode cX4_loops 10 = .ok (.iconst 0, 1) := by decide +kernel
theorem dX4_loops_11 : decode cX4_loops 11 = .ok (.istore_n 3, 1) := by decide +kernel
theorem dX4_loops_12 : decode cX4_loops 12 = .ok (.iload_n 3, 1) := by decide +kernel
theorem dX4_loops_13 : decode cX4_loops 13 = .ok (.bipush 8, 2) := by decide +kernel
theorem dX4_loops_15 : decode cX4_loops 15 = .ok (.if_icmp .ge 30, 3) := by decide +kernel
theorem dX4_loops_18 : decode cX4_loops 18 = .ok (.aload_n 0, 1) := by decide +kernel
theorem dX4_loops_19 : decode cX4_loops 19 = .ok (.getfield 11, 3) := by decide +kernel
theorem dX4_loops_22 : decode cX4_loops 22 = .ok (.iload_n 2, 1) := by decide +kernel
theorem dX4_loops_23 : decode cX4_loops 23 = .ok (.aaload, 1) := by decide +kernel
theorem dX4_loops_24 : decode cX4_loops 24 = .ok (.aload_n 0, 1) := by decide +kernel
theorem dX4_loops_25 : decode cX4_loops 25 = .ok (.getfield 11, 3) := by decide +kernel
theorem dX4_loops_28 : decode cX4_loops 28 = .ok (.iload_n 3, 1) := by decide +kernel
theorem dX4_loops_29 : decode cX4_loops 29 = .ok (.aaload, 1) := by decide +kernel
theorem dX4_loops_30 : decode cX4_loops 30 = .ok (.invokestatic 154, 3) := by decide +kernel
theorem dX4_loops_33 : decode cX4_loops 33 = .ok (.ifCond .eq 6, 3) := by decide +kernel
theorem dX4_loops_36 : decode cX4_loops 36 = .ok (.iinc 1 1, 3) := by decide +kernel
theorem dX4_loops_39 : decode cX4_loops 39 = .ok (.iinc 3 1, 3) := by decide +kernel
theorem dX4_loops_42 : decode cX4_loops 42 = .ok (.goto (-30), 3) := by decide +kernel
theorem dX4_loops_45 : decode cX4_loops 45 = .ok (.iinc 2 1, 3) := by decide +kernel
theorem dX4_loops_48 : decode cX4_loops 48 = .ok (.goto (-44), 3) := by decide +kernel
theorem dX4_loops_51 : decode cX4_loops 51 = .ok (.iload_n 1, 1) := by decide +kernel
theorem dX4_loops_52 : decode cX4_loops 52 = .ok (.ireturn, 1) := by decide +kernel
set_option maxRecDepth 20000 in
theorem ggX4_barges_Jx4a65c_size_8abf5 : GoodIn wsX4_barges wsJx4a65c_size_8abf5 := goodIn_r _ [6, 7, 14, 15, 16] (by decide +kernel) (by decide +kernel)
set_option maxRecDepth 20000 in
theorem gX4_barges_Jx4a65c_size_8abf5 : GoodIn wsX4_barges (wsV RX4 47 RJx4a65c yJx4a65c_size_8abf5 wsJx4a65c_size_8abf5) := goodIn_app (goodIn_of _ (by decide +kernel)) ggX4_barges_Jx4a65c_size_8abf5
theorem dX4_barges_0 : decode cX4_barges 0 = .ok (.aload_n 0, 1) := by decide +kernel
theorem dX4_barges_1 : decode cX4_barges 1 = .ok (.getfield 22, 3) := by decide +kernel
theorem dX4_barges_4 : decode cX4_barges 4 = .ok (.invokevirtual 47, 3) := by decide +kernel
theorem dX4_barges_7 : decode cX4_barges 7 = .ok (.ireturn, 1) := by decide +kernel
theorem dX4_ticks_0 : decode cX4_ticks 0 = .ok (.aload_n 0, 1) := by decide +kernel
theorem dX4_ticks_1 : decode cX4_ticks 1 = .ok (.getfield 119, 3) := by decide +kernel
theorem dX4_ticks_4 : decode cX4_ticks 4 = .ok (.ireturn, 1) := by decide +kernel
set_option maxRecDepth 20000 in
theorem ggX4_state_X4_bargeNumbered : GoodIn wsX4_state wsX4_bargeNumbered := goodIn_ca (goodIn_r _ [6, 7, 8, 9, 10, 11, 12, 13, 14, 15, 16, 17, 18, 19, 20, 21, 22, 23, 24, 25, 26, 27, 28, 29, 30, 31, 32, 33, 43, 44, 45, 46, 47, 48, 49, 50, 51] (by decide +kernel) (by decide +kernel)) (goodIn_sub (fun _ h => List.mem_cons_of_mem _ (List.mem_append_right _ h)) (by decide +kernel))
set_option maxRecDepth 20000 in
theorem gX4_state_X4_bargeNumbered : GoodIn wsX4_state (wsV RX4 158 RX4 yX4_bargeNumbered wsX4_bargeNumbered) := goodIn_app (goodIn_of _ (by decide +kernel)) ggX4_state_X4_bargeNumbered
theorem dX4_state_0 : decode cX4_state 0 = .ok (.aload_n 0, 1) := by decide +kernel
theorem dX4_state_1 : decode cX4_state 1 = .ok (.iload_n 1, 1) := by decide +kernel
theorem dX4_state_2 : decode cX4_state 2 = .ok (.invokevirtual 158, 3) := by decide +kernel
theorem dX4_state_5 : decode cX4_state 5 = .ok (.getfield 113, 3) := by decide +kernel
theorem dX4_state_8 : decode cX4_state 8 = .ok (.ireturn, 1) := by decide +kernel
set_option maxRecDepth 20000 in
theorem ggX4_basinOf_X4_bargeNumbered : GoodIn wsX4_basinOf wsX4_bargeNumbered := goodIn_ca (goodIn_r _ [7, 8, 9, 10, 11, 12, 13, 14, 15, 16, 17, 18, 19, 20, 21, 22, 23, 24, 25, 26, 27, 28, 29, 30, 31, 32, 33, 34, 50, 51, 52, 53, 54, 55, 56, 57, 58] (by decide +kernel) (by decide +kernel)) (goodIn_sub (fun _ h => List.mem_cons_of_mem _ (List.mem_append_right _ h)) (by decide +kernel))
set_option maxRecDepth 20000 in
theorem gX4_basinOf_X4_bargeNumbered : GoodIn wsX4_basinOf (wsV RX4 158 RX4 yX4_bargeNumbered wsX4_bargeNumbered) := goodIn_app (goodIn_of _ (by decide +kernel)) ggX4_basinOf_X4_bargeNumbered
theorem dX4_basinOf_0 : decode cX4_basinOf 0 = .ok (.aload_n 0, 1) := by decide +kernel
theorem dX4_basinOf_1 : decode cX4_basinOf 1 = .ok (.iload_n 1, 1) := by decide +kernel
theorem dX4_basinOf_2 : decode cX4_basinOf 2 = .ok (.invokevirtual 158, 3) := by decide +kernel
theorem dX4_basinOf_5 : decode cX4_basinOf 5 = .ok (.getfield 162, 3) := by decide +kernel
theorem dX4_basinOf_8 : decode cX4_basinOf 8 = .ok (.getfield 142, 3) := by decide +kernel
theorem dX4_basinOf_11 : decode cX4_basinOf 11 = .ok (.ireturn, 1) := by decide +kernel
set_option maxRecDepth 20000 in
theorem ggX4_hops_X4_bargeNumbered : GoodIn wsX4_hops wsX4_bargeNumbered := goodIn_ca (goodIn_r _ [6, 7, 8, 9, 10, 11, 12, 13, 14, 15, 16, 17, 18, 19, 20, 21, 22, 23, 24, 25, 26, 27, 28, 29, 30, 31, 32, 33, 43, 44, 45, 46, 47, 48, 49, 50, 51] (by decide +kernel) (by decide +kernel)) (goodIn_sub (fun _ h => List.mem_cons_of_mem _ (List.mem_append_right _ h)) (by decide +kernel))
set_option maxRecDepth 20000 in
theorem gX4_hops_X4_bargeNumbered : GoodIn wsX4_hops (wsV RX4 158 RX4 yX4_bargeNumbered wsX4_bargeNumbered) := goodIn_app (goodIn_of _ (by decide +kernel)) ggX4_hops_X4_bargeNumbered
theorem dX4_hops_0 : decode cX4_hops 0 = .ok (.aload_n 0, 1) := by decide +kernel
theorem dX4_hops_1 : decode cX4_hops 1 = .ok (.iload_n 1, 1) := by decide +kernel
theorem dX4_hops_2 : decode cX4_hops 2 = .ok (.invokevirtual 158, 3) := by decide +kernel
theorem dX4_hops_5 : decode cX4_hops 5 = .ok (.getfield 166, 3) := by decide +kernel
theorem dX4_hops_8 : decode cX4_hops 8 = .ok (.ireturn, 1) := by decide +kernel
set_option maxRecDepth 20000 in
theorem ggX4_life_X4_bargeNumbered : GoodIn wsX4_life wsX4_bargeNumbered := goodIn_ca (goodIn_r _ [6, 7, 8, 9, 10, 11, 12, 13, 14, 15, 16, 17, 18, 19, 20, 21, 22, 23, 24, 25, 26, 27, 28, 29, 30, 31, 32, 33, 43, 44, 45, 46, 47, 48, 49, 50, 51] (by decide +kernel) (by decide +kernel)) (goodIn_sub (fun _ h => List.mem_cons_of_mem _ (List.mem_append_right _ h)) (by decide +kernel))
set_option maxRecDepth 20000 in
theorem gX4_life_X4_bargeNumbered : GoodIn wsX4_life (wsV RX4 158 RX4 yX4_bargeNumbered wsX4_bargeNumbered) := goodIn_app (goodIn_of _ (by decide +kernel)) ggX4_life_X4_bargeNumbered
theorem dX4_life_0 : decode cX4_life 0 = .ok (.aload_n 0, 1) := by decide +kernel
theorem dX4_life_1 : decode cX4_life 1 = .ok (.iload_n 1, 1) := by decide +kernel
theorem dX4_life_2 : decode cX4_life 2 = .ok (.invokevirtual 158, 3) := by decide +kernel
theorem dX4_life_5 : decode cX4_life 5 = .ok (.getfield 169, 3) := by decide +kernel
theorem dX4_life_8 : decode cX4_life 8 = .ok (.ireturn, 1) := by decide +kernel
set_option maxRecDepth 20000 in
theorem ggX4_repeats_X4_bargeNumbered : GoodIn wsX4_repeats wsX4_bargeNumbered := goodIn_ca (goodIn_r _ [6, 7, 8, 9, 10, 11, 12, 13, 14, 15, 16, 17, 18, 19, 20, 21, 22, 23, 24, 25, 26, 27, 28, 29, 30, 31, 32, 33, 43, 44, 45, 46, 47, 48, 49, 50, 51] (by decide +kernel) (by decide +kernel)) (goodIn_sub (fun _ h => List.mem_cons_of_mem _ (List.mem_append_right _ h)) (by decide +kernel))
set_option maxRecDepth 20000 in
theorem gX4_repeats_X4_bargeNumbered : GoodIn wsX4_repeats (wsV RX4 158 RX4 yX4_bargeNumbered wsX4_bargeNumbered) := goodIn_app (goodIn_of _ (by decide +kernel)) ggX4_repeats_X4_bargeNumbered
theorem dX4_repeats_0 : decode cX4_repeats 0 = .ok (.aload_n 0, 1) := by decide +kernel
theorem dX4_repeats_1 : decode cX4_repeats 1 = .ok (.iload_n 1, 1) := by decide +kernel
theorem dX4_repeats_2 : decode cX4_repeats 2 = .ok (.invokevirtual 158, 3) := by decide +kernel
theorem dX4_repeats_5 : decode cX4_repeats 5 = .ok (.getfield 172, 3) := by decide +kernel
theorem dX4_repeats_8 : decode cX4_repeats 8 = .ok (.ireturn, 1) := by decide +kernel
set_option maxRecDepth 20000 in
theorem ggX4_queue_X4_basinNumbered : GoodIn wsX4_queue wsX4_basinNumbered := goodIn_ca (goodIn_r _ [6, 7, 8, 9, 22, 23, 24, 25, 26, 27] (by decide +kernel) (by decide +kernel)) (goodIn_sub (fun _ h => List.mem_cons_of_mem _ (List.mem_append_right _ h)) (by decide +kernel))
set_option maxRecDepth 20000 in
theorem gX4_queue_X4_basinNumbered : GoodIn wsX4_queue (wsV RX4 32 RX4 yX4_basinNumbered wsX4_basinNumbered) := goodIn_app (goodIn_of _ (by decide +kernel)) ggX4_queue_X4_basinNumbered
set_option maxRecDepth 20000 in
theorem ggX4_queue_Jx4a65c_size_8abf5 : GoodIn wsX4_queue wsJx4a65c_size_8abf5 := goodIn_r _ [14, 15, 28, 29, 30] (by decide +kernel) (by decide +kernel)
set_option maxRecDepth 20000 in
theorem gX4_queue_Jx4a65c_size_8abf5 : GoodIn wsX4_queue (wsV RX4 47 RJx4a65c yJx4a65c_size_8abf5 wsJx4a65c_size_8abf5) := goodIn_app (goodIn_of _ (by decide +kernel)) ggX4_queue_Jx4a65c_size_8abf5
theorem dX4_queue_0 : decode cX4_queue 0 = .ok (.aload_n 0, 1) := by decide +kernel
theorem dX4_queue_1 : decode cX4_queue 1 = .ok (.iload_n 1, 1) := by decide +kernel
theorem dX4_queue_2 : decode cX4_queue 2 = .ok (.invokevirtual 32, 3) := by decide +kernel
theorem dX4_queue_5 : decode cX4_queue 5 = .ok (.getfield 116, 3) := by decide +kernel
theorem dX4_queue_8 : decode cX4_queue 8 = .ok (.invokevirtual 47, 3) := by decide +kernel
theorem dX4_queue_11 : decode cX4_queue 11 = .ok (.ireturn, 1) := by decide +kernel
set_option maxRecDepth 20000 in
theorem ggX4_queued_X4_basinNumbered : GoodIn wsX4_queued wsX4_basinNumbered := goodIn_ca (goodIn_r _ [10, 11, 12, 13, 52, 53, 54, 55, 56, 57] (by decide +kernel) (by decide +kernel)) (goodIn_sub (fun _ h => List.mem_cons_of_mem _ (List.mem_append_right _ h)) (by decide +kernel))
set_option maxRecDepth 20000 in
theorem gX4_queued_X4_basinNumbered : GoodIn wsX4_queued (wsV RX4 32 RX4 yX4_basinNumbered wsX4_basinNumbered) := goodIn_app (goodIn_of _ (by decide +kernel)) ggX4_queued_X4_basinNumbered
set_option maxRecDepth 20000 in
theorem ggX4_queued_Jx4a65c_size_8abf5 : GoodIn wsX4_queued wsJx4a65c_size_8abf5 := goodIn_r _ [18, 19, 58, 59, 60] (by decide +kernel) (by decide +kernel)
set_option maxRecDepth 20000 in
theorem gX4_queued_Jx4a65c_size_8abf5 : GoodIn wsX4_queued (wsV RX4 47 RJx4a65c yJx4a65c_size_8abf5 wsJx4a65c_size_8abf5) := goodIn_app (goodIn_of _ (by decide +kernel)) ggX4_queued_Jx4a65c_size_8abf5
set_option maxRecDepth 20000 in
theorem ggX4_queued_Jx4a65c_get_915e3 : GoodIn wsX4_queued wsJx4a65c_get_915e3 := goodIn_r _ [23, 19, 24, 25, 26, 27, 28, 29, 30, 31, 32, 33, 34, 17, 35, 36, 58, 59, 60] (by decide +kernel) (by decide +kernel)
set_option maxRecDepth 20000 in
theorem gX4_queued_Jx4a65c_get_915e3 : GoodIn wsX4_queued (wsV RX4 177 RJx4a65c yJx4a65c_get_915e3 wsJx4a65c_get_915e3) := goodIn_app (goodIn_of _ (by decide +kernel)) ggX4_queued_Jx4a65c_get_915e3
theorem dX4_queued_0 : decode cX4_queued 0 = .ok (.aload_n 0, 1) := by decide +kernel
theorem dX4_queued_1 : decode cX4_queued 1 = .ok (.iload_n 1, 1) := by decide +kernel
theorem dX4_queued_2 : decode cX4_queued 2 = .ok (.invokevirtual 32, 3) := by decide +kernel
theorem dX4_queued_5 : decode cX4_queued 5 = .ok (.astore_n 3, 1) := by decide +kernel
theorem dX4_queued_6 : decode cX4_queued 6 = .ok (.iload_n 2, 1) := by decide +kernel
theorem dX4_queued_7 : decode cX4_queued 7 = .ok (.ifCond .ge 13, 3) := by decide +kernel
theorem dX4_queued_10 : decode cX4_queued 10 = .ok (.new 36, 3) := by decide +kernel
theorem dX4_queued_13 : decode cX4_queued 13 = .ok (.dup, 1) := by decide +kernel
theorem dX4_queued_14 : decode cX4_queued 14 = .ok (.ldc 175, 2) := by decide +kernel
theorem dX4_queued_16 : decode cX4_queued 16 = .ok (.invokespecial 40, 3) := by decide +kernel
theorem dX4_queued_19 : decode cX4_queued 19 = .ok (.athrow, 1) := by decide +kernel
theorem dX4_queued_20 : decode cX4_queued 20 = .ok (.iload_n 2, 1) := by decide +kernel
theorem dX4_queued_21 : decode cX4_queued 21 = .ok (.aload_n 3, 1) := by decide +kernel
theorem dX4_queued_22 : decode cX4_queued 22 = .ok (.getfield 116, 3) := by decide +kernel
theorem dX4_queued_25 : decode cX4_queued 25 = .ok (.invokevirtual 47, 3) := by decide +kernel
theorem dX4_queued_28 : decode cX4_queued 28 = .ok (.if_icmp .ge 20, 3) := by decide +kernel
theorem dX4_queued_31 : decode cX4_queued 31 = .ok (.aload_n 3, 1) := by decide +kernel
theorem dX4_queued_32 : decode cX4_queued 32 = .ok (.getfield 116, 3) := by decide +kernel
theorem dX4_queued_35 : decode cX4_queued 35 = .ok (.iload_n 2, 1) := by decide +kernel
theorem dX4_queued_36 : decode cX4_queued 36 = .ok (.invokevirtual 177, 3) := by decide +kernel
theorem dX4_queued_39 : decode cX4_queued 39 = .ok (.checkcast 108, 3) := by decide +kernel
theorem dX4_queued_42 : decode cX4_queued 42 = .ok (.getfield 181, 3) := by decide +kernel
theorem dX4_queued_45 : decode cX4_queued 45 = .ok (.goto 4, 3) := by decide +kernel
theorem dX4_queued_48 : decode cX4_queued 48 = .ok (.iconst (-1), 1) := by decide +kernel
theorem dX4_queued_49 : decode cX4_queued 49 = .ok (.ireturn, 1) := by decide +kernel
set_option maxRecDepth 20000 in
theorem ggX4_laidBy_Jx4a65c_size_8abf5 : GoodIn wsX4_laidBy wsJx4a65c_size_8abf5 := goodIn_r _ [8, 9, 42, 43, 44] (by decide +kernel) (by decide +kernel)
set_option maxRecDepth 20000 in
theorem gX4_laidBy_Jx4a65c_size_8abf5 : GoodIn wsX4_laidBy (wsV RX4 47 RJx4a65c yJx4a65c_size_8abf5 wsJx4a65c_size_8abf5) := goodIn_app (goodIn_of _ (by decide +kernel)) ggX4_laidBy_Jx4a65c_size_8abf5
set_option maxRecDepth 20000 in
theorem ggX4_laidBy_Jx4a65c_get_915e3 : GoodIn wsX4_laidBy wsJx4a65c_get_915e3 := goodIn_r _ [13, 9, 14, 15, 16, 17, 18, 19, 20, 21, 22, 23, 24, 7, 25, 26, 42, 43, 44] (by decide +kernel) (by decide +kernel)
set_option maxRecDepth 20000 in
theorem gX4_laidBy_Jx4a65c_get_915e3 : GoodIn wsX4_laidBy (wsV RX4 177 RJx4a65c yJx4a65c_get_915e3 wsJx4a65c_get_915e3) := goodIn_app (goodIn_of _ (by decide +kernel)) ggX4_laidBy_Jx4a65c_get_915e3
theorem dX4_laidBy_0 : decode cX4_laidBy 0 = .ok (.iconst 0, 1) := by decide +kernel
theorem dX4_laidBy_1 : decode cX4_laidBy 1 = .ok (.istore_n 1, 1) := by decide +kernel
theorem dX4_laidBy_2 : decode cX4_laidBy 2 = .ok (.iconst 0, 1) := by decide +kernel
theorem dX4_laidBy_3 : decode cX4_laidBy 3 = .ok (.istore_n 2, 1) := by decide +kernel
theorem dX4_laidBy_4 : decode cX4_laidBy 4 = .ok (.iload_n 2, 1) := by decide +kernel
theorem dX4_laidBy_5 : decode cX4_laidBy 5 = .ok (.aload_n 0, 1) := by decide +kernel
theorem dX4_laidBy_6 : decode cX4_laidBy 6 = .ok (.getfield 22, 3) := by decide +kernel
theorem dX4_laidBy_9 : decode cX4_laidBy 9 = .ok (.invokevirtual 47, 3) := by decide +kernel
theorem dX4_laidBy_12 : decode cX4_laidBy 12 = .ok (.if_icmp .ge 30, 3) := by decide +kernel
theorem dX4_laidBy_15 : decode cX4_laidBy 15 = .ok (.aload_n 0, 1) := by decide +kernel
theorem dX4_laidBy_16 : decode cX4_laidBy 16 = .ok (.getfield 22, 3) := by decide +kernel
theorem dX4_laidBy_19 : decode cX4_laidBy 19 = .ok (.iload_n 2, 1) := by decide +kernel
theorem dX4_laidBy_20 : decode cX4_laidBy 20 = .ok (.invokevirtual 177, 3) := by decide +kernel
theorem dX4_laidBy_23 : decode cX4_laidBy 23 = .ok (.checkcast 108, 3) := by decide +kernel
theorem dX4_laidBy_26 : decode cX4_laidBy 26 = .ok (.getfield 113, 3) := by decide +kernel
theorem dX4_laidBy_29 : decode cX4_laidBy 29 = .ok (.iconst 2, 1) := by decide +kernel
theorem dX4_laidBy_30 : decode cX4_laidBy 30 = .ok (.if_icmp .ne 6, 3) := by decide +kernel
theorem dX4_laidBy_33 : decode cX4_laidBy 33 = .ok (.iinc 1 1, 3) := by decide +kernel
theorem dX4_laidBy_36 : decode cX4_laidBy 36 = .ok (.iinc 2 1, 3) := by decide +kernel
theorem dX4_laidBy_39 : decode cX4_laidBy 39 = .ok (.goto (-35), 3) := by decide +kernel
theorem dX4_laidBy_42 : decode cX4_laidBy 42 = .ok (.iload_n 1, 1) := by decide +kernel
theorem dX4_laidBy_43 : decode cX4_laidBy 43 = .ok (.ireturn, 1) := by decide +kernel
theorem dX4_basinNumbered_0 : decode cX4_basinNumbered 0 = .ok (.iload_n 1, 1) := by decide +kernel
theorem dX4_basinNumbered_1 : decode cX4_basinNumbered 1 = .ok (.ifCond .lt 9, 3) := by decide +kernel
theorem dX4_basinNumbered_4 : decode cX4_basinNumbered 4 = .ok (.iload_n 1, 1) := by decide +kernel
theorem dX4_basinNumbered_5 : decode cX4_basinNumbered 5 = .ok (.bipush 8, 2) := by decide +kernel
theorem dX4_basinNumbered_7 : decode cX4_basinNumbered 7 = .ok (.if_icmp .lt 13, 3) := by decide +kernel
theorem dX4_basinNumbered_10 : decode cX4_basinNumbered 10 = .ok (.new 182, 3) := by decide +kernel
theorem dX4_basinNumbered_13 : decode cX4_basinNumbered 13 = .ok (.dup, 1) := by decide +kernel
theorem dX4_basinNumbered_14 : decode cX4_basinNumbered 14 = .ok (.ldc 184, 2) := by decide +kernel
theorem dX4_basinNumbered_16 : decode cX4_basinNumbered 16 = .ok (.invokespecial 186, 3) := by decide +kernel
theorem dX4_basinNumbered_19 : decode cX4_basinNumbered 19 = .ok (.athrow, 1) := by decide +kernel
theorem dX4_basinNumbered_20 : decode cX4_basinNumbered 20 = .ok (.aload_n 0, 1) := by decide +kernel
theorem dX4_basinNumbered_21 : decode cX4_basinNumbered 21 = .ok (.getfield 11, 3) := by decide +kernel
theorem dX4_basinNumbered_24 : decode cX4_basinNumbered 24 = .ok (.iload_n 1, 1) := by decide +kernel
theorem dX4_basinNumbered_25 : decode cX4_basinNumbered 25 = .ok (.aaload, 1) := by decide +kernel
theorem dX4_basinNumbered_26 : decode cX4_basinNumbered 26 = .ok (.areturn, 1) := by decide +kernel
set_option maxRecDepth 20000 in
theorem ggX4_canalNumbered_Jx4a65c_size_8abf5 : GoodIn wsX4_canalNumbered wsJx4a65c_size_8abf5 := goodIn_r _ [9, 10, 34, 35, 36] (by decide +kernel) (by decide +kernel)
set_option maxRecDepth 20000 in
theorem gX4_canalNumbered_Jx4a65c_size_8abf5 : GoodIn wsX4_canalNumbered (wsV RX4 47 RJx4a65c yJx4a65c_size_8abf5 wsJx4a65c_size_8abf5) := goodIn_app (goodIn_of _ (by decide +kernel)) ggX4_canalNumbered_Jx4a65c_size_8abf5
set_option maxRecDepth 20000 in
theorem ggX4_canalNumbered_Jx4a65c_get_915e3 : GoodIn wsX4_canalNumbered wsJx4a65c_get_915e3 := goodIn_r _ [14, 10, 15, 16, 17, 18, 19, 20, 21, 22, 23, 24, 25, 8, 26, 27, 34, 35, 36] (by decide +kernel) (by decide +kernel)
set_option maxRecDepth 20000 in
theorem gX4_canalNumbered_Jx4a65c_get_915e3 : GoodIn wsX4_canalNumbered (wsV RX4 177 RJx4a65c yJx4a65c_get_915e3 wsJx4a65c_get_915e3) := goodIn_app (goodIn_of _ (by decide +kernel)) ggX4_canalNumbered_Jx4a65c_get_915e3
theorem dX4_canalNumbered_0 : decode cX4_canalNumbered 0 = .ok (.iload_n 1, 1) := by decide +kernel
theorem dX4_canalNumbered_1 : decode cX4_canalNumbered 1 = .ok (.ifCond .lt 14, 3) := by decide +kernel
theorem dX4_canalNumbered_4 : decode cX4_canalNumbered 4 = .ok (.iload_n 1, 1) := by decide +kernel
theorem dX4_canalNumbered_5 : decode cX4_canalNumbered 5 = .ok (.aload_n 0, 1) := by decide +kernel
theorem dX4_canalNumbered_6 : decode cX4_canalNumbered 6 = .ok (.getfield 18, 3) := by decide +kernel
theorem dX4_canalNumbered_9 : decode cX4_canalNumbered 9 = .ok (.invokevirtual 47, 3) := by decide +kernel
theorem dX4_canalNumbered_12 : decode cX4_canalNumbered 12 = .ok (.if_icmp .lt 13, 3) := by decide +kernel
theorem dX4_canalNumbered_15 : decode cX4_canalNumbered 15 = .ok (.new 182, 3) := by decide +kernel
theorem dX4_canalNumbered_18 : decode cX4_canalNumbered 18 = .ok (.dup, 1) := by decide +kernel
theorem dX4_canalNumbered_19 : decode cX4_canalNumbered 19 = .ok (.ldc 187, 2) := by decide +kernel
theorem dX4_canalNumbered_21 : decode cX4_canalNumbered 21 = .ok (.invokespecial 186, 3) := by decide +kernel
theorem dX4_canalNumbered_24 : decode cX4_canalNumbered 24 = .ok (.athrow, 1) := by decide +kernel
theorem dX4_canalNumbered_25 : decode cX4_canalNumbered 25 = .ok (.aload_n 0, 1) := by decide +kernel
theorem dX4_canalNumbered_26 : decode cX4_canalNumbered 26 = .ok (.getfield 18, 3) := by decide +kernel
theorem dX4_canalNumbered_29 : decode cX4_canalNumbered 29 = .ok (.iload_n 1, 1) := by decide +kernel
theorem dX4_canalNumbered_30 : decode cX4_canalNumbered 30 = .ok (.invokevirtual 177, 3) := by decide +kernel
theorem dX4_canalNumbered_33 : decode cX4_canalNumbered 33 = .ok (.checkcast 56, 3) := by decide +kernel
theorem dX4_canalNumbered_36 : decode cX4_canalNumbered 36 = .ok (.areturn, 1) := by decide +kernel
set_option maxRecDepth 20000 in
theorem ggX4_bargeNumbered_Jx4a65c_size_8abf5 : GoodIn wsX4_bargeNumbered wsJx4a65c_size_8abf5 := goodIn_r _ [9, 10, 34, 35, 36] (by decide +kernel) (by decide +kernel)
set_option maxRecDepth 20000 in
theorem gX4_bargeNumbered_Jx4a65c_size_8abf5 : GoodIn wsX4_bargeNumbered (wsV RX4 47 RJx4a65c yJx4a65c_size_8abf5 wsJx4a65c_size_8abf5) := goodIn_app (goodIn_of _ (by decide +kernel)) ggX4_bargeNumbered_Jx4a65c_size_8abf5
set_option maxRecDepth 20000 in
theorem ggX4_bargeNumbered_Jx4a65c_get_915e3 : GoodIn wsX4_bargeNumbered wsJx4a65c_get_915e3 := goodIn_r _ [14, 10, 15, 16, 17, 18, 19, 20, 21, 22, 23, 24, 25, 8, 26, 27, 34, 35, 36] (by decide +kernel) (by decide +kernel)
set_option maxRecDepth 20000 in
theorem gX4_bargeNumbered_Jx4a65c_get_915e3 : GoodIn wsX4_bargeNumbered (wsV RX4 177 RJx4a65c yJx4a65c_get_915e3 wsJx4a65c_get_915e3) := goodIn_app (goodIn_of _ (by decide +kernel)) ggX4_bargeNumbered_Jx4a65c_get_915e3
theorem dX4_bargeNumbered_0 : decode cX4_bargeNumbered 0 = .ok (.iload_n 1, 1) := by decide +kernel
theorem dX4_bargeNumbered_1 : decode cX4_bargeNumbered 1 = .ok (.ifCond .lt 14, 3) := by decide +kernel
theorem dX4_bargeNumbered_4 : decode cX4_bargeNumbered 4 = .ok (.iload_n 1, 1) := by decide +kernel
theorem dX4_bargeNumbered_5 : decode cX4_bargeNumbered 5 = .ok (.aload_n 0, 1) := by decide +kernel
theorem dX4_bargeNumbered_6 : decode cX4_bargeNumbered 6 = .ok (.getfield 22, 3) := by decide +kernel
theorem dX4_bargeNumbered_9 : decode cX4_bargeNumbered 9 = .ok (.invokevirtual 47, 3) := by decide +kernel
theorem dX4_bargeNumbered_12 : decode cX4_bargeNumbered 12 = .ok (.if_icmp .lt 13, 3) := by decide +kernel
theorem dX4_bargeNumbered_15 : decode cX4_bargeNumbered 15 = .ok (.new 182, 3) := by decide +kernel
theorem dX4_bargeNumbered_18 : decode cX4_bargeNumbered 18 = .ok (.dup, 1) := by decide +kernel
theorem dX4_bargeNumbered_19 : decode cX4_bargeNumbered 19 = .ok (.ldc 189, 2) := by decide +kernel
theorem dX4_bargeNumbered_21 : decode cX4_bargeNumbered 21 = .ok (.invokespecial 186, 3) := by decide +kernel
theorem dX4_bargeNumbered_24 : decode cX4_bargeNumbered 24 = .ok (.athrow, 1) := by decide +kernel
theorem dX4_bargeNumbered_25 : decode cX4_bargeNumbered 25 = .ok (.aload_n 0, 1) := by decide +kernel
theorem dX4_bargeNumbered_26 : decode cX4_bargeNumbered 26 = .ok (.getfield 22, 3) := by decide +kernel
theorem dX4_bargeNumbered_29 : decode cX4_bargeNumbered 29 = .ok (.iload_n 1, 1) := by decide +kernel
theorem dX4_bargeNumbered_30 : decode cX4_bargeNumbered 30 = .ok (.invokevirtual 177, 3) := by decide +kernel
theorem dX4_bargeNumbered_33 : decode cX4_bargeNumbered 33 = .ok (.checkcast 108, 3) := by decide +kernel
theorem dX4_bargeNumbered_36 : decode cX4_bargeNumbered 36 = .ok (.areturn, 1) := by decide +kernel
theorem dX4_requireRange_0 : decode cX4_requireRange 0 = .ok (.iload_n 0, 1) := by decide +kernel
theorem dX4_requireRange_1 : decode cX4_requireRange 1 = .ok (.iload_n 1, 1) := by decide +kernel
theorem dX4_requireRange_2 : decode cX4_requireRange 2 = .ok (.if_icmp .lt 8, 3) := by decide +kernel
theorem dX4_requireRange_5 : decode cX4_requireRange 5 = .ok (.iload_n 0, 1) := by decide +kernel
theorem dX4_requireRange_6 : decode cX4_requireRange 6 = .ok (.iload_n 2, 1) := by decide +kernel
theorem dX4_requireRange_7 : decode cX4_requireRange 7 = .ok (.if_icmp .le 13, 3) := by decide +kernel
theorem dX4_requireRange_10 : decode cX4_requireRange 10 = .ok (.new 36, 3) := by decide +kernel
theorem dX4_requireRange_13 : decode cX4_requireRange 13 = .ok (.dup, 1) := by decide +kernel
theorem dX4_requireRange_14 : decode cX4_requireRange 14 = .ok (.ldc 191, 2) := by decide +kernel
theorem dX4_requireRange_16 : decode cX4_requireRange 16 = .ok (.invokespecial 40, 3) := by decide +kernel
theorem dX4_requireRange_19 : decode cX4_requireRange 19 = .ok (.athrow, 1) := by decide +kernel
theorem dX4_requireRange_20 : decode cX4_requireRange 20 = .ok (.return_, 1) := by decide +kernel
theorem dX4_countLowBasins_0 : decode cX4_countLowBasins 0 = .ok (.iconst 0, 1) := by decide +kernel
theorem dX4_countLowBasins_1 : decode cX4_countLowBasins 1 = .ok (.istore_n 1, 1) := by decide +kernel
theorem dX4_countLowBasins_2 : decode cX4_countLowBasins 2 = .ok (.iconst 0, 1) := by decide +kernel
theorem dX4_countLowBasins_3 : decode cX4_countLowBasins 3 = .ok (.istore_n 2, 1) := by decide +kernel
theorem dX4_countLowBasins_4 : decode cX4_countLowBasins 4 = .ok (.iload_n 2, 1) := by decide +kernel
theorem dX4_countLowBasins_5 : decode cX4_countLowBasins 5 = .ok (.bipush 8, 2) := by decide +kernel
theorem dX4_countLowBasins_7 : decode cX4_countLowBasins 7 = .ok (.if_icmp .ge 26, 3) := by decide +kernel
theorem dX4_countLowBasins_10 : decode cX4_countLowBasins 10 = .ok (.aload_n 0, 1) := by decide +kernel
theorem dX4_countLowBasins_11 : decode cX4_countLowBasins 11 = .ok (.getfield 11, 3) := by decide +kernel
theorem dX4_countLowBasins_14 : decode cX4_countLowBasins 14 = .ok (.iload_n 2, 1) := by decide +kernel
theorem dX4_countLowBasins_15 : decode cX4_countLowBasins 15 = .ok (.aaload, 1) := by decide +kernel
theorem dX4_countLowBasins_16 : decode cX4_countLowBasins 16 = .ok (.getfield 84, 3) := by decide +kernel
theorem dX4_countLowBasins_19 : decode cX4_countLowBasins 19 = .ok (.bipush 30, 2) := by decide +kernel
theorem dX4_countLowBasins_21 : decode cX4_countLowBasins 21 = .ok (.if_icmp .ge 6, 3) := by decide +kernel
theorem dX4_countLowBasins_24 : decode cX4_countLowBasins 24 = .ok (.iinc 1 1, 3) := by decide +kernel
theorem dX4_countLowBasins_27 : decode cX4_countLowBasins 27 = .ok (.iinc 2 1, 3) := by decide +kernel
theorem dX4_countLowBasins_30 : decode cX4_countLowBasins 30 = .ok (.goto (-26), 3) := by decide +kernel
theorem dX4_countLowBasins_33 : decode cX4_countLowBasins 33 = .ok (.iload_n 1, 1) := by decide +kernel
theorem dX4_countLowBasins_34 : decode cX4_countLowBasins 34 = .ok (.ireturn, 1) := by decide +kernel
set_option maxRecDepth 20000 in
theorem ggX4_prepareNextTables_X3_clearFor : GoodIn wsX4_prepareNextTables wsX3_clearFor := goodIn_r _ [12, 13, 14, 82, 83] (by decide +kernel) (by decide +kernel)
set_option maxRecDepth 20000 in
theorem gX4_prepareNextTables_X3_clearFor : GoodIn wsX4_prepareNextTables (wsV RX4 196 RX3 yX3_clearFor wsX3_clearFor) := goodIn_app (goodIn_of _ (by decide +kernel)) ggX4_prepareNextTables_X3_clearFor
set_option maxRecDepth 20000 in
theorem ggX4_prepareNextTables_Jx4a65c_size_8abf5 : GoodIn wsX4_prepareNextTables wsJx4a65c_size_8abf5 := goodIn_r _ [19, 20, 84, 85, 86] (by decide +kernel) (by decide +kernel)
set_option maxRecDepth 20000 in
theorem gX4_prepareNextTables_Jx4a65c_size_8abf5 : GoodIn wsX4_prepareNextTables (wsV RX4 47 RJx4a65c yJx4a65c_size_8abf5 wsJx4a65c_size_8abf5) := goodIn_app (goodIn_of _ (by decide +kernel)) ggX4_prepareNextTables_Jx4a65c_size_8abf5
set_option maxRecDepth 20000 in
theorem ggX4_prepareNextTables_Jx4a65c_get_915e3 : GoodIn wsX4_prepareNextTables wsJx4a65c_get_915e3 := goodIn_r _ [24, 20, 25, 26, 27, 28, 29, 30, 31, 32, 33, 34, 35, 18, 36, 37, 84, 85, 86] (by decide +kernel) (by decide +kernel)
set_option maxRecDepth 20000 in
theorem gX4_prepareNextTables_Jx4a65c_get_915e3 : GoodIn wsX4_prepareNextTables (wsV RX4 177 RJx4a65c yJx4a65c_get_915e3 wsJx4a65c_get_915e3) := goodIn_app (goodIn_of _ (by decide +kernel)) ggX4_prepareNextTables_Jx4a65c_get_915e3
set_option maxRecDepth 20000 in
theorem ggX4_prepareNextTables_X1_hearNeighbour : GoodIn wsX4_prepareNextTables wsX1_hearNeighbour := goodIn_r _ [42, 43, 44, 45, 46, 47, 48, 49, 50, 51, 52, 53, 54, 55, 56, 57, 41, 58, 59, 60, 61, 62, 11, 63, 13, 14, 70, 71, 72, 73, 74, 75, 82, 83, 76, 77, 78, 79, 80, 81] (by decide +kernel) (by decide +kernel)
set_option maxRecDepth 20000 in
theorem gX4_prepareNextTables_X1_hearNeighbour : GoodIn wsX4_prepareNextTables (wsV RX4 205 RX1 yX1_hearNeighbour wsX1_hearNeighbour) := goodIn_app (goodIn_of _ (by decide +kernel)) ggX4_prepareNextTables_X1_hearNeighbour
theorem dX4_prepareNextTables_0 : decode cX4_prepareNextTables 0 = .ok (.iconst 0, 1) := by decide +kernel
theorem dX4_prepareNextTables_1 : decode cX4_prepareNextTables 1 = .ok (.istore_n 1, 1) := by decide +kernel
theorem dX4_prepareNextTables_2 : decode cX4_prepareNextTables 2 = .ok (.iload_n 1, 1) := by decide +kernel
theorem dX4_prepareNextTables_3 : decode cX4_prepareNextTables 3 = .ok (.bipush 8, 2) := by decide +kernel
theorem dX4_prepareNextTables_5 : decode cX4_prepareNextTables 5 = .ok (.if_icmp .ge 22, 3) := by decide +kernel
theorem dX4_prepareNextTables_8 : decode cX4_prepareNextTables 8 = .ok (.aload_n 0, 1) := by decide +kernel
theorem dX4_prepareNextTables_9 : decode cX4_prepareNextTables 9 = .ok (.getfield 11, 3) := by decide +kernel
theorem dX4_prepareNextTables_12 : decode cX4_prepareNextTables 12 = .ok (.iload_n 1, 1) := by decide +kernel
theorem dX4_prepareNextTables_13 : decode cX4_prepareNextTables 13 = .ok (.aaload, 1) := by decide +kernel
theorem dX4_prepareNextTables_14 : decode cX4_prepareNextTables 14 = .ok (.getfield 193, 3) := by decide +kernel
theorem dX4_prepareNextTables_17 : decode cX4_prepareNextTables 17 = .ok (.iload_n 1, 1) := by decide +kernel
theorem dX4_prepareNextTables_18 : decode cX4_prepareNextTables 18 = .ok (.invokevirtual 196, 3) := by decide +kernel
theorem dX4_prepareNextTables_21 : decode cX4_prepareNextTables 21 = .ok (.iinc 1 1, 3) := by decide +kernel
theorem dX4_prepareNextTables_24 : decode cX4_prepareNextTables 24 = .ok (.goto (-22), 3) := by decide +kernel
theorem dX4_prepareNextTables_27 : decode cX4_prepareNextTables 27 = .ok (.iconst 0, 1) := by decide +kernel
theorem dX4_prepareNextTables_28 : decode cX4_prepareNextTables 28 = .ok (.istore_n 1, 1) := by decide +kernel
theorem dX4_prepareNextTables_29 : decode cX4_prepareNextTables 29 = .ok (.iload_n 1, 1) := by decide +kernel
theorem dX4_prepareNextTables_30 : decode cX4_prepareNextTables 30 = .ok (.aload_n 0, 1) := by decide +kernel
theorem dX4_prepareNextTables_31 : decode cX4_prepareNextTables 31 = .ok (.getfield 18, 3) := by decide +kernel
theorem dX4_prepareNextTables_34 : decode cX4_prepareNextTables 34 = .ok (.invokevirtual 47, 3) := by decide +kernel
theorem dX4_prepareNextTables_37 : decode cX4_prepareNextTables 37 = .ok (.if_icmp .ge 52, 3) := by decide +kernel
theorem dX4_prepareNextTables_40 : decode cX4_prepareNextTables 40 = .ok (.aload_n 0, 1) := by decide +kernel
theorem dX4_prepareNextTables_41 : decode cX4_prepareNextTables 41 = .ok (.getfield 18, 3) := by decide +kernel
theorem dX4_prepareNextTables_44 : decode cX4_prepareNextTables 44 = .ok (.iload_n 1, 1) := by decide +kernel
theorem dX4_prepareNextTables_45 : decode cX4_prepareNextTables 45 = .ok (.invokevirtual 177, 3) := by decide +kernel
theorem dX4_prepareNextTables_48 : decode cX4_prepareNextTables 48 = .ok (.checkcast 56, 3) := by decide +kernel
theorem dX4_prepareNextTables_51 : decode cX4_prepareNextTables 51 = .ok (.astore_n 2, 1) := by decide +kernel
theorem dX4_prepareNextTables_52 : decode cX4_prepareNextTables 52 = .ok (.aload_n 2, 1) := by decide +kernel
theorem dX4_prepareNextTables_53 : decode cX4_prepareNextTables 53 = .ok (.getfield 69, 3) := by decide +kernel
theorem dX4_prepareNextTables_56 : decode cX4_prepareNextTables 56 = .ok (.ifCond .eq 27, 3) := by decide +kernel
theorem dX4_prepareNextTables_59 : decode cX4_prepareNextTables 59 = .ok (.aload_n 2, 1) := by decide +kernel
theorem dX4_prepareNextTables_60 : decode cX4_prepareNextTables 60 = .ok (.getfield 199, 3) := by decide +kernel
theorem dX4_prepareNextTables_63 : decode cX4_prepareNextTables 63 = .ok (.aload_n 2, 1) := by decide +kernel
theorem dX4_prepareNextTables_64 : decode cX4_prepareNextTables 64 = .ok (.getfield 202, 3) := by decide +kernel
theorem dX4_prepareNextTables_67 : decode cX4_prepareNextTables 67 = .ok (.aload_n 2, 1) := by decide +kernel
theorem dX4_prepareNextTables_68 : decode cX4_prepareNextTables 68 = .ok (.invokevirtual 205, 3) := by decide +kernel
theorem dX4_prepareNextTables_71 : decode cX4_prepareNextTables 71 = .ok (.aload_n 2, 1) := by decide +kernel
theorem dX4_prepareNextTables_72 : decode cX4_prepareNextTables 72 = .ok (.getfield 202, 3) := by decide +kernel
theorem dX4_prepareNextTables_75 : decode cX4_prepareNextTables 75 = .ok (.aload_n 2, 1) := by decide +kernel
theorem dX4_prepareNextTables_76 : decode cX4_prepareNextTables 76 = .ok (.getfield 199, 3) := by decide +kernel
theorem dX4_prepareNextTables_79 : decode cX4_prepareNextTables 79 = .ok (.aload_n 2, 1) := by decide +kernel
theorem dX4_prepareNextTables_80 : decode cX4_prepareNextTables 80 = .ok (.invokevirtual 205, 3) := by decide +kernel
theorem dX4_prepareNextTables_83 : decode cX4_prepareNextTables 83 = .ok (.iinc 1 1, 3) := by decide +kernel
theorem dX4_prepareNextTables_86 : decode cX4_prepareNextTables 86 = .ok (.goto (-57), 3) := by decide +kernel
theorem dX4_prepareNextTables_89 : decode cX4_prepareNextTables 89 = .ok (.return_, 1) := by decide +kernel
set_option maxRecDepth 20000 in
theorem ggX4_countNextChanges_X3_countDifferences : GoodIn wsX4_countNextChanges wsX3_countDifferences := goodIn_r _ [8, 9, 10, 23, 24] (by decide +kernel) (by decide +kernel)
set_option maxRecDepth 20000 in
theorem gX4_countNextChanges_X3_countDifferences : GoodIn wsX4_countNextChanges (wsV RX4 209 RX3 yX3_countDifferences wsX3_countDifferences) := goodIn_app (goodIn_of _ (by decide +kernel)) ggX4_countNextChanges_X3_countDifferences
theorem dX4_countNextChanges_0 : decode cX4_countNextChanges 0 = .ok (.iconst 0, 1) := by decide +kernel
theorem dX4_countNextChanges_1 : decode cX4_countNextChanges 1 = .ok (.istore_n 1, 1) := by decide +kernel
theorem dX4_countNextChanges_2 : decode cX4_countNextChanges 2 = .ok (.iconst 0, 1) := by decide +kernel
theorem dX4_countNextChanges_3 : decode cX4_countNextChanges 3 = .ok (.istore_n 2, 1) := by decide +kernel
theorem dX4_countNextChanges_4 : decode cX4_countNextChanges 4 = .ok (.iload_n 2, 1) := by decide +kernel
theorem dX4_countNextChanges_5 : decode cX4_countNextChanges 5 = .ok (.bipush 8, 2) := by decide +kernel
theorem dX4_countNextChanges_7 : decode cX4_countNextChanges 7 = .ok (.if_icmp .ge 33, 3) := by decide +kernel
theorem dX4_countNextChanges_10 : decode cX4_countNextChanges 10 = .ok (.iload_n 1, 1) := by decide +kernel
theorem dX4_countNextChanges_11 : decode cX4_countNextChanges 11 = .ok (.aload_n 0, 1) := by decide +kernel
theorem dX4_countNextChanges_12 : decode cX4_countNextChanges 12 = .ok (.getfield 11, 3) := by decide +kernel
theorem dX4_countNextChanges_15 : decode cX4_countNextChanges 15 = .ok (.iload_n 2, 1) := by decide +kernel
theorem dX4_countNextChanges_16 : decode cX4_countNextChanges 16 = .ok (.aaload, 1) := by decide +kernel
theorem dX4_countNextChanges_17 : decode cX4_countNextChanges 17 = .ok (.getfield 133, 3) := by decide +kernel
theorem dX4_countNextChanges_20 : decode cX4_countNextChanges 20 = .ok (.aload_n 0, 1) := by decide +kernel
theorem dX4_countNextChanges_21 : decode cX4_countNextChanges 21 = .ok (.getfield 11, 3) := by decide +kernel
theorem dX4_countNextChanges_24 : decode cX4_countNextChanges 24 = .ok (.iload_n 2, 1) := by decide +kernel
theorem dX4_countNextChanges_25 : decode cX4_countNextChanges 25 = .ok (.aaload, 1) := by decide +kernel
theorem dX4_countNextChanges_26 : decode cX4_countNextChanges 26 = .ok (.getfield 193, 3) := by decide +kernel
theorem dX4_countNextChanges_29 : decode cX4_countNextChanges 29 = .ok (.invokevirtual 209, 3) := by decide +kernel
theorem dX4_countNextChanges_32 : decode cX4_countNextChanges 32 = .ok (.iadd, 1) := by decide +kernel
theorem dX4_countNextChanges_33 : decode cX4_countNextChanges 33 = .ok (.istore_n 1, 1) := by decide +kernel
theorem dX4_countNextChanges_34 : decode cX4_countNextChanges 34 = .ok (.iinc 2 1, 3) := by decide +kernel
theorem dX4_countNextChanges_37 : decode cX4_countNextChanges 37 = .ok (.goto (-33), 3) := by decide +kernel
theorem dX4_countNextChanges_40 : decode cX4_countNextChanges 40 = .ok (.iload_n 1, 1) := by decide +kernel
theorem dX4_countNextChanges_41 : decode cX4_countNextChanges 41 = .ok (.ireturn, 1) := by decide +kernel
set_option maxRecDepth 20000 in
theorem ggX4_findCheapestWays_Jx4a65c_size_8abf5 : GoodIn wsX4_findCheapestWays wsJx4a65c_size_8abf5 := goodIn_r _ [12, 13, 68, 69, 70] (by decide +kernel) (by decide +kernel)
set_option maxRecDepth 20000 in
theorem gX4_findCheapestWays_Jx4a65c_size_8abf5 : GoodIn wsX4_findCheapestWays (wsV RX4 47 RJx4a65c yJx4a65c_size_8abf5 wsJx4a65c_size_8abf5) := goodIn_app (goodIn_of _ (by decide +kernel)) ggX4_findCheapestWays_Jx4a65c_size_8abf5
set_option maxRecDepth 20000 in
theorem ggX4_findCheapestWays_Jx4a65c_get_915e3 : GoodIn wsX4_findCheapestWays wsJx4a65c_get_915e3 := goodIn_r _ [17, 13, 18, 19, 20, 21, 22, 23, 24, 25, 26, 27, 28, 11, 29, 30, 68, 69, 70] (by decide +kernel) (by decide +kernel)
set_option maxRecDepth 20000 in
theorem gX4_findCheapestWays_Jx4a65c_get_915e3 : GoodIn wsX4_findCheapestWays (wsV RX4 177 RJx4a65c yJx4a65c_get_915e3 wsJx4a65c_get_915e3) := goodIn_app (goodIn_of _ (by decide +kernel)) ggX4_findCheapestWays_Jx4a65c_get_915e3
set_option maxRecDepth 20000 in
theorem ggX4_findCheapestWays_X2_costNow : GoodIn wsX4_findCheapestWays wsX2_costNow := goodIn_r _ [35, 36, 37, 38, 39, 40, 41, 42, 43, 44, 62, 63, 64, 65, 66, 67, 56, 57, 58, 59, 60, 61] (by decide +kernel) (by decide +kernel)
set_option maxRecDepth 20000 in
theorem gX4_findCheapestWays_X2_costNow : GoodIn wsX4_findCheapestWays (wsV RX4 127 RX2 yX2_costNow wsX2_costNow) := goodIn_app (goodIn_of _ (by decide +kernel)) ggX4_findCheapestWays_X2_costNow
set_option maxRecDepth 20000 in
theorem ggX4_findCheapestWays_X4_extendWay : GoodIn wsX4_findCheapestWays wsX4_extendWay := goodIn_r _ [49, 1, 2, 50, 51, 52, 53, 54, 55, 56, 57, 58, 59, 60, 61] (by decide +kernel) (by decide +kernel)
set_option maxRecDepth 20000 in
theorem gX4_findCheapestWays_X4_extendWay : GoodIn wsX4_findCheapestWays (wsV RX4 213 RX4 yX4_extendWay wsX4_extendWay) := goodIn_app (goodIn_of _ (by decide +kernel)) ggX4_findCheapestWays_X4_extendWay
theorem dX4_findCheapestWays_0 : decode cX4_findCheapestWays 0 = .ok (.iconst 0, 1) := by decide +kernel
theorem dX4_findCheapestWays_1 : decode cX4_findCheapestWays 1 = .ok (.istore_n 2, 1) := by decide +kernel
theorem dX4_findCheapestWays_2 : decode cX4_findCheapestWays 2 = .ok (.iload_n 2, 1) := by decide +kernel
theorem dX4_findCheapestWays_3 : decode cX4_findCheapestWays 3 = .ok (.bipush 8, 2) := by decide +kernel
theorem dX4_findCheapestWays_5 : decode cX4_findCheapestWays 5 = .ok (.if_icmp .ge 16, 3) := by decide +kernel
theorem dX4_findCheapestWays_8 : decode cX4_findCheapestWays 8 = .ok (.aload_n 0, 1) := by decide +kernel
theorem dX4_findCheapestWays_9 : decode cX4_findCheapestWays 9 = .ok (.getfield 25, 3) := by decide +kernel
theorem dX4_findCheapestWays_12 : decode cX4_findCheapestWays 12 = .ok (.iload_n 2, 1) := by decide +kernel
theorem dX4_findCheapestWays_13 : decode cX4_findCheapestWays 13 = .ok (.iconst (-1), 1) := by decide +kernel
theorem dX4_findCheapestWays_14 : decode cX4_findCheapestWays 14 = .ok (.iastore, 1) := by decide +kernel
theorem dX4_findCheapestWays_15 : decode cX4_findCheapestWays 15 = .ok (.iinc 2 1, 3) := by decide +kernel
theorem dX4_findCheapestWays_18 : decode cX4_findCheapestWays 18 = .ok (.goto (-16), 3) := by decide +kernel
theorem dX4_findCheapestWays_21 : decode cX4_findCheapestWays 21 = .ok (.aload_n 0, 1) := by decide +kernel
theorem dX4_findCheapestWays_22 : decode cX4_findCheapestWays 22 = .ok (.getfield 25, 3) := by decide +kernel
theorem dX4_findCheapestWays_25 : decode cX4_findCheapestWays 25 = .ok (.aload_n 1, 1) := by decide +kernel
theorem dX4_findCheapestWays_26 : decode cX4_findCheapestWays 26 = .ok (.getfield 142, 3) := by decide +kernel
theorem dX4_findCheapestWays_29 : decode cX4_findCheapestWays 29 = .ok (.iconst 0, 1) := by decide +kernel
theorem dX4_findCheapestWays_30 : decode cX4_findCheapestWays 30 = .ok (.iastore, 1) := by decide +kernel
theorem dX4_findCheapestWays_31 : decode cX4_findCheapestWays 31 = .ok (.iconst 1, 1) := by decide +kernel
theorem dX4_findCheapestWays_32 : decode cX4_findCheapestWays 32 = .ok (.istore_n 2, 1) := by decide +kernel
theorem dX4_findCheapestWays_33 : decode cX4_findCheapestWays 33 = .ok (.iload_n 2, 1) := by decide +kernel
theorem dX4_findCheapestWays_34 : decode cX4_findCheapestWays 34 = .ok (.bipush 8, 2) := by decide +kernel
theorem dX4_findCheapestWays_36 : decode cX4_findCheapestWays 36 = .ok (.if_icmp .ge 87, 3) := by decide +kernel
theorem dX4_findCheapestWays_39 : decode cX4_findCheapestWays 39 = .ok (.iconst 0, 1) := by decide +kernel
theorem dX4_findCheapestWays_40 : decode cX4_findCheapestWays 40 = .ok (.istore_n 3, 1) := by decide +kernel
theorem dX4_findCheapestWays_41 : decode cX4_findCheapestWays 41 = .ok (.iload_n 3, 1) := by decide +kernel
theorem dX4_findCheapestWays_42 : decode cX4_findCheapestWays 42 = .ok (.aload_n 0, 1) := by decide +kernel
theorem dX4_findCheapestWays_43 : decode cX4_findCheapestWays 43 = .ok (.getfield 18, 3) := by decide +kernel
theorem dX4_findCheapestWays_46 : decode cX4_findCheapestWays 46 = .ok (.invokevirtual 47, 3) := by decide +kernel
theorem dX4_findCheapestWays_49 : decode cX4_findCheapestWays 49 = .ok (.if_icmp .ge 68, 3) := by decide +kernel
theorem dX4_findCheapestWays_52 : decode cX4_findCheapestWays 52 = .ok (.aload_n 0, 1) := by decide +kernel
theorem dX4_findCheapestWays_53 : decode cX4_findCheapestWays 53 = .ok (.getfield 18, 3) := by decide +kernel
theorem dX4_findCheapestWays_56 : decode cX4_findCheapestWays 56 = .ok (.iload_n 3, 1) := by decide +kernel
theorem dX4_findCheapestWays_57 : decode cX4_findCheapestWays 57 = .ok (.invokevirtual 177, 3) := by decide +kernel
theorem dX4_findCheapestWays_60 : decode cX4_findCheapestWays 60 = .ok (.checkcast 56, 3) := by decide +kernel
theorem dX4_findCheapestWays_63 : decode cX4_findCheapestWays 63 = .ok (.astore 4, 2) := by decide +kernel
theorem dX4_findCheapestWays_65 : decode cX4_findCheapestWays 65 = .ok (.aload 4, 2) := by decide +kernel
theorem dX4_findCheapestWays_67 : decode cX4_findCheapestWays 67 = .ok (.getfield 69, 3) := by decide +kernel
theorem dX4_findCheapestWays_70 : decode cX4_findCheapestWays 70 = .ok (.ifCond .eq 41, 3) := by decide +kernel
theorem dX4_findCheapestWays_73 : decode cX4_findCheapestWays 73 = .ok (.aload_n 0, 1) := by decide +kernel
theorem dX4_findCheapestWays_74 : decode cX4_findCheapestWays 74 = .ok (.aload 4, 2) := by decide +kernel
theorem dX4_findCheapestWays_76 : decode cX4_findCheapestWays 76 = .ok (.getfield 199, 3) := by decide +kernel
theorem dX4_findCheapestWays_79 : decode cX4_findCheapestWays 79 = .ok (.aload 4, 2) := by decide +kernel
theorem dX4_findCheapestWays_81 : decode cX4_findCheapestWays 81 = .ok (.getfield 202, 3) := by decide +kernel
theorem dX4_findCheapestWays_84 : decode cX4_findCheapestWays 84 = .ok (.aload 4, 2) := by decide +kernel
theorem dX4_findCheapestWays_86 : decode cX4_findCheapestWays 86 = .ok (.invokevirtual 127, 3) := by decide +kernel
theorem dX4_findCheapestWays_89 : decode cX4_findCheapestWays 89 = .ok (.invokevirtual 213, 3) := by decide +kernel
theorem dX4_findCheapestWays_92 : decode cX4_findCheapestWays 92 = .ok (.aload_n 0, 1) := by decide +kernel
theorem dX4_findCheapestWays_93 : decode cX4_findCheapestWays 93 = .ok (.aload 4, 2) := by decide +kernel
theorem dX4_findCheapestWays_95 : decode cX4_findCheapestWays 95 = .ok (.getfield 202, 3) := by decide +kernel
theorem dX4_findCheapestWays_98 : decode cX4_findCheapestWays 98 = .ok (.aload 4, 2) := by decide +kernel
theorem dX4_findCheapestWays_100 : decode cX4_findCheapestWays 100 = .ok (.getfield 199, 3) := by decide +kernel
theorem dX4_findCheapestWays_103 : decode cX4_findCheapestWays 103 = .ok (.aload 4, 2) := by decide +kernel
theorem dX4_findCheapestWays_105 : decode cX4_findCheapestWays 105 = .ok (.invokevirtual 127, 3) := by decide +kernel
theorem dX4_findCheapestWays_108 : decode cX4_findCheapestWays 108 = .ok (.invokevirtual 213, 3) := by decide +kernel
