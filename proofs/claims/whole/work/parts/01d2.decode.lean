theorem dX5_passes_158 : decode cX5_passes 158 = .ok (.ishl, 1) := by decide +kernel
theorem dX5_passes_159 : decode cX5_passes 159 = .ok (.ior, 1) := by decide +kernel
theorem dX5_passes_160 : decode cX5_passes 160 = .ok (.iastore, 1) := by decide +kernel
theorem dX5_passes_161 : decode cX5_passes 161 = .ok (.aload_n 0, 1) := by decide +kernel
theorem dX5_passes_162 : decode cX5_passes 162 = .ok (.getfield 65, 3) := by decide +kernel
theorem dX5_passes_165 : decode cX5_passes 165 = .ok (.iload_n 3, 1) := by decide +kernel
theorem dX5_passes_166 : decode cX5_passes 166 = .ok (.iload 4, 2) := by decide +kernel
theorem dX5_passes_168 : decode cX5_passes 168 = .ok (.iastore, 1) := by decide +kernel
theorem dX5_passes_169 : decode cX5_passes 169 = .ok (.aload_n 0, 1) := by decide +kernel
theorem dX5_passes_170 : decode cX5_passes 170 = .ok (.getfield 71, 3) := by decide +kernel
theorem dX5_passes_173 : decode cX5_passes 173 = .ok (.iload_n 3, 1) := by decide +kernel
theorem dX5_passes_174 : decode cX5_passes 174 = .ok (.aload_n 0, 1) := by decide +kernel
theorem dX5_passes_175 : decode cX5_passes 175 = .ok (.getfield 127, 3) := by decide +kernel
theorem dX5_passes_178 : decode cX5_passes 178 = .ok (.iastore, 1) := by decide +kernel
theorem dX5_passes_179 : decode cX5_passes 179 = .ok (.iload 4, 2) := by decide +kernel
theorem dX5_passes_181 : decode cX5_passes 181 = .ok (.aload_n 0, 1) := by decide +kernel
theorem dX5_passes_182 : decode cX5_passes 182 = .ok (.getfield 50, 3) := by decide +kernel
theorem dX5_passes_185 : decode cX5_passes 185 = .ok (.iload_n 3, 1) := by decide +kernel
theorem dX5_passes_186 : decode cX5_passes 186 = .ok (.iaload, 1) := by decide +kernel
theorem dX5_passes_187 : decode cX5_passes 187 = .ok (.if_icmp .ne 13, 3) := by decide +kernel
theorem dX5_passes_190 : decode cX5_passes 190 = .ok (.aload_n 0, 1) := by decide +kernel
theorem dX5_passes_191 : decode cX5_passes 191 = .ok (.getfield 62, 3) := by decide +kernel
theorem dX5_passes_194 : decode cX5_passes 194 = .ok (.iload_n 3, 1) := by decide +kernel
theorem dX5_passes_195 : decode cX5_passes 195 = .ok (.iconst 1, 1) := by decide +kernel
theorem dX5_passes_196 : decode cX5_passes 196 = .ok (.iastore, 1) := by decide +kernel
theorem dX5_passes_197 : decode cX5_passes 197 = .ok (.goto 29, 3) := by decide +kernel
theorem dX5_passes_200 : decode cX5_passes 200 = .ok (.aload_n 0, 1) := by decide +kernel
theorem dX5_passes_201 : decode cX5_passes 201 = .ok (.getfield 53, 3) := by decide +kernel
theorem dX5_passes_204 : decode cX5_passes 204 = .ok (.iload_n 3, 1) := by decide +kernel
theorem dX5_passes_205 : decode cX5_passes 205 = .ok (.iaload, 1) := by decide +kernel
theorem dX5_passes_206 : decode cX5_passes 206 = .ok (.ifCond .ne 13, 3) := by decide +kernel
theorem dX5_passes_209 : decode cX5_passes 209 = .ok (.aload_n 0, 1) := by decide +kernel
theorem dX5_passes_210 : decode cX5_passes 210 = .ok (.getfield 62, 3) := by decide +kernel
theorem dX5_passes_213 : decode cX5_passes 213 = .ok (.iload_n 3, 1) := by decide +kernel
theorem dX5_passes_214 : decode cX5_passes 214 = .ok (.iconst 2, 1) := by decide +kernel
theorem dX5_passes_215 : decode cX5_passes 215 = .ok (.iastore, 1) := by decide +kernel
theorem dX5_passes_216 : decode cX5_passes 216 = .ok (.goto 10, 3) := by decide +kernel
theorem dX5_passes_219 : decode cX5_passes 219 = .ok (.aload_n 0, 1) := by decide +kernel
theorem dX5_passes_220 : decode cX5_passes 220 = .ok (.iload_n 3, 1) := by decide +kernel
theorem dX5_passes_221 : decode cX5_passes 221 = .ok (.iload 4, 2) := by decide +kernel
theorem dX5_passes_223 : decode cX5_passes 223 = .ok (.invokevirtual 124, 3) := by decide +kernel
theorem dX5_passes_226 : decode cX5_passes 226 = .ok (.return_, 1) := by decide +kernel
set_option maxRecDepth 20000 in
theorem ggX5_move_X5_isIn : GoodIn wsX5_move wsX5_isIn := goodIn_r _ [5] (by decide +kernel) (by decide +kernel)
set_option maxRecDepth 20000 in
theorem gX5_move_X5_isIn : GoodIn wsX5_move (va_wsS RX5 78 yX5_isIn wsX5_isIn) := goodIn_app (goodIn_of _ (by decide +kernel)) ggX5_move_X5_isIn
set_option maxRecDepth 20000 in
theorem ggX5_move_X5_can : GoodIn wsX5_move wsX5_can := goodIn_r _ [9, 10, 53, 54, 55, 56, 57, 58, 59, 60, 61, 62, 63, 64, 65, 66, 67, 68, 69, 70, 71, 72, 73, 74, 75, 76, 77, 78] (by decide +kernel) (by decide +kernel)
set_option maxRecDepth 20000 in
theorem gX5_move_X5_can : GoodIn wsX5_move (wsV RX5 92 RX5 yX5_can wsX5_can) := goodIn_app (goodIn_of _ (by decide +kernel)) ggX5_move_X5_can
set_option maxRecDepth 20000 in
theorem ggX5_move_X5_wayFrom : GoodIn wsX5_move wsX5_wayFrom := goodIn_r _ [14, 15, 16, 17, 18, 19, 1, 20, 21, 22, 23, 4, 24, 25, 26, 27, 28, 29, 30, 31, 32, 33, 53, 54, 55, 56, 57, 58, 59, 60, 61, 62, 63, 64, 65, 66, 67, 68, 69, 70, 71, 72, 73, 74, 75, 76, 77, 78] (by decide +kernel) (by decide +kernel)
set_option maxRecDepth 20000 in
theorem gX5_move_X5_wayFrom : GoodIn wsX5_move (wsV RX5 133 RX5 yX5_wayFrom wsX5_wayFrom) := goodIn_app (goodIn_of _ (by decide +kernel)) ggX5_move_X5_wayFrom
set_option maxRecDepth 20000 in
theorem ggX5_move_X5_passes : GoodIn wsX5_move wsX5_passes := goodIn_r _ [37, 16, 15, 26, 27, 28, 33, 38, 39, 40, 41, 42, 19, 1, 18, 43, 29, 30, 31, 4, 32, 44, 45, 46, 47, 48, 49, 50, 51, 52, 53, 54, 55, 56, 57, 58, 59, 60, 61, 62, 63, 64, 65, 66, 67, 68, 69, 70, 71, 72, 73, 74, 75, 76, 77, 78] (by decide +kernel) (by decide +kernel)
set_option maxRecDepth 20000 in
theorem gX5_move_X5_passes : GoodIn wsX5_move (wsV RX5 136 RX5 yX5_passes wsX5_passes) := goodIn_app (goodIn_of _ (by decide +kernel)) ggX5_move_X5_passes
theorem dX5_move_0 : decode cX5_move 0 = .ok (.aload_n 0, 1) := by decide +kernel
theorem dX5_move_1 : decode cX5_move 1 = .ok (.iload_n 1, 1) := by decide +kernel
theorem dX5_move_2 : decode cX5_move 2 = .ok (.iconst 1, 1) := by decide +kernel
theorem dX5_move_3 : decode cX5_move 3 = .ok (.bipush 50, 2) := by decide +kernel
theorem dX5_move_5 : decode cX5_move 5 = .ok (.invokestatic 78, 3) := by decide +kernel
theorem dX5_move_8 : decode cX5_move 8 = .ok (.ifCond .ne 7, 3) := by decide +kernel
theorem dX5_move_11 : decode cX5_move 11 = .ok (.iconst 1, 1) := by decide +kernel
theorem dX5_move_12 : decode cX5_move 12 = .ok (.goto 20, 3) := by decide +kernel
theorem dX5_move_15 : decode cX5_move 15 = .ok (.aload_n 0, 1) := by decide +kernel
theorem dX5_move_16 : decode cX5_move 16 = .ok (.getfield 127, 3) := by decide +kernel
theorem dX5_move_19 : decode cX5_move 19 = .ok (.iload_n 1, 1) := by decide +kernel
theorem dX5_move_20 : decode cX5_move 20 = .ok (.iadd, 1) := by decide +kernel
theorem dX5_move_21 : decode cX5_move 21 = .ok (.sipush 2000, 3) := by decide +kernel
theorem dX5_move_24 : decode cX5_move 24 = .ok (.if_icmp .le 7, 3) := by decide +kernel
theorem dX5_move_27 : decode cX5_move 27 = .ok (.iconst 2, 1) := by decide +kernel
theorem dX5_move_28 : decode cX5_move 28 = .ok (.goto 4, 3) := by decide +kernel
theorem dX5_move_31 : decode cX5_move 31 = .ok (.iconst 0, 1) := by decide +kernel
theorem dX5_move_32 : decode cX5_move 32 = .ok (.invokevirtual 92, 3) := by decide +kernel
theorem dX5_move_35 : decode cX5_move 35 = .ok (.ifCond .ne 5, 3) := by decide +kernel
theorem dX5_move_38 : decode cX5_move 38 = .ok (.iconst 0, 1) := by decide +kernel
theorem dX5_move_39 : decode cX5_move 39 = .ok (.ireturn, 1) := by decide +kernel
theorem dX5_move_40 : decode cX5_move 40 = .ok (.iconst 0, 1) := by decide +kernel
theorem dX5_move_41 : decode cX5_move 41 = .ok (.istore_n 2, 1) := by decide +kernel
theorem dX5_move_42 : decode cX5_move 42 = .ok (.iconst 0, 1) := by decide +kernel
theorem dX5_move_43 : decode cX5_move 43 = .ok (.istore_n 3, 1) := by decide +kernel
theorem dX5_move_44 : decode cX5_move 44 = .ok (.iload_n 3, 1) := by decide +kernel
theorem dX5_move_45 : decode cX5_move 45 = .ok (.iload_n 1, 1) := by decide +kernel
theorem dX5_move_46 : decode cX5_move 46 = .ok (.if_icmp .ge 60, 3) := by decide +kernel
theorem dX5_move_49 : decode cX5_move 49 = .ok (.aload_n 0, 1) := by decide +kernel
theorem dX5_move_50 : decode cX5_move 50 = .ok (.dup, 1) := by decide +kernel
theorem dX5_move_51 : decode cX5_move 51 = .ok (.getfield 127, 3) := by decide +kernel
theorem dX5_move_54 : decode cX5_move 54 = .ok (.iconst 1, 1) := by decide +kernel
theorem dX5_move_55 : decode cX5_move 55 = .ok (.iadd, 1) := by decide +kernel
theorem dX5_move_56 : decode cX5_move 56 = .ok (.putfield 127, 3) := by decide +kernel
theorem dX5_move_59 : decode cX5_move 59 = .ok (.iconst 0, 1) := by decide +kernel
theorem dX5_move_60 : decode cX5_move 60 = .ok (.istore 4, 2) := by decide +kernel
theorem dX5_move_62 : decode cX5_move 62 = .ok (.iload 4, 2) := by decide +kernel
theorem dX5_move_64 : decode cX5_move 64 = .ok (.bipush 8, 2) := by decide +kernel
theorem dX5_move_66 : decode cX5_move 66 = .ok (.if_icmp .ge 34, 3) := by decide +kernel
theorem dX5_move_69 : decode cX5_move 69 = .ok (.aload_n 0, 1) := by decide +kernel
theorem dX5_move_70 : decode cX5_move 70 = .ok (.iload 4, 2) := by decide +kernel
theorem dX5_move_72 : decode cX5_move 72 = .ok (.invokevirtual 133, 3) := by decide +kernel
theorem dX5_move_75 : decode cX5_move 75 = .ok (.istore 5, 2) := by decide +kernel
theorem dX5_move_77 : decode cX5_move 77 = .ok (.iload 5, 2) := by decide +kernel
theorem dX5_move_79 : decode cX5_move 79 = .ok (.iconst (-1), 1) := by decide +kernel
theorem dX5_move_80 : decode cX5_move 80 = .ok (.if_icmp .eq 14, 3) := by decide +kernel
theorem dX5_move_83 : decode cX5_move 83 = .ok (.aload_n 0, 1) := by decide +kernel
theorem dX5_move_84 : decode cX5_move 84 = .ok (.iload 4, 2) := by decide +kernel
theorem dX5_move_86 : decode cX5_move 86 = .ok (.iload 5, 2) := by decide +kernel
theorem dX5_move_88 : decode cX5_move 88 = .ok (.invokevirtual 136, 3) := by decide +kernel
theorem dX5_move_91 : decode cX5_move 91 = .ok (.iinc 2 1, 3) := by decide +kernel
theorem dX5_move_94 : decode cX5_move 94 = .ok (.iinc 4 1, 3) := by decide +kernel
theorem dX5_move_97 : decode cX5_move 97 = .ok (.goto (-35), 3) := by decide +kernel
theorem dX5_move_100 : decode cX5_move 100 = .ok (.iinc 3 1, 3) := by decide +kernel
theorem dX5_move_103 : decode cX5_move 103 = .ok (.goto (-59), 3) := by decide +kernel
theorem dX5_move_106 : decode cX5_move 106 = .ok (.iload_n 2, 1) := by decide +kernel
theorem dX5_move_107 : decode cX5_move 107 = .ok (.ireturn, 1) := by decide +kernel
theorem dX5_canals_0 : decode cX5_canals 0 = .ok (.aload_n 0, 1) := by decide +kernel
theorem dX5_canals_1 : decode cX5_canals 1 = .ok (.iconst 0, 1) := by decide +kernel
theorem dX5_canals_2 : decode cX5_canals 2 = .ok (.putfield 74, 3) := by decide +kernel
theorem dX5_canals_5 : decode cX5_canals 5 = .ok (.aload_n 0, 1) := by decide +kernel
theorem dX5_canals_6 : decode cX5_canals 6 = .ok (.getfield 82, 3) := by decide +kernel
theorem dX5_canals_9 : decode cX5_canals 9 = .ok (.ireturn, 1) := by decide +kernel
set_option maxRecDepth 20000 in
theorem ggX5_water_X5_isBasin : GoodIn wsX5_water wsX5_isBasin := goodIn_r _ [5, 6, 7, 4, 8] (by decide +kernel) (by decide +kernel)
set_option maxRecDepth 20000 in
theorem gX5_water_X5_isBasin : GoodIn wsX5_water (va_wsS RX5 88 yX5_isBasin wsX5_isBasin) := goodIn_app (goodIn_of _ (by decide +kernel)) ggX5_water_X5_isBasin
set_option maxRecDepth 20000 in
theorem ggX5_water_X5_can : GoodIn wsX5_water wsX5_can := goodIn_r _ [12, 13, 14, 15, 16, 17, 18, 19, 20, 21, 22, 23, 24, 25, 26, 27, 28, 29, 30, 31, 32, 33, 34, 35, 36, 37, 38, 39] (by decide +kernel) (by decide +kernel)
set_option maxRecDepth 20000 in
theorem gX5_water_X5_can : GoodIn wsX5_water (wsV RX5 92 RX5 yX5_can wsX5_can) := goodIn_app (goodIn_of _ (by decide +kernel)) ggX5_water_X5_can
theorem dX5_water_0 : decode cX5_water 0 = .ok (.aload_n 0, 1) := by decide +kernel
theorem dX5_water_1 : decode cX5_water 1 = .ok (.iload_n 1, 1) := by decide +kernel
theorem dX5_water_2 : decode cX5_water 2 = .ok (.invokestatic 88, 3) := by decide +kernel
theorem dX5_water_5 : decode cX5_water 5 = .ok (.ifCond .eq 7, 3) := by decide +kernel
theorem dX5_water_8 : decode cX5_water 8 = .ok (.iconst 0, 1) := by decide +kernel
theorem dX5_water_9 : decode cX5_water 9 = .ok (.goto 4, 3) := by decide +kernel
theorem dX5_water_12 : decode cX5_water 12 = .ok (.iconst 1, 1) := by decide +kernel
theorem dX5_water_13 : decode cX5_water 13 = .ok (.invokevirtual 92, 3) := by decide +kernel
theorem dX5_water_16 : decode cX5_water 16 = .ok (.ifCond .eq 12, 3) := by decide +kernel
theorem dX5_water_19 : decode cX5_water 19 = .ok (.aload_n 0, 1) := by decide +kernel
theorem dX5_water_20 : decode cX5_water 20 = .ok (.getfield 7, 3) := by decide +kernel
theorem dX5_water_23 : decode cX5_water 23 = .ok (.iload_n 1, 1) := by decide +kernel
theorem dX5_water_24 : decode cX5_water 24 = .ok (.iaload, 1) := by decide +kernel
theorem dX5_water_25 : decode cX5_water 25 = .ok (.goto 4, 3) := by decide +kernel
theorem dX5_water_28 : decode cX5_water 28 = .ok (.iconst 0, 1) := by decide +kernel
theorem dX5_water_29 : decode cX5_water 29 = .ok (.ireturn, 1) := by decide +kernel
theorem dX5_allWater_0 : decode cX5_allWater 0 = .ok (.aload_n 0, 1) := by decide +kernel
theorem dX5_allWater_1 : decode cX5_allWater 1 = .ok (.iconst 0, 1) := by decide +kernel
theorem dX5_allWater_2 : decode cX5_allWater 2 = .ok (.putfield 74, 3) := by decide +kernel
theorem dX5_allWater_5 : decode cX5_allWater 5 = .ok (.iconst 0, 1) := by decide +kernel
theorem dX5_allWater_6 : decode cX5_allWater 6 = .ok (.istore_n 1, 1) := by decide +kernel
theorem dX5_allWater_7 : decode cX5_allWater 7 = .ok (.iconst 0, 1) := by decide +kernel
theorem dX5_allWater_8 : decode cX5_allWater 8 = .ok (.istore_n 2, 1) := by decide +kernel
theorem dX5_allWater_9 : decode cX5_allWater 9 = .ok (.iload_n 2, 1) := by decide +kernel
theorem dX5_allWater_10 : decode cX5_allWater 10 = .ok (.bipush 8, 2) := by decide +kernel
theorem dX5_allWater_12 : decode cX5_allWater 12 = .ok (.if_icmp .ge 18, 3) := by decide +kernel
theorem dX5_allWater_15 : decode cX5_allWater 15 = .ok (.iload_n 1, 1) := by decide +kernel
theorem dX5_allWater_16 : decode cX5_allWater 16 = .ok (.aload_n 0, 1) := by decide +kernel
theorem dX5_allWater_17 : decode cX5_allWater 17 = .ok (.getfield 7, 3) := by decide +kernel
theorem dX5_allWater_20 : decode cX5_allWater 20 = .ok (.iload_n 2, 1) := by decide +kernel
theorem dX5_allWater_21 : decode cX5_allWater 21 = .ok (.iaload, 1) := by decide +kernel
theorem dX5_allWater_22 : decode cX5_allWater 22 = .ok (.iadd, 1) := by decide +kernel
theorem dX5_allWater_23 : decode cX5_allWater 23 = .ok (.istore_n 1, 1) := by decide +kernel
theorem dX5_allWater_24 : decode cX5_allWater 24 = .ok (.iinc 2 1, 3) := by decide +kernel
theorem dX5_allWater_27 : decode cX5_allWater 27 = .ok (.goto (-18), 3) := by decide +kernel
theorem dX5_allWater_30 : decode cX5_allWater 30 = .ok (.iload_n 1, 1) := by decide +kernel
theorem dX5_allWater_31 : decode cX5_allWater 31 = .ok (.ireturn, 1) := by decide +kernel
theorem dX5_spilt_0 : decode cX5_spilt 0 = .ok (.aload_n 0, 1) := by decide +kernel
theorem dX5_spilt_1 : decode cX5_spilt 1 = .ok (.iconst 0, 1) := by decide +kernel
theorem dX5_spilt_2 : decode cX5_spilt 2 = .ok (.putfield 74, 3) := by decide +kernel
theorem dX5_spilt_5 : decode cX5_spilt 5 = .ok (.aload_n 0, 1) := by decide +kernel
theorem dX5_spilt_6 : decode cX5_spilt 6 = .ok (.getfield 98, 3) := by decide +kernel
theorem dX5_spilt_9 : decode cX5_spilt 9 = .ok (.ireturn, 1) := by decide +kernel
set_option maxRecDepth 20000 in
theorem ggX5_cost_X5_isCanal : GoodIn wsX5_cost wsX5_isCanal := goodIn_r _ [5, 6, 7, 8, 4, 9, 27, 28, 29, 30, 31, 32, 33, 34, 35, 36, 37, 38, 39, 40, 41, 42, 43, 44, 45, 46, 47, 48, 49, 50, 51, 52] (by decide +kernel) (by decide +kernel)
set_option maxRecDepth 20000 in
theorem gX5_cost_X5_isCanal : GoodIn wsX5_cost (wsV RX5 95 RX5 yX5_isCanal wsX5_isCanal) := goodIn_app (goodIn_of _ (by decide +kernel)) ggX5_cost_X5_isCanal
set_option maxRecDepth 20000 in
theorem ggX5_cost_X5_can : GoodIn wsX5_cost wsX5_can := goodIn_r _ [13, 14, 27, 28, 29, 30, 31, 32, 33, 34, 35, 36, 37, 38, 39, 40, 41, 42, 43, 44, 45, 46, 47, 48, 49, 50, 51, 52] (by decide +kernel) (by decide +kernel)
set_option maxRecDepth 20000 in
theorem gX5_cost_X5_can : GoodIn wsX5_cost (wsV RX5 92 RX5 yX5_can wsX5_can) := goodIn_app (goodIn_of _ (by decide +kernel)) ggX5_cost_X5_can
set_option maxRecDepth 20000 in
theorem ggX5_cost_X5_costOf : GoodIn wsX5_cost wsX5_costOf := goodIn_r _ [18, 19, 20, 21, 22, 23, 24, 4, 25, 26, 27, 28, 29, 30, 31, 32, 33, 34, 35, 36, 37, 38, 39, 40, 41, 42, 43, 44, 45, 46, 47, 48, 49, 50, 51, 52] (by decide +kernel) (by decide +kernel)
set_option maxRecDepth 20000 in
theorem gX5_cost_X5_costOf : GoodIn wsX5_cost (wsV RX5 117 RX5 yX5_costOf wsX5_costOf) := goodIn_app (goodIn_of _ (by decide +kernel)) ggX5_cost_X5_costOf
theorem dX5_cost_0 : decode cX5_cost 0 = .ok (.aload_n 0, 1) := by decide +kernel
theorem dX5_cost_1 : decode cX5_cost 1 = .ok (.aload_n 0, 1) := by decide +kernel
theorem dX5_cost_2 : decode cX5_cost 2 = .ok (.iload_n 1, 1) := by decide +kernel
theorem dX5_cost_3 : decode cX5_cost 3 = .ok (.invokevirtual 95, 3) := by decide +kernel
theorem dX5_cost_6 : decode cX5_cost 6 = .ok (.ifCond .eq 7, 3) := by decide +kernel
theorem dX5_cost_9 : decode cX5_cost 9 = .ok (.iconst 0, 1) := by decide +kernel
theorem dX5_cost_10 : decode cX5_cost 10 = .ok (.goto 4, 3) := by decide +kernel
theorem dX5_cost_13 : decode cX5_cost 13 = .ok (.iconst 1, 1) := by decide +kernel
theorem dX5_cost_14 : decode cX5_cost 14 = .ok (.invokevirtual 92, 3) := by decide +kernel
theorem dX5_cost_17 : decode cX5_cost 17 = .ok (.ifCond .eq 11, 3) := by decide +kernel
theorem dX5_cost_20 : decode cX5_cost 20 = .ok (.aload_n 0, 1) := by decide +kernel
theorem dX5_cost_21 : decode cX5_cost 21 = .ok (.iload_n 1, 1) := by decide +kernel
theorem dX5_cost_22 : decode cX5_cost 22 = .ok (.invokevirtual 117, 3) := by decide +kernel
theorem dX5_cost_25 : decode cX5_cost 25 = .ok (.goto 4, 3) := by decide +kernel
theorem dX5_cost_28 : decode cX5_cost 28 = .ok (.iconst 0, 1) := by decide +kernel
theorem dX5_cost_29 : decode cX5_cost 29 = .ok (.ireturn, 1) := by decide +kernel
set_option maxRecDepth 20000 in
theorem ggX5_canPass_X5_isCanal : GoodIn wsX5_canPass wsX5_isCanal := goodIn_r _ [5, 6, 7, 8, 4, 9, 23, 24, 25, 26, 27, 28, 29, 30, 31, 32, 33, 34, 35, 36, 37, 38, 39, 40, 41, 42, 43, 44, 45, 46, 47, 48] (by decide +kernel) (by decide +kernel)
set_option maxRecDepth 20000 in
theorem gX5_canPass_X5_isCanal : GoodIn wsX5_canPass (wsV RX5 95 RX5 yX5_isCanal wsX5_isCanal) := goodIn_app (goodIn_of _ (by decide +kernel)) ggX5_canPass_X5_isCanal
set_option maxRecDepth 20000 in
theorem ggX5_canPass_X5_can : GoodIn wsX5_canPass wsX5_can := goodIn_r _ [13, 14, 23, 24, 25, 26, 27, 28, 29, 30, 31, 32, 33, 34, 35, 36, 37, 38, 39, 40, 41, 42, 43, 44, 45, 46, 47, 48] (by decide +kernel) (by decide +kernel)
set_option maxRecDepth 20000 in
theorem gX5_canPass_X5_can : GoodIn wsX5_canPass (wsV RX5 92 RX5 yX5_can wsX5_can) := goodIn_app (goodIn_of _ (by decide +kernel)) ggX5_canPass_X5_can
set_option maxRecDepth 20000 in
theorem ggX5_canPass_X5_goes : GoodIn wsX5_canPass wsX5_goes := goodIn_r _ [18, 19, 20, 21, 22, 23, 24, 25, 26, 27, 28, 29, 30, 31, 32, 33, 34, 35, 36, 37, 38, 39, 40, 41, 42, 43, 44, 45, 46, 47, 48] (by decide +kernel) (by decide +kernel)
set_option maxRecDepth 20000 in
theorem gX5_canPass_X5_goes : GoodIn wsX5_canPass (wsV RX5 130 RX5 yX5_goes wsX5_goes) := goodIn_app (goodIn_of _ (by decide +kernel)) ggX5_canPass_X5_goes
theorem dX5_canPass_0 : decode cX5_canPass 0 = .ok (.aload_n 0, 1) := by decide +kernel
theorem dX5_canPass_1 : decode cX5_canPass 1 = .ok (.aload_n 0, 1) := by decide +kernel
theorem dX5_canPass_2 : decode cX5_canPass 2 = .ok (.iload_n 1, 1) := by decide +kernel
theorem dX5_canPass_3 : decode cX5_canPass 3 = .ok (.invokevirtual 95, 3) := by decide +kernel
theorem dX5_canPass_6 : decode cX5_canPass 6 = .ok (.ifCond .eq 7, 3) := by decide +kernel
theorem dX5_canPass_9 : decode cX5_canPass 9 = .ok (.iconst 0, 1) := by decide +kernel
theorem dX5_canPass_10 : decode cX5_canPass 10 = .ok (.goto 4, 3) := by decide +kernel
theorem dX5_canPass_13 : decode cX5_canPass 13 = .ok (.iconst 1, 1) := by decide +kernel
theorem dX5_canPass_14 : decode cX5_canPass 14 = .ok (.invokevirtual 92, 3) := by decide +kernel
theorem dX5_canPass_17 : decode cX5_canPass 17 = .ok (.ifCond .eq 15, 3) := by decide +kernel
theorem dX5_canPass_20 : decode cX5_canPass 20 = .ok (.aload_n 0, 1) := by decide +kernel
theorem dX5_canPass_21 : decode cX5_canPass 21 = .ok (.iload_n 1, 1) := by decide +kernel
theorem dX5_canPass_22 : decode cX5_canPass 22 = .ok (.invokevirtual 130, 3) := by decide +kernel
theorem dX5_canPass_25 : decode cX5_canPass 25 = .ok (.ifCond .eq 7, 3) := by decide +kernel
theorem dX5_canPass_28 : decode cX5_canPass 28 = .ok (.iconst 1, 1) := by decide +kernel
theorem dX5_canPass_29 : decode cX5_canPass 29 = .ok (.goto 4, 3) := by decide +kernel
theorem dX5_canPass_32 : decode cX5_canPass 32 = .ok (.iconst 0, 1) := by decide +kernel
theorem dX5_canPass_33 : decode cX5_canPass 33 = .ok (.ireturn, 1) := by decide +kernel
set_option maxRecDepth 20000 in
theorem ggX5_areAsked_X5_isBasin : GoodIn wsX5_areAsked wsX5_isBasin := goodIn_r _ [4, 5, 6, 3, 7] (by decide +kernel) (by decide +kernel)
set_option maxRecDepth 20000 in
theorem gX5_areAsked_X5_isBasin : GoodIn wsX5_areAsked (va_wsS RX5 88 yX5_isBasin wsX5_isBasin) := goodIn_app (goodIn_of _ (by decide +kernel)) ggX5_areAsked_X5_isBasin
set_option maxRecDepth 20000 in
theorem ggX5_areAsked_X5_can : GoodIn wsX5_areAsked wsX5_can := goodIn_r _ [11, 12, 13, 14, 15, 16, 17, 18, 19, 20, 21, 22, 23, 24, 25, 26, 27, 28, 29, 30, 31, 32, 33, 34, 35, 36, 37, 38] (by decide +kernel) (by decide +kernel)
set_option maxRecDepth 20000 in
theorem gX5_areAsked_X5_can : GoodIn wsX5_areAsked (wsV RX5 92 RX5 yX5_can wsX5_can) := goodIn_app (goodIn_of _ (by decide +kernel)) ggX5_areAsked_X5_can
theorem dX5_areAsked_0 : decode cX5_areAsked 0 = .ok (.aload_n 0, 1) := by decide +kernel
theorem dX5_areAsked_1 : decode cX5_areAsked 1 = .ok (.iload_n 1, 1) := by decide +kernel
theorem dX5_areAsked_2 : decode cX5_areAsked 2 = .ok (.invokestatic 88, 3) := by decide +kernel
theorem dX5_areAsked_5 : decode cX5_areAsked 5 = .ok (.ifCond .eq 14, 3) := by decide +kernel
theorem dX5_areAsked_8 : decode cX5_areAsked 8 = .ok (.iload_n 2, 1) := by decide +kernel
theorem dX5_areAsked_9 : decode cX5_areAsked 9 = .ok (.invokestatic 88, 3) := by decide +kernel
theorem dX5_areAsked_12 : decode cX5_areAsked 12 = .ok (.ifCond .eq 7, 3) := by decide +kernel
theorem dX5_areAsked_15 : decode cX5_areAsked 15 = .ok (.iconst 0, 1) := by decide +kernel
theorem dX5_areAsked_16 : decode cX5_areAsked 16 = .ok (.goto 4, 3) := by decide +kernel
theorem dX5_areAsked_19 : decode cX5_areAsked 19 = .ok (.iconst 1, 1) := by decide +kernel
theorem dX5_areAsked_20 : decode cX5_areAsked 20 = .ok (.invokevirtual 92, 3) := by decide +kernel
theorem dX5_areAsked_23 : decode cX5_areAsked 23 = .ok (.ireturn, 1) := by decide +kernel
set_option maxRecDepth 20000 in
theorem ggX5_distance_X5_areAsked : GoodIn wsX5_distance wsX5_areAsked := goodIn_r _ [6, 7, 8, 5, 9, 10, 11, 12, 13, 14, 15, 16, 17, 18, 19, 20, 21, 22, 23, 24, 25, 26, 27, 28, 29, 30, 31, 32, 33, 34, 35, 36, 37, 38, 39, 40, 41, 42, 43] (by decide +kernel) (by decide +kernel)
set_option maxRecDepth 20000 in
theorem gX5_distance_X5_areAsked : GoodIn wsX5_distance (wsV RX5 139 RX5 yX5_areAsked wsX5_areAsked) := goodIn_app (goodIn_of _ (by decide +kernel)) ggX5_distance_X5_areAsked
theorem dX5_distance_0 : decode cX5_distance 0 = .ok (.aload_n 0, 1) := by decide +kernel
theorem dX5_distance_1 : decode cX5_distance 1 = .ok (.iload_n 1, 1) := by decide +kernel
theorem dX5_distance_2 : decode cX5_distance 2 = .ok (.iload_n 2, 1) := by decide +kernel
theorem dX5_distance_3 : decode cX5_distance 3 = .ok (.invokevirtual 139, 3) := by decide +kernel
theorem dX5_distance_6 : decode cX5_distance 6 = .ok (.ifCond .eq 17, 3) := by decide +kernel
theorem dX5_distance_9 : decode cX5_distance 9 = .ok (.aload_n 0, 1) := by decide +kernel
theorem dX5_distance_10 : decode cX5_distance 10 = .ok (.getfield 38, 3) := by decide +kernel
theorem dX5_distance_13 : decode cX5_distance 13 = .ok (.bipush 8, 2) := by decide +kernel
theorem dX5_distance_15 : decode cX5_distance 15 = .ok (.iload_n 1, 1) := by decide +kernel
theorem dX5_distance_16 : decode cX5_distance 16 = .ok (.imul, 1) := by decide +kernel
theorem dX5_distance_17 : decode cX5_distance 17 = .ok (.iload_n 2, 1) := by decide +kernel
theorem dX5_distance_18 : decode cX5_distance 18 = .ok (.iadd, 1) := by decide +kernel
theorem dX5_distance_19 : decode cX5_distance 19 = .ok (.iaload, 1) := by decide +kernel
theorem dX5_distance_20 : decode cX5_distance 20 = .ok (.goto 4, 3) := by decide +kernel
theorem dX5_distance_23 : decode cX5_distance 23 = .ok (.iconst 0, 1) := by decide +kernel
theorem dX5_distance_24 : decode cX5_distance 24 = .ok (.ireturn, 1) := by decide +kernel
set_option maxRecDepth 20000 in
theorem ggX5_canalTo_X5_areAsked : GoodIn wsX5_canalTo wsX5_areAsked := goodIn_r _ [6, 7, 8, 5, 9, 10, 11, 12, 13, 14, 15, 16, 17, 18, 19, 20, 21, 22, 23, 24, 25, 26, 27, 28, 29, 30, 31, 32, 33, 34, 35, 36, 37, 38, 39, 40, 41, 42, 43] (by decide +kernel) (by decide +kernel)
set_option maxRecDepth 20000 in
theorem gX5_canalTo_X5_areAsked : GoodIn wsX5_canalTo (wsV RX5 139 RX5 yX5_areAsked wsX5_areAsked) := goodIn_app (goodIn_of _ (by decide +kernel)) ggX5_canalTo_X5_areAsked
theorem dX5_canalTo_0 : decode cX5_canalTo 0 = .ok (.aload_n 0, 1) := by decide +kernel
theorem dX5_canalTo_1 : decode cX5_canalTo 1 = .ok (.iload_n 1, 1) := by decide +kernel
theorem dX5_canalTo_2 : decode cX5_canalTo 2 = .ok (.iload_n 2, 1) := by decide +kernel
theorem dX5_canalTo_3 : decode cX5_canalTo 3 = .ok (.invokevirtual 139, 3) := by decide +kernel
theorem dX5_canalTo_6 : decode cX5_canalTo 6 = .ok (.ifCond .eq 17, 3) := by decide +kernel
theorem dX5_canalTo_9 : decode cX5_canalTo 9 = .ok (.aload_n 0, 1) := by decide +kernel
theorem dX5_canalTo_10 : decode cX5_canalTo 10 = .ok (.getfield 41, 3) := by decide +kernel
theorem dX5_canalTo_13 : decode cX5_canalTo 13 = .ok (.bipush 8, 2) := by decide +kernel
theorem dX5_canalTo_15 : decode cX5_canalTo 15 = .ok (.iload_n 1, 1) := by decide +kernel
theorem dX5_canalTo_16 : decode cX5_canalTo 16 = .ok (.imul, 1) := by decide +kernel
theorem dX5_canalTo_17 : decode cX5_canalTo 17 = .ok (.iload_n 2, 1) := by decide +kernel
theorem dX5_canalTo_18 : decode cX5_canalTo 18 = .ok (.iadd, 1) := by decide +kernel
theorem dX5_canalTo_19 : decode cX5_canalTo 19 = .ok (.iaload, 1) := by decide +kernel
theorem dX5_canalTo_20 : decode cX5_canalTo 20 = .ok (.goto 4, 3) := by decide +kernel
theorem dX5_canalTo_23 : decode cX5_canalTo 23 = .ok (.iconst 0, 1) := by decide +kernel
theorem dX5_canalTo_24 : decode cX5_canalTo 24 = .ok (.ireturn, 1) := by decide +kernel
set_option maxRecDepth 20000 in
theorem ggX5_areStill_X5_looksOn : GoodIn wsX5_areStill wsX5_looksOn := goodIn_r _ [6, 7, 8, 9, 10, 11, 12, 13, 14, 15, 5, 16, 17, 18, 19, 20, 21, 22, 23, 24, 25, 26, 27, 28, 29, 30, 31, 32, 33, 34, 35, 36, 37, 38, 39, 40, 41, 42, 43, 44, 45, 46, 47, 48, 49, 50, 51, 52, 53, 54, 55, 56, 57, 58] (by decide +kernel) (by decide +kernel)
set_option maxRecDepth 20000 in
theorem gX5_areStill_X5_looksOn : GoodIn wsX5_areStill (wsV RX5 120 RX5 yX5_looksOn wsX5_looksOn) := goodIn_app (goodIn_of _ (by decide +kernel)) ggX5_areStill_X5_looksOn
theorem dX5_areStill_0 : decode cX5_areStill 0 = .ok (.aload_n 0, 1) := by decide +kernel
theorem dX5_areStill_1 : decode cX5_areStill 1 = .ok (.iconst 0, 1) := by decide +kernel
theorem dX5_areStill_2 : decode cX5_areStill 2 = .ok (.putfield 74, 3) := by decide +kernel
theorem dX5_areStill_5 : decode cX5_areStill 5 = .ok (.aload_n 0, 1) := by decide +kernel
theorem dX5_areStill_6 : decode cX5_areStill 6 = .ok (.invokevirtual 120, 3) := by decide +kernel
theorem dX5_areStill_9 : decode cX5_areStill 9 = .ok (.ifCond .ne 7, 3) := by decide +kernel
theorem dX5_areStill_12 : decode cX5_areStill 12 = .ok (.iconst 1, 1) := by decide +kernel
theorem dX5_areStill_13 : decode cX5_areStill 13 = .ok (.goto 4, 3) := by decide +kernel
theorem dX5_areStill_16 : decode cX5_areStill 16 = .ok (.iconst 0, 1) := by decide +kernel
theorem dX5_areStill_17 : decode cX5_areStill 17 = .ok (.ireturn, 1) := by decide +kernel
set_option maxRecDepth 20000 in
theorem ggX5_cheapest_X5_areAsked : GoodIn wsX5_cheapest wsX5_areAsked := goodIn_r _ [10, 11, 12, 9, 13, 14, 15, 16, 17, 18, 19, 20, 21, 32, 33, 34, 35, 36, 37, 38, 39, 40, 41, 42, 43, 44, 45, 46, 47, 48, 49, 50, 51, 52, 53, 54, 55, 56, 57] (by decide +kernel) (by decide +kernel)
set_option maxRecDepth 20000 in
theorem gX5_cheapest_X5_areAsked : GoodIn wsX5_cheapest (wsV RX5 139 RX5 yX5_areAsked wsX5_areAsked) := goodIn_app (goodIn_of _ (by decide +kernel)) ggX5_cheapest_X5_areAsked
set_option maxRecDepth 20000 in
theorem ggX5_cheapest_X5_costOf : GoodIn wsX5_cheapest wsX5_costOf := goodIn_r _ [25, 26, 3, 4, 27, 28, 29, 9, 30, 31, 32, 33, 34, 35, 36, 37, 38, 39, 40, 41, 42, 43, 44, 45, 46, 47, 48, 49, 50, 51, 52, 53, 54, 55, 56, 57] (by decide +kernel) (by decide +kernel)
set_option maxRecDepth 20000 in
theorem gX5_cheapest_X5_costOf : GoodIn wsX5_cheapest (wsV RX5 117 RX5 yX5_costOf wsX5_costOf) := goodIn_app (goodIn_of _ (by decide +kernel)) ggX5_cheapest_X5_costOf
theorem dX5_cheapest_0 : decode cX5_cheapest 0 = .ok (.aload_n 0, 1) := by decide +kernel
theorem dX5_cheapest_1 : decode cX5_cheapest 1 = .ok (.iload_n 1, 1) := by decide +kernel
theorem dX5_cheapest_2 : decode cX5_cheapest 2 = .ok (.iload_n 2, 1) := by decide +kernel
theorem dX5_cheapest_3 : decode cX5_cheapest 3 = .ok (.invokevirtual 139, 3) := by decide +kernel
theorem dX5_cheapest_6 : decode cX5_cheapest 6 = .ok (.ifCond .ne 5, 3) := by decide +kernel
theorem dX5_cheapest_9 : decode cX5_cheapest 9 = .ok (.iconst 0, 1) := by decide +kernel
theorem dX5_cheapest_10 : decode cX5_cheapest 10 = .ok (.ireturn, 1) := by decide +kernel
theorem dX5_cheapest_11 : decode cX5_cheapest 11 = .ok (.iconst 0, 1) := by decide +kernel
theorem dX5_cheapest_12 : decode cX5_cheapest 12 = .ok (.istore_n 3, 1) := by decide +kernel
theorem dX5_cheapest_13 : decode cX5_cheapest 13 = .ok (.iload_n 3, 1) := by decide +kernel
theorem dX5_cheapest_14 : decode cX5_cheapest 14 = .ok (.bipush 8, 2) := by decide +kernel
theorem dX5_cheapest_16 : decode cX5_cheapest 16 = .ok (.if_icmp .ge 25, 3) := by decide +kernel
theorem dX5_cheapest_19 : decode cX5_cheapest 19 = .ok (.aload_n 0, 1) := by decide +kernel
theorem dX5_cheapest_20 : decode cX5_cheapest 20 = .ok (.getfield 44, 3) := by decide +kernel
theorem dX5_cheapest_23 : decode cX5_cheapest 23 = .ok (.iload_n 3, 1) := by decide +kernel
theorem dX5_cheapest_24 : decode cX5_cheapest 24 = .ok (.iload_n 3, 1) := by decide +kernel
theorem dX5_cheapest_25 : decode cX5_cheapest 25 = .ok (.iload_n 2, 1) := by decide +kernel
theorem dX5_cheapest_26 : decode cX5_cheapest 26 = .ok (.if_icmp .ne 7, 3) := by decide +kernel
theorem dX5_cheapest_29 : decode cX5_cheapest 29 = .ok (.iconst 0, 1) := by decide +kernel
theorem dX5_cheapest_30 : decode cX5_cheapest 30 = .ok (.goto 4, 3) := by decide +kernel
theorem dX5_cheapest_33 : decode cX5_cheapest 33 = .ok (.iconst (-1), 1) := by decide +kernel
theorem dX5_cheapest_34 : decode cX5_cheapest 34 = .ok (.iastore, 1) := by decide +kernel
theorem dX5_cheapest_35 : decode cX5_cheapest 35 = .ok (.iinc 3 1, 3) := by decide +kernel
theorem dX5_cheapest_38 : decode cX5_cheapest 38 = .ok (.goto (-25), 3) := by decide +kernel
theorem dX5_cheapest_41 : decode cX5_cheapest 41 = .ok (.iconst 0, 1) := by decide +kernel
theorem dX5_cheapest_42 : decode cX5_cheapest 42 = .ok (.istore_n 3, 1) := by decide +kernel
theorem dX5_cheapest_43 : decode cX5_cheapest 43 = .ok (.iload_n 3, 1) := by decide +kernel
theorem dX5_cheapest_44 : decode cX5_cheapest 44 = .ok (.bipush 8, 2) := by decide +kernel
theorem dX5_cheapest_46 : decode cX5_cheapest 46 = .ok (.aload_n 0, 1) := by decide +kernel
theorem dX5_cheapest_47 : decode cX5_cheapest 47 = .ok (.getfield 82, 3) := by decide +kernel
theorem dX5_cheapest_50 : decode cX5_cheapest 50 = .ok (.imul, 1) := by decide +kernel
theorem dX5_cheapest_51 : decode cX5_cheapest 51 = .ok (.if_icmp .ge 154, 3) := by decide +kernel
theorem dX5_cheapest_54 : decode cX5_cheapest 54 = .ok (.iload_n 3, 1) := by decide +kernel
theorem dX5_cheapest_55 : decode cX5_cheapest 55 = .ok (.aload_n 0, 1) := by decide +kernel
theorem dX5_cheapest_56 : decode cX5_cheapest 56 = .ok (.getfield 82, 3) := by decide +kernel
theorem dX5_cheapest_59 : decode cX5_cheapest 59 = .ok (.irem, 1) := by decide +kernel
theorem dX5_cheapest_60 : decode cX5_cheapest 60 = .ok (.istore 4, 2) := by decide +kernel
theorem dX5_cheapest_62 : decode cX5_cheapest 62 = .ok (.aload_n 0, 1) := by decide +kernel
theorem dX5_cheapest_63 : decode cX5_cheapest 63 = .ok (.getfield 44, 3) := by decide +kernel
theorem dX5_cheapest_66 : decode cX5_cheapest 66 = .ok (.aload_n 0, 1) := by decide +kernel
theorem dX5_cheapest_67 : decode cX5_cheapest 67 = .ok (.getfield 22, 3) := by decide +kernel
theorem dX5_cheapest_70 : decode cX5_cheapest 70 = .ok (.iload 4, 2) := by decide +kernel
theorem dX5_cheapest_72 : decode cX5_cheapest 72 = .ok (.iaload, 1) := by decide +kernel
theorem dX5_cheapest_73 : decode cX5_cheapest 73 = .ok (.iaload, 1) := by decide +kernel
theorem dX5_cheapest_74 : decode cX5_cheapest 74 = .ok (.istore 5, 2) := by decide +kernel
theorem dX5_cheapest_76 : decode cX5_cheapest 76 = .ok (.aload_n 0, 1) := by decide +kernel
theorem dX5_cheapest_77 : decode cX5_cheapest 77 = .ok (.getfield 44, 3) := by decide +kernel
theorem dX5_cheapest_80 : decode cX5_cheapest 80 = .ok (.aload_n 0, 1) := by decide +kernel
theorem dX5_cheapest_81 : decode cX5_cheapest 81 = .ok (.getfield 25, 3) := by decide +kernel
theorem dX5_cheapest_84 : decode cX5_cheapest 84 = .ok (.iload 4, 2) := by decide +kernel
theorem dX5_cheapest_86 : decode cX5_cheapest 86 = .ok (.iaload, 1) := by decide +kernel
theorem dX5_cheapest_87 : decode cX5_cheapest 87 = .ok (.iaload, 1) := by decide +kernel
theorem dX5_cheapest_88 : decode cX5_cheapest 88 = .ok (.istore 6, 2) := by decide +kernel
theorem dX5_cheapest_90 : decode cX5_cheapest 90 = .ok (.aload_n 0, 1) := by decide +kernel
theorem dX5_cheapest_91 : decode cX5_cheapest 91 = .ok (.iload 4, 2) := by decide +kernel
theorem dX5_cheapest_93 : decode cX5_cheapest 93 = .ok (.invokevirtual 117, 3) := by decide +kernel
theorem dX5_cheapest_96 : decode cX5_cheapest 96 = .ok (.istore 7, 2) := by decide +kernel
theorem dX5_cheapest_98 : decode cX5_cheapest 98 = .ok (.aload_n 0, 1) := by decide +kernel
theorem dX5_cheapest_99 : decode cX5_cheapest 99 = .ok (.getfield 34, 3) := by decide +kernel
theorem dX5_cheapest_102 : decode cX5_cheapest 102 = .ok (.iload 4, 2) := by decide +kernel
theorem dX5_cheapest_104 : decode cX5_cheapest 104 = .ok (.baload, 1) := by decide +kernel
theorem dX5_cheapest_105 : decode cX5_cheapest 105 = .ok (.ifCond .eq 45, 3) := by decide +kernel
theorem dX5_cheapest_108 : decode cX5_cheapest 108 = .ok (.iload 6, 2) := by decide +kernel
theorem dX5_cheapest_110 : decode cX5_cheapest 110 = .ok (.iconst (-1), 1) := by decide +kernel
theorem dX5_cheapest_111 : decode cX5_cheapest 111 = .ok (.if_icmp .eq 39, 3) := by decide +kernel
theorem dX5_cheapest_114 : decode cX5_cheapest 114 = .ok (.iload 5, 2) := by decide +kernel
theorem dX5_cheapest_116 : decode cX5_cheapest 116 = .ok (.iconst (-1), 1) := by decide +kernel
theorem dX5_cheapest_117 : decode cX5_cheapest 117 = .ok (.if_icmp .eq 13, 3) := by decide +kernel
theorem dX5_cheapest_120 : decode cX5_cheapest 120 = .ok (.iload 6, 2) := by decide +kernel
theorem dX5_cheapest_122 : decode cX5_cheapest 122 = .ok (.iload 7, 2) := by decide +kernel
theorem dX5_cheapest_124 : decode cX5_cheapest 124 = .ok (.iadd, 1) := by decide +kernel
theorem dX5_cheapest_125 : decode cX5_cheapest 125 = .ok (.iload 5, 2) := by decide +kernel
theorem dX5_cheapest_127 : decode cX5_cheapest 127 = .ok (.if_icmp .ge 23, 3) := by decide +kernel
theorem dX5_cheapest_130 : decode cX5_cheapest 130 = .ok (.aload_n 0, 1) := by decide +kernel
theorem dX5_cheapest_131 : decode cX5_cheapest 131 = .ok (.getfield 44, 3) := by decide +kernel
theorem dX5_cheapest_134 : decode cX5_cheapest 134 = .ok (.aload_n 0, 1) := by decide +kernel
theorem dX5_cheapest_135 : decode cX5_cheapest 135 = .ok (.getfield 22, 3) := by decide +kernel
theorem dX5_cheapest_138 : decode cX5_cheapest 138 = .ok (.iload 4, 2) := by decide +kernel
theorem dX5_cheapest_140 : decode cX5_cheapest 140 = .ok (.iaload, 1) := by decide +kernel
theorem dX5_cheapest_141 : decode cX5_cheapest 141 = .ok (.iload 6, 2) := by decide +kernel
theorem dX5_cheapest_143 : decode cX5_cheapest 143 = .ok (.iload 7, 2) := by decide +kernel
theorem dX5_cheapest_145 : decode cX5_cheapest 145 = .ok (.iadd, 1) := by decide +kernel
theorem dX5_cheapest_146 : decode cX5_cheapest 146 = .ok (.iastore, 1) := by decide +kernel
theorem dX5_cheapest_147 : decode cX5_cheapest 147 = .ok (.goto 52, 3) := by decide +kernel
theorem dX5_cheapest_150 : decode cX5_cheapest 150 = .ok (.aload_n 0, 1) := by decide +kernel
theorem dX5_cheapest_151 : decode cX5_cheapest 151 = .ok (.getfield 34, 3) := by decide +kernel
theorem dX5_cheapest_154 : decode cX5_cheapest 154 = .ok (.iload 4, 2) := by decide +kernel
theorem dX5_cheapest_156 : decode cX5_cheapest 156 = .ok (.baload, 1) := by decide +kernel
theorem dX5_cheapest_157 : decode cX5_cheapest 157 = .ok (.ifCond .eq 42, 3) := by decide +kernel
theorem dX5_cheapest_160 : decode cX5_cheapest 160 = .ok (.iload 5, 2) := by decide +kernel
theorem dX5_cheapest_162 : decode cX5_cheapest 162 = .ok (.iconst (-1), 1) := by decide +kernel
theorem dX5_cheapest_163 : decode cX5_cheapest 163 = .ok (.if_icmp .eq 36, 3) := by decide +kernel
theorem dX5_cheapest_166 : decode cX5_cheapest 166 = .ok (.iload 6, 2) := by decide +kernel
theorem dX5_cheapest_168 : decode cX5_cheapest 168 = .ok (.iconst (-1), 1) := by decide +kernel
theorem dX5_cheapest_169 : decode cX5_cheapest 169 = .ok (.if_icmp .eq 13, 3) := by decide +kernel
theorem dX5_cheapest_172 : decode cX5_cheapest 172 = .ok (.iload 5, 2) := by decide +kernel
theorem dX5_cheapest_174 : decode cX5_cheapest 174 = .ok (.iload 7, 2) := by decide +kernel
theorem dX5_cheapest_176 : decode cX5_cheapest 176 = .ok (.iadd, 1) := by decide +kernel
theorem dX5_cheapest_177 : decode cX5_cheapest 177 = .ok (.iload 6, 2) := by decide +kernel
theorem dX5_cheapest_179 : decode cX5_cheapest 179 = .ok (.if_icmp .ge 20, 3) := by decide +kernel
theorem dX5_cheapest_182 : decode cX5_cheapest 182 = .ok (.aload_n 0, 1) := by decide +kernel
theorem dX5_cheapest_183 : decode cX5_cheapest 183 = .ok (.getfield 44, 3) := by decide +kernel
theorem dX5_cheapest_186 : decode cX5_cheapest 186 = .ok (.aload_n 0, 1) := by decide +kernel
theorem dX5_cheapest_187 : decode cX5_cheapest 187 = .ok (.getfield 25, 3) := by decide +kernel
theorem dX5_cheapest_190 : decode cX5_cheapest 190 = .ok (.iload 4, 2) := by decide +kernel
theorem dX5_cheapest_192 : decode cX5_cheapest 192 = .ok (.iaload, 1) := by decide +kernel
theorem dX5_cheapest_193 : decode cX5_cheapest 193 = .ok (.iload 5, 2) := by decide +kernel
theorem dX5_cheapest_195 : decode cX5_cheapest 195 = .ok (.iload 7, 2) := by decide +kernel
theorem dX5_cheapest_197 : decode cX5_cheapest 197 = .ok (.iadd, 1) := by decide +kernel
theorem dX5_cheapest_198 : decode cX5_cheapest 198 = .ok (.iastore, 1) := by decide +kernel
theorem dX5_cheapest_199 : decode cX5_cheapest 199 = .ok (.iinc 3 1, 3) := by decide +kernel
theorem dX5_cheapest_202 : decode cX5_cheapest 202 = .ok (.goto (-159), 3) := by decide +kernel
theorem dX5_cheapest_205 : decode cX5_cheapest 205 = .ok (.aload_n 0, 1) := by decide +kernel
theorem dX5_cheapest_206 : decode cX5_cheapest 206 = .ok (.getfield 44, 3) := by decide +kernel
theorem dX5_cheapest_209 : decode cX5_cheapest 209 = .ok (.iload_n 1, 1) := by decide +kernel
theorem dX5_cheapest_210 : decode cX5_cheapest 210 = .ok (.iaload, 1) := by decide +kernel
theorem dX5_cheapest_211 : decode cX5_cheapest 211 = .ok (.bipush 40, 2) := by decide +kernel
theorem dX5_cheapest_213 : decode cX5_cheapest 213 = .ok (.if_icmp .le 7, 3) := by decide +kernel
theorem dX5_cheapest_216 : decode cX5_cheapest 216 = .ok (.iconst (-1), 1) := by decide +kernel
theorem dX5_cheapest_217 : decode cX5_cheapest 217 = .ok (.goto 9, 3) := by decide +kernel
theorem dX5_cheapest_220 : decode cX5_cheapest 220 = .ok (.aload_n 0, 1) := by decide +kernel
theorem dX5_cheapest_221 : decode cX5_cheapest 221 = .ok (.getfield 44, 3) := by decide +kernel
theorem dX5_cheapest_224 : decode cX5_cheapest 224 = .ok (.iload_n 1, 1) := by decide +kernel
theorem dX5_cheapest_225 : decode cX5_cheapest 225 = .ok (.iaload, 1) := by decide +kernel
theorem dX5_cheapest_226 : decode cX5_cheapest 226 = .ok (.ireturn, 1) := by decide +kernel
set_option maxRecDepth 20000 in
theorem ggX5_circles_X5_beyond : GoodIn wsX5_circles wsX5_beyond := goodIn_r _ [6, 7, 8, 9, 10, 11, 12, 13, 14, 15, 16, 17, 18, 19, 20, 21, 22, 23, 24, 25, 26, 27, 28, 29, 30, 31, 32, 33, 34] (by decide +kernel) (by decide +kernel)
set_option maxRecDepth 20000 in
theorem gX5_circles_X5_beyond : GoodIn wsX5_circles (wsV RX5 113 RX5 yX5_beyond wsX5_beyond) := goodIn_app (goodIn_of _ (by decide +kernel)) ggX5_circles_X5_beyond
theorem dX5_circles_0 : decode cX5_circles 0 = .ok (.iload_n 1, 1) := by decide +kernel
theorem dX5_circles_1 : decode cX5_circles 1 = .ok (.istore_n 3, 1) := by decide +kernel
theorem dX5_circles_2 : decode cX5_circles 2 = .ok (.iconst 0, 1) := by decide +kernel
theorem dX5_circles_3 : decode cX5_circles 3 = .ok (.istore 4, 2) := by decide +kernel
theorem dX5_circles_5 : decode cX5_circles 5 = .ok (.iload_n 3, 1) := by decide +kernel
theorem dX5_circles_6 : decode cX5_circles 6 = .ok (.iload_n 2, 1) := by decide +kernel
theorem dX5_circles_7 : decode cX5_circles 7 = .ok (.if_icmp .eq 54, 3) := by decide +kernel
theorem dX5_circles_10 : decode cX5_circles 10 = .ok (.iload 4, 2) := by decide +kernel
theorem dX5_circles_12 : decode cX5_circles 12 = .ok (.iload_n 3, 1) := by decide +kernel
theorem dX5_circles_13 : decode cX5_circles 13 = .ok (.ishr, 1) := by decide +kernel
theorem dX5_circles_14 : decode cX5_circles 14 = .ok (.iconst 1, 1) := by decide +kernel
theorem dX5_circles_15 : decode cX5_circles 15 = .ok (.iand, 1) := by decide +kernel
theorem dX5_circles_16 : decode cX5_circles 16 = .ok (.ifCond .ne 45, 3) := by decide +kernel
theorem dX5_circles_19 : decode cX5_circles 19 = .ok (.iload 4, 2) := by decide +kernel
theorem dX5_circles_21 : decode cX5_circles 21 = .ok (.iconst 1, 1) := by decide +kernel
theorem dX5_circles_22 : decode cX5_circles 22 = .ok (.iload_n 3, 1) := by decide +kernel
theorem dX5_circles_23 : decode cX5_circles 23 = .ok (.ishl, 1) := by decide +kernel
theorem dX5_circles_24 : decode cX5_circles 24 = .ok (.ior, 1) := by decide +kernel
theorem dX5_circles_25 : decode cX5_circles 25 = .ok (.istore 4, 2) := by decide +kernel
theorem dX5_circles_27 : decode cX5_circles 27 = .ok (.aload_n 0, 1) := by decide +kernel
theorem dX5_circles_28 : decode cX5_circles 28 = .ok (.getfield 41, 3) := by decide +kernel
theorem dX5_circles_31 : decode cX5_circles 31 = .ok (.bipush 8, 2) := by decide +kernel
theorem dX5_circles_33 : decode cX5_circles 33 = .ok (.iload_n 3, 1) := by decide +kernel
theorem dX5_circles_34 : decode cX5_circles 34 = .ok (.imul, 1) := by decide +kernel
theorem dX5_circles_35 : decode cX5_circles 35 = .ok (.iload_n 2, 1) := by decide +kernel
theorem dX5_circles_36 : decode cX5_circles 36 = .ok (.iadd, 1) := by decide +kernel
theorem dX5_circles_37 : decode cX5_circles 37 = .ok (.iaload, 1) := by decide +kernel
theorem dX5_circles_38 : decode cX5_circles 38 = .ok (.istore 5, 2) := by decide +kernel
theorem dX5_circles_40 : decode cX5_circles 40 = .ok (.iload 5, 2) := by decide +kernel
theorem dX5_circles_42 : decode cX5_circles 42 = .ok (.iconst (-1), 1) := by decide +kernel
theorem dX5_circles_43 : decode cX5_circles 43 = .ok (.if_icmp .ne 7, 3) := by decide +kernel
theorem dX5_circles_46 : decode cX5_circles 46 = .ok (.iload_n 2, 1) := by decide +kernel
theorem dX5_circles_47 : decode cX5_circles 47 = .ok (.goto 10, 3) := by decide +kernel
theorem dX5_circles_50 : decode cX5_circles 50 = .ok (.aload_n 0, 1) := by decide +kernel
theorem dX5_circles_51 : decode cX5_circles 51 = .ok (.iload 5, 2) := by decide +kernel
theorem dX5_circles_53 : decode cX5_circles 53 = .ok (.iload_n 3, 1) := by decide +kernel
theorem dX5_circles_54 : decode cX5_circles 54 = .ok (.invokevirtual 113, 3) := by decide +kernel
theorem dX5_circles_57 : decode cX5_circles 57 = .ok (.istore_n 3, 1) := by decide +kernel
theorem dX5_circles_58 : decode cX5_circles 58 = .ok (.goto (-53), 3) := by decide +kernel
theorem dX5_circles_61 : decode cX5_circles 61 = .ok (.iload_n 3, 1) := by decide +kernel
theorem dX5_circles_62 : decode cX5_circles 62 = .ok (.iload_n 2, 1) := by decide +kernel
theorem dX5_circles_63 : decode cX5_circles 63 = .ok (.if_icmp .eq 7, 3) := by decide +kernel
theorem dX5_circles_66 : decode cX5_circles 66 = .ok (.iconst 1, 1) := by decide +kernel
theorem dX5_circles_67 : decode cX5_circles 67 = .ok (.goto 4, 3) := by decide +kernel
theorem dX5_circles_70 : decode cX5_circles 70 = .ok (.iconst 0, 1) := by decide +kernel
theorem dX5_circles_71 : decode cX5_circles 71 = .ok (.ireturn, 1) := by decide +kernel
set_option maxRecDepth 20000 in
theorem ggX5_isLoop_X5_areAsked : GoodIn wsX5_isLoop wsX5_areAsked := goodIn_r _ [5, 6, 7, 4, 8, 9, 10, 11, 12, 13, 14, 15, 16, 28, 29, 30, 31, 32, 33, 34, 35, 36, 37, 38, 39, 40, 41, 42, 43, 44, 45, 46, 47, 48, 49, 50, 51, 52, 53] (by decide +kernel) (by decide +kernel)
set_option maxRecDepth 20000 in
theorem gX5_isLoop_X5_areAsked : GoodIn wsX5_isLoop (wsV RX5 139 RX5 yX5_areAsked wsX5_areAsked) := goodIn_app (goodIn_of _ (by decide +kernel)) ggX5_isLoop_X5_areAsked
set_option maxRecDepth 20000 in
theorem ggX5_isLoop_X5_circles : GoodIn wsX5_isLoop wsX5_circles := goodIn_r _ [20, 21, 22, 23, 24, 4, 25, 26, 27, 28, 29, 30, 31, 32, 33, 34, 35, 36, 37, 38, 39, 40, 41, 42, 43, 44, 45, 46, 47, 48, 49, 50, 51, 52, 53] (by decide +kernel) (by decide +kernel)
set_option maxRecDepth 20000 in
theorem gX5_isLoop_X5_circles : GoodIn wsX5_isLoop (wsV RX5 142 RX5 yX5_circles wsX5_circles) := goodIn_app (goodIn_of _ (by decide +kernel)) ggX5_isLoop_X5_circles
theorem dX5_isLoop_0 : decode cX5_isLoop 0 = .ok (.aload_n 0, 1) := by decide +kernel
theorem dX5_isLoop_1 : decode cX5_isLoop 1 = .ok (.iload_n 1, 1) := by decide +kernel
theorem dX5_isLoop_2 : decode cX5_isLoop 2 = .ok (.iload_n 2, 1) := by decide +kernel
theorem dX5_isLoop_3 : decode cX5_isLoop 3 = .ok (.invokevirtual 139, 3) := by decide +kernel
theorem dX5_isLoop_6 : decode cX5_isLoop 6 = .ok (.ifCond .eq 16, 3) := by decide +kernel
theorem dX5_isLoop_9 : decode cX5_isLoop 9 = .ok (.aload_n 0, 1) := by decide +kernel
theorem dX5_isLoop_10 : decode cX5_isLoop 10 = .ok (.iload_n 1, 1) := by decide +kernel
theorem dX5_isLoop_11 : decode cX5_isLoop 11 = .ok (.iload_n 2, 1) := by decide +kernel
theorem dX5_isLoop_12 : decode cX5_isLoop 12 = .ok (.invokevirtual 142, 3) := by decide +kernel
theorem dX5_isLoop_15 : decode cX5_isLoop 15 = .ok (.ifCond .eq 7, 3) := by decide +kernel
theorem dX5_isLoop_18 : decode cX5_isLoop 18 = .ok (.iconst 1, 1) := by decide +kernel
theorem dX5_isLoop_19 : decode cX5_isLoop 19 = .ok (.goto 4, 3) := by decide +kernel
theorem dX5_isLoop_22 : decode cX5_isLoop 22 = .ok (.iconst 0, 1) := by decide +kernel
theorem dX5_isLoop_23 : decode cX5_isLoop 23 = .ok (.ireturn, 1) := by decide +kernel
set_option maxRecDepth 20000 in
theorem ggX5_loops_X5_circles : GoodIn wsX5_loops wsX5_circles := goodIn_r _ [6, 7, 8, 9, 10, 5, 11, 12, 13, 14, 15, 16, 17, 18, 19, 20, 21, 22, 23, 24, 25, 26, 27, 28, 29, 30, 31, 32, 33, 34, 35, 36, 37, 38, 39] (by decide +kernel) (by decide +kernel)
set_option maxRecDepth 20000 in
theorem gX5_loops_X5_circles : GoodIn wsX5_loops (wsV RX5 142 RX5 yX5_circles wsX5_circles) := goodIn_app (goodIn_of _ (by decide +kernel)) ggX5_loops_X5_circles
theorem dX5_loops_0 : decode cX5_loops 0 = .ok (.aload_n 0, 1) := by decide +kernel
theorem dX5_loops_1 : decode cX5_loops 1 = .ok (.iconst 0, 1) := by decide +kernel
theorem dX5_loops_2 : decode cX5_loops 2 = .ok (.putfield 74, 3) := by decide +kernel
theorem dX5_loops_5 : decode cX5_loops 5 = .ok (.iconst 0, 1) := by decide +kernel
theorem dX5_loops_6 : decode cX5_loops 6 = .ok (.istore_n 1, 1) := by decide +kernel
theorem dX5_loops_7 : decode cX5_loops 7 = .ok (.iconst 0, 1) := by decide +kernel
theorem dX5_loops_8 : decode cX5_loops 8 = .ok (.istore_n 2, 1) := by decide +kernel
theorem dX5_loops_9 : decode cX5_loops 9 = .ok (.iload_n 2, 1) := by decide +kernel
theorem dX5_loops_10 : decode cX5_loops 10 = .ok (.bipush 64, 2) := by decide +kernel
theorem dX5_loops_12 : decode cX5_loops 12 = .ok (.if_icmp .ge 32, 3) := by decide +kernel
theorem dX5_loops_15 : decode cX5_loops 15 = .ok (.iload_n 1, 1) := by decide +kernel
theorem dX5_loops_16 : decode cX5_loops 16 = .ok (.aload_n 0, 1) := by decide +kernel
theorem dX5_loops_17 : decode cX5_loops 17 = .ok (.iload_n 2, 1) := by decide +kernel
theorem dX5_loops_18 : decode cX5_loops 18 = .ok (.bipush 8, 2) := by decide +kernel
theorem dX5_loops_20 : decode cX5_loops 20 = .ok (.idiv, 1) := by decide +kernel
theorem dX5_loops_21 : decode cX5_loops 21 = .ok (.iload_n 2, 1) := by decide +kernel
theorem dX5_loops_22 : decode cX5_loops 22 = .ok (.bipush 8, 2) := by decide +kernel
theorem dX5_loops_24 : decode cX5_loops 24 = .ok (.irem, 1) := by decide +kernel
theorem dX5_loops_25 : decode cX5_loops 25 = .ok (.invokevirtual 142, 3) := by decide +kernel
theorem dX5_loops_28 : decode cX5_loops 28 = .ok (.ifCond .eq 7, 3) := by decide +kernel
theorem dX5_loops_31 : decode cX5_loops 31 = .ok (.iconst 1, 1) := by decide +kernel
theorem dX5_loops_32 : decode cX5_loops 32 = .ok (.goto 4, 3) := by decide +kernel
theorem dX5_loops_35 : decode cX5_loops 35 = .ok (.iconst 0, 1) := by decide +kernel
theorem dX5_loops_36 : decode cX5_loops 36 = .ok (.iadd, 1) := by decide +kernel
theorem dX5_loops_37 : decode cX5_loops 37 = .ok (.istore_n 1, 1) := by decide +kernel
theorem dX5_loops_38 : decode cX5_loops 38 = .ok (.iinc 2 1, 3) := by decide +kernel
theorem dX5_loops_41 : decode cX5_loops 41 = .ok (.goto (-32), 3) := by decide +kernel
theorem dX5_loops_44 : decode cX5_loops 44 = .ok (.iload_n 1, 1) := by decide +kernel
theorem dX5_loops_45 : decode cX5_loops 45 = .ok (.ireturn, 1) := by decide +kernel
theorem dX5_barges_0 : decode cX5_barges 0 = .ok (.aload_n 0, 1) := by decide +kernel
theorem dX5_barges_1 : decode cX5_barges 1 = .ok (.iconst 0, 1) := by decide +kernel
theorem dX5_barges_2 : decode cX5_barges 2 = .ok (.putfield 74, 3) := by decide +kernel
theorem dX5_barges_5 : decode cX5_barges 5 = .ok (.aload_n 0, 1) := by decide +kernel
theorem dX5_barges_6 : decode cX5_barges 6 = .ok (.getfield 85, 3) := by decide +kernel
theorem dX5_barges_9 : decode cX5_barges 9 = .ok (.ireturn, 1) := by decide +kernel
theorem dX5_ticks_0 : decode cX5_ticks 0 = .ok (.aload_n 0, 1) := by decide +kernel
theorem dX5_ticks_1 : decode cX5_ticks 1 = .ok (.iconst 0, 1) := by decide +kernel
theorem dX5_ticks_2 : decode cX5_ticks 2 = .ok (.putfield 74, 3) := by decide +kernel
theorem dX5_ticks_5 : decode cX5_ticks 5 = .ok (.aload_n 0, 1) := by decide +kernel
theorem dX5_ticks_6 : decode cX5_ticks 6 = .ok (.getfield 127, 3) := by decide +kernel
theorem dX5_ticks_9 : decode cX5_ticks 9 = .ok (.ireturn, 1) := by decide +kernel
set_option maxRecDepth 20000 in
theorem ggX5_isAsked_X5_isBarge : GoodIn wsX5_isAsked wsX5_isBarge := goodIn_r _ [5, 6, 7, 8, 4, 9, 15, 16, 17, 18, 19, 20, 21, 22, 23, 24, 25, 26, 27, 28, 29, 30, 31, 32, 33, 34, 35, 36, 37, 38, 39, 40] (by decide +kernel) (by decide +kernel)
set_option maxRecDepth 20000 in
theorem gX5_isAsked_X5_isBarge : GoodIn wsX5_isAsked (wsV RX5 145 RX5 yX5_isBarge wsX5_isBarge) := goodIn_app (goodIn_of _ (by decide +kernel)) ggX5_isAsked_X5_isBarge
set_option maxRecDepth 20000 in
theorem ggX5_isAsked_X5_can : GoodIn wsX5_isAsked wsX5_can := goodIn_r _ [13, 14, 15, 16, 17, 18, 19, 20, 21, 22, 23, 24, 25, 26, 27, 28, 29, 30, 31, 32, 33, 34, 35, 36, 37, 38, 39, 40] (by decide +kernel) (by decide +kernel)
set_option maxRecDepth 20000 in
theorem gX5_isAsked_X5_can : GoodIn wsX5_isAsked (wsV RX5 92 RX5 yX5_can wsX5_can) := goodIn_app (goodIn_of _ (by decide +kernel)) ggX5_isAsked_X5_can
theorem dX5_isAsked_0 : decode cX5_isAsked 0 = .ok (.aload_n 0, 1) := by decide +kernel
theorem dX5_isAsked_1 : decode cX5_isAsked 1 = .ok (.aload_n 0, 1) := by decide +kernel
theorem dX5_isAsked_2 : decode cX5_isAsked 2 = .ok (.iload_n 1, 1) := by decide +kernel
theorem dX5_isAsked_3 : decode cX5_isAsked 3 = .ok (.invokevirtual 145, 3) := by decide +kernel
theorem dX5_isAsked_6 : decode cX5_isAsked 6 = .ok (.ifCond .eq 7, 3) := by decide +kernel
theorem dX5_isAsked_9 : decode cX5_isAsked 9 = .ok (.iconst 0, 1) := by decide +kernel
theorem dX5_isAsked_10 : decode cX5_isAsked 10 = .ok (.goto 4, 3) := by decide +kernel
theorem dX5_isAsked_13 : decode cX5_isAsked 13 = .ok (.iconst 1, 1) := by decide +kernel
theorem dX5_isAsked_14 : decode cX5_isAsked 14 = .ok (.invokevirtual 92, 3) := by decide +kernel
theorem dX5_isAsked_17 : decode cX5_isAsked 17 = .ok (.ireturn, 1) := by decide +kernel
set_option maxRecDepth 20000 in
theorem ggX5_state_X5_isAsked : GoodIn wsX5_state wsX5_isAsked := goodIn_r _ [6, 7, 8, 9, 5, 10, 11, 12, 13, 14, 15, 16, 17, 18, 19, 20, 21, 22, 23, 24, 25, 26, 27, 28, 29, 30, 31, 32, 33, 34, 35, 36, 37, 38, 39, 40, 41, 42, 43, 44, 45] (by decide +kernel) (by decide +kernel)
set_option maxRecDepth 20000 in
theorem gX5_state_X5_isAsked : GoodIn wsX5_state (wsV RX5 148 RX5 yX5_isAsked wsX5_isAsked) := goodIn_app (goodIn_of _ (by decide +kernel)) ggX5_state_X5_isAsked
theorem dX5_state_0 : decode cX5_state 0 = .ok (.aload_n 0, 1) := by decide +kernel
theorem dX5_state_1 : decode cX5_state 1 = .ok (.iload_n 1, 1) := by decide +kernel
theorem dX5_state_2 : decode cX5_state 2 = .ok (.invokevirtual 148, 3) := by decide +kernel
theorem dX5_state_5 : decode cX5_state 5 = .ok (.ifCond .eq 12, 3) := by decide +kernel
theorem dX5_state_8 : decode cX5_state 8 = .ok (.aload_n 0, 1) := by decide +kernel
theorem dX5_state_9 : decode cX5_state 9 = .ok (.getfield 62, 3) := by decide +kernel
theorem dX5_state_12 : decode cX5_state 12 = .ok (.iload_n 1, 1) := by decide +kernel
theorem dX5_state_13 : decode cX5_state 13 = .ok (.iaload, 1) := by decide +kernel
theorem dX5_state_14 : decode cX5_state 14 = .ok (.goto 4, 3) := by decide +kernel
theorem dX5_state_17 : decode cX5_state 17 = .ok (.iconst 0, 1) := by decide +kernel
theorem dX5_state_18 : decode cX5_state 18 = .ok (.ireturn, 1) := by decide +kernel
set_option maxRecDepth 20000 in
theorem ggX5_basinOf_X5_isAsked : GoodIn wsX5_basinOf wsX5_isAsked := goodIn_r _ [6, 7, 8, 9, 5, 10, 11, 12, 13, 14, 15, 16, 17, 18, 19, 20, 21, 22, 23, 24, 25, 26, 27, 28, 29, 30, 31, 32, 33, 34, 35, 36, 37, 38, 39, 40, 41, 42, 43, 44, 45] (by decide +kernel) (by decide +kernel)
set_option maxRecDepth 20000 in
theorem gX5_basinOf_X5_isAsked : GoodIn wsX5_basinOf (wsV RX5 148 RX5 yX5_isAsked wsX5_isAsked) := goodIn_app (goodIn_of _ (by decide +kernel)) ggX5_basinOf_X5_isAsked
theorem dX5_basinOf_0 : decode cX5_basinOf 0 = .ok (.aload_n 0, 1) := by decide +kernel
theorem dX5_basinOf_1 : decode cX5_basinOf 1 = .ok (.iload_n 1, 1) := by decide +kernel
theorem dX5_basinOf_2 : decode cX5_basinOf 2 = .ok (.invokevirtual 148, 3) := by decide +kernel
theorem dX5_basinOf_5 : decode cX5_basinOf 5 = .ok (.ifCond .eq 12, 3) := by decide +kernel
theorem dX5_basinOf_8 : decode cX5_basinOf 8 = .ok (.aload_n 0, 1) := by decide +kernel
theorem dX5_basinOf_9 : decode cX5_basinOf 9 = .ok (.getfield 65, 3) := by decide +kernel
theorem dX5_basinOf_12 : decode cX5_basinOf 12 = .ok (.iload_n 1, 1) := by decide +kernel
theorem dX5_basinOf_13 : decode cX5_basinOf 13 = .ok (.iaload, 1) := by decide +kernel
theorem dX5_basinOf_14 : decode cX5_basinOf 14 = .ok (.goto 4, 3) := by decide +kernel
theorem dX5_basinOf_17 : decode cX5_basinOf 17 = .ok (.iconst 0, 1) := by decide +kernel
theorem dX5_basinOf_18 : decode cX5_basinOf 18 = .ok (.ireturn, 1) := by decide +kernel
set_option maxRecDepth 20000 in
theorem ggX5_hops_X5_isAsked : GoodIn wsX5_hops wsX5_isAsked := goodIn_r _ [6, 7, 8, 9, 5, 10, 11, 12, 13, 14, 15, 16, 17, 18, 19, 20, 21, 22, 23, 24, 25, 26, 27, 28, 29, 30, 31, 32, 33, 34, 35, 36, 37, 38, 39, 40, 41, 42, 43, 44, 45] (by decide +kernel) (by decide +kernel)
set_option maxRecDepth 20000 in
theorem gX5_hops_X5_isAsked : GoodIn wsX5_hops (wsV RX5 148 RX5 yX5_isAsked wsX5_isAsked) := goodIn_app (goodIn_of _ (by decide +kernel)) ggX5_hops_X5_isAsked
theorem dX5_hops_0 : decode cX5_hops 0 = .ok (.aload_n 0, 1) := by decide +kernel
theorem dX5_hops_1 : decode cX5_hops 1 = .ok (.iload_n 1, 1) := by decide +kernel
theorem dX5_hops_2 : decode cX5_hops 2 = .ok (.invokevirtual 148, 3) := by decide +kernel
theorem dX5_hops_5 : decode cX5_hops 5 = .ok (.ifCond .eq 12, 3) := by decide +kernel
theorem dX5_hops_8 : decode cX5_hops 8 = .ok (.aload_n 0, 1) := by decide +kernel
theorem dX5_hops_9 : decode cX5_hops 9 = .ok (.getfield 56, 3) := by decide +kernel
theorem dX5_hops_12 : decode cX5_hops 12 = .ok (.iload_n 1, 1) := by decide +kernel
theorem dX5_hops_13 : decode cX5_hops 13 = .ok (.iaload, 1) := by decide +kernel
theorem dX5_hops_14 : decode cX5_hops 14 = .ok (.goto 4, 3) := by decide +kernel
theorem dX5_hops_17 : decode cX5_hops 17 = .ok (.iconst 0, 1) := by decide +kernel
theorem dX5_hops_18 : decode cX5_hops 18 = .ok (.ireturn, 1) := by decide +kernel
set_option maxRecDepth 20000 in
theorem ggX5_life_X5_isAsked : GoodIn wsX5_life wsX5_isAsked := goodIn_r _ [6, 7, 8, 9, 5, 10, 11, 12, 13, 14, 15, 16, 17, 18, 19, 20, 21, 22, 23, 24, 25, 26, 27, 28, 29, 30, 31, 32, 33, 34, 35, 36, 37, 38, 39, 40, 41, 42, 43, 44, 45] (by decide +kernel) (by decide +kernel)
set_option maxRecDepth 20000 in
theorem gX5_life_X5_isAsked : GoodIn wsX5_life (wsV RX5 148 RX5 yX5_isAsked wsX5_isAsked) := goodIn_app (goodIn_of _ (by decide +kernel)) ggX5_life_X5_isAsked
theorem dX5_life_0 : decode cX5_life 0 = .ok (.aload_n 0, 1) := by decide +kernel
theorem dX5_life_1 : decode cX5_life 1 = .ok (.iload_n 1, 1) := by decide +kernel
theorem dX5_life_2 : decode cX5_life 2 = .ok (.invokevirtual 148, 3) := by decide +kernel
theorem dX5_life_5 : decode cX5_life 5 = .ok (.ifCond .eq 12, 3) := by decide +kernel
theorem dX5_life_8 : decode cX5_life 8 = .ok (.aload_n 0, 1) := by decide +kernel
theorem dX5_life_9 : decode cX5_life 9 = .ok (.getfield 53, 3) := by decide +kernel
theorem dX5_life_12 : decode cX5_life 12 = .ok (.iload_n 1, 1) := by decide +kernel
theorem dX5_life_13 : decode cX5_life 13 = .ok (.iaload, 1) := by decide +kernel
theorem dX5_life_14 : decode cX5_life 14 = .ok (.goto 4, 3) := by decide +kernel
theorem dX5_life_17 : decode cX5_life 17 = .ok (.iconst 0, 1) := by decide +kernel
theorem dX5_life_18 : decode cX5_life 18 = .ok (.ireturn, 1) := by decide +kernel
set_option maxRecDepth 20000 in
theorem ggX5_repeats_X5_isAsked : GoodIn wsX5_repeats wsX5_isAsked := goodIn_r _ [6, 7, 8, 9, 5, 10, 11, 12, 13, 14, 15, 16, 17, 18, 19, 20, 21, 22, 23, 24, 25, 26, 27, 28, 29, 30, 31, 32, 33, 34, 35, 36, 37, 38, 39, 40, 41, 42, 43, 44, 45] (by decide +kernel) (by decide +kernel)
set_option maxRecDepth 20000 in
theorem gX5_repeats_X5_isAsked : GoodIn wsX5_repeats (wsV RX5 148 RX5 yX5_isAsked wsX5_isAsked) := goodIn_app (goodIn_of _ (by decide +kernel)) ggX5_repeats_X5_isAsked
theorem dX5_repeats_0 : decode cX5_repeats 0 = .ok (.aload_n 0, 1) := by decide +kernel
theorem dX5_repeats_1 : decode cX5_repeats 1 = .ok (.iload_n 1, 1) := by decide +kernel
theorem dX5_repeats_2 : decode cX5_repeats 2 = .ok (.invokevirtual 148, 3) := by decide +kernel
theorem dX5_repeats_5 : decode cX5_repeats 5 = .ok (.ifCond .eq 12, 3) := by decide +kernel
theorem dX5_repeats_8 : decode cX5_repeats 8 = .ok (.aload_n 0, 1) := by decide +kernel
theorem dX5_repeats_9 : decode cX5_repeats 9 = .ok (.getfield 59, 3) := by decide +kernel
theorem dX5_repeats_12 : decode cX5_repeats 12 = .ok (.iload_n 1, 1) := by decide +kernel
theorem dX5_repeats_13 : decode cX5_repeats 13 = .ok (.iaload, 1) := by decide +kernel
theorem dX5_repeats_14 : decode cX5_repeats 14 = .ok (.goto 4, 3) := by decide +kernel
theorem dX5_repeats_17 : decode cX5_repeats 17 = .ok (.iconst 0, 1) := by decide +kernel
theorem dX5_repeats_18 : decode cX5_repeats 18 = .ok (.ireturn, 1) := by decide +kernel
set_option maxRecDepth 20000 in
theorem ggX5_queue_X5_isBasin : GoodIn wsX5_queue wsX5_isBasin := goodIn_r _ [5, 6, 7, 4, 8] (by decide +kernel) (by decide +kernel)
set_option maxRecDepth 20000 in
theorem gX5_queue_X5_isBasin : GoodIn wsX5_queue (va_wsS RX5 88 yX5_isBasin wsX5_isBasin) := goodIn_app (goodIn_of _ (by decide +kernel)) ggX5_queue_X5_isBasin
set_option maxRecDepth 20000 in
theorem ggX5_queue_X5_can : GoodIn wsX5_queue wsX5_can := goodIn_r _ [12, 13, 14, 15, 16, 17, 18, 19, 20, 21, 22, 23, 24, 25, 26, 27, 28, 29, 30, 31, 32, 33, 34, 35, 36, 37, 38, 39] (by decide +kernel) (by decide +kernel)
set_option maxRecDepth 20000 in
theorem gX5_queue_X5_can : GoodIn wsX5_queue (wsV RX5 92 RX5 yX5_can wsX5_can) := goodIn_app (goodIn_of _ (by decide +kernel)) ggX5_queue_X5_can
theorem dX5_queue_0 : decode cX5_queue 0 = .ok (.aload_n 0, 1) := by decide +kernel
theorem dX5_queue_1 : decode cX5_queue 1 = .ok (.iload_n 1, 1) := by decide +kernel
theorem dX5_queue_2 : decode cX5_queue 2 = .ok (.invokestatic 88, 3) := by decide +kernel
theorem dX5_queue_5 : decode cX5_queue 5 = .ok (.ifCond .eq 7, 3) := by decide +kernel
theorem dX5_queue_8 : decode cX5_queue 8 = .ok (.iconst 0, 1) := by decide +kernel
theorem dX5_queue_9 : decode cX5_queue 9 = .ok (.goto 4, 3) := by decide +kernel
theorem dX5_queue_12 : decode cX5_queue 12 = .ok (.iconst 1, 1) := by decide +kernel
theorem dX5_queue_13 : decode cX5_queue 13 = .ok (.invokevirtual 92, 3) := by decide +kernel
theorem dX5_queue_16 : decode cX5_queue 16 = .ok (.ifCond .eq 12, 3) := by decide +kernel
theorem dX5_queue_19 : decode cX5_queue 19 = .ok (.aload_n 0, 1) := by decide +kernel
theorem dX5_queue_20 : decode cX5_queue 20 = .ok (.getfield 16, 3) := by decide +kernel
theorem dX5_queue_23 : decode cX5_queue 23 = .ok (.iload_n 1, 1) := by decide +kernel
theorem dX5_queue_24 : decode cX5_queue 24 = .ok (.iaload, 1) := by decide +kernel
theorem dX5_queue_25 : decode cX5_queue 25 = .ok (.goto 4, 3) := by decide +kernel
theorem dX5_queue_28 : decode cX5_queue 28 = .ok (.iconst 0, 1) := by decide +kernel
theorem dX5_queue_29 : decode cX5_queue 29 = .ok (.ireturn, 1) := by decide +kernel
set_option maxRecDepth 20000 in
theorem ggX5_queued_X5_isBasin : GoodIn wsX5_queued wsX5_isBasin := goodIn_r _ [6, 7, 8, 5, 9] (by decide +kernel) (by decide +kernel)
set_option maxRecDepth 20000 in
theorem gX5_queued_X5_isBasin : GoodIn wsX5_queued (va_wsS RX5 88 yX5_isBasin wsX5_isBasin) := goodIn_app (goodIn_of _ (by decide +kernel)) ggX5_queued_X5_isBasin
set_option maxRecDepth 20000 in
theorem ggX5_queued_X5_can : GoodIn wsX5_queued wsX5_can := goodIn_r _ [13, 14, 15, 16, 17, 18, 19, 20, 21, 22, 23, 24, 25, 26, 27, 28, 29, 30, 31, 32, 33, 34, 35, 36, 37, 38, 39, 40] (by decide +kernel) (by decide +kernel)
set_option maxRecDepth 20000 in
theorem gX5_queued_X5_can : GoodIn wsX5_queued (wsV RX5 92 RX5 yX5_can wsX5_can) := goodIn_app (goodIn_of _ (by decide +kernel)) ggX5_queued_X5_can
theorem dX5_queued_0 : decode cX5_queued 0 = .ok (.aload_n 0, 1) := by decide +kernel
theorem dX5_queued_1 : decode cX5_queued 1 = .ok (.iload_n 1, 1) := by decide +kernel
theorem dX5_queued_2 : decode cX5_queued 2 = .ok (.invokestatic 88, 3) := by decide +kernel
theorem dX5_queued_5 : decode cX5_queued 5 = .ok (.ifCond .ne 7, 3) := by decide +kernel
theorem dX5_queued_8 : decode cX5_queued 8 = .ok (.iconst 1, 1) := by decide +kernel
theorem dX5_queued_9 : decode cX5_queued 9 = .ok (.goto 12, 3) := by decide +kernel
theorem dX5_queued_12 : decode cX5_queued 12 = .ok (.iload_n 2, 1) := by decide +kernel
theorem dX5_queued_13 : decode cX5_queued 13 = .ok (.ifCond .ge 7, 3) := by decide +kernel
theorem dX5_queued_16 : decode cX5_queued 16 = .ok (.iconst 2, 1) := by decide +kernel
theorem dX5_queued_17 : decode cX5_queued 17 = .ok (.goto 4, 3) := by decide +kernel
theorem dX5_queued_20 : decode cX5_queued 20 = .ok (.iconst 0, 1) := by decide +kernel
theorem dX5_queued_21 : decode cX5_queued 21 = .ok (.invokevirtual 92, 3) := by decide +kernel
theorem dX5_queued_24 : decode cX5_queued 24 = .ok (.ifCond .ne 5, 3) := by decide +kernel
theorem dX5_queued_27 : decode cX5_queued 27 = .ok (.iconst 0, 1) := by decide +kernel
theorem dX5_queued_28 : decode cX5_queued 28 = .ok (.ireturn, 1) := by decide +kernel
theorem dX5_queued_29 : decode cX5_queued 29 = .ok (.iload_n 2, 1) := by decide +kernel
theorem dX5_queued_30 : decode cX5_queued 30 = .ok (.aload_n 0, 1) := by decide +kernel
theorem dX5_queued_31 : decode cX5_queued 31 = .ok (.getfield 16, 3) := by decide +kernel
theorem dX5_queued_34 : decode cX5_queued 34 = .ok (.iload_n 1, 1) := by decide +kernel
theorem dX5_queued_35 : decode cX5_queued 35 = .ok (.iaload, 1) := by decide +kernel
theorem dX5_queued_36 : decode cX5_queued 36 = .ok (.if_icmp .ge 17, 3) := by decide +kernel
theorem dX5_queued_39 : decode cX5_queued 39 = .ok (.aload_n 0, 1) := by decide +kernel
theorem dX5_queued_40 : decode cX5_queued 40 = .ok (.getfield 19, 3) := by decide +kernel
theorem dX5_queued_43 : decode cX5_queued 43 = .ok (.bipush 6, 2) := by decide +kernel
theorem dX5_queued_45 : decode cX5_queued 45 = .ok (.iload_n 1, 1) := by decide +kernel
theorem dX5_queued_46 : decode cX5_queued 46 = .ok (.imul, 1) := by decide +kernel
theorem dX5_queued_47 : decode cX5_queued 47 = .ok (.iload_n 2, 1) := by decide +kernel
theorem dX5_queued_48 : decode cX5_queued 48 = .ok (.iadd, 1) := by decide +kernel
theorem dX5_queued_49 : decode cX5_queued 49 = .ok (.iaload, 1) := by decide +kernel
theorem dX5_queued_50 : decode cX5_queued 50 = .ok (.goto 4, 3) := by decide +kernel
theorem dX5_queued_53 : decode cX5_queued 53 = .ok (.iconst (-1), 1) := by decide +kernel
theorem dX5_queued_54 : decode cX5_queued 54 = .ok (.ireturn, 1) := by decide +kernel
theorem dX5_laidBy_0 : decode cX5_laidBy 0 = .ok (.aload_n 0, 1) := by decide +kernel
theorem dX5_laidBy_1 : decode cX5_laidBy 1 = .ok (.iconst 0, 1) := by decide +kernel
theorem dX5_laidBy_2 : decode cX5_laidBy 2 = .ok (.putfield 74, 3) := by decide +kernel
theorem dX5_laidBy_5 : decode cX5_laidBy 5 = .ok (.iconst 0, 1) := by decide +kernel
theorem dX5_laidBy_6 : decode cX5_laidBy 6 = .ok (.istore_n 1, 1) := by decide +kernel
theorem dX5_laidBy_7 : decode cX5_laidBy 7 = .ok (.iconst 0, 1) := by decide +kernel
theorem dX5_laidBy_8 : decode cX5_laidBy 8 = .ok (.istore_n 2, 1) := by decide +kernel
theorem dX5_laidBy_9 : decode cX5_laidBy 9 = .ok (.iload_n 2, 1) := by decide +kernel
theorem dX5_laidBy_10 : decode cX5_laidBy 10 = .ok (.aload_n 0, 1) := by decide +kernel
theorem dX5_laidBy_11 : decode cX5_laidBy 11 = .ok (.getfield 85, 3) := by decide +kernel
theorem dX5_laidBy_14 : decode cX5_laidBy 14 = .ok (.if_icmp .ge 27, 3) := by decide +kernel
theorem dX5_laidBy_17 : decode cX5_laidBy 17 = .ok (.iload_n 1, 1) := by decide +kernel
theorem dX5_laidBy_18 : decode cX5_laidBy 18 = .ok (.aload_n 0, 1) := by decide +kernel
theorem dX5_laidBy_19 : decode cX5_laidBy 19 = .ok (.getfield 62, 3) := by decide +kernel
theorem dX5_laidBy_22 : decode cX5_laidBy 22 = .ok (.iload_n 2, 1) := by decide +kernel
theorem dX5_laidBy_23 : decode cX5_laidBy 23 = .ok (.iaload, 1) := by decide +kernel
theorem dX5_laidBy_24 : decode cX5_laidBy 24 = .ok (.iconst 2, 1) := by decide +kernel
theorem dX5_laidBy_25 : decode cX5_laidBy 25 = .ok (.if_icmp .ne 7, 3) := by decide +kernel
theorem dX5_laidBy_28 : decode cX5_laidBy 28 = .ok (.iconst 1, 1) := by decide +kernel
theorem dX5_laidBy_29 : decode cX5_laidBy 29 = .ok (.goto 4, 3) := by decide +kernel
theorem dX5_laidBy_32 : decode cX5_laidBy 32 = .ok (.iconst 0, 1) := by decide +kernel
theorem dX5_laidBy_33 : decode cX5_laidBy 33 = .ok (.iadd, 1) := by decide +kernel
theorem dX5_laidBy_34 : decode cX5_laidBy 34 = .ok (.istore_n 1, 1) := by decide +kernel
theorem dX5_laidBy_35 : decode cX5_laidBy 35 = .ok (.iinc 2 1, 3) := by decide +kernel
theorem dX5_laidBy_38 : decode cX5_laidBy 38 = .ok (.goto (-29), 3) := by decide +kernel
theorem dX5_laidBy_41 : decode cX5_laidBy 41 = .ok (.iload_n 1, 1) := by decide +kernel
theorem dX5_laidBy_42 : decode cX5_laidBy 42 = .ok (.ireturn, 1) := by decide +kernel
theorem dJ9_max_7cf53_0 : decode cJ9_max_7cf53 0 = .ok (.iload_n 0, 1) := by decide +kernel
theorem dJ9_max_7cf53_1 : decode cJ9_max_7cf53 1 = .ok (.iload_n 1, 1) := by decide +kernel
theorem dJ9_max_7cf53_2 : decode cJ9_max_7cf53 2 = .ok (.if_icmp .lt 7, 3) := by decide +kernel
theorem dJ9_max_7cf53_5 : decode cJ9_max_7cf53 5 = .ok (.iload_n 0, 1) := by decide +kernel
theorem dJ9_max_7cf53_6 : decode cJ9_max_7cf53 6 = .ok (.goto 4, 3) := by decide +kernel
theorem dJ9_max_7cf53_9 : decode cJ9_max_7cf53 9 = .ok (.iload_n 1, 1) := by decide +kernel
theorem dJ9_max_7cf53_10 : decode cJ9_max_7cf53 10 = .ok (.ireturn, 1) := by decide +kernel
theorem dJ9_min_7cf53_0 : decode cJ9_min_7cf53 0 = .ok (.iload_n 0, 1) := by decide +kernel
theorem dJ9_min_7cf53_1 : decode cJ9_min_7cf53 1 = .ok (.iload_n 1, 1) := by decide +kernel
theorem dJ9_min_7cf53_2 : decode cJ9_min_7cf53 2 = .ok (.if_icmp .gt 7, 3) := by decide +kernel
theorem dJ9_min_7cf53_5 : decode cJ9_min_7cf53 5 = .ok (.iload_n 0, 1) := by decide +kernel
theorem dJ9_min_7cf53_6 : decode cJ9_min_7cf53 6 = .ok (.goto 4, 3) := by decide +kernel
theorem dJ9_min_7cf53_9 : decode cJ9_min_7cf53 9 = .ok (.iload_n 1, 1) := by decide +kernel
theorem dJ9_min_7cf53_10 : decode cJ9_min_7cf53 10 = .ok (.ireturn, 1) := by decide +kernel
theorem dJxa1e45_init_da8c8_0 : decode cJxa1e45_init_da8c8 0 = .ok (.aload_n 0, 1) := by decide +kernel
theorem dJxa1e45_init_da8c8_1 : decode cJxa1e45_init_da8c8 1 = .ok (.invokespecial 1, 3) := by decide +kernel
theorem dJxa1e45_init_da8c8_4 : decode cJxa1e45_init_da8c8 4 = .ok (.return_, 1) := by decide +kernel
set_option maxRecDepth 20000 in
theorem ggJxc12de_init_da8c8_Jxa1e45_init_da8c8 : GoodIn wsJxc12de_init_da8c8 wsJxa1e45_init_da8c8 := goodIn_r _ [5, 6, 7, 8] (by decide +kernel) (by decide +kernel)
set_option maxRecDepth 20000 in
theorem gJxc12de_init_da8c8_Jxa1e45_init_da8c8 : GoodIn wsJxc12de_init_da8c8 (wsJxa1e45_init_da8c8) := ggJxc12de_init_da8c8_Jxa1e45_init_da8c8
theorem dJxc12de_init_da8c8_0 : decode cJxc12de_init_da8c8 0 = .ok (.aload_n 0, 1) := by decide +kernel
theorem dJxc12de_init_da8c8_1 : decode cJxc12de_init_da8c8 1 = .ok (.invokespecial 1, 3) := by decide +kernel
theorem dJxc12de_init_da8c8_4 : decode cJxc12de_init_da8c8 4 = .ok (.aload_n 0, 1) := by decide +kernel
theorem dJxc12de_init_da8c8_5 : decode cJxc12de_init_da8c8 5 = .ok (.iconst 0, 1) := by decide +kernel
theorem dJxc12de_init_da8c8_6 : decode cJxc12de_init_da8c8 6 = .ok (.putfield 7, 3) := by decide +kernel
theorem dJxc12de_init_da8c8_9 : decode cJxc12de_init_da8c8 9 = .ok (.return_, 1) := by decide +kernel
set_option maxRecDepth 20000 in
theorem ggJx4a65c_init_da8c8_Jxc12de_init_da8c8 : GoodIn wsJx4a65c_init_da8c8 wsJxc12de_init_da8c8 := goodIn_r _ [6, 7, 8, 9, 10, 11, 12, 13, 14, 15, 16, 17] (by decide +kernel) (by decide +kernel)
set_option maxRecDepth 20000 in
theorem gJx4a65c_init_da8c8_Jxc12de_init_da8c8 : GoodIn wsJx4a65c_init_da8c8 (wsJxc12de_init_da8c8) := ggJx4a65c_init_da8c8_Jxc12de_init_da8c8
theorem dJx4a65c_init_da8c8_0 : decode cJx4a65c_init_da8c8 0 = .ok (.aload_n 0, 1) := by decide +kernel
theorem dJx4a65c_init_da8c8_1 : decode cJx4a65c_init_da8c8 1 = .ok (.invokespecial 1, 3) := by decide +kernel
theorem dJx4a65c_init_da8c8_4 : decode cJx4a65c_init_da8c8 4 = .ok (.aload_n 0, 1) := by decide +kernel
theorem dJx4a65c_init_da8c8_5 : decode cJx4a65c_init_da8c8 5 = .ok (.getstatic 39, 3) := by decide +kernel
theorem dJx4a65c_init_da8c8_8 : decode cJx4a65c_init_da8c8 8 = .ok (.putfield 9, 3) := by decide +kernel
theorem dJx4a65c_init_da8c8_11 : decode cJx4a65c_init_da8c8 11 = .ok (.return_, 1) := by decide +kernel
set_option maxRecDepth 20000 in
theorem ggJx4a65c_grow_92f84_J8_newLength_cabcc : GoodIn wsJx4a65c_grow_92f84 wsJ8_newLength_cabcc := goodIn_r _ [11, 12, 4, 5, 6, 13, 14, 15, 10, 16] (by decide +kernel) (by decide +kernel)
set_option maxRecDepth 20000 in
theorem gJx4a65c_grow_92f84_J8_newLength_cabcc : GoodIn wsJx4a65c_grow_92f84 (va_wsS RJx4a65c 73 yJ8_newLength_cabcc wsJ8_newLength_cabcc) := goodIn_app (goodIn_of _ (by decide +kernel)) ggJx4a65c_grow_92f84_J8_newLength_cabcc
set_option maxRecDepth 20000 in
theorem ggJx4a65c_grow_92f84_J7_copyOf_1904c : GoodIn wsJx4a65c_grow_92f84 wsJ7_copyOf_1904c := goodIn_r _ [20, 21, 22, 23, 24, 25, 26, 19, 27, 28, 29, 30, 31, 5, 32, 33, 34, 35, 36] (by decide +kernel) (by decide +kernel)
set_option maxRecDepth 20000 in
theorem gJx4a65c_grow_92f84_J7_copyOf_1904c : GoodIn wsJx4a65c_grow_92f84 (va_wsS RJx4a65c 66 yJ7_copyOf_1904c wsJ7_copyOf_1904c) := goodIn_app (goodIn_of _ (by decide +kernel)) ggJx4a65c_grow_92f84_J7_copyOf_1904c
theorem dJx4a65c_grow_92f84_0 : decode cJx4a65c_grow_92f84 0 = .ok (.aload_n 0, 1) := by decide +kernel
theorem dJx4a65c_grow_92f84_1 : decode cJx4a65c_grow_92f84 1 = .ok (.getfield 9, 3) := by decide +kernel
theorem dJx4a65c_grow_92f84_4 : decode cJx4a65c_grow_92f84 4 = .ok (.arraylength, 1) := by decide +kernel
theorem dJx4a65c_grow_92f84_5 : decode cJx4a65c_grow_92f84 5 = .ok (.istore_n 2, 1) := by decide +kernel
theorem dJx4a65c_grow_92f84_6 : decode cJx4a65c_grow_92f84 6 = .ok (.iload_n 2, 1) := by decide +kernel
theorem dJx4a65c_grow_92f84_7 : decode cJx4a65c_grow_92f84 7 = .ok (.ifCond .gt 13, 3) := by decide +kernel
theorem dJx4a65c_grow_92f84_10 : decode cJx4a65c_grow_92f84 10 = .ok (.aload_n 0, 1) := by decide +kernel
theorem dJx4a65c_grow_92f84_11 : decode cJx4a65c_grow_92f84 11 = .ok (.getfield 9, 3) := by decide +kernel
theorem dJx4a65c_grow_92f84_14 : decode cJx4a65c_grow_92f84 14 = .ok (.getstatic 39, 3) := by decide +kernel
theorem dJx4a65c_grow_92f84_17 : decode cJx4a65c_grow_92f84 17 = .ok (.if_acmp .eq 28, 3) := by decide +kernel
theorem dJx4a65c_grow_92f84_20 : decode cJx4a65c_grow_92f84 20 = .ok (.iload_n 2, 1) := by decide +kernel
theorem dJx4a65c_grow_92f84_21 : decode cJx4a65c_grow_92f84 21 = .ok (.iload_n 1, 1) := by decide +kernel
theorem dJx4a65c_grow_92f84_22 : decode cJx4a65c_grow_92f84 22 = .ok (.iload_n 2, 1) := by decide +kernel
theorem dJx4a65c_grow_92f84_23 : decode cJx4a65c_grow_92f84 23 = .ok (.isub, 1) := by decide +kernel
theorem dJx4a65c_grow_92f84_24 : decode cJx4a65c_grow_92f84 24 = .ok (.iload_n 2, 1) := by decide +kernel
theorem dJx4a65c_grow_92f84_25 : decode cJx4a65c_grow_92f84 25 = .ok (.iconst 1, 1) := by decide +kernel
theorem dJx4a65c_grow_92f84_26 : decode cJx4a65c_grow_92f84 26 = .ok (.ishr, 1) := by decide +kernel
theorem dJx4a65c_grow_92f84_27 : decode cJx4a65c_grow_92f84 27 = .ok (.invokestatic 73, 3) := by decide +kernel
theorem dJx4a65c_grow_92f84_30 : decode cJx4a65c_grow_92f84 30 = .ok (.istore_n 3, 1) := by decide +kernel
theorem dJx4a65c_grow_92f84_31 : decode cJx4a65c_grow_92f84 31 = .ok (.aload_n 0, 1) := by decide +kernel
theorem dJx4a65c_grow_92f84_32 : decode cJx4a65c_grow_92f84 32 = .ok (.aload_n 0, 1) := by decide +kernel
theorem dJx4a65c_grow_92f84_33 : decode cJx4a65c_grow_92f84 33 = .ok (.getfield 9, 3) := by decide +kernel
theorem dJx4a65c_grow_92f84_36 : decode cJx4a65c_grow_92f84 36 = .ok (.iload_n 3, 1) := by decide +kernel
theorem dJx4a65c_grow_92f84_37 : decode cJx4a65c_grow_92f84 37 = .ok (.invokestatic 66, 3) := by decide +kernel
theorem dJx4a65c_grow_92f84_40 : decode cJx4a65c_grow_92f84 40 = .ok (.dup_x1, 1) := by decide +kernel
theorem dJx4a65c_grow_92f84_41 : decode cJx4a65c_grow_92f84 41 = .ok (.putfield 9, 3) := by decide +kernel
theorem dJx4a65c_grow_92f84_44 : decode cJx4a65c_grow_92f84 44 = .ok (.areturn, 1) := by decide +kernel
theorem dJx4a65c_grow_92f84_45 : decode cJx4a65c_grow_92f84 45 = .ok (.aload_n 0, 1) := by decide +kernel
theorem dJx4a65c_grow_92f84_46 : decode cJx4a65c_grow_92f84 46 = .ok (.bipush 10, 2) := by decide +kernel
theorem dJx4a65c_grow_92f84_48 : decode cJx4a65c_grow_92f84 48 = .ok (.iload_n 1, 1) := by decide +kernel
theorem dJx4a65c_grow_92f84_49 : decode cJx4a65c_grow_92f84 49 = .ok (.invokestatic 79, 3) := by decide +kernel
theorem dJx4a65c_grow_92f84_52 : decode cJx4a65c_grow_92f84 52 = .ok (.anewarray 7, 3) := by decide +kernel
theorem dJx4a65c_grow_92f84_55 : decode cJx4a65c_grow_92f84 55 = .ok (.dup_x1, 1) := by decide +kernel
theorem dJx4a65c_grow_92f84_56 : decode cJx4a65c_grow_92f84 56 = .ok (.putfield 9, 3) := by decide +kernel
theorem dJx4a65c_grow_92f84_59 : decode cJx4a65c_grow_92f84 59 = .ok (.areturn, 1) := by decide +kernel
set_option maxRecDepth 20000 in
theorem ggJx4a65c_grow_d5877_Jx4a65c_grow_92f84 : GoodIn wsJx4a65c_grow_d5877 wsJx4a65c_grow_92f84 := goodIn_r _ [6, 7, 8, 9, 10, 11, 12, 13, 14, 15, 16, 17, 18, 19, 20, 21, 22, 23, 24, 25, 26, 27, 28, 29, 30, 31, 32, 33, 34, 35, 36, 37, 38, 39, 40, 41, 42, 43, 44, 45] (by decide +kernel) (by decide +kernel)
set_option maxRecDepth 20000 in
theorem gJx4a65c_grow_d5877_Jx4a65c_grow_92f84 : GoodIn wsJx4a65c_grow_d5877 (wsV RJx4a65c 69 RJx4a65c yJx4a65c_grow_92f84 wsJx4a65c_grow_92f84) := goodIn_app (goodIn_of _ (by decide +kernel)) ggJx4a65c_grow_d5877_Jx4a65c_grow_92f84
theorem dJx4a65c_grow_d5877_0 : decode cJx4a65c_grow_d5877 0 = .ok (.aload_n 0, 1) := by decide +kernel
theorem dJx4a65c_grow_d5877_1 : decode cJx4a65c_grow_d5877 1 = .ok (.aload_n 0, 1) := by decide +kernel
theorem dJx4a65c_grow_d5877_2 : decode cJx4a65c_grow_d5877 2 = .ok (.getfield 48, 3) := by decide +kernel
theorem dJx4a65c_grow_d5877_5 : decode cJx4a65c_grow_d5877 5 = .ok (.iconst 1, 1) := by decide +kernel
theorem dJx4a65c_grow_d5877_6 : decode cJx4a65c_grow_d5877 6 = .ok (.iadd, 1) := by decide +kernel
theorem dJx4a65c_grow_d5877_7 : decode cJx4a65c_grow_d5877 7 = .ok (.invokevirtual 69, 3) := by decide +kernel
theorem dJx4a65c_grow_d5877_10 : decode cJx4a65c_grow_d5877 10 = .ok (.areturn, 1) := by decide +kernel
theorem dJx4a65c_size_8abf5_0 : decode cJx4a65c_size_8abf5 0 = .ok (.aload_n 0, 1) := by decide +kernel
theorem dJx4a65c_size_8abf5_1 : decode cJx4a65c_size_8abf5 1 = .ok (.getfield 48, 3) := by decide +kernel
theorem dJx4a65c_size_8abf5_4 : decode cJx4a65c_size_8abf5 4 = .ok (.ireturn, 1) := by decide +kernel
theorem dJx4a65c_isEmpty_aae02_0 : decode cJx4a65c_isEmpty_aae02 0 = .ok (.aload_n 0, 1) := by decide +kernel
theorem dJx4a65c_isEmpty_aae02_1 : decode cJx4a65c_isEmpty_aae02 1 = .ok (.getfield 48, 3) := by decide +kernel
theorem dJx4a65c_isEmpty_aae02_4 : decode cJx4a65c_isEmpty_aae02 4 = .ok (.ifCond .ne 7, 3) := by decide +kernel
theorem dJx4a65c_isEmpty_aae02_7 : decode cJx4a65c_isEmpty_aae02 7 = .ok (.iconst 1, 1) := by decide +kernel
theorem dJx4a65c_isEmpty_aae02_8 : decode cJx4a65c_isEmpty_aae02 8 = .ok (.goto 4, 3) := by decide +kernel
theorem dJx4a65c_isEmpty_aae02_11 : decode cJx4a65c_isEmpty_aae02 11 = .ok (.iconst 0, 1) := by decide +kernel
theorem dJx4a65c_isEmpty_aae02_12 : decode cJx4a65c_isEmpty_aae02 12 = .ok (.ireturn, 1) := by decide +kernel
theorem dJx4a65c_elementData_915e3_0 : decode cJx4a65c_elementData_915e3 0 = .ok (.aload_n 0, 1) := by decide +kernel
theorem dJx4a65c_elementData_915e3_1 : decode cJx4a65c_elementData_915e3 1 = .ok (.getfield 9, 3) := by decide +kernel
theorem dJx4a65c_elementData_915e3_4 : decode cJx4a65c_elementData_915e3 4 = .ok (.iload_n 1, 1) := by decide +kernel
theorem dJx4a65c_elementData_915e3_5 : decode cJx4a65c_elementData_915e3 5 = .ok (.aaload, 1) := by decide +kernel
theorem dJx4a65c_elementData_915e3_6 : decode cJx4a65c_elementData_915e3 6 = .ok (.areturn, 1) := by decide +kernel
set_option maxRecDepth 20000 in
theorem ggJx4a65c_get_915e3_J15_checkIndex_7cf53 : GoodIn wsJx4a65c_get_915e3 wsJ15_checkIndex_7cf53 := goodIn_r _ [5, 6, 7, 8, 9] (by decide +kernel) (by decide +kernel)
set_option maxRecDepth 20000 in
theorem gJx4a65c_get_915e3_J15_checkIndex_7cf53 : GoodIn wsJx4a65c_get_915e3 (va_wsS RJx4a65c 118 yJ15_checkIndex_7cf53 wsJ15_checkIndex_7cf53) := goodIn_app (goodIn_of _ (by decide +kernel)) ggJx4a65c_get_915e3_J15_checkIndex_7cf53
set_option maxRecDepth 20000 in
theorem ggJx4a65c_get_915e3_Jx4a65c_elementData_915e3 : GoodIn wsJx4a65c_get_915e3 wsJx4a65c_elementData_915e3 := goodIn_r _ [14, 15, 16, 17, 18] (by decide +kernel) (by decide +kernel)
set_option maxRecDepth 20000 in
theorem gJx4a65c_get_915e3_Jx4a65c_elementData_915e3 : GoodIn wsJx4a65c_get_915e3 (wsV RJx4a65c 123 RJx4a65c yJx4a65c_elementData_915e3 wsJx4a65c_elementData_915e3) := goodIn_app (goodIn_of _ (by decide +kernel)) ggJx4a65c_get_915e3_Jx4a65c_elementData_915e3
theorem dJx4a65c_get_915e3_0 : decode cJx4a65c_get_915e3 0 = .ok (.iload_n 1, 1) := by decide +kernel
theorem dJx4a65c_get_915e3_1 : decode cJx4a65c_get_915e3 1 = .ok (.aload_n 0, 1) := by decide +kernel
theorem dJx4a65c_get_915e3_2 : decode cJx4a65c_get_915e3 2 = .ok (.getfield 48, 3) := by decide +kernel
theorem dJx4a65c_get_915e3_5 : decode cJx4a65c_get_915e3 5 = .ok (.invokestatic 118, 3) := by decide +kernel
theorem dJx4a65c_get_915e3_8 : decode cJx4a65c_get_915e3 8 = .ok (.pop, 1) := by decide +kernel
theorem dJx4a65c_get_915e3_9 : decode cJx4a65c_get_915e3 9 = .ok (.aload_n 0, 1) := by decide +kernel
theorem dJx4a65c_get_915e3_10 : decode cJx4a65c_get_915e3 10 = .ok (.iload_n 1, 1) := by decide +kernel
theorem dJx4a65c_get_915e3_11 : decode cJx4a65c_get_915e3 11 = .ok (.invokevirtual 123, 3) := by decide +kernel
theorem dJx4a65c_get_915e3_14 : decode cJx4a65c_get_915e3 14 = .ok (.areturn, 1) := by decide +kernel
set_option maxRecDepth 20000 in
theorem ggJx4a65c_add_72be8_Jx4a65c_grow_d5877 : GoodIn wsJx4a65c_add_72be8 wsJx4a65c_grow_d5877 := goodIn_r _ [6, 1, 7, 8, 9, 5, 10, 11, 12, 13, 14, 15, 16, 17, 18, 19, 20, 21, 22, 23, 24, 25, 26, 27, 28, 29, 30, 31, 32, 33, 34, 35, 36, 37, 38, 39, 40, 41, 42, 43, 44, 45, 46, 47, 48, 49] (by decide +kernel) (by decide +kernel)
set_option maxRecDepth 20000 in
theorem gJx4a65c_add_72be8_Jx4a65c_grow_d5877 : GoodIn wsJx4a65c_add_72be8 (wsV RJx4a65c 129 RJx4a65c yJx4a65c_grow_d5877 wsJx4a65c_grow_d5877) := goodIn_app (goodIn_of _ (by decide +kernel)) ggJx4a65c_add_72be8_Jx4a65c_grow_d5877
theorem dJx4a65c_add_72be8_0 : decode cJx4a65c_add_72be8 0 = .ok (.iload_n 3, 1) := by decide +kernel
theorem dJx4a65c_add_72be8_1 : decode cJx4a65c_add_72be8 1 = .ok (.aload_n 2, 1) := by decide +kernel
theorem dJx4a65c_add_72be8_2 : decode cJx4a65c_add_72be8 2 = .ok (.arraylength, 1) := by decide +kernel
theorem dJx4a65c_add_72be8_3 : decode cJx4a65c_add_72be8 3 = .ok (.if_icmp .ne 8, 3) := by decide +kernel
theorem dJx4a65c_add_72be8_6 : decode cJx4a65c_add_72be8 6 = .ok (.aload_n 0, 1) := by decide +kernel
theorem dJx4a65c_add_72be8_7 : decode cJx4a65c_add_72be8 7 = .ok (.invokevirtual 129, 3) := by decide +kernel
theorem dJx4a65c_add_72be8_10 : decode cJx4a65c_add_72be8 10 = .ok (.astore_n 2, 1) := by decide +kernel
theorem dJx4a65c_add_72be8_11 : decode cJx4a65c_add_72be8 11 = .ok (.aload_n 2, 1) := by decide +kernel
theorem dJx4a65c_add_72be8_12 : decode cJx4a65c_add_72be8 12 = .ok (.iload_n 3, 1) := by decide +kernel
theorem dJx4a65c_add_72be8_13 : decode cJx4a65c_add_72be8 13 = .ok (.aload_n 1, 1) := by decide +kernel
theorem dJx4a65c_add_72be8_14 : decode cJx4a65c_add_72be8 14 = .ok (.aastore, 1) := by decide +kernel
theorem dJx4a65c_add_72be8_15 : decode cJx4a65c_add_72be8 15 = .ok (.aload_n 0, 1) := by decide +kernel
theorem dJx4a65c_add_72be8_16 : decode cJx4a65c_add_72be8 16 = .ok (.iload_n 3, 1) := by decide +kernel
theorem dJx4a65c_add_72be8_17 : decode cJx4a65c_add_72be8 17 = .ok (.iconst 1, 1) := by decide +kernel
theorem dJx4a65c_add_72be8_18 : decode cJx4a65c_add_72be8 18 = .ok (.iadd, 1) := by decide +kernel
theorem dJx4a65c_add_72be8_19 : decode cJx4a65c_add_72be8 19 = .ok (.putfield 48, 3) := by decide +kernel
theorem dJx4a65c_add_72be8_22 : decode cJx4a65c_add_72be8 22 = .ok (.return_, 1) := by decide +kernel
set_option maxRecDepth 20000 in
theorem ggJx4a65c_add_9ea2d_Jx4a65c_add_72be8 : GoodIn wsJx4a65c_add_9ea2d wsJx4a65c_add_72be8 := goodIn_r _ [9, 4, 10, 11, 12, 8, 13, 14, 15, 16, 17, 3, 18, 19, 20, 21, 22, 23, 24, 25, 26, 27, 28, 29, 30, 31, 32, 33, 34, 35, 36, 37, 38, 39, 40, 41, 42, 43, 44, 45, 46, 47, 48, 49, 50, 51, 52, 53, 54, 55] (by decide +kernel) (by decide +kernel)
set_option maxRecDepth 20000 in
theorem gJx4a65c_add_9ea2d_Jx4a65c_add_72be8 : GoodIn wsJx4a65c_add_9ea2d (wsV RJx4a65c 131 RJx4a65c yJx4a65c_add_72be8 wsJx4a65c_add_72be8) := goodIn_app (goodIn_of _ (by decide +kernel)) ggJx4a65c_add_9ea2d_Jx4a65c_add_72be8
theorem dJx4a65c_add_9ea2d_0 : decode cJx4a65c_add_9ea2d 0 = .ok (.aload_n 0, 1) := by decide +kernel
theorem dJx4a65c_add_9ea2d_1 : decode cJx4a65c_add_9ea2d 1 = .ok (.dup, 1) := by decide +kernel
theorem dJx4a65c_add_9ea2d_2 : decode cJx4a65c_add_9ea2d 2 = .ok (.getfield 63, 3) := by decide +kernel
theorem dJx4a65c_add_9ea2d_5 : decode cJx4a65c_add_9ea2d 5 = .ok (.iconst 1, 1) := by decide +kernel
theorem dJx4a65c_add_9ea2d_6 : decode cJx4a65c_add_9ea2d 6 = .ok (.iadd, 1) := by decide +kernel
theorem dJx4a65c_add_9ea2d_7 : decode cJx4a65c_add_9ea2d 7 = .ok (.putfield 63, 3) := by decide +kernel
theorem dJx4a65c_add_9ea2d_10 : decode cJx4a65c_add_9ea2d 10 = .ok (.aload_n 0, 1) := by decide +kernel
theorem dJx4a65c_add_9ea2d_11 : decode cJx4a65c_add_9ea2d 11 = .ok (.aload_n 1, 1) := by decide +kernel
theorem dJx4a65c_add_9ea2d_12 : decode cJx4a65c_add_9ea2d 12 = .ok (.aload_n 0, 1) := by decide +kernel
theorem dJx4a65c_add_9ea2d_13 : decode cJx4a65c_add_9ea2d 13 = .ok (.getfield 9, 3) := by decide +kernel
theorem dJx4a65c_add_9ea2d_16 : decode cJx4a65c_add_9ea2d 16 = .ok (.aload_n 0, 1) := by decide +kernel
theorem dJx4a65c_add_9ea2d_17 : decode cJx4a65c_add_9ea2d 17 = .ok (.getfield 48, 3) := by decide +kernel
theorem dJx4a65c_add_9ea2d_20 : decode cJx4a65c_add_9ea2d 20 = .ok (.invokevirtual 131, 3) := by decide +kernel
theorem dJx4a65c_add_9ea2d_23 : decode cJx4a65c_add_9ea2d 23 = .ok (.iconst 1, 1) := by decide +kernel
theorem dJx4a65c_add_9ea2d_24 : decode cJx4a65c_add_9ea2d 24 = .ok (.ireturn, 1) := by decide +kernel
set_option maxRecDepth 20000 in
theorem ggJx4a65c_remove_915e3_J15_checkIndex_7cf53 : GoodIn wsJx4a65c_remove_915e3 wsJ15_checkIndex_7cf53 := goodIn_r _ [6, 7, 8, 9, 10] (by decide +kernel) (by decide +kernel)
set_option maxRecDepth 20000 in
theorem gJx4a65c_remove_915e3_J15_checkIndex_7cf53 : GoodIn wsJx4a65c_remove_915e3 (va_wsS RJx4a65c 118 yJ15_checkIndex_7cf53 wsJ15_checkIndex_7cf53) := goodIn_app (goodIn_of _ (by decide +kernel)) ggJx4a65c_remove_915e3_J15_checkIndex_7cf53
set_option maxRecDepth 20000 in
theorem ggJx4a65c_remove_915e3_Jx4a65c_fastRemove_b59b0 : GoodIn wsJx4a65c_remove_915e3 wsJx4a65c_fastRemove_b59b0 := goodIn_r _ [15, 16, 17, 1, 18, 19, 20, 21, 22, 23, 24] (by decide +kernel) (by decide +kernel)
set_option maxRecDepth 20000 in
theorem gJx4a65c_remove_915e3_Jx4a65c_fastRemove_b59b0 : GoodIn wsJx4a65c_remove_915e3 (wsV RJx4a65c 144 RJx4a65c yJx4a65c_fastRemove_b59b0 wsJx4a65c_fastRemove_b59b0) := goodIn_app (goodIn_of _ (by decide +kernel)) ggJx4a65c_remove_915e3_Jx4a65c_fastRemove_b59b0
theorem dJx4a65c_remove_915e3_0 : decode cJx4a65c_remove_915e3 0 = .ok (.iload_n 1, 1) := by decide +kernel
theorem dJx4a65c_remove_915e3_1 : decode cJx4a65c_remove_915e3 1 = .ok (.aload_n 0, 1) := by decide +kernel
theorem dJx4a65c_remove_915e3_2 : decode cJx4a65c_remove_915e3 2 = .ok (.getfield 48, 3) := by decide +kernel
theorem dJx4a65c_remove_915e3_5 : decode cJx4a65c_remove_915e3 5 = .ok (.invokestatic 118, 3) := by decide +kernel
theorem dJx4a65c_remove_915e3_8 : decode cJx4a65c_remove_915e3 8 = .ok (.pop, 1) := by decide +kernel
theorem dJx4a65c_remove_915e3_9 : decode cJx4a65c_remove_915e3 9 = .ok (.aload_n 0, 1) := by decide +kernel
theorem dJx4a65c_remove_915e3_10 : decode cJx4a65c_remove_915e3 10 = .ok (.getfield 9, 3) := by decide +kernel
theorem dJx4a65c_remove_915e3_13 : decode cJx4a65c_remove_915e3 13 = .ok (.astore_n 2, 1) := by decide +kernel
theorem dJx4a65c_remove_915e3_14 : decode cJx4a65c_remove_915e3 14 = .ok (.aload_n 2, 1) := by decide +kernel
theorem dJx4a65c_remove_915e3_15 : decode cJx4a65c_remove_915e3 15 = .ok (.iload_n 1, 1) := by decide +kernel
theorem dJx4a65c_remove_915e3_16 : decode cJx4a65c_remove_915e3 16 = .ok (.aaload, 1) := by decide +kernel
theorem dJx4a65c_remove_915e3_17 : decode cJx4a65c_remove_915e3 17 = .ok (.astore_n 3, 1) := by decide +kernel
theorem dJx4a65c_remove_915e3_18 : decode cJx4a65c_remove_915e3 18 = .ok (.aload_n 0, 1) := by decide +kernel
theorem dJx4a65c_remove_915e3_19 : decode cJx4a65c_remove_915e3 19 = .ok (.aload_n 2, 1) := by decide +kernel
theorem dJx4a65c_remove_915e3_20 : decode cJx4a65c_remove_915e3 20 = .ok (.iload_n 1, 1) := by decide +kernel
theorem dJx4a65c_remove_915e3_21 : decode cJx4a65c_remove_915e3 21 = .ok (.invokevirtual 144, 3) := by decide +kernel
theorem dJx4a65c_remove_915e3_24 : decode cJx4a65c_remove_915e3 24 = .ok (.aload_n 3, 1) := by decide +kernel
theorem dJx4a65c_remove_915e3_25 : decode cJx4a65c_remove_915e3 25 = .ok (.areturn, 1) := by decide +kernel
theorem dJx4a65c_fastRemove_b59b0_0 : decode cJx4a65c_fastRemove_b59b0 0 = .ok (.aload_n 0, 1) := by decide +kernel
theorem dJx4a65c_fastRemove_b59b0_1 : decode cJx4a65c_fastRemove_b59b0 1 = .ok (.dup, 1) := by decide +kernel
theorem dJx4a65c_fastRemove_b59b0_2 : decode cJx4a65c_fastRemove_b59b0 2 = .ok (.getfield 63, 3) := by decide +kernel
theorem dJx4a65c_fastRemove_b59b0_5 : decode cJx4a65c_fastRemove_b59b0 5 = .ok (.iconst 1, 1) := by decide +kernel
theorem dJx4a65c_fastRemove_b59b0_6 : decode cJx4a65c_fastRemove_b59b0 6 = .ok (.iadd, 1) := by decide +kernel
theorem dJx4a65c_fastRemove_b59b0_7 : decode cJx4a65c_fastRemove_b59b0 7 = .ok (.putfield 63, 3) := by decide +kernel
theorem dJx4a65c_fastRemove_b59b0_10 : decode cJx4a65c_fastRemove_b59b0 10 = .ok (.aload_n 0, 1) := by decide +kernel
theorem dJx4a65c_fastRemove_b59b0_11 : decode cJx4a65c_fastRemove_b59b0 11 = .ok (.getfield 48, 3) := by decide +kernel
theorem dJx4a65c_fastRemove_b59b0_14 : decode cJx4a65c_fastRemove_b59b0 14 = .ok (.iconst 1, 1) := by decide +kernel
theorem dJx4a65c_fastRemove_b59b0_15 : decode cJx4a65c_fastRemove_b59b0 15 = .ok (.isub, 1) := by decide +kernel
theorem dJx4a65c_fastRemove_b59b0_16 : decode cJx4a65c_fastRemove_b59b0 16 = .ok (.dup, 1) := by decide +kernel
theorem dJx4a65c_fastRemove_b59b0_17 : decode cJx4a65c_fastRemove_b59b0 17 = .ok (.istore_n 3, 1) := by decide +kernel
theorem dJx4a65c_fastRemove_b59b0_18 : decode cJx4a65c_fastRemove_b59b0 18 = .ok (.iload_n 2, 1) := by decide +kernel
theorem dJx4a65c_fastRemove_b59b0_19 : decode cJx4a65c_fastRemove_b59b0 19 = .ok (.if_icmp .le 15, 3) := by decide +kernel
theorem dJx4a65c_fastRemove_b59b0_22 : decode cJx4a65c_fastRemove_b59b0 22 = .ok (.aload_n 1, 1) := by decide +kernel
theorem dJx4a65c_fastRemove_b59b0_23 : decode cJx4a65c_fastRemove_b59b0 23 = .ok (.iload_n 2, 1) := by decide +kernel
theorem dJx4a65c_fastRemove_b59b0_24 : decode cJx4a65c_fastRemove_b59b0 24 = .ok (.iconst 1, 1) := by decide +kernel
theorem dJx4a65c_fastRemove_b59b0_25 : decode cJx4a65c_fastRemove_b59b0 25 = .ok (.iadd, 1) := by decide +kernel
theorem dJx4a65c_fastRemove_b59b0_26 : decode cJx4a65c_fastRemove_b59b0 26 = .ok (.aload_n 1, 1) := by decide +kernel
theorem dJx4a65c_fastRemove_b59b0_27 : decode cJx4a65c_fastRemove_b59b0 27 = .ok (.iload_n 2, 1) := by decide +kernel
theorem dJx4a65c_fastRemove_b59b0_28 : decode cJx4a65c_fastRemove_b59b0 28 = .ok (.iload_n 3, 1) := by decide +kernel
theorem dJx4a65c_fastRemove_b59b0_29 : decode cJx4a65c_fastRemove_b59b0 29 = .ok (.iload_n 2, 1) := by decide +kernel
theorem dJx4a65c_fastRemove_b59b0_30 : decode cJx4a65c_fastRemove_b59b0 30 = .ok (.isub, 1) := by decide +kernel
theorem dJx4a65c_fastRemove_b59b0_31 : decode cJx4a65c_fastRemove_b59b0 31 = .ok (.invokestatic 112, 3) := by decide +kernel
theorem dJx4a65c_fastRemove_b59b0_34 : decode cJx4a65c_fastRemove_b59b0 34 = .ok (.aload_n 1, 1) := by decide +kernel
theorem dJx4a65c_fastRemove_b59b0_35 : decode cJx4a65c_fastRemove_b59b0 35 = .ok (.aload_n 0, 1) := by decide +kernel
theorem dJx4a65c_fastRemove_b59b0_36 : decode cJx4a65c_fastRemove_b59b0 36 = .ok (.iload_n 3, 1) := by decide +kernel
theorem dJx4a65c_fastRemove_b59b0_37 : decode cJx4a65c_fastRemove_b59b0 37 = .ok (.dup_x1, 1) := by decide +kernel
theorem dJx4a65c_fastRemove_b59b0_38 : decode cJx4a65c_fastRemove_b59b0 38 = .ok (.putfield 48, 3) := by decide +kernel
theorem dJx4a65c_fastRemove_b59b0_41 : decode cJx4a65c_fastRemove_b59b0 41 = .ok (.aconst_null, 1) := by decide +kernel
theorem dJx4a65c_fastRemove_b59b0_42 : decode cJx4a65c_fastRemove_b59b0 42 = .ok (.aastore, 1) := by decide +kernel
theorem dJx4a65c_fastRemove_b59b0_43 : decode cJx4a65c_fastRemove_b59b0 43 = .ok (.return_, 1) := by decide +kernel
set_option maxRecDepth 20000 in
theorem ggJ7_copyOf_1904c_J7_copyOf_6403c : GoodIn wsJ7_copyOf_1904c wsJ7_copyOf_6403c := goodIn_r _ [8, 9, 10, 11, 12, 13, 14, 15, 16, 17, 18] (by decide +kernel) (by decide +kernel)
set_option maxRecDepth 20000 in
theorem gJ7_copyOf_1904c_J7_copyOf_6403c : GoodIn wsJ7_copyOf_1904c (va_wsS RJ7 300 yJ7_copyOf_6403c wsJ7_copyOf_6403c) := goodIn_app (goodIn_of _ (by decide +kernel)) ggJ7_copyOf_1904c_J7_copyOf_6403c
theorem dJ7_copyOf_1904c_0 : decode cJ7_copyOf_1904c 0 = .ok (.aload_n 0, 1) := by decide +kernel
theorem dJ7_copyOf_1904c_1 : decode cJ7_copyOf_1904c 1 = .ok (.iload_n 1, 1) := by decide +kernel
theorem dJ7_copyOf_1904c_2 : decode cJ7_copyOf_1904c 2 = .ok (.aload_n 0, 1) := by decide +kernel
theorem dJ7_copyOf_1904c_3 : decode cJ7_copyOf_1904c 3 = .ok (.invokevirtual 86, 3) := by decide +kernel
theorem dJ7_copyOf_1904c_6 : decode cJ7_copyOf_1904c 6 = .ok (.invokestatic 300, 3) := by decide +kernel
theorem dJ7_copyOf_1904c_9 : decode cJ7_copyOf_1904c 9 = .ok (.areturn, 1) := by decide +kernel
theorem dJ7_copyOf_6403c_0 : decode cJ7_copyOf_6403c 0 = .ok (.aload_n 2, 1) := by decide +kernel
theorem dJ7_copyOf_6403c_1 : decode cJ7_copyOf_6403c 1 = .ok (.ldc 110, 2) := by decide +kernel
theorem dJ7_copyOf_6403c_3 : decode cJ7_copyOf_6403c 3 = .ok (.if_acmp .ne 10, 3) := by decide +kernel
theorem dJ7_copyOf_6403c_6 : decode cJ7_copyOf_6403c 6 = .ok (.iload_n 1, 1) := by decide +kernel
theorem dJ7_copyOf_6403c_7 : decode cJ7_copyOf_6403c 7 = .ok (.anewarray 2, 3) := by decide +kernel
theorem dJ7_copyOf_6403c_10 : decode cJ7_copyOf_6403c 10 = .ok (.goto 14, 3) := by decide +kernel
theorem dJ7_copyOf_6403c_13 : decode cJ7_copyOf_6403c 13 = .ok (.aload_n 2, 1) := by decide +kernel
theorem dJ7_copyOf_6403c_14 : decode cJ7_copyOf_6403c 14 = .ok (.invokevirtual 90, 3) := by decide +kernel
theorem dJ7_copyOf_6403c_17 : decode cJ7_copyOf_6403c 17 = .ok (.iload_n 1, 1) := by decide +kernel
theorem dJ7_copyOf_6403c_18 : decode cJ7_copyOf_6403c 18 = .ok (.invokestatic 95, 3) := by decide +kernel
theorem dJ7_copyOf_6403c_21 : decode cJ7_copyOf_6403c 21 = .ok (.checkcast 110, 3) := by decide +kernel
theorem dJ7_copyOf_6403c_24 : decode cJ7_copyOf_6403c 24 = .ok (.astore_n 3, 1) := by decide +kernel
theorem dJ7_copyOf_6403c_25 : decode cJ7_copyOf_6403c 25 = .ok (.aload_n 0, 1) := by decide +kernel
theorem dJ7_copyOf_6403c_26 : decode cJ7_copyOf_6403c 26 = .ok (.iconst 0, 1) := by decide +kernel
theorem dJ7_copyOf_6403c_27 : decode cJ7_copyOf_6403c 27 = .ok (.aload_n 3, 1) := by decide +kernel
theorem dJ7_copyOf_6403c_28 : decode cJ7_copyOf_6403c 28 = .ok (.iconst 0, 1) := by decide +kernel
theorem dJ7_copyOf_6403c_29 : decode cJ7_copyOf_6403c 29 = .ok (.aload_n 0, 1) := by decide +kernel
theorem dJ7_copyOf_6403c_30 : decode cJ7_copyOf_6403c 30 = .ok (.arraylength, 1) := by decide +kernel
theorem dJ7_copyOf_6403c_31 : decode cJ7_copyOf_6403c 31 = .ok (.iload_n 1, 1) := by decide +kernel
theorem dJ7_copyOf_6403c_32 : decode cJ7_copyOf_6403c 32 = .ok (.invokestatic 304, 3) := by decide +kernel
theorem dJ7_copyOf_6403c_35 : decode cJ7_copyOf_6403c 35 = .ok (.invokestatic 150, 3) := by decide +kernel
theorem dJ7_copyOf_6403c_38 : decode cJ7_copyOf_6403c 38 = .ok (.aload_n 3, 1) := by decide +kernel
theorem dJ7_copyOf_6403c_39 : decode cJ7_copyOf_6403c 39 = .ok (.areturn, 1) := by decide +kernel
set_option maxRecDepth 20000 in
theorem ggJ15_checkIndex_7cf53_J3_checkIndex_8e157 : GoodIn wsJ15_checkIndex_7cf53 wsJ3_checkIndex_8e157 := goodIn_r _ [4] (by decide +kernel) (by decide +kernel)
set_option maxRecDepth 20000 in
theorem gJ15_checkIndex_7cf53_J3_checkIndex_8e157 : GoodIn wsJ15_checkIndex_7cf53 (va_wsS RJ15 105 yJ3_checkIndex_8e157 wsJ3_checkIndex_8e157) := goodIn_app (goodIn_of _ (by decide +kernel)) ggJ15_checkIndex_7cf53_J3_checkIndex_8e157
theorem dJ15_checkIndex_7cf53_0 : decode cJ15_checkIndex_7cf53 0 = .ok (.iload_n 0, 1) := by decide +kernel
theorem dJ15_checkIndex_7cf53_1 : decode cJ15_checkIndex_7cf53 1 = .ok (.iload_n 1, 1) := by decide +kernel
theorem dJ15_checkIndex_7cf53_2 : decode cJ15_checkIndex_7cf53 2 = .ok (.aconst_null, 1) := by decide +kernel
theorem dJ15_checkIndex_7cf53_3 : decode cJ15_checkIndex_7cf53 3 = .ok (.invokestatic 105, 3) := by decide +kernel
theorem dJ15_checkIndex_7cf53_6 : decode cJ15_checkIndex_7cf53 6 = .ok (.ireturn, 1) := by decide +kernel
set_option maxRecDepth 20000 in
theorem ggJ8_newLength_cabcc_J8_hugeLength_7cf53 : GoodIn wsJ8_newLength_cabcc wsJ8_hugeLength_7cf53 := goodIn_r _ [9, 5] (by decide +kernel) (by decide +kernel)
set_option maxRecDepth 20000 in
theorem gJ8_newLength_cabcc_J8_hugeLength_7cf53 : GoodIn wsJ8_newLength_cabcc (va_wsS RJ8 201 yJ8_hugeLength_7cf53 wsJ8_hugeLength_7cf53) := goodIn_app (goodIn_of _ (by decide +kernel)) ggJ8_newLength_cabcc_J8_hugeLength_7cf53
theorem dJ8_newLength_cabcc_0 : decode cJ8_newLength_cabcc 0 = .ok (.iload_n 0, 1) := by decide +kernel
theorem dJ8_newLength_cabcc_1 : decode cJ8_newLength_cabcc 1 = .ok (.iload_n 1, 1) := by decide +kernel
theorem dJ8_newLength_cabcc_2 : decode cJ8_newLength_cabcc 2 = .ok (.iload_n 2, 1) := by decide +kernel
theorem dJ8_newLength_cabcc_3 : decode cJ8_newLength_cabcc 3 = .ok (.invokestatic 194, 3) := by decide +kernel
theorem dJ8_newLength_cabcc_6 : decode cJ8_newLength_cabcc 6 = .ok (.iadd, 1) := by decide +kernel
theorem dJ8_newLength_cabcc_7 : decode cJ8_newLength_cabcc 7 = .ok (.istore_n 3, 1) := by decide +kernel
theorem dJ8_newLength_cabcc_8 : decode cJ8_newLength_cabcc 8 = .ok (.iconst 0, 1) := by decide +kernel
theorem dJ8_newLength_cabcc_9 : decode cJ8_newLength_cabcc 9 = .ok (.iload_n 3, 1) := by decide +kernel
theorem dJ8_newLength_cabcc_10 : decode cJ8_newLength_cabcc 10 = .ok (.if_icmp .ge 11, 3) := by decide +kernel
theorem dJ8_newLength_cabcc_13 : decode cJ8_newLength_cabcc 13 = .ok (.iload_n 3, 1) := by decide +kernel
theorem dJ8_newLength_cabcc_14 : decode cJ8_newLength_cabcc 14 = .ok (.ldc 200, 2) := by decide +kernel
theorem dJ8_newLength_cabcc_16 : decode cJ8_newLength_cabcc 16 = .ok (.if_icmp .gt 5, 3) := by decide +kernel
theorem dJ8_newLength_cabcc_19 : decode cJ8_newLength_cabcc 19 = .ok (.iload_n 3, 1) := by decide +kernel
theorem dJ8_newLength_cabcc_20 : decode cJ8_newLength_cabcc 20 = .ok (.ireturn, 1) := by decide +kernel
theorem dJ8_newLength_cabcc_21 : decode cJ8_newLength_cabcc 21 = .ok (.iload_n 0, 1) := by decide +kernel
theorem dJ8_newLength_cabcc_22 : decode cJ8_newLength_cabcc 22 = .ok (.iload_n 1, 1) := by decide +kernel
theorem dJ8_newLength_cabcc_23 : decode cJ8_newLength_cabcc 23 = .ok (.invokestatic 201, 3) := by decide +kernel
theorem dJ8_newLength_cabcc_26 : decode cJ8_newLength_cabcc 26 = .ok (.ireturn, 1) := by decide +kernel
theorem dJ8_hugeLength_7cf53_0 : decode cJ8_hugeLength_7cf53 0 = .ok (.iload_n 0, 1) := by decide +kernel
theorem dJ8_hugeLength_7cf53_1 : decode cJ8_hugeLength_7cf53 1 = .ok (.iload_n 1, 1) := by decide +kernel
theorem dJ8_hugeLength_7cf53_2 : decode cJ8_hugeLength_7cf53 2 = .ok (.iadd, 1) := by decide +kernel
theorem dJ8_hugeLength_7cf53_3 : decode cJ8_hugeLength_7cf53 3 = .ok (.istore_n 2, 1) := by decide +kernel
theorem dJ8_hugeLength_7cf53_4 : decode cJ8_hugeLength_7cf53 4 = .ok (.iload_n 2, 1) := by decide +kernel
theorem dJ8_hugeLength_7cf53_5 : decode cJ8_hugeLength_7cf53 5 = .ok (.ifCond .ge 44, 3) := by decide +kernel
theorem dJ8_hugeLength_7cf53_8 : decode cJ8_hugeLength_7cf53 8 = .ok (.new 204, 3) := by decide +kernel
theorem dJ8_hugeLength_7cf53_11 : decode cJ8_hugeLength_7cf53 11 = .ok (.dup, 1) := by decide +kernel
theorem dJ8_hugeLength_7cf53_12 : decode cJ8_hugeLength_7cf53 12 = .ok (.new 89, 3) := by decide +kernel
theorem dJ8_hugeLength_7cf53_15 : decode cJ8_hugeLength_7cf53 15 = .ok (.dup, 1) := by decide +kernel
theorem dJ8_hugeLength_7cf53_16 : decode cJ8_hugeLength_7cf53 16 = .ok (.invokespecial 91, 3) := by decide +kernel
theorem dJ8_hugeLength_7cf53_19 : decode cJ8_hugeLength_7cf53 19 = .ok (.ldc 206, 2) := by decide +kernel
theorem dJ8_hugeLength_7cf53_21 : decode cJ8_hugeLength_7cf53 21 = .ok (.invokevirtual 94, 3) := by decide +kernel
theorem dJ8_hugeLength_7cf53_24 : decode cJ8_hugeLength_7cf53 24 = .ok (.iload_n 0, 1) := by decide +kernel
theorem dJ8_hugeLength_7cf53_25 : decode cJ8_hugeLength_7cf53 25 = .ok (.invokevirtual 98, 3) := by decide +kernel
theorem dJ8_hugeLength_7cf53_28 : decode cJ8_hugeLength_7cf53 28 = .ok (.ldc 208, 2) := by decide +kernel
theorem dJ8_hugeLength_7cf53_30 : decode cJ8_hugeLength_7cf53 30 = .ok (.invokevirtual 94, 3) := by decide +kernel
theorem dJ8_hugeLength_7cf53_33 : decode cJ8_hugeLength_7cf53 33 = .ok (.iload_n 1, 1) := by decide +kernel
theorem dJ8_hugeLength_7cf53_34 : decode cJ8_hugeLength_7cf53 34 = .ok (.invokevirtual 98, 3) := by decide +kernel
theorem dJ8_hugeLength_7cf53_37 : decode cJ8_hugeLength_7cf53 37 = .ok (.ldc 210, 2) := by decide +kernel
theorem dJ8_hugeLength_7cf53_39 : decode cJ8_hugeLength_7cf53 39 = .ok (.invokevirtual 94, 3) := by decide +kernel
theorem dJ8_hugeLength_7cf53_42 : decode cJ8_hugeLength_7cf53 42 = .ok (.invokevirtual 101, 3) := by decide +kernel
theorem dJ8_hugeLength_7cf53_45 : decode cJ8_hugeLength_7cf53 45 = .ok (.invokespecial 212, 3) := by decide +kernel
theorem dJ8_hugeLength_7cf53_48 : decode cJ8_hugeLength_7cf53 48 = .ok (.athrow, 1) := by decide +kernel
theorem dJ8_hugeLength_7cf53_49 : decode cJ8_hugeLength_7cf53 49 = .ok (.iload_n 2, 1) := by decide +kernel
theorem dJ8_hugeLength_7cf53_50 : decode cJ8_hugeLength_7cf53 50 = .ok (.ldc 200, 2) := by decide +kernel
theorem dJ8_hugeLength_7cf53_52 : decode cJ8_hugeLength_7cf53 52 = .ok (.if_icmp .gt 6, 3) := by decide +kernel
theorem dJ8_hugeLength_7cf53_55 : decode cJ8_hugeLength_7cf53 55 = .ok (.ldc 200, 2) := by decide +kernel
theorem dJ8_hugeLength_7cf53_57 : decode cJ8_hugeLength_7cf53 57 = .ok (.ireturn, 1) := by decide +kernel
theorem dJ8_hugeLength_7cf53_58 : decode cJ8_hugeLength_7cf53 58 = .ok (.iload_n 2, 1) := by decide +kernel
theorem dJ8_hugeLength_7cf53_59 : decode cJ8_hugeLength_7cf53 59 = .ok (.ireturn, 1) := by decide +kernel
theorem dJ3_checkIndex_8e157_0 : decode cJ3_checkIndex_8e157 0 = .ok (.iload_n 0, 1) := by decide +kernel
theorem dJ3_checkIndex_8e157_1 : decode cJ3_checkIndex_8e157 1 = .ok (.ifCond .lt 8, 3) := by decide +kernel
theorem dJ3_checkIndex_8e157_4 : decode cJ3_checkIndex_8e157 4 = .ok (.iload_n 0, 1) := by decide +kernel
theorem dJ3_checkIndex_8e157_5 : decode cJ3_checkIndex_8e157 5 = .ok (.iload_n 1, 1) := by decide +kernel
theorem dJ3_checkIndex_8e157_6 : decode cJ3_checkIndex_8e157 6 = .ok (.if_icmp .lt 10, 3) := by decide +kernel
theorem dJ3_checkIndex_8e157_9 : decode cJ3_checkIndex_8e157 9 = .ok (.aload_n 2, 1) := by decide +kernel
theorem dJ3_checkIndex_8e157_10 : decode cJ3_checkIndex_8e157 10 = .ok (.iload_n 0, 1) := by decide +kernel
theorem dJ3_checkIndex_8e157_11 : decode cJ3_checkIndex_8e157 11 = .ok (.iload_n 1, 1) := by decide +kernel
theorem dJ3_checkIndex_8e157_12 : decode cJ3_checkIndex_8e157 12 = .ok (.invokestatic 95, 3) := by decide +kernel
theorem dJ3_checkIndex_8e157_15 : decode cJ3_checkIndex_8e157 15 = .ok (.athrow, 1) := by decide +kernel
theorem dJ3_checkIndex_8e157_16 : decode cJ3_checkIndex_8e157 16 = .ok (.iload_n 0, 1) := by decide +kernel
theorem dJ3_checkIndex_8e157_17 : decode cJ3_checkIndex_8e157 17 = .ok (.ireturn, 1) := by decide +kernel
set_option maxRecDepth 20000 in
theorem ggL_dig_X4_dig : GoodIn wsL_dig wsX4_dig := goodIn_ca (goodIn_ca (goodIn_ca (goodIn_r _ [8, 9, 10, 11, 12, 13, 14, 15, 16, 17, 18, 19, 7, 20, 21, 22, 23, 24, 25, 26, 27, 28, 29, 30, 31, 32, 33, 34, 35, 36, 37, 38, 39, 40, 41, 42, 43, 44, 45, 46, 47, 48, 49, 50, 51, 52, 53, 54, 55, 56, 57, 58, 59, 60, 61, 62, 63, 64, 65, 66, 67, 68, 69, 70, 71, 72, 73, 74, 75, 76, 77, 78, 79, 80, 81, 82, 83, 84, 85, 86, 87, 88, 89, 90, 91, 92, 93, 94, 95, 96, 97, 98, 99, 100, 101, 102, 103, 104, 105, 106, 107, 108, 109, 110, 111, 112, 113] (by decide +kernel) (by decide +kernel)) (goodIn_sub (fun _ h => List.mem_cons_of_mem _ (List.mem_append_left _ (List.mem_append_left _ (List.mem_append_right _ h)))) (by decide +kernel))) (goodIn_sub (fun _ h => List.mem_cons_of_mem _ (List.mem_append_left _ (List.mem_append_right _ h))) (by decide +kernel))) (goodIn_sub (fun _ h => List.mem_cons_of_mem _ (List.mem_append_right _ h)) (by decide +kernel))
set_option maxRecDepth 20000 in
theorem gL_dig_X4_dig : GoodIn wsL_dig (wsV RL 7 RX4 yX4_dig wsX4_dig) := goodIn_app (goodIn_of _ (by decide +kernel)) ggL_dig_X4_dig
theorem dL_dig_0 : decode cL_dig 0 = .ok (.aload 5, 2) := by decide +kernel
theorem dL_dig_2 : decode cL_dig 2 = .ok (.iconst 0, 1) := by decide +kernel
theorem dL_dig_3 : decode cL_dig 3 = .ok (.aload_n 0, 1) := by decide +kernel
theorem dL_dig_4 : decode cL_dig 4 = .ok (.iload_n 1, 1) := by decide +kernel
theorem dL_dig_5 : decode cL_dig 5 = .ok (.iload_n 2, 1) := by decide +kernel
theorem dL_dig_6 : decode cL_dig 6 = .ok (.iload_n 3, 1) := by decide +kernel
theorem dL_dig_7 : decode cL_dig 7 = .ok (.iload 4, 2) := by decide +kernel
theorem dL_dig_9 : decode cL_dig 9 = .ok (.invokevirtual 7, 3) := by decide +kernel
theorem dL_dig_12 : decode cL_dig 12 = .ok (.i2l, 1) := by decide +kernel
theorem dL_dig_13 : decode cL_dig 13 = .ok (.lastore, 1) := by decide +kernel
theorem dL_dig_14 : decode cL_dig 14 = .ok (.goto 15, 3) := by decide +kernel
theorem dL_dig_17 : decode cL_dig 17 = .ok (.astore 6, 2) := by decide +kernel
theorem dL_dig_19 : decode cL_dig 19 = .ok (.iconst 1, 1) := by decide +kernel
theorem dL_dig_20 : decode cL_dig 20 = .ok (.ireturn, 1) := by decide +kernel
theorem dL_dig_21 : decode cL_dig 21 = .ok (.astore 6, 2) := by decide +kernel
theorem dL_dig_23 : decode cL_dig 23 = .ok (.iconst 2, 1) := by decide +kernel
theorem dL_dig_24 : decode cL_dig 24 = .ok (.ireturn, 1) := by decide +kernel
theorem dL_dig_25 : decode cL_dig 25 = .ok (.astore 6, 2) := by decide +kernel
theorem dL_dig_27 : decode cL_dig 27 = .ok (.iconst 3, 1) := by decide +kernel
theorem dL_dig_28 : decode cL_dig 28 = .ok (.ireturn, 1) := by decide +kernel
theorem dL_dig_29 : decode cL_dig 29 = .ok (.iconst 0, 1) := by decide +kernel
theorem dL_dig_30 : decode cL_dig 30 = .ok (.ireturn, 1) := by decide +kernel
set_option maxRecDepth 20000 in
theorem ggL_setGate_X4_setGate : GoodIn wsL_setGate wsX4_setGate := goodIn_ca (goodIn_r _ [6, 7, 8, 9, 10, 5, 11, 12, 13, 14, 15, 16, 17, 18, 19, 20, 21, 22, 23, 24, 25, 26, 27, 28, 29, 30, 31, 32, 33, 34, 35, 36, 37, 38, 39, 40, 41, 42, 43, 44, 45, 46, 47, 48, 49, 50, 51, 52, 53] (by decide +kernel) (by decide +kernel)) (goodIn_sub (fun _ h => List.mem_cons_of_mem _ (List.mem_append_right _ h)) (by decide +kernel))
set_option maxRecDepth 20000 in
theorem gL_setGate_X4_setGate : GoodIn wsL_setGate (wsV RL 19 RX4 yX4_setGate wsX4_setGate) := goodIn_app (goodIn_of _ (by decide +kernel)) ggL_setGate_X4_setGate
theorem dL_setGate_0 : decode cL_setGate 0 = .ok (.aload_n 3, 1) := by decide +kernel
theorem dL_setGate_1 : decode cL_setGate 1 = .ok (.iconst 0, 1) := by decide +kernel
theorem dL_setGate_2 : decode cL_setGate 2 = .ok (.aload_n 0, 1) := by decide +kernel
theorem dL_setGate_3 : decode cL_setGate 3 = .ok (.iload_n 1, 1) := by decide +kernel
theorem dL_setGate_4 : decode cL_setGate 4 = .ok (.iload_n 2, 1) := by decide +kernel
theorem dL_setGate_5 : decode cL_setGate 5 = .ok (.invokevirtual 19, 3) := by decide +kernel
theorem dL_setGate_8 : decode cL_setGate 8 = .ok (.ifCond .eq 7, 3) := by decide +kernel
theorem dL_setGate_11 : decode cL_setGate 11 = .ok (.lconst 1, 1) := by decide +kernel
theorem dL_setGate_12 : decode cL_setGate 12 = .ok (.goto 4, 3) := by decide +kernel
theorem dL_setGate_15 : decode cL_setGate 15 = .ok (.lconst 0, 1) := by decide +kernel
theorem dL_setGate_16 : decode cL_setGate 16 = .ok (.lastore, 1) := by decide +kernel
theorem dL_setGate_17 : decode cL_setGate 17 = .ok (.goto 7, 3) := by decide +kernel
theorem dL_setGate_20 : decode cL_setGate 20 = .ok (.astore 4, 2) := by decide +kernel
theorem dL_setGate_22 : decode cL_setGate 22 = .ok (.iconst 1, 1) := by decide +kernel
theorem dL_setGate_23 : decode cL_setGate 23 = .ok (.ireturn, 1) := by decide +kernel
theorem dL_setGate_24 : decode cL_setGate 24 = .ok (.iconst 0, 1) := by decide +kernel
theorem dL_setGate_25 : decode cL_setGate 25 = .ok (.ireturn, 1) := by decide +kernel
set_option maxRecDepth 20000 in
theorem ggL_setMark_X4_setMark : GoodIn wsL_setMark wsX4_setMark := goodIn_ca (goodIn_ca (goodIn_r _ [7, 8, 9, 10, 11, 6, 12, 13, 14, 15, 16, 17, 18, 19, 20, 21, 22, 23, 24, 25, 26, 27, 28, 29, 30, 31, 32] (by decide +kernel) (by decide +kernel)) (goodIn_sub (fun _ h => List.mem_cons_of_mem _ (List.mem_append_left _ (List.mem_append_right _ h))) (by decide +kernel))) (goodIn_sub (fun _ h => List.mem_cons_of_mem _ (List.mem_append_right _ h)) (by decide +kernel))
set_option maxRecDepth 20000 in
theorem gL_setMark_X4_setMark : GoodIn wsL_setMark (wsV RL 23 RX4 yX4_setMark wsX4_setMark) := goodIn_app (goodIn_of _ (by decide +kernel)) ggL_setMark_X4_setMark
theorem dL_setMark_0 : decode cL_setMark 0 = .ok (.aload_n 3, 1) := by decide +kernel
theorem dL_setMark_1 : decode cL_setMark 1 = .ok (.iconst 0, 1) := by decide +kernel
theorem dL_setMark_2 : decode cL_setMark 2 = .ok (.aload_n 0, 1) := by decide +kernel
theorem dL_setMark_3 : decode cL_setMark 3 = .ok (.iload_n 1, 1) := by decide +kernel
theorem dL_setMark_4 : decode cL_setMark 4 = .ok (.iload_n 2, 1) := by decide +kernel
theorem dL_setMark_5 : decode cL_setMark 5 = .ok (.invokevirtual 23, 3) := by decide +kernel
theorem dL_setMark_8 : decode cL_setMark 8 = .ok (.i2l, 1) := by decide +kernel
theorem dL_setMark_9 : decode cL_setMark 9 = .ok (.lastore, 1) := by decide +kernel
theorem dL_setMark_10 : decode cL_setMark 10 = .ok (.goto 11, 3) := by decide +kernel
theorem dL_setMark_13 : decode cL_setMark 13 = .ok (.astore 4, 2) := by decide +kernel
theorem dL_setMark_15 : decode cL_setMark 15 = .ok (.iconst 1, 1) := by decide +kernel
theorem dL_setMark_16 : decode cL_setMark 16 = .ok (.ireturn, 1) := by decide +kernel
theorem dL_setMark_17 : decode cL_setMark 17 = .ok (.astore 4, 2) := by decide +kernel
theorem dL_setMark_19 : decode cL_setMark 19 = .ok (.iconst 2, 1) := by decide +kernel
theorem dL_setMark_20 : decode cL_setMark 20 = .ok (.ireturn, 1) := by decide +kernel
theorem dL_setMark_21 : decode cL_setMark 21 = .ok (.iconst 0, 1) := by decide +kernel
theorem dL_setMark_22 : decode cL_setMark 22 = .ok (.ireturn, 1) := by decide +kernel
set_option maxRecDepth 20000 in
theorem ggL_rain_X4_rain : GoodIn wsL_rain wsX4_rain := goodIn_ca (goodIn_ca (goodIn_r _ [7, 8, 9, 10, 11, 12, 6, 13, 14, 15, 16, 17, 18, 19, 20, 21, 22, 23, 24, 25, 26, 27, 28, 29, 30, 31, 32, 33, 34, 35, 36, 37, 38, 39, 40, 41, 42, 43] (by decide +kernel) (by decide +kernel)) (goodIn_sub (fun _ h => List.mem_cons_of_mem _ (List.mem_append_left _ (List.mem_append_right _ h))) (by decide +kernel))) (goodIn_sub (fun _ h => List.mem_cons_of_mem _ (List.mem_append_right _ h)) (by decide +kernel))
set_option maxRecDepth 20000 in
theorem gL_rain_X4_rain : GoodIn wsL_rain (wsV RL 27 RX4 yX4_rain wsX4_rain) := goodIn_app (goodIn_of _ (by decide +kernel)) ggL_rain_X4_rain
theorem dL_rain_0 : decode cL_rain 0 = .ok (.aload_n 3, 1) := by decide +kernel
theorem dL_rain_1 : decode cL_rain 1 = .ok (.iconst 0, 1) := by decide +kernel
theorem dL_rain_2 : decode cL_rain 2 = .ok (.aload_n 0, 1) := by decide +kernel
theorem dL_rain_3 : decode cL_rain 3 = .ok (.iload_n 1, 1) := by decide +kernel
theorem dL_rain_4 : decode cL_rain 4 = .ok (.iload_n 2, 1) := by decide +kernel
theorem dL_rain_5 : decode cL_rain 5 = .ok (.invokevirtual 27, 3) := by decide +kernel
theorem dL_rain_8 : decode cL_rain 8 = .ok (.i2l, 1) := by decide +kernel
theorem dL_rain_9 : decode cL_rain 9 = .ok (.lastore, 1) := by decide +kernel
theorem dL_rain_10 : decode cL_rain 10 = .ok (.goto 11, 3) := by decide +kernel
theorem dL_rain_13 : decode cL_rain 13 = .ok (.astore 4, 2) := by decide +kernel
theorem dL_rain_15 : decode cL_rain 15 = .ok (.iconst 1, 1) := by decide +kernel
theorem dL_rain_16 : decode cL_rain 16 = .ok (.ireturn, 1) := by decide +kernel
theorem dL_rain_17 : decode cL_rain 17 = .ok (.astore 4, 2) := by decide +kernel
theorem dL_rain_19 : decode cL_rain 19 = .ok (.iconst 2, 1) := by decide +kernel
theorem dL_rain_20 : decode cL_rain 20 = .ok (.ireturn, 1) := by decide +kernel
theorem dL_rain_21 : decode cL_rain 21 = .ok (.iconst 0, 1) := by decide +kernel
theorem dL_rain_22 : decode cL_rain 22 = .ok (.ireturn, 1) := by decide +kernel
set_option maxRecDepth 20000 in
theorem ggL_dry_X4_dry : GoodIn wsL_dry wsX4_dry := goodIn_ca (goodIn_r _ [6, 7, 8, 9, 5, 10, 11, 12, 13, 14, 15, 16, 17, 18, 19, 20, 21, 22, 23, 24, 25, 26, 27, 28, 29, 30, 31, 32, 33, 34, 35, 36, 37, 38, 39] (by decide +kernel) (by decide +kernel)) (goodIn_sub (fun _ h => List.mem_cons_of_mem _ (List.mem_append_right _ h)) (by decide +kernel))
set_option maxRecDepth 20000 in
theorem gL_dry_X4_dry : GoodIn wsL_dry (wsV RL 30 RX4 yX4_dry wsX4_dry) := goodIn_app (goodIn_of _ (by decide +kernel)) ggL_dry_X4_dry
theorem dL_dry_0 : decode cL_dry 0 = .ok (.aload_n 2, 1) := by decide +kernel
theorem dL_dry_1 : decode cL_dry 1 = .ok (.iconst 0, 1) := by decide +kernel
theorem dL_dry_2 : decode cL_dry 2 = .ok (.aload_n 0, 1) := by decide +kernel
theorem dL_dry_3 : decode cL_dry 3 = .ok (.iload_n 1, 1) := by decide +kernel
theorem dL_dry_4 : decode cL_dry 4 = .ok (.invokevirtual 30, 3) := by decide +kernel
theorem dL_dry_7 : decode cL_dry 7 = .ok (.i2l, 1) := by decide +kernel
theorem dL_dry_8 : decode cL_dry 8 = .ok (.lastore, 1) := by decide +kernel
theorem dL_dry_9 : decode cL_dry 9 = .ok (.goto 6, 3) := by decide +kernel
theorem dL_dry_12 : decode cL_dry 12 = .ok (.astore_n 3, 1) := by decide +kernel
theorem dL_dry_13 : decode cL_dry 13 = .ok (.iconst 1, 1) := by decide +kernel
theorem dL_dry_14 : decode cL_dry 14 = .ok (.ireturn, 1) := by decide +kernel
theorem dL_dry_15 : decode cL_dry 15 = .ok (.iconst 0, 1) := by decide +kernel
theorem dL_dry_16 : decode cL_dry 16 = .ok (.ireturn, 1) := by decide +kernel
set_option maxRecDepth 20000 in
theorem ggL_settle_X4_settle : GoodIn wsL_settle wsX4_settle := goodIn_ca (goodIn_r _ [6, 7, 8, 9, 5, 10, 11, 12, 13, 14, 15, 16, 17, 18, 19, 20, 21, 22, 23, 24, 25, 26, 27, 28, 29, 30, 31, 32, 33, 34, 35, 36, 37, 38, 39, 40, 41, 42, 43, 44, 45, 46, 47, 48, 49, 50, 51, 52, 53, 54, 55, 56, 57, 58, 59, 60, 61, 62, 63, 64, 65, 66, 67, 68, 69, 70, 71, 72, 73, 74, 75, 76, 77, 78, 79, 80, 81, 82, 83, 84, 85, 86, 87, 88, 89, 90, 91, 92, 93, 94, 95, 96, 97, 98, 99, 100, 101, 102, 103, 104, 105, 106, 107, 108, 109, 110, 111, 112, 113, 114] (by decide +kernel) (by decide +kernel)) (goodIn_sub (fun _ h => List.mem_cons_of_mem _ (List.mem_append_right _ h)) (by decide +kernel))
set_option maxRecDepth 20000 in
theorem gL_settle_X4_settle : GoodIn wsL_settle (wsV RL 34 RX4 yX4_settle wsX4_settle) := goodIn_app (goodIn_of _ (by decide +kernel)) ggL_settle_X4_settle
theorem dL_settle_0 : decode cL_settle 0 = .ok (.aload_n 2, 1) := by decide +kernel
theorem dL_settle_1 : decode cL_settle 1 = .ok (.iconst 0, 1) := by decide +kernel
theorem dL_settle_2 : decode cL_settle 2 = .ok (.aload_n 0, 1) := by decide +kernel
theorem dL_settle_3 : decode cL_settle 3 = .ok (.iload_n 1, 1) := by decide +kernel
theorem dL_settle_4 : decode cL_settle 4 = .ok (.invokevirtual 34, 3) := by decide +kernel
theorem dL_settle_7 : decode cL_settle 7 = .ok (.i2l, 1) := by decide +kernel
theorem dL_settle_8 : decode cL_settle 8 = .ok (.lastore, 1) := by decide +kernel
theorem dL_settle_9 : decode cL_settle 9 = .ok (.goto 6, 3) := by decide +kernel
theorem dL_settle_12 : decode cL_settle 12 = .ok (.astore_n 3, 1) := by decide +kernel
theorem dL_settle_13 : decode cL_settle 13 = .ok (.iconst 1, 1) := by decide +kernel
theorem dL_settle_14 : decode cL_settle 14 = .ok (.ireturn, 1) := by decide +kernel
theorem dL_settle_15 : decode cL_settle 15 = .ok (.iconst 0, 1) := by decide +kernel
theorem dL_settle_16 : decode cL_settle 16 = .ok (.ireturn, 1) := by decide +kernel
set_option maxRecDepth 20000 in
theorem ggL_setOut_X4_setOut : GoodIn wsL_setOut wsX4_setOut := goodIn_ca (goodIn_ca (goodIn_ca (goodIn_r _ [8, 9, 10, 11, 12, 13, 14, 15, 16, 17, 18, 19, 7, 20, 21, 22, 23, 24, 25, 26, 27, 28, 29, 30, 31, 32, 33, 34, 35, 36, 37, 38, 39, 40, 41, 42, 43, 44, 45, 46, 47, 48, 49, 50, 51, 52, 53, 54, 55, 56, 57, 58, 59, 60, 61, 62, 63, 64, 65, 66, 67, 68, 69, 70, 71, 72, 73, 74, 75, 76, 77, 78, 79, 80, 81, 82, 83, 84, 85, 86, 87, 88, 89, 90, 91, 92, 93, 94, 95, 96, 97, 98, 99, 100, 101, 102, 103, 104, 105, 106, 107, 108, 109, 110, 111, 112, 113, 114, 115, 116, 117, 118, 119, 120, 121, 122, 123, 124, 125, 126, 127, 128, 129, 130, 131, 132, 133] (by decide +kernel) (by decide +kernel)) (goodIn_sub (fun _ h => List.mem_cons_of_mem _ (List.mem_append_left _ (List.mem_append_left _ (List.mem_append_right _ h)))) (by decide +kernel))) (goodIn_sub (fun _ h => List.mem_cons_of_mem _ (List.mem_append_left _ (List.mem_append_right _ h))) (by decide +kernel))) (goodIn_sub (fun _ h => List.mem_cons_of_mem _ (List.mem_append_right _ h)) (by decide +kernel))
set_option maxRecDepth 20000 in
theorem gL_setOut_X4_setOut : GoodIn wsL_setOut (wsV RL 37 RX4 yX4_setOut wsX4_setOut) := goodIn_app (goodIn_of _ (by decide +kernel)) ggL_setOut_X4_setOut
theorem dL_setOut_0 : decode cL_setOut 0 = .ok (.aload 4, 2) := by decide +kernel
theorem dL_setOut_2 : decode cL_setOut 2 = .ok (.iconst 0, 1) := by decide +kernel
theorem dL_setOut_3 : decode cL_setOut 3 = .ok (.aload_n 0, 1) := by decide +kernel
theorem dL_setOut_4 : decode cL_setOut 4 = .ok (.iload_n 1, 1) := by decide +kernel
theorem dL_setOut_5 : decode cL_setOut 5 = .ok (.iload_n 2, 1) := by decide +kernel
theorem dL_setOut_6 : decode cL_setOut 6 = .ok (.iload_n 3, 1) := by decide +kernel
theorem dL_setOut_7 : decode cL_setOut 7 = .ok (.invokevirtual 37, 3) := by decide +kernel
theorem dL_setOut_10 : decode cL_setOut 10 = .ok (.i2l, 1) := by decide +kernel
theorem dL_setOut_11 : decode cL_setOut 11 = .ok (.lastore, 1) := by decide +kernel
theorem dL_setOut_12 : decode cL_setOut 12 = .ok (.goto 15, 3) := by decide +kernel
theorem dL_setOut_15 : decode cL_setOut 15 = .ok (.astore 5, 2) := by decide +kernel
theorem dL_setOut_17 : decode cL_setOut 17 = .ok (.iconst 1, 1) := by decide +kernel
theorem dL_setOut_18 : decode cL_setOut 18 = .ok (.ireturn, 1) := by decide +kernel
theorem dL_setOut_19 : decode cL_setOut 19 = .ok (.astore 5, 2) := by decide +kernel
theorem dL_setOut_21 : decode cL_setOut 21 = .ok (.iconst 2, 1) := by decide +kernel
theorem dL_setOut_22 : decode cL_setOut 22 = .ok (.ireturn, 1) := by decide +kernel
theorem dL_setOut_23 : decode cL_setOut 23 = .ok (.astore 5, 2) := by decide +kernel
theorem dL_setOut_25 : decode cL_setOut 25 = .ok (.iconst 3, 1) := by decide +kernel
theorem dL_setOut_26 : decode cL_setOut 26 = .ok (.ireturn, 1) := by decide +kernel
theorem dL_setOut_27 : decode cL_setOut 27 = .ok (.iconst 0, 1) := by decide +kernel
theorem dL_setOut_28 : decode cL_setOut 28 = .ok (.ireturn, 1) := by decide +kernel
set_option maxRecDepth 20000 in
theorem ggL_move_X4_move : GoodIn wsL_move wsX4_move := goodIn_ca (goodIn_ca (goodIn_r _ [7, 8, 9, 10, 11, 12, 6, 13, 14, 15, 16, 17, 18, 19, 20, 21, 22, 23, 24, 25, 26, 27, 28, 29, 30, 31, 32, 33, 34, 35, 36, 37, 38, 39, 40, 41, 42, 43, 44, 45, 46, 47, 48, 49, 50, 51, 52, 53, 54, 55, 56, 57, 58, 59, 60, 61, 62, 63, 64, 65, 66, 67, 68, 69, 70, 71, 72, 73, 74, 75, 76, 77, 78, 79, 80, 81, 82, 83, 84, 85, 86, 87, 88, 89, 90, 91, 92, 93, 94, 95, 96, 97, 98, 99, 100, 101, 102, 103, 104, 105, 106, 107, 108, 109, 110, 111, 112, 113, 114, 115, 116, 117, 118, 119, 120, 121, 122, 123, 124, 125, 126, 127, 128, 129, 130, 131, 132, 133, 134, 135, 136, 137, 138, 139, 140, 141, 142, 143, 144, 145, 146, 147, 148, 149, 150, 151, 152, 153, 154, 155, 156, 157, 158, 159, 160, 161, 162, 163, 164, 165, 166, 167, 168, 169, 170, 171, 172, 173, 174, 175, 176, 177, 178, 179, 180, 181, 182, 183, 184, 185, 186, 187, 188, 189, 190, 191, 192, 193, 194, 195, 196, 197, 198, 199, 200, 201, 202, 203, 204, 205, 206, 207, 208] (by decide +kernel) (by decide +kernel)) (goodIn_sub (fun _ h => List.mem_cons_of_mem _ (List.mem_append_left _ (List.mem_append_right _ h))) (by decide +kernel))) (goodIn_sub (fun _ h => List.mem_cons_of_mem _ (List.mem_append_right _ h)) (by decide +kernel))
set_option maxRecDepth 20000 in
theorem gL_move_X4_move : GoodIn wsL_move (wsV RL 41 RX4 yX4_move wsX4_move) := goodIn_app (goodIn_of _ (by decide +kernel)) ggL_move_X4_move
theorem dL_move_0 : decode cL_move 0 = .ok (.aload_n 2, 1) := by decide +kernel
theorem dL_move_1 : decode cL_move 1 = .ok (.iconst 0, 1) := by decide +kernel
theorem dL_move_2 : decode cL_move 2 = .ok (.aload_n 0, 1) := by decide +kernel
theorem dL_move_3 : decode cL_move 3 = .ok (.iload_n 1, 1) := by decide +kernel
theorem dL_move_4 : decode cL_move 4 = .ok (.invokevirtual 41, 3) := by decide +kernel
theorem dL_move_7 : decode cL_move 7 = .ok (.i2l, 1) := by decide +kernel
theorem dL_move_8 : decode cL_move 8 = .ok (.lastore, 1) := by decide +kernel
theorem dL_move_9 : decode cL_move 9 = .ok (.goto 9, 3) := by decide +kernel
theorem dL_move_12 : decode cL_move 12 = .ok (.astore_n 3, 1) := by decide +kernel
theorem dL_move_13 : decode cL_move 13 = .ok (.iconst 1, 1) := by decide +kernel
theorem dL_move_14 : decode cL_move 14 = .ok (.ireturn, 1) := by decide +kernel
theorem dL_move_15 : decode cL_move 15 = .ok (.astore_n 3, 1) := by decide +kernel
theorem dL_move_16 : decode cL_move 16 = .ok (.iconst 2, 1) := by decide +kernel
theorem dL_move_17 : decode cL_move 17 = .ok (.ireturn, 1) := by decide +kernel
theorem dL_move_18 : decode cL_move 18 = .ok (.iconst 0, 1) := by decide +kernel
theorem dL_move_19 : decode cL_move 19 = .ok (.ireturn, 1) := by decide +kernel
set_option maxRecDepth 20000 in
theorem ggL_water_X4_water : GoodIn wsL_water wsX4_water := goodIn_ca (goodIn_r _ [6, 7, 8, 9, 10, 5, 11, 12, 13, 14, 15, 16, 17, 18, 19, 20, 21, 22, 23, 24, 25, 26] (by decide +kernel) (by decide +kernel)) (goodIn_sub (fun _ h => List.mem_cons_of_mem _ (List.mem_append_right _ h)) (by decide +kernel))
set_option maxRecDepth 20000 in
theorem gL_water_X4_water : GoodIn wsL_water (wsV RL 44 RX4 yX4_water wsX4_water) := goodIn_app (goodIn_of _ (by decide +kernel)) ggL_water_X4_water
theorem dL_water_0 : decode cL_water 0 = .ok (.aload_n 2, 1) := by decide +kernel
theorem dL_water_1 : decode cL_water 1 = .ok (.iconst 0, 1) := by decide +kernel
theorem dL_water_2 : decode cL_water 2 = .ok (.aload_n 0, 1) := by decide +kernel
theorem dL_water_3 : decode cL_water 3 = .ok (.iload_n 1, 1) := by decide +kernel
theorem dL_water_4 : decode cL_water 4 = .ok (.invokevirtual 44, 3) := by decide +kernel
theorem dL_water_7 : decode cL_water 7 = .ok (.i2l, 1) := by decide +kernel
theorem dL_water_8 : decode cL_water 8 = .ok (.lastore, 1) := by decide +kernel
theorem dL_water_9 : decode cL_water 9 = .ok (.goto 6, 3) := by decide +kernel
theorem dL_water_12 : decode cL_water 12 = .ok (.astore_n 3, 1) := by decide +kernel
theorem dL_water_13 : decode cL_water 13 = .ok (.iconst 1, 1) := by decide +kernel
theorem dL_water_14 : decode cL_water 14 = .ok (.ireturn, 1) := by decide +kernel
theorem dL_water_15 : decode cL_water 15 = .ok (.iconst 0, 1) := by decide +kernel
theorem dL_water_16 : decode cL_water 16 = .ok (.ireturn, 1) := by decide +kernel
set_option maxRecDepth 20000 in
theorem ggL_cost_X4_cost : GoodIn wsL_cost wsX4_cost := goodIn_ca (goodIn_r _ [6, 7, 8, 9, 5, 10, 11, 12, 13, 14, 15, 16, 17, 18, 19, 20, 21, 22, 23, 24, 25, 26, 27, 28, 29, 30, 31, 32, 33, 34, 35, 36, 37, 38, 39, 40, 41, 42, 43, 44, 45, 46, 47, 48, 49, 50, 51, 52, 53, 54, 55, 56, 57, 58, 59, 60, 61, 62, 63, 64, 65, 66, 67, 68, 69, 70, 71, 72] (by decide +kernel) (by decide +kernel)) (goodIn_sub (fun _ h => List.mem_cons_of_mem _ (List.mem_append_right _ h)) (by decide +kernel))
set_option maxRecDepth 20000 in
theorem gL_cost_X4_cost : GoodIn wsL_cost (wsV RL 47 RX4 yX4_cost wsX4_cost) := goodIn_app (goodIn_of _ (by decide +kernel)) ggL_cost_X4_cost
theorem dL_cost_0 : decode cL_cost 0 = .ok (.aload_n 2, 1) := by decide +kernel
theorem dL_cost_1 : decode cL_cost 1 = .ok (.iconst 0, 1) := by decide +kernel
theorem dL_cost_2 : decode cL_cost 2 = .ok (.aload_n 0, 1) := by decide +kernel
theorem dL_cost_3 : decode cL_cost 3 = .ok (.iload_n 1, 1) := by decide +kernel
theorem dL_cost_4 : decode cL_cost 4 = .ok (.invokevirtual 47, 3) := by decide +kernel
theorem dL_cost_7 : decode cL_cost 7 = .ok (.i2l, 1) := by decide +kernel
theorem dL_cost_8 : decode cL_cost 8 = .ok (.lastore, 1) := by decide +kernel
theorem dL_cost_9 : decode cL_cost 9 = .ok (.goto 6, 3) := by decide +kernel
theorem dL_cost_12 : decode cL_cost 12 = .ok (.astore_n 3, 1) := by decide +kernel
theorem dL_cost_13 : decode cL_cost 13 = .ok (.iconst 1, 1) := by decide +kernel
theorem dL_cost_14 : decode cL_cost 14 = .ok (.ireturn, 1) := by decide +kernel
theorem dL_cost_15 : decode cL_cost 15 = .ok (.iconst 0, 1) := by decide +kernel
theorem dL_cost_16 : decode cL_cost 16 = .ok (.ireturn, 1) := by decide +kernel
set_option maxRecDepth 20000 in
theorem ggL_canPass_X4_canPass : GoodIn wsL_canPass wsX4_canPass := goodIn_ca (goodIn_r _ [6, 7, 8, 9, 5, 10, 11, 12, 13, 14, 15, 16, 17, 18, 19, 20, 21, 22, 23, 24, 25, 26, 27, 28, 29, 30, 31, 32, 33, 34, 35, 36, 37, 38, 39, 40, 41, 42, 43, 44, 45, 46, 47, 48, 49, 50, 51, 52, 53, 54, 55, 56, 57, 58, 59, 60, 61, 62, 63, 64, 65, 66, 67] (by decide +kernel) (by decide +kernel)) (goodIn_sub (fun _ h => List.mem_cons_of_mem _ (List.mem_append_right _ h)) (by decide +kernel))
set_option maxRecDepth 20000 in
theorem gL_canPass_X4_canPass : GoodIn wsL_canPass (wsV RL 50 RX4 yX4_canPass wsX4_canPass) := goodIn_app (goodIn_of _ (by decide +kernel)) ggL_canPass_X4_canPass
theorem dL_canPass_0 : decode cL_canPass 0 = .ok (.aload_n 2, 1) := by decide +kernel
theorem dL_canPass_1 : decode cL_canPass 1 = .ok (.iconst 0, 1) := by decide +kernel
theorem dL_canPass_2 : decode cL_canPass 2 = .ok (.aload_n 0, 1) := by decide +kernel
theorem dL_canPass_3 : decode cL_canPass 3 = .ok (.iload_n 1, 1) := by decide +kernel
theorem dL_canPass_4 : decode cL_canPass 4 = .ok (.invokevirtual 50, 3) := by decide +kernel
theorem dL_canPass_7 : decode cL_canPass 7 = .ok (.ifCond .eq 7, 3) := by decide +kernel
theorem dL_canPass_10 : decode cL_canPass 10 = .ok (.lconst 1, 1) := by decide +kernel
theorem dL_canPass_11 : decode cL_canPass 11 = .ok (.goto 4, 3) := by decide +kernel
theorem dL_canPass_14 : decode cL_canPass 14 = .ok (.lconst 0, 1) := by decide +kernel
theorem dL_canPass_15 : decode cL_canPass 15 = .ok (.lastore, 1) := by decide +kernel
theorem dL_canPass_16 : decode cL_canPass 16 = .ok (.goto 6, 3) := by decide +kernel
theorem dL_canPass_19 : decode cL_canPass 19 = .ok (.astore_n 3, 1) := by decide +kernel
theorem dL_canPass_20 : decode cL_canPass 20 = .ok (.iconst 1, 1) := by decide +kernel
theorem dL_canPass_21 : decode cL_canPass 21 = .ok (.ireturn, 1) := by decide +kernel
theorem dL_canPass_22 : decode cL_canPass 22 = .ok (.iconst 0, 1) := by decide +kernel
theorem dL_canPass_23 : decode cL_canPass 23 = .ok (.ireturn, 1) := by decide +kernel
set_option maxRecDepth 20000 in
theorem ggL_distance_X4_distance : GoodIn wsL_distance wsX4_distance := goodIn_ca (goodIn_r _ [6, 7, 8, 9, 10, 11, 12, 5, 13, 14, 15, 16, 17, 18, 19, 20, 21, 22, 23, 24, 25, 26, 27, 28, 29, 30] (by decide +kernel) (by decide +kernel)) (goodIn_sub (fun _ h => List.mem_cons_of_mem _ (List.mem_append_right _ h)) (by decide +kernel))
set_option maxRecDepth 20000 in
theorem gL_distance_X4_distance : GoodIn wsL_distance (wsV RL 54 RX4 yX4_distance wsX4_distance) := goodIn_app (goodIn_of _ (by decide +kernel)) ggL_distance_X4_distance
theorem dL_distance_0 : decode cL_distance 0 = .ok (.aload_n 3, 1) := by decide +kernel
theorem dL_distance_1 : decode cL_distance 1 = .ok (.iconst 0, 1) := by decide +kernel
theorem dL_distance_2 : decode cL_distance 2 = .ok (.aload_n 0, 1) := by decide +kernel
theorem dL_distance_3 : decode cL_distance 3 = .ok (.iload_n 1, 1) := by decide +kernel
theorem dL_distance_4 : decode cL_distance 4 = .ok (.iload_n 2, 1) := by decide +kernel
theorem dL_distance_5 : decode cL_distance 5 = .ok (.invokevirtual 54, 3) := by decide +kernel
theorem dL_distance_8 : decode cL_distance 8 = .ok (.i2l, 1) := by decide +kernel
theorem dL_distance_9 : decode cL_distance 9 = .ok (.lastore, 1) := by decide +kernel
theorem dL_distance_10 : decode cL_distance 10 = .ok (.goto 7, 3) := by decide +kernel
theorem dL_distance_13 : decode cL_distance 13 = .ok (.astore 4, 2) := by decide +kernel
theorem dL_distance_15 : decode cL_distance 15 = .ok (.iconst 1, 1) := by decide +kernel
theorem dL_distance_16 : decode cL_distance 16 = .ok (.ireturn, 1) := by decide +kernel
theorem dL_distance_17 : decode cL_distance 17 = .ok (.iconst 0, 1) := by decide +kernel
theorem dL_distance_18 : decode cL_distance 18 = .ok (.ireturn, 1) := by decide +kernel
set_option maxRecDepth 20000 in
theorem ggL_canalTo_X4_canalTo : GoodIn wsL_canalTo wsX4_canalTo := goodIn_ca (goodIn_r _ [6, 7, 8, 9, 10, 5, 11, 12, 13, 14, 15, 16, 17, 18, 19, 20, 21, 22, 23, 24, 25, 26, 27, 28, 29, 30, 31, 32, 33, 34, 35, 36, 37, 38, 39, 40, 41, 42] (by decide +kernel) (by decide +kernel)) (goodIn_sub (fun _ h => List.mem_cons_of_mem _ (List.mem_append_right _ h)) (by decide +kernel))
set_option maxRecDepth 20000 in
theorem gL_canalTo_X4_canalTo : GoodIn wsL_canalTo (wsV RL 57 RX4 yX4_canalTo wsX4_canalTo) := goodIn_app (goodIn_of _ (by decide +kernel)) ggL_canalTo_X4_canalTo
theorem dL_canalTo_0 : decode cL_canalTo 0 = .ok (.aload_n 3, 1) := by decide +kernel
theorem dL_canalTo_1 : decode cL_canalTo 1 = .ok (.iconst 0, 1) := by decide +kernel
theorem dL_canalTo_2 : decode cL_canalTo 2 = .ok (.aload_n 0, 1) := by decide +kernel
theorem dL_canalTo_3 : decode cL_canalTo 3 = .ok (.iload_n 1, 1) := by decide +kernel
theorem dL_canalTo_4 : decode cL_canalTo 4 = .ok (.iload_n 2, 1) := by decide +kernel
theorem dL_canalTo_5 : decode cL_canalTo 5 = .ok (.invokevirtual 57, 3) := by decide +kernel
theorem dL_canalTo_8 : decode cL_canalTo 8 = .ok (.i2l, 1) := by decide +kernel
theorem dL_canalTo_9 : decode cL_canalTo 9 = .ok (.lastore, 1) := by decide +kernel
theorem dL_canalTo_10 : decode cL_canalTo 10 = .ok (.goto 7, 3) := by decide +kernel
theorem dL_canalTo_13 : decode cL_canalTo 13 = .ok (.astore 4, 2) := by decide +kernel
theorem dL_canalTo_15 : decode cL_canalTo 15 = .ok (.iconst 1, 1) := by decide +kernel
theorem dL_canalTo_16 : decode cL_canalTo 16 = .ok (.ireturn, 1) := by decide +kernel
theorem dL_canalTo_17 : decode cL_canalTo 17 = .ok (.iconst 0, 1) := by decide +kernel
theorem dL_canalTo_18 : decode cL_canalTo 18 = .ok (.ireturn, 1) := by decide +kernel
set_option maxRecDepth 20000 in
theorem ggL_cheapest_X4_cheapest : GoodIn wsL_cheapest wsX4_cheapest := goodIn_ca (goodIn_r _ [6, 7, 8, 9, 10, 11, 5, 12, 13, 14, 15, 16, 17, 18, 19, 20, 21, 22, 23, 24, 25, 26, 27, 28, 29, 30, 31, 32, 33, 34, 35, 36, 37, 38, 39, 40, 41, 42, 43, 44, 45, 46, 47, 48, 49, 50, 51, 52, 53, 54, 55, 56, 57, 58, 59, 60, 61, 62, 63, 64, 65, 66, 67, 68, 69, 70, 71, 72, 73, 74, 75, 76, 77, 78, 79, 80, 81, 82, 83, 84, 85, 86] (by decide +kernel) (by decide +kernel)) (goodIn_sub (fun _ h => List.mem_cons_of_mem _ (List.mem_append_right _ h)) (by decide +kernel))
set_option maxRecDepth 20000 in
theorem gL_cheapest_X4_cheapest : GoodIn wsL_cheapest (wsV RL 60 RX4 yX4_cheapest wsX4_cheapest) := goodIn_app (goodIn_of _ (by decide +kernel)) ggL_cheapest_X4_cheapest
theorem dL_cheapest_0 : decode cL_cheapest 0 = .ok (.aload_n 3, 1) := by decide +kernel
theorem dL_cheapest_1 : decode cL_cheapest 1 = .ok (.iconst 0, 1) := by decide +kernel
theorem dL_cheapest_2 : decode cL_cheapest 2 = .ok (.aload_n 0, 1) := by decide +kernel
theorem dL_cheapest_3 : decode cL_cheapest 3 = .ok (.iload_n 1, 1) := by decide +kernel
theorem dL_cheapest_4 : decode cL_cheapest 4 = .ok (.iload_n 2, 1) := by decide +kernel
theorem dL_cheapest_5 : decode cL_cheapest 5 = .ok (.invokevirtual 60, 3) := by decide +kernel
theorem dL_cheapest_8 : decode cL_cheapest 8 = .ok (.i2l, 1) := by decide +kernel
theorem dL_cheapest_9 : decode cL_cheapest 9 = .ok (.lastore, 1) := by decide +kernel
theorem dL_cheapest_10 : decode cL_cheapest 10 = .ok (.goto 7, 3) := by decide +kernel
theorem dL_cheapest_13 : decode cL_cheapest 13 = .ok (.astore 4, 2) := by decide +kernel
theorem dL_cheapest_15 : decode cL_cheapest 15 = .ok (.iconst 1, 1) := by decide +kernel
theorem dL_cheapest_16 : decode cL_cheapest 16 = .ok (.ireturn, 1) := by decide +kernel
theorem dL_cheapest_17 : decode cL_cheapest 17 = .ok (.iconst 0, 1) := by decide +kernel
theorem dL_cheapest_18 : decode cL_cheapest 18 = .ok (.ireturn, 1) := by decide +kernel
set_option maxRecDepth 20000 in
theorem ggL_isLoop_X4_isLoop : GoodIn wsL_isLoop wsX4_isLoop := goodIn_ca (goodIn_r _ [6, 7, 8, 9, 5, 10, 11, 12, 13, 14, 15, 16, 17, 18, 19, 20, 21, 22, 23, 24, 25, 26, 27, 28, 29, 30, 31, 32, 33, 34, 35, 36, 37, 38, 39, 40, 41, 42, 43, 44, 45, 46, 47, 48, 49, 50, 51] (by decide +kernel) (by decide +kernel)) (goodIn_sub (fun _ h => List.mem_cons_of_mem _ (List.mem_append_right _ h)) (by decide +kernel))
set_option maxRecDepth 20000 in
theorem gL_isLoop_X4_isLoop : GoodIn wsL_isLoop (wsV RL 63 RX4 yX4_isLoop wsX4_isLoop) := goodIn_app (goodIn_of _ (by decide +kernel)) ggL_isLoop_X4_isLoop
theorem dL_isLoop_0 : decode cL_isLoop 0 = .ok (.aload_n 3, 1) := by decide +kernel
theorem dL_isLoop_1 : decode cL_isLoop 1 = .ok (.iconst 0, 1) := by decide +kernel
theorem dL_isLoop_2 : decode cL_isLoop 2 = .ok (.aload_n 0, 1) := by decide +kernel
theorem dL_isLoop_3 : decode cL_isLoop 3 = .ok (.iload_n 1, 1) := by decide +kernel
theorem dL_isLoop_4 : decode cL_isLoop 4 = .ok (.iload_n 2, 1) := by decide +kernel
theorem dL_isLoop_5 : decode cL_isLoop 5 = .ok (.invokevirtual 63, 3) := by decide +kernel
theorem dL_isLoop_8 : decode cL_isLoop 8 = .ok (.ifCond .eq 7, 3) := by decide +kernel
theorem dL_isLoop_11 : decode cL_isLoop 11 = .ok (.lconst 1, 1) := by decide +kernel
theorem dL_isLoop_12 : decode cL_isLoop 12 = .ok (.goto 4, 3) := by decide +kernel
theorem dL_isLoop_15 : decode cL_isLoop 15 = .ok (.lconst 0, 1) := by decide +kernel
theorem dL_isLoop_16 : decode cL_isLoop 16 = .ok (.lastore, 1) := by decide +kernel
theorem dL_isLoop_17 : decode cL_isLoop 17 = .ok (.goto 7, 3) := by decide +kernel
theorem dL_isLoop_20 : decode cL_isLoop 20 = .ok (.astore 4, 2) := by decide +kernel
theorem dL_isLoop_22 : decode cL_isLoop 22 = .ok (.iconst 1, 1) := by decide +kernel
theorem dL_isLoop_23 : decode cL_isLoop 23 = .ok (.ireturn, 1) := by decide +kernel
theorem dL_isLoop_24 : decode cL_isLoop 24 = .ok (.iconst 0, 1) := by decide +kernel
theorem dL_isLoop_25 : decode cL_isLoop 25 = .ok (.ireturn, 1) := by decide +kernel
set_option maxRecDepth 20000 in
theorem ggL_state_X4_state : GoodIn wsL_state wsX4_state := goodIn_ca (goodIn_r _ [6, 7, 8, 9, 10, 5, 11, 12, 13, 14, 15, 16, 17, 18, 19, 20, 21, 22, 23, 24, 25, 26, 27, 28, 29, 30, 31, 32, 33, 34, 35, 36, 37, 38, 39, 40, 41, 42, 43, 44, 45, 46, 47, 48, 49, 50, 51, 52, 53, 54, 55, 56] (by decide +kernel) (by decide +kernel)) (goodIn_sub (fun _ h => List.mem_cons_of_mem _ (List.mem_append_right _ h)) (by decide +kernel))
set_option maxRecDepth 20000 in
theorem gL_state_X4_state : GoodIn wsL_state (wsV RL 67 RX4 yX4_state wsX4_state) := goodIn_app (goodIn_of _ (by decide +kernel)) ggL_state_X4_state
theorem dL_state_0 : decode cL_state 0 = .ok (.aload_n 2, 1) := by decide +kernel
theorem dL_state_1 : decode cL_state 1 = .ok (.iconst 0, 1) := by decide +kernel
theorem dL_state_2 : decode cL_state 2 = .ok (.aload_n 0, 1) := by decide +kernel
theorem dL_state_3 : decode cL_state 3 = .ok (.iload_n 1, 1) := by decide +kernel
theorem dL_state_4 : decode cL_state 4 = .ok (.invokevirtual 67, 3) := by decide +kernel
theorem dL_state_7 : decode cL_state 7 = .ok (.i2l, 1) := by decide +kernel
theorem dL_state_8 : decode cL_state 8 = .ok (.lastore, 1) := by decide +kernel
theorem dL_state_9 : decode cL_state 9 = .ok (.goto 6, 3) := by decide +kernel
theorem dL_state_12 : decode cL_state 12 = .ok (.astore_n 3, 1) := by decide +kernel
theorem dL_state_13 : decode cL_state 13 = .ok (.iconst 1, 1) := by decide +kernel
theorem dL_state_14 : decode cL_state 14 = .ok (.ireturn, 1) := by decide +kernel
theorem dL_state_15 : decode cL_state 15 = .ok (.iconst 0, 1) := by decide +kernel
theorem dL_state_16 : decode cL_state 16 = .ok (.ireturn, 1) := by decide +kernel
set_option maxRecDepth 20000 in
theorem ggL_basinOf_X4_basinOf : GoodIn wsL_basinOf wsX4_basinOf := goodIn_ca (goodIn_r _ [6, 7, 8, 9, 10, 11, 5, 12, 13, 14, 15, 16, 17, 18, 19, 20, 21, 22, 23, 24, 25, 26, 27, 28, 29, 30, 31, 32, 33, 34, 35, 36, 37, 38, 39, 40, 41, 42, 43, 44, 45, 46, 47, 48, 49, 50, 51, 52, 53, 54, 55, 56, 57, 58, 59, 60, 61, 62, 63] (by decide +kernel) (by decide +kernel)) (goodIn_sub (fun _ h => List.mem_cons_of_mem _ (List.mem_append_right _ h)) (by decide +kernel))
set_option maxRecDepth 20000 in
theorem gL_basinOf_X4_basinOf : GoodIn wsL_basinOf (wsV RL 70 RX4 yX4_basinOf wsX4_basinOf) := goodIn_app (goodIn_of _ (by decide +kernel)) ggL_basinOf_X4_basinOf
theorem dL_basinOf_0 : decode cL_basinOf 0 = .ok (.aload_n 2, 1) := by decide +kernel
theorem dL_basinOf_1 : decode cL_basinOf 1 = .ok (.iconst 0, 1) := by decide +kernel
theorem dL_basinOf_2 : decode cL_basinOf 2 = .ok (.aload_n 0, 1) := by decide +kernel
theorem dL_basinOf_3 : decode cL_basinOf 3 = .ok (.iload_n 1, 1) := by decide +kernel
theorem dL_basinOf_4 : decode cL_basinOf 4 = .ok (.invokevirtual 70, 3) := by decide +kernel
theorem dL_basinOf_7 : decode cL_basinOf 7 = .ok (.i2l, 1) := by decide +kernel
theorem dL_basinOf_8 : decode cL_basinOf 8 = .ok (.lastore, 1) := by decide +kernel
theorem dL_basinOf_9 : decode cL_basinOf 9 = .ok (.goto 6, 3) := by decide +kernel
theorem dL_basinOf_12 : decode cL_basinOf 12 = .ok (.astore_n 3, 1) := by decide +kernel
theorem dL_basinOf_13 : decode cL_basinOf 13 = .ok (.iconst 1, 1) := by decide +kernel
theorem dL_basinOf_14 : decode cL_basinOf 14 = .ok (.ireturn, 1) := by decide +kernel
theorem dL_basinOf_15 : decode cL_basinOf 15 = .ok (.iconst 0, 1) := by decide +kernel
theorem dL_basinOf_16 : decode cL_basinOf 16 = .ok (.ireturn, 1) := by decide +kernel
set_option maxRecDepth 20000 in
theorem ggL_hops_X4_hops : GoodIn wsL_hops wsX4_hops := goodIn_ca (goodIn_r _ [6, 7, 8, 9, 10, 5, 11, 12, 13, 14, 15, 16, 17, 18, 19, 20, 21, 22, 23, 24, 25, 26, 27, 28, 29, 30, 31, 32, 33, 34, 35, 36, 37, 38, 39, 40, 41, 42, 43, 44, 45, 46, 47, 48, 49, 50, 51, 52, 53, 54, 55, 56] (by decide +kernel) (by decide +kernel)) (goodIn_sub (fun _ h => List.mem_cons_of_mem _ (List.mem_append_right _ h)) (by decide +kernel))
set_option maxRecDepth 20000 in
theorem gL_hops_X4_hops : GoodIn wsL_hops (wsV RL 73 RX4 yX4_hops wsX4_hops) := goodIn_app (goodIn_of _ (by decide +kernel)) ggL_hops_X4_hops
