theorem dX0_init_0 : decode cX0_init 0 = .ok (.aload_n 0, 1) := by decide +kernel
theorem dX0_init_1 : decode cX0_init 1 = .ok (.invokespecial 3, 3) := by decide +kernel
theorem dX0_init_4 : decode cX0_init 4 = .ok (.aload_n 0, 1) := by decide +kernel
theorem dX0_init_5 : decode cX0_init 5 = .ok (.iconst 0, 1) := by decide +kernel
theorem dX0_init_6 : decode cX0_init 6 = .ok (.putfield 9, 3) := by decide +kernel
theorem dX0_init_9 : decode cX0_init 9 = .ok (.aload_n 0, 1) := by decide +kernel
theorem dX0_init_10 : decode cX0_init 10 = .ok (.iconst 0, 1) := by decide +kernel
theorem dX0_init_11 : decode cX0_init 11 = .ok (.putfield 15, 3) := by decide +kernel
theorem dX0_init_14 : decode cX0_init 14 = .ok (.aload_n 0, 1) := by decide +kernel
theorem dX0_init_15 : decode cX0_init 15 = .ok (.iconst 0, 1) := by decide +kernel
theorem dX0_init_16 : decode cX0_init 16 = .ok (.putfield 18, 3) := by decide +kernel
theorem dX0_init_19 : decode cX0_init 19 = .ok (.return_, 1) := by decide +kernel
theorem dX0_clear_0 : decode cX0_clear 0 = .ok (.aload_n 0, 1) := by decide +kernel
theorem dX0_clear_1 : decode cX0_clear 1 = .ok (.iconst 0, 1) := by decide +kernel
theorem dX0_clear_2 : decode cX0_clear 2 = .ok (.putfield 9, 3) := by decide +kernel
theorem dX0_clear_5 : decode cX0_clear 5 = .ok (.aload_n 0, 1) := by decide +kernel
theorem dX0_clear_6 : decode cX0_clear 6 = .ok (.iconst 0, 1) := by decide +kernel
theorem dX0_clear_7 : decode cX0_clear 7 = .ok (.putfield 15, 3) := by decide +kernel
theorem dX0_clear_10 : decode cX0_clear 10 = .ok (.aload_n 0, 1) := by decide +kernel
theorem dX0_clear_11 : decode cX0_clear 11 = .ok (.iconst 0, 1) := by decide +kernel
theorem dX0_clear_12 : decode cX0_clear 12 = .ok (.putfield 18, 3) := by decide +kernel
theorem dX0_clear_15 : decode cX0_clear 15 = .ok (.return_, 1) := by decide +kernel
theorem dX0_count_0 : decode cX0_count 0 = .ok (.iload_n 1, 1) := by decide +kernel
theorem dX0_count_1 : decode cX0_count 1 = .ok (.iload_n 2, 1) := by decide +kernel
theorem dX0_count_2 : decode cX0_count 2 = .ok (.if_icmp .le 16, 3) := by decide +kernel
theorem dX0_count_5 : decode cX0_count 5 = .ok (.aload_n 0, 1) := by decide +kernel
theorem dX0_count_6 : decode cX0_count 6 = .ok (.dup, 1) := by decide +kernel
theorem dX0_count_7 : decode cX0_count 7 = .ok (.getfield 15, 3) := by decide +kernel
theorem dX0_count_10 : decode cX0_count 10 = .ok (.iconst 1, 1) := by decide +kernel
theorem dX0_count_11 : decode cX0_count 11 = .ok (.iadd, 1) := by decide +kernel
theorem dX0_count_12 : decode cX0_count 12 = .ok (.putfield 15, 3) := by decide +kernel
theorem dX0_count_15 : decode cX0_count 15 = .ok (.goto 18, 3) := by decide +kernel
theorem dX0_count_18 : decode cX0_count 18 = .ok (.iload_n 2, 1) := by decide +kernel
theorem dX0_count_19 : decode cX0_count 19 = .ok (.iload_n 1, 1) := by decide +kernel
theorem dX0_count_20 : decode cX0_count 20 = .ok (.if_icmp .le 13, 3) := by decide +kernel
theorem dX0_count_23 : decode cX0_count 23 = .ok (.aload_n 0, 1) := by decide +kernel
theorem dX0_count_24 : decode cX0_count 24 = .ok (.dup, 1) := by decide +kernel
theorem dX0_count_25 : decode cX0_count 25 = .ok (.getfield 18, 3) := by decide +kernel
theorem dX0_count_28 : decode cX0_count 28 = .ok (.iconst 1, 1) := by decide +kernel
theorem dX0_count_29 : decode cX0_count 29 = .ok (.iadd, 1) := by decide +kernel
theorem dX0_count_30 : decode cX0_count 30 = .ok (.putfield 18, 3) := by decide +kernel
theorem dX0_count_33 : decode cX0_count 33 = .ok (.return_, 1) := by decide +kernel
theorem dX0_wins_0 : decode cX0_wins 0 = .ok (.iload_n 1, 1) := by decide +kernel
theorem dX0_wins_1 : decode cX0_wins 1 = .ok (.ifCond .ne 10, 3) := by decide +kernel
theorem dX0_wins_4 : decode cX0_wins 4 = .ok (.aload_n 0, 1) := by decide +kernel
theorem dX0_wins_5 : decode cX0_wins 5 = .ok (.getfield 15, 3) := by decide +kernel
theorem dX0_wins_8 : decode cX0_wins 8 = .ok (.goto 7, 3) := by decide +kernel
theorem dX0_wins_11 : decode cX0_wins 11 = .ok (.aload_n 0, 1) := by decide +kernel
theorem dX0_wins_12 : decode cX0_wins 12 = .ok (.getfield 18, 3) := by decide +kernel
theorem dX0_wins_15 : decode cX0_wins 15 = .ok (.ireturn, 1) := by decide +kernel
theorem dX0_wonBy_0 : decode cX0_wonBy 0 = .ok (.aload_n 0, 1) := by decide +kernel
theorem dX0_wonBy_1 : decode cX0_wonBy 1 = .ok (.getfield 15, 3) := by decide +kernel
theorem dX0_wonBy_4 : decode cX0_wonBy 4 = .ok (.iconst 2, 1) := by decide +kernel
theorem dX0_wonBy_5 : decode cX0_wonBy 5 = .ok (.if_icmp .lt 5, 3) := by decide +kernel
theorem dX0_wonBy_8 : decode cX0_wonBy 8 = .ok (.iconst 0, 1) := by decide +kernel
theorem dX0_wonBy_9 : decode cX0_wonBy 9 = .ok (.ireturn, 1) := by decide +kernel
theorem dX0_wonBy_10 : decode cX0_wonBy 10 = .ok (.aload_n 0, 1) := by decide +kernel
theorem dX0_wonBy_11 : decode cX0_wonBy 11 = .ok (.getfield 18, 3) := by decide +kernel
theorem dX0_wonBy_14 : decode cX0_wonBy 14 = .ok (.iconst 2, 1) := by decide +kernel
theorem dX0_wonBy_15 : decode cX0_wonBy 15 = .ok (.if_icmp .lt 7, 3) := by decide +kernel
theorem dX0_wonBy_18 : decode cX0_wonBy 18 = .ok (.iconst 1, 1) := by decide +kernel
theorem dX0_wonBy_19 : decode cX0_wonBy 19 = .ok (.goto 4, 3) := by decide +kernel
theorem dX0_wonBy_22 : decode cX0_wonBy 22 = .ok (.iconst (-1), 1) := by decide +kernel
theorem dX0_wonBy_23 : decode cX0_wonBy 23 = .ok (.ireturn, 1) := by decide +kernel
set_option maxRecDepth 20000 in
theorem ggX1_init_X2_init : GoodIn wsX1_init wsX2_init := goodIn_r _ [12, 13, 2, 3, 14, 15, 16, 17, 18, 19, 20, 21, 22, 23, 24, 25, 26, 27, 28, 29, 30, 31, 32, 33, 34, 35, 36, 37, 38, 39, 40, 41, 42, 43, 44, 45] (by decide +kernel) (by decide +kernel)
set_option maxRecDepth 20000 in
theorem gX1_init_X2_init : GoodIn wsX1_init (wsX2_init) := ggX1_init_X2_init
theorem dX1_init_0 : decode cX1_init 0 = .ok (.aload_n 0, 1) := by decide +kernel
theorem dX1_init_1 : decode cX1_init 1 = .ok (.invokespecial 3, 3) := by decide +kernel
theorem dX1_init_4 : decode cX1_init 4 = .ok (.aload_n 0, 1) := by decide +kernel
theorem dX1_init_5 : decode cX1_init 5 = .ok (.new 9, 3) := by decide +kernel
theorem dX1_init_8 : decode cX1_init 8 = .ok (.dup, 1) := by decide +kernel
theorem dX1_init_9 : decode cX1_init 9 = .ok (.iconst 1, 1) := by decide +kernel
theorem dX1_init_10 : decode cX1_init 10 = .ok (.invokespecial 11, 3) := by decide +kernel
theorem dX1_init_13 : decode cX1_init 13 = .ok (.putfield 14, 3) := by decide +kernel
theorem dX1_init_16 : decode cX1_init 16 = .ok (.aload_n 0, 1) := by decide +kernel
theorem dX1_init_17 : decode cX1_init 17 = .ok (.new 9, 3) := by decide +kernel
theorem dX1_init_20 : decode cX1_init 20 = .ok (.dup, 1) := by decide +kernel
theorem dX1_init_21 : decode cX1_init 21 = .ok (.iconst 0, 1) := by decide +kernel
theorem dX1_init_22 : decode cX1_init 22 = .ok (.invokespecial 11, 3) := by decide +kernel
theorem dX1_init_25 : decode cX1_init 25 = .ok (.putfield 20, 3) := by decide +kernel
theorem dX1_init_28 : decode cX1_init 28 = .ok (.aload_n 0, 1) := by decide +kernel
theorem dX1_init_29 : decode cX1_init 29 = .ok (.aload_n 1, 1) := by decide +kernel
theorem dX1_init_30 : decode cX1_init 30 = .ok (.putfield 23, 3) := by decide +kernel
theorem dX1_init_33 : decode cX1_init 33 = .ok (.return_, 1) := by decide +kernel
set_option maxRecDepth 20000 in
theorem ggX1_prepare_X2_prepare : GoodIn wsX1_prepare wsX2_prepare := goodIn_r _ [7, 8, 9, 10, 11, 12, 13, 14, 6, 15, 16, 17, 18, 19, 20, 21, 22, 23, 24, 25, 26, 27, 28, 29, 30, 34, 35, 36, 37, 38, 39, 40, 41, 42, 43, 44, 45, 46, 47, 48, 49] (by decide +kernel) (by decide +kernel)
set_option maxRecDepth 20000 in
theorem gX1_prepare_X2_prepare : GoodIn wsX1_prepare (wsV RX1 27 RX2 yX2_prepare wsX2_prepare) := goodIn_app (goodIn_of _ (by decide +kernel)) ggX1_prepare_X2_prepare
theorem dX1_prepare_0 : decode cX1_prepare 0 = .ok (.aload_n 0, 1) := by decide +kernel
theorem dX1_prepare_1 : decode cX1_prepare 1 = .ok (.getfield 14, 3) := by decide +kernel
theorem dX1_prepare_4 : decode cX1_prepare 4 = .ok (.sipush 300, 3) := by decide +kernel
theorem dX1_prepare_7 : decode cX1_prepare 7 = .ok (.iload_n 1, 1) := by decide +kernel
theorem dX1_prepare_8 : decode cX1_prepare 8 = .ok (.iconst 2, 1) := by decide +kernel
theorem dX1_prepare_9 : decode cX1_prepare 9 = .ok (.idiv, 1) := by decide +kernel
theorem dX1_prepare_10 : decode cX1_prepare 10 = .ok (.isub, 1) := by decide +kernel
theorem dX1_prepare_11 : decode cX1_prepare 11 = .ok (.iload_n 2, 1) := by decide +kernel
theorem dX1_prepare_12 : decode cX1_prepare 12 = .ok (.invokevirtual 27, 3) := by decide +kernel
theorem dX1_prepare_15 : decode cX1_prepare 15 = .ok (.aload_n 0, 1) := by decide +kernel
theorem dX1_prepare_16 : decode cX1_prepare 16 = .ok (.getfield 20, 3) := by decide +kernel
theorem dX1_prepare_19 : decode cX1_prepare 19 = .ok (.sipush 300, 3) := by decide +kernel
theorem dX1_prepare_22 : decode cX1_prepare 22 = .ok (.iload_n 1, 1) := by decide +kernel
theorem dX1_prepare_23 : decode cX1_prepare 23 = .ok (.iconst 2, 1) := by decide +kernel
theorem dX1_prepare_24 : decode cX1_prepare 24 = .ok (.idiv, 1) := by decide +kernel
theorem dX1_prepare_25 : decode cX1_prepare 25 = .ok (.iadd, 1) := by decide +kernel
theorem dX1_prepare_26 : decode cX1_prepare 26 = .ok (.iload_n 3, 1) := by decide +kernel
theorem dX1_prepare_27 : decode cX1_prepare 27 = .ok (.invokevirtual 27, 3) := by decide +kernel
theorem dX1_prepare_30 : decode cX1_prepare 30 = .ok (.return_, 1) := by decide +kernel
set_option maxRecDepth 20000 in
theorem ggX1_copy_X2_copy : GoodIn wsX1_copy wsX2_copy := goodIn_r _ [7, 8, 9, 10, 11, 12, 13, 14, 15, 16, 17, 18, 22, 23, 24, 25, 26, 27, 28, 29, 30, 31, 32, 33, 34, 35, 36, 37] (by decide +kernel) (by decide +kernel)
set_option maxRecDepth 20000 in
theorem gX1_copy_X2_copy : GoodIn wsX1_copy (wsV RX1 31 RX2 yX2_copy wsX2_copy) := goodIn_app (goodIn_of _ (by decide +kernel)) ggX1_copy_X2_copy
theorem dX1_copy_0 : decode cX1_copy 0 = .ok (.aload_n 0, 1) := by decide +kernel
theorem dX1_copy_1 : decode cX1_copy 1 = .ok (.getfield 14, 3) := by decide +kernel
theorem dX1_copy_4 : decode cX1_copy 4 = .ok (.aload_n 1, 1) := by decide +kernel
theorem dX1_copy_5 : decode cX1_copy 5 = .ok (.getfield 14, 3) := by decide +kernel
theorem dX1_copy_8 : decode cX1_copy 8 = .ok (.invokevirtual 31, 3) := by decide +kernel
theorem dX1_copy_11 : decode cX1_copy 11 = .ok (.aload_n 0, 1) := by decide +kernel
theorem dX1_copy_12 : decode cX1_copy 12 = .ok (.getfield 20, 3) := by decide +kernel
theorem dX1_copy_15 : decode cX1_copy 15 = .ok (.aload_n 1, 1) := by decide +kernel
theorem dX1_copy_16 : decode cX1_copy 16 = .ok (.getfield 20, 3) := by decide +kernel
theorem dX1_copy_19 : decode cX1_copy 19 = .ok (.invokevirtual 31, 3) := by decide +kernel
theorem dX1_copy_22 : decode cX1_copy 22 = .ok (.return_, 1) := by decide +kernel
theorem dX1_figure_0 : decode cX1_figure 0 = .ok (.iload_n 1, 1) := by decide +kernel
theorem dX1_figure_1 : decode cX1_figure 1 = .ok (.ifCond .ne 10, 3) := by decide +kernel
theorem dX1_figure_4 : decode cX1_figure 4 = .ok (.aload_n 0, 1) := by decide +kernel
theorem dX1_figure_5 : decode cX1_figure 5 = .ok (.getfield 14, 3) := by decide +kernel
theorem dX1_figure_8 : decode cX1_figure 8 = .ok (.goto 7, 3) := by decide +kernel
theorem dX1_figure_11 : decode cX1_figure 11 = .ok (.aload_n 0, 1) := by decide +kernel
theorem dX1_figure_12 : decode cX1_figure 12 = .ok (.getfield 20, 3) := by decide +kernel
theorem dX1_figure_15 : decode cX1_figure 15 = .ok (.areturn, 1) := by decide +kernel
set_option maxRecDepth 20000 in
theorem ggX1_playFrame_X2_take : GoodIn wsX1_playFrame wsX2_take := goodIn_r _ [8, 9, 10, 11, 12, 159, 160, 161, 162, 163, 164, 165, 166, 167, 168, 169, 170, 171, 172, 173, 174] (by decide +kernel) (by decide +kernel)
set_option maxRecDepth 20000 in
theorem gX1_playFrame_X2_take : GoodIn wsX1_playFrame (wsV RX1 35 RX2 yX2_take wsX2_take) := goodIn_app (goodIn_of _ (by decide +kernel)) ggX1_playFrame_X2_take
set_option maxRecDepth 20000 in
theorem ggX1_playFrame_X2_beginKept : GoodIn wsX1_playFrame wsX2_beginKept := goodIn_r _ [16, 11, 17, 18, 19, 20, 21, 10, 22, 23, 24, 25, 26, 27, 28, 29, 30, 31, 32, 33, 34, 35, 36, 37, 7, 38, 39, 40, 41, 42, 43, 44, 45, 46, 47, 12, 159, 160, 161, 162, 163, 164, 165, 166, 167, 168, 169, 170, 171, 172, 173, 174, 175, 176, 177, 178, 179, 180, 181, 182, 183, 184, 185] (by decide +kernel) (by decide +kernel)
set_option maxRecDepth 20000 in
theorem gX1_playFrame_X2_beginKept : GoodIn wsX1_playFrame (wsV RX1 39 RX2 yX2_beginKept wsX2_beginKept) := goodIn_app (goodIn_of _ (by decide +kernel)) ggX1_playFrame_X2_beginKept
set_option maxRecDepth 20000 in
theorem ggX1_playFrame_X1_walk : GoodIn wsX1_playFrame wsX1_walk := goodIn_r _ [52, 1, 2, 53, 54, 55, 56, 57, 58, 59, 60, 61, 62, 63, 7, 64, 18, 9, 65, 66, 67, 68, 69, 51, 70, 156, 157, 158, 159, 160, 161, 162, 163, 164, 165, 166, 167, 168, 169, 170, 171, 172, 173, 174] (by decide +kernel) (by decide +kernel)
set_option maxRecDepth 20000 in
theorem gX1_playFrame_X1_walk : GoodIn wsX1_playFrame (wsV RX1 43 RX1 yX1_walk wsX1_walk) := goodIn_app (goodIn_of _ (by decide +kernel)) ggX1_playFrame_X1_walk
set_option maxRecDepth 20000 in
theorem ggX1_playFrame_X1_strike : GoodIn wsX1_playFrame wsX1_strike := goodIn_r _ [74, 3, 1, 75, 2, 76, 77, 23, 24, 25, 26, 27, 28, 78, 79, 80, 51, 81, 82, 83, 84, 85, 86, 87, 88, 32, 89, 90, 91, 67, 68, 69, 70, 53, 92, 93, 94, 95, 96, 97, 98, 7, 99, 21, 17, 100, 101, 102, 103, 66, 65, 104, 105, 106, 107, 18, 108, 109, 110, 111, 112, 113, 114, 30, 31, 33, 34, 115, 116, 117, 118, 9, 119, 120, 121, 122, 123, 124, 125, 126, 127, 128, 129, 130, 29, 131, 132, 133, 134, 135, 136, 137, 138, 19, 20, 156, 157, 158, 159, 160, 161, 162, 163, 164, 165, 166, 167, 168, 169, 170, 171, 172, 173, 174, 178, 179, 180, 181, 182, 183, 184, 185, 175, 176, 177] (by decide +kernel) (by decide +kernel)
set_option maxRecDepth 20000 in
theorem gX1_playFrame_X1_strike : GoodIn wsX1_playFrame (wsV RX1 46 RX1 yX1_strike wsX1_strike) := goodIn_app (goodIn_of _ (by decide +kernel)) ggX1_playFrame_X1_strike
set_option maxRecDepth 20000 in
theorem ggX1_playFrame_X2_endFrame : GoodIn wsX1_playFrame wsX2_endFrame := goodIn_r _ [142, 18, 19, 130, 109, 12, 22, 23, 24, 25, 26, 27, 28, 143, 144, 145, 32, 146, 90, 91, 147, 148, 149, 150, 7, 151, 20, 21, 152, 153, 154, 155, 135, 136, 137, 138, 44, 45, 46, 47, 11, 159, 160, 161, 162, 163, 164, 165, 166, 167, 168, 169, 170, 171, 172, 173, 174, 175, 176, 177, 178, 179, 180, 181, 182, 183, 184, 185] (by decide +kernel) (by decide +kernel)
set_option maxRecDepth 20000 in
theorem gX1_playFrame_X2_endFrame : GoodIn wsX1_playFrame (wsV RX1 49 RX2 yX2_endFrame wsX2_endFrame) := goodIn_app (goodIn_of _ (by decide +kernel)) ggX1_playFrame_X2_endFrame
theorem dX1_playFrame_0 : decode cX1_playFrame 0 = .ok (.aload_n 0, 1) := by decide +kernel
theorem dX1_playFrame_1 : decode cX1_playFrame 1 = .ok (.getfield 14, 3) := by decide +kernel
theorem dX1_playFrame_4 : decode cX1_playFrame 4 = .ok (.iload_n 1, 1) := by decide +kernel
theorem dX1_playFrame_5 : decode cX1_playFrame 5 = .ok (.invokevirtual 35, 3) := by decide +kernel
theorem dX1_playFrame_8 : decode cX1_playFrame 8 = .ok (.aload_n 0, 1) := by decide +kernel
theorem dX1_playFrame_9 : decode cX1_playFrame 9 = .ok (.getfield 20, 3) := by decide +kernel
theorem dX1_playFrame_12 : decode cX1_playFrame 12 = .ok (.iload_n 2, 1) := by decide +kernel
theorem dX1_playFrame_13 : decode cX1_playFrame 13 = .ok (.invokevirtual 35, 3) := by decide +kernel
theorem dX1_playFrame_16 : decode cX1_playFrame 16 = .ok (.aload_n 0, 1) := by decide +kernel
theorem dX1_playFrame_17 : decode cX1_playFrame 17 = .ok (.getfield 14, 3) := by decide +kernel
theorem dX1_playFrame_20 : decode cX1_playFrame 20 = .ok (.aload_n 0, 1) := by decide +kernel
theorem dX1_playFrame_21 : decode cX1_playFrame 21 = .ok (.getfield 23, 3) := by decide +kernel
theorem dX1_playFrame_24 : decode cX1_playFrame 24 = .ok (.invokevirtual 39, 3) := by decide +kernel
theorem dX1_playFrame_27 : decode cX1_playFrame 27 = .ok (.aload_n 0, 1) := by decide +kernel
theorem dX1_playFrame_28 : decode cX1_playFrame 28 = .ok (.getfield 20, 3) := by decide +kernel
theorem dX1_playFrame_31 : decode cX1_playFrame 31 = .ok (.aload_n 0, 1) := by decide +kernel
theorem dX1_playFrame_32 : decode cX1_playFrame 32 = .ok (.getfield 23, 3) := by decide +kernel
theorem dX1_playFrame_35 : decode cX1_playFrame 35 = .ok (.invokevirtual 39, 3) := by decide +kernel
theorem dX1_playFrame_38 : decode cX1_playFrame 38 = .ok (.aload_n 0, 1) := by decide +kernel
theorem dX1_playFrame_39 : decode cX1_playFrame 39 = .ok (.invokevirtual 43, 3) := by decide +kernel
theorem dX1_playFrame_42 : decode cX1_playFrame 42 = .ok (.aload_n 0, 1) := by decide +kernel
theorem dX1_playFrame_43 : decode cX1_playFrame 43 = .ok (.invokevirtual 46, 3) := by decide +kernel
theorem dX1_playFrame_46 : decode cX1_playFrame 46 = .ok (.aload_n 0, 1) := by decide +kernel
theorem dX1_playFrame_47 : decode cX1_playFrame 47 = .ok (.getfield 14, 3) := by decide +kernel
theorem dX1_playFrame_50 : decode cX1_playFrame 50 = .ok (.aload_n 0, 1) := by decide +kernel
theorem dX1_playFrame_51 : decode cX1_playFrame 51 = .ok (.getfield 23, 3) := by decide +kernel
theorem dX1_playFrame_54 : decode cX1_playFrame 54 = .ok (.invokevirtual 49, 3) := by decide +kernel
theorem dX1_playFrame_57 : decode cX1_playFrame 57 = .ok (.aload_n 0, 1) := by decide +kernel
theorem dX1_playFrame_58 : decode cX1_playFrame 58 = .ok (.getfield 20, 3) := by decide +kernel
theorem dX1_playFrame_61 : decode cX1_playFrame 61 = .ok (.aload_n 0, 1) := by decide +kernel
theorem dX1_playFrame_62 : decode cX1_playFrame 62 = .ok (.getfield 23, 3) := by decide +kernel
theorem dX1_playFrame_65 : decode cX1_playFrame 65 = .ok (.invokevirtual 49, 3) := by decide +kernel
theorem dX1_playFrame_68 : decode cX1_playFrame 68 = .ok (.return_, 1) := by decide +kernel
theorem dX1_apart_0 : decode cX1_apart 0 = .ok (.aload_n 0, 1) := by decide +kernel
theorem dX1_apart_1 : decode cX1_apart 1 = .ok (.getfield 20, 3) := by decide +kernel
theorem dX1_apart_4 : decode cX1_apart 4 = .ok (.getfield 52, 3) := by decide +kernel
theorem dX1_apart_7 : decode cX1_apart 7 = .ok (.aload_n 0, 1) := by decide +kernel
theorem dX1_apart_8 : decode cX1_apart 8 = .ok (.getfield 14, 3) := by decide +kernel
theorem dX1_apart_11 : decode cX1_apart 11 = .ok (.getfield 52, 3) := by decide +kernel
theorem dX1_apart_14 : decode cX1_apart 14 = .ok (.isub, 1) := by decide +kernel
theorem dX1_apart_15 : decode cX1_apart 15 = .ok (.ireturn, 1) := by decide +kernel
set_option maxRecDepth 20000 in
theorem ggX1_walk_X2_walk : GoodIn wsX1_walk wsX2_walk := goodIn_r _ [15, 16, 17, 18, 19, 28, 29, 30, 31, 32, 33, 34, 35, 36, 37, 38, 39, 40, 41, 42, 43] (by decide +kernel) (by decide +kernel)
set_option maxRecDepth 20000 in
theorem gX1_walk_X2_walk : GoodIn wsX1_walk (wsV RX1 56 RX2 yX2_walk wsX2_walk) := goodIn_app (goodIn_of _ (by decide +kernel)) ggX1_walk_X2_walk
set_option maxRecDepth 20000 in
theorem ggX1_walk_X1_apart : GoodIn wsX1_walk wsX1_apart := goodIn_r _ [24, 2, 3, 1, 25, 26, 27, 28, 29, 30, 31, 32, 33, 34, 35, 36, 37, 38, 39, 40, 41, 42, 43] (by decide +kernel) (by decide +kernel)
set_option maxRecDepth 20000 in
theorem gX1_walk_X1_apart : GoodIn wsX1_walk (wsV RX1 57 RX1 yX1_apart wsX1_apart) := goodIn_app (goodIn_of _ (by decide +kernel)) ggX1_walk_X1_apart
theorem dX1_walk_0 : decode cX1_walk 0 = .ok (.aload_n 0, 1) := by decide +kernel
theorem dX1_walk_1 : decode cX1_walk 1 = .ok (.getfield 14, 3) := by decide +kernel
theorem dX1_walk_4 : decode cX1_walk 4 = .ok (.invokevirtual 56, 3) := by decide +kernel
theorem dX1_walk_7 : decode cX1_walk 7 = .ok (.aload_n 0, 1) := by decide +kernel
theorem dX1_walk_8 : decode cX1_walk 8 = .ok (.getfield 20, 3) := by decide +kernel
theorem dX1_walk_11 : decode cX1_walk 11 = .ok (.invokevirtual 56, 3) := by decide +kernel
theorem dX1_walk_14 : decode cX1_walk 14 = .ok (.bipush 20, 2) := by decide +kernel
theorem dX1_walk_16 : decode cX1_walk 16 = .ok (.aload_n 0, 1) := by decide +kernel
theorem dX1_walk_17 : decode cX1_walk 17 = .ok (.invokevirtual 57, 3) := by decide +kernel
theorem dX1_walk_20 : decode cX1_walk 20 = .ok (.isub, 1) := by decide +kernel
theorem dX1_walk_21 : decode cX1_walk 21 = .ok (.istore_n 1, 1) := by decide +kernel
theorem dX1_walk_22 : decode cX1_walk 22 = .ok (.iload_n 1, 1) := by decide +kernel
theorem dX1_walk_23 : decode cX1_walk 23 = .ok (.ifCond .le 35, 3) := by decide +kernel
theorem dX1_walk_26 : decode cX1_walk 26 = .ok (.aload_n 0, 1) := by decide +kernel
theorem dX1_walk_27 : decode cX1_walk 27 = .ok (.getfield 14, 3) := by decide +kernel
theorem dX1_walk_30 : decode cX1_walk 30 = .ok (.dup, 1) := by decide +kernel
theorem dX1_walk_31 : decode cX1_walk 31 = .ok (.getfield 52, 3) := by decide +kernel
theorem dX1_walk_34 : decode cX1_walk 34 = .ok (.iload_n 1, 1) := by decide +kernel
theorem dX1_walk_35 : decode cX1_walk 35 = .ok (.iconst 2, 1) := by decide +kernel
theorem dX1_walk_36 : decode cX1_walk 36 = .ok (.idiv, 1) := by decide +kernel
theorem dX1_walk_37 : decode cX1_walk 37 = .ok (.isub, 1) := by decide +kernel
theorem dX1_walk_38 : decode cX1_walk 38 = .ok (.putfield 52, 3) := by decide +kernel
theorem dX1_walk_41 : decode cX1_walk 41 = .ok (.aload_n 0, 1) := by decide +kernel
theorem dX1_walk_42 : decode cX1_walk 42 = .ok (.getfield 20, 3) := by decide +kernel
theorem dX1_walk_45 : decode cX1_walk 45 = .ok (.dup, 1) := by decide +kernel
theorem dX1_walk_46 : decode cX1_walk 46 = .ok (.getfield 52, 3) := by decide +kernel
theorem dX1_walk_49 : decode cX1_walk 49 = .ok (.iload_n 1, 1) := by decide +kernel
theorem dX1_walk_50 : decode cX1_walk 50 = .ok (.iload_n 1, 1) := by decide +kernel
theorem dX1_walk_51 : decode cX1_walk 51 = .ok (.iconst 2, 1) := by decide +kernel
theorem dX1_walk_52 : decode cX1_walk 52 = .ok (.idiv, 1) := by decide +kernel
theorem dX1_walk_53 : decode cX1_walk 53 = .ok (.isub, 1) := by decide +kernel
theorem dX1_walk_54 : decode cX1_walk 54 = .ok (.iadd, 1) := by decide +kernel
theorem dX1_walk_55 : decode cX1_walk 55 = .ok (.putfield 52, 3) := by decide +kernel
theorem dX1_walk_58 : decode cX1_walk 58 = .ok (.aload_n 0, 1) := by decide +kernel
theorem dX1_walk_59 : decode cX1_walk 59 = .ok (.getfield 14, 3) := by decide +kernel
theorem dX1_walk_62 : decode cX1_walk 62 = .ok (.getfield 52, 3) := by decide +kernel
theorem dX1_walk_65 : decode cX1_walk 65 = .ok (.ifCond .ge 30, 3) := by decide +kernel
theorem dX1_walk_68 : decode cX1_walk 68 = .ok (.aload_n 0, 1) := by decide +kernel
theorem dX1_walk_69 : decode cX1_walk 69 = .ok (.getfield 14, 3) := by decide +kernel
theorem dX1_walk_72 : decode cX1_walk 72 = .ok (.iconst 0, 1) := by decide +kernel
theorem dX1_walk_73 : decode cX1_walk 73 = .ok (.putfield 52, 3) := by decide +kernel
theorem dX1_walk_76 : decode cX1_walk 76 = .ok (.aload_n 0, 1) := by decide +kernel
theorem dX1_walk_77 : decode cX1_walk 77 = .ok (.getfield 20, 3) := by decide +kernel
theorem dX1_walk_80 : decode cX1_walk 80 = .ok (.aload_n 0, 1) := by decide +kernel
theorem dX1_walk_81 : decode cX1_walk 81 = .ok (.getfield 20, 3) := by decide +kernel
theorem dX1_walk_84 : decode cX1_walk 84 = .ok (.getfield 52, 3) := by decide +kernel
theorem dX1_walk_87 : decode cX1_walk 87 = .ok (.bipush 20, 2) := by decide +kernel
theorem dX1_walk_89 : decode cX1_walk 89 = .ok (.invokestatic 61, 3) := by decide +kernel
theorem dX1_walk_92 : decode cX1_walk 92 = .ok (.putfield 52, 3) := by decide +kernel
theorem dX1_walk_95 : decode cX1_walk 95 = .ok (.aload_n 0, 1) := by decide +kernel
theorem dX1_walk_96 : decode cX1_walk 96 = .ok (.getfield 20, 3) := by decide +kernel
theorem dX1_walk_99 : decode cX1_walk 99 = .ok (.getfield 52, 3) := by decide +kernel
theorem dX1_walk_102 : decode cX1_walk 102 = .ok (.sipush 600, 3) := by decide +kernel
theorem dX1_walk_105 : decode cX1_walk 105 = .ok (.if_icmp .le 33, 3) := by decide +kernel
theorem dX1_walk_108 : decode cX1_walk 108 = .ok (.aload_n 0, 1) := by decide +kernel
theorem dX1_walk_109 : decode cX1_walk 109 = .ok (.getfield 20, 3) := by decide +kernel
theorem dX1_walk_112 : decode cX1_walk 112 = .ok (.sipush 600, 3) := by decide +kernel
theorem dX1_walk_115 : decode cX1_walk 115 = .ok (.putfield 52, 3) := by decide +kernel
theorem dX1_walk_118 : decode cX1_walk 118 = .ok (.aload_n 0, 1) := by decide +kernel
theorem dX1_walk_119 : decode cX1_walk 119 = .ok (.getfield 14, 3) := by decide +kernel
theorem dX1_walk_122 : decode cX1_walk 122 = .ok (.aload_n 0, 1) := by decide +kernel
theorem dX1_walk_123 : decode cX1_walk 123 = .ok (.getfield 14, 3) := by decide +kernel
theorem dX1_walk_126 : decode cX1_walk 126 = .ok (.getfield 52, 3) := by decide +kernel
theorem dX1_walk_129 : decode cX1_walk 129 = .ok (.sipush 580, 3) := by decide +kernel
theorem dX1_walk_132 : decode cX1_walk 132 = .ok (.invokestatic 67, 3) := by decide +kernel
theorem dX1_walk_135 : decode cX1_walk 135 = .ok (.putfield 52, 3) := by decide +kernel
theorem dX1_walk_138 : decode cX1_walk 138 = .ok (.return_, 1) := by decide +kernel
set_option maxRecDepth 20000 in
theorem ggX1_strike_X5_at : GoodIn wsX1_strike wsX5_at := goodIn_r _ [10, 11, 12, 122, 123, 124] (by decide +kernel) (by decide +kernel)
set_option maxRecDepth 20000 in
theorem gX1_strike_X5_at : GoodIn wsX1_strike (wsV RX1 73 RX5 yX5_at wsX5_at) := goodIn_app (goodIn_of _ (by decide +kernel)) ggX1_strike_X5_at
set_option maxRecDepth 20000 in
theorem ggX1_strike_X1_reaches : GoodIn wsX1_strike wsX1_reaches := goodIn_r _ [17, 18, 19, 20, 5, 21, 22, 23, 24, 25, 26, 27, 28, 29, 30, 31, 16, 32, 4, 33, 2, 98, 99, 100, 101, 102, 103, 104, 105, 106, 107, 108, 109, 110, 111, 112, 113, 114, 115, 116, 117, 118, 119, 120, 121, 95, 96, 97] (by decide +kernel) (by decide +kernel)
set_option maxRecDepth 20000 in
theorem gX1_strike_X1_reaches : GoodIn wsX1_strike (wsV RX1 79 RX1 yX1_reaches wsX1_reaches) := goodIn_app (goodIn_of _ (by decide +kernel)) ggX1_strike_X1_reaches
set_option maxRecDepth 20000 in
theorem ggX1_strike_X1_part : GoodIn wsX1_strike wsX1_part := goodIn_r _ [37, 2, 4, 38, 39, 40, 41, 42, 43, 44, 45, 46, 47, 48, 49, 50, 95, 96, 97, 98, 99, 100, 101, 102, 103, 104, 105, 106, 107, 108, 109, 110, 111, 112, 113] (by decide +kernel) (by decide +kernel)
set_option maxRecDepth 20000 in
theorem gX1_strike_X1_part : GoodIn wsX1_strike (wsV RX1 88 RX1 yX1_part wsX1_part) := goodIn_app (goodIn_of _ (by decide +kernel)) ggX1_strike_X1_part
set_option maxRecDepth 20000 in
theorem ggX1_strike_X2_rememberAheadOfHits : GoodIn wsX1_strike wsX2_rememberAheadOfHits := goodIn_r _ [54, 55, 56, 57, 58, 98, 99, 100, 101, 102, 103, 104, 105, 106, 107, 108, 109, 110, 111, 112, 113] (by decide +kernel) (by decide +kernel)
set_option maxRecDepth 20000 in
theorem gX1_strike_X2_rememberAheadOfHits : GoodIn wsX1_strike (wsV RX1 91 RX2 yX2_rememberAheadOfHits wsX2_rememberAheadOfHits) := goodIn_app (goodIn_of _ (by decide +kernel)) ggX1_strike_X2_rememberAheadOfHits
set_option maxRecDepth 20000 in
theorem ggX1_strike_X1_land : GoodIn wsX1_strike wsX1_land := goodIn_r _ [61, 62, 63, 64, 25, 65, 66, 38, 39, 40, 41, 42, 43, 44, 67, 68, 69, 70, 56, 71, 72, 73, 74, 75, 76, 77, 78, 79, 80, 81, 82, 55, 83, 84, 85, 86, 87, 88, 58, 57, 89, 90, 91, 92, 93, 94, 45, 46, 47, 48, 49, 50, 114, 115, 116, 117, 118, 119, 120, 121, 98, 99, 100, 101, 102, 103, 104, 105, 106, 107, 108, 109, 110, 111, 112, 113] (by decide +kernel) (by decide +kernel)
set_option maxRecDepth 20000 in
theorem gX1_strike_X1_land : GoodIn wsX1_strike (va_wsS RX1 94 yX1_land wsX1_land) := goodIn_app (goodIn_of _ (by decide +kernel)) ggX1_strike_X1_land
theorem dX1_strike_0 : decode cX1_strike 0 = .ok (.aload_n 0, 1) := by decide +kernel
theorem dX1_strike_1 : decode cX1_strike 1 = .ok (.getfield 23, 3) := by decide +kernel
theorem dX1_strike_4 : decode cX1_strike 4 = .ok (.aload_n 0, 1) := by decide +kernel
theorem dX1_strike_5 : decode cX1_strike 5 = .ok (.getfield 14, 3) := by decide +kernel
theorem dX1_strike_8 : decode cX1_strike 8 = .ok (.getfield 70, 3) := by decide +kernel
theorem dX1_strike_11 : decode cX1_strike 11 = .ok (.invokevirtual 73, 3) := by decide +kernel
theorem dX1_strike_14 : decode cX1_strike 14 = .ok (.astore_n 1, 1) := by decide +kernel
theorem dX1_strike_15 : decode cX1_strike 15 = .ok (.aload_n 0, 1) := by decide +kernel
theorem dX1_strike_16 : decode cX1_strike 16 = .ok (.getfield 23, 3) := by decide +kernel
theorem dX1_strike_19 : decode cX1_strike 19 = .ok (.aload_n 0, 1) := by decide +kernel
theorem dX1_strike_20 : decode cX1_strike 20 = .ok (.getfield 20, 3) := by decide +kernel
theorem dX1_strike_23 : decode cX1_strike 23 = .ok (.getfield 70, 3) := by decide +kernel
theorem dX1_strike_26 : decode cX1_strike 26 = .ok (.invokevirtual 73, 3) := by decide +kernel
theorem dX1_strike_29 : decode cX1_strike 29 = .ok (.astore_n 2, 1) := by decide +kernel
theorem dX1_strike_30 : decode cX1_strike 30 = .ok (.aload_n 0, 1) := by decide +kernel
theorem dX1_strike_31 : decode cX1_strike 31 = .ok (.aload_n 0, 1) := by decide +kernel
theorem dX1_strike_32 : decode cX1_strike 32 = .ok (.getfield 14, 3) := by decide +kernel
theorem dX1_strike_35 : decode cX1_strike 35 = .ok (.aload_n 1, 1) := by decide +kernel
theorem dX1_strike_36 : decode cX1_strike 36 = .ok (.aload_n 0, 1) := by decide +kernel
theorem dX1_strike_37 : decode cX1_strike 37 = .ok (.getfield 20, 3) := by decide +kernel
theorem dX1_strike_40 : decode cX1_strike 40 = .ok (.invokevirtual 79, 3) := by decide +kernel
theorem dX1_strike_43 : decode cX1_strike 43 = .ok (.istore_n 3, 1) := by decide +kernel
theorem dX1_strike_44 : decode cX1_strike 44 = .ok (.aload_n 0, 1) := by decide +kernel
theorem dX1_strike_45 : decode cX1_strike 45 = .ok (.aload_n 0, 1) := by decide +kernel
theorem dX1_strike_46 : decode cX1_strike 46 = .ok (.getfield 20, 3) := by decide +kernel
theorem dX1_strike_49 : decode cX1_strike 49 = .ok (.aload_n 2, 1) := by decide +kernel
theorem dX1_strike_50 : decode cX1_strike 50 = .ok (.aload_n 0, 1) := by decide +kernel
theorem dX1_strike_51 : decode cX1_strike 51 = .ok (.getfield 14, 3) := by decide +kernel
theorem dX1_strike_54 : decode cX1_strike 54 = .ok (.invokevirtual 79, 3) := by decide +kernel
theorem dX1_strike_57 : decode cX1_strike 57 = .ok (.istore 4, 2) := by decide +kernel
theorem dX1_strike_59 : decode cX1_strike 59 = .ok (.iload_n 3, 1) := by decide +kernel
theorem dX1_strike_60 : decode cX1_strike 60 = .ok (.ifCond .eq 29, 3) := by decide +kernel
theorem dX1_strike_63 : decode cX1_strike 63 = .ok (.iload 4, 2) := by decide +kernel
theorem dX1_strike_65 : decode cX1_strike 65 = .ok (.ifCond .eq 24, 3) := by decide +kernel
theorem dX1_strike_68 : decode cX1_strike 68 = .ok (.aload_n 1, 1) := by decide +kernel
theorem dX1_strike_69 : decode cX1_strike 69 = .ok (.getfield 83, 3) := by decide +kernel
theorem dX1_strike_72 : decode cX1_strike 72 = .ok (.iconst 3, 1) := by decide +kernel
theorem dX1_strike_73 : decode cX1_strike 73 = .ok (.if_icmp .ne 16, 3) := by decide +kernel
theorem dX1_strike_76 : decode cX1_strike 76 = .ok (.aload_n 2, 1) := by decide +kernel
theorem dX1_strike_77 : decode cX1_strike 77 = .ok (.getfield 83, 3) := by decide +kernel
theorem dX1_strike_80 : decode cX1_strike 80 = .ok (.iconst 3, 1) := by decide +kernel
theorem dX1_strike_81 : decode cX1_strike 81 = .ok (.if_icmp .ne 8, 3) := by decide +kernel
theorem dX1_strike_84 : decode cX1_strike 84 = .ok (.aload_n 0, 1) := by decide +kernel
theorem dX1_strike_85 : decode cX1_strike 85 = .ok (.invokevirtual 88, 3) := by decide +kernel
theorem dX1_strike_88 : decode cX1_strike 88 = .ok (.return_, 1) := by decide +kernel
theorem dX1_strike_89 : decode cX1_strike 89 = .ok (.aload_n 0, 1) := by decide +kernel
theorem dX1_strike_90 : decode cX1_strike 90 = .ok (.getfield 14, 3) := by decide +kernel
theorem dX1_strike_93 : decode cX1_strike 93 = .ok (.invokevirtual 91, 3) := by decide +kernel
theorem dX1_strike_96 : decode cX1_strike 96 = .ok (.aload_n 0, 1) := by decide +kernel
theorem dX1_strike_97 : decode cX1_strike 97 = .ok (.getfield 20, 3) := by decide +kernel
theorem dX1_strike_100 : decode cX1_strike 100 = .ok (.invokevirtual 91, 3) := by decide +kernel
theorem dX1_strike_103 : decode cX1_strike 103 = .ok (.iload_n 3, 1) := by decide +kernel
theorem dX1_strike_104 : decode cX1_strike 104 = .ok (.ifCond .eq 15, 3) := by decide +kernel
theorem dX1_strike_107 : decode cX1_strike 107 = .ok (.aload_n 0, 1) := by decide +kernel
theorem dX1_strike_108 : decode cX1_strike 108 = .ok (.getfield 14, 3) := by decide +kernel
theorem dX1_strike_111 : decode cX1_strike 111 = .ok (.aload_n 1, 1) := by decide +kernel
theorem dX1_strike_112 : decode cX1_strike 112 = .ok (.aload_n 0, 1) := by decide +kernel
theorem dX1_strike_113 : decode cX1_strike 113 = .ok (.getfield 20, 3) := by decide +kernel
theorem dX1_strike_116 : decode cX1_strike 116 = .ok (.invokestatic 94, 3) := by decide +kernel
theorem dX1_strike_119 : decode cX1_strike 119 = .ok (.iload 4, 2) := by decide +kernel
theorem dX1_strike_121 : decode cX1_strike 121 = .ok (.ifCond .eq 15, 3) := by decide +kernel
theorem dX1_strike_124 : decode cX1_strike 124 = .ok (.aload_n 0, 1) := by decide +kernel
theorem dX1_strike_125 : decode cX1_strike 125 = .ok (.getfield 20, 3) := by decide +kernel
theorem dX1_strike_128 : decode cX1_strike 128 = .ok (.aload_n 2, 1) := by decide +kernel
theorem dX1_strike_129 : decode cX1_strike 129 = .ok (.aload_n 0, 1) := by decide +kernel
theorem dX1_strike_130 : decode cX1_strike 130 = .ok (.getfield 14, 3) := by decide +kernel
theorem dX1_strike_133 : decode cX1_strike 133 = .ok (.invokestatic 94, 3) := by decide +kernel
theorem dX1_strike_136 : decode cX1_strike 136 = .ok (.return_, 1) := by decide +kernel
set_option maxRecDepth 20000 in
theorem ggX1_reaches_X4_isActiveIn : GoodIn wsX1_reaches wsX4_isActiveIn := goodIn_r _ [10, 11, 12, 37, 38, 39, 40, 41, 42, 43, 44] (by decide +kernel) (by decide +kernel)
set_option maxRecDepth 20000 in
theorem gX1_reaches_X4_isActiveIn : GoodIn wsX1_reaches (wsV RX1 107 RX4 yX4_isActiveIn wsX4_isActiveIn) := goodIn_app (goodIn_of _ (by decide +kernel)) ggX1_reaches_X4_isActiveIn
set_option maxRecDepth 20000 in
theorem ggX1_reaches_X1_apart : GoodIn wsX1_reaches wsX1_apart := goodIn_r _ [17, 18, 19, 20, 45, 46, 47, 21, 22, 23, 24, 25, 26, 27, 28, 29, 30, 31, 32, 33, 34, 35, 36] (by decide +kernel) (by decide +kernel)
set_option maxRecDepth 20000 in
theorem gX1_reaches_X1_apart : GoodIn wsX1_reaches (wsV RX1 57 RX1 yX1_apart wsX1_apart) := goodIn_app (goodIn_of _ (by decide +kernel)) ggX1_reaches_X1_apart
theorem dX1_reaches_0 : decode cX1_reaches 0 = .ok (.aload_n 1, 1) := by decide +kernel
theorem dX1_reaches_1 : decode cX1_reaches 1 = .ok (.getfield 98, 3) := by decide +kernel
theorem dX1_reaches_4 : decode cX1_reaches 4 = .ok (.iconst 1, 1) := by decide +kernel
theorem dX1_reaches_5 : decode cX1_reaches 5 = .ok (.if_icmp .ne 26, 3) := by decide +kernel
theorem dX1_reaches_8 : decode cX1_reaches 8 = .ok (.aload_n 1, 1) := by decide +kernel
theorem dX1_reaches_9 : decode cX1_reaches 9 = .ok (.getfield 101, 3) := by decide +kernel
theorem dX1_reaches_12 : decode cX1_reaches 12 = .ok (.iconst (-1), 1) := by decide +kernel
theorem dX1_reaches_13 : decode cX1_reaches 13 = .ok (.if_icmp .ne 18, 3) := by decide +kernel
theorem dX1_reaches_16 : decode cX1_reaches 16 = .ok (.aload_n 2, 1) := by decide +kernel
theorem dX1_reaches_17 : decode cX1_reaches 17 = .ok (.aload_n 1, 1) := by decide +kernel
theorem dX1_reaches_18 : decode cX1_reaches 18 = .ok (.getfield 104, 3) := by decide +kernel
theorem dX1_reaches_21 : decode cX1_reaches 21 = .ok (.invokevirtual 107, 3) := by decide +kernel
theorem dX1_reaches_24 : decode cX1_reaches 24 = .ok (.ifCond .eq 7, 3) := by decide +kernel
theorem dX1_reaches_27 : decode cX1_reaches 27 = .ok (.iconst 1, 1) := by decide +kernel
theorem dX1_reaches_28 : decode cX1_reaches 28 = .ok (.goto 4, 3) := by decide +kernel
theorem dX1_reaches_31 : decode cX1_reaches 31 = .ok (.iconst 0, 1) := by decide +kernel
theorem dX1_reaches_32 : decode cX1_reaches 32 = .ok (.istore 4, 2) := by decide +kernel
theorem dX1_reaches_34 : decode cX1_reaches 34 = .ok (.aload_n 2, 1) := by decide +kernel
theorem dX1_reaches_35 : decode cX1_reaches 35 = .ok (.getfield 83, 3) := by decide +kernel
theorem dX1_reaches_38 : decode cX1_reaches 38 = .ok (.iconst 3, 1) := by decide +kernel
theorem dX1_reaches_39 : decode cX1_reaches 39 = .ok (.if_icmp .ne 18, 3) := by decide +kernel
theorem dX1_reaches_42 : decode cX1_reaches 42 = .ok (.aload_n 3, 1) := by decide +kernel
theorem dX1_reaches_43 : decode cX1_reaches 43 = .ok (.getfield 98, 3) := by decide +kernel
theorem dX1_reaches_46 : decode cX1_reaches 46 = .ok (.ifCond .eq 11, 3) := by decide +kernel
theorem dX1_reaches_49 : decode cX1_reaches 49 = .ok (.aload_n 3, 1) := by decide +kernel
theorem dX1_reaches_50 : decode cX1_reaches 50 = .ok (.getfield 98, 3) := by decide +kernel
theorem dX1_reaches_53 : decode cX1_reaches 53 = .ok (.iconst 1, 1) := by decide +kernel
theorem dX1_reaches_54 : decode cX1_reaches 54 = .ok (.if_icmp .ne 7, 3) := by decide +kernel
theorem dX1_reaches_57 : decode cX1_reaches 57 = .ok (.iconst 1, 1) := by decide +kernel
theorem dX1_reaches_58 : decode cX1_reaches 58 = .ok (.goto 4, 3) := by decide +kernel
theorem dX1_reaches_61 : decode cX1_reaches 61 = .ok (.iconst 0, 1) := by decide +kernel
theorem dX1_reaches_62 : decode cX1_reaches 62 = .ok (.istore 5, 2) := by decide +kernel
theorem dX1_reaches_64 : decode cX1_reaches 64 = .ok (.iload 4, 2) := by decide +kernel
theorem dX1_reaches_66 : decode cX1_reaches 66 = .ok (.ifCond .eq 23, 3) := by decide +kernel
theorem dX1_reaches_69 : decode cX1_reaches 69 = .ok (.iload 5, 2) := by decide +kernel
theorem dX1_reaches_71 : decode cX1_reaches 71 = .ok (.ifCond .eq 18, 3) := by decide +kernel
theorem dX1_reaches_74 : decode cX1_reaches 74 = .ok (.aload_n 0, 1) := by decide +kernel
theorem dX1_reaches_75 : decode cX1_reaches 75 = .ok (.invokevirtual 57, 3) := by decide +kernel
theorem dX1_reaches_78 : decode cX1_reaches 78 = .ok (.aload_n 2, 1) := by decide +kernel
theorem dX1_reaches_79 : decode cX1_reaches 79 = .ok (.getfield 111, 3) := by decide +kernel
theorem dX1_reaches_82 : decode cX1_reaches 82 = .ok (.if_icmp .gt 7, 3) := by decide +kernel
theorem dX1_reaches_85 : decode cX1_reaches 85 = .ok (.iconst 1, 1) := by decide +kernel
theorem dX1_reaches_86 : decode cX1_reaches 86 = .ok (.goto 4, 3) := by decide +kernel
theorem dX1_reaches_89 : decode cX1_reaches 89 = .ok (.iconst 0, 1) := by decide +kernel
theorem dX1_reaches_90 : decode cX1_reaches 90 = .ok (.ireturn, 1) := by decide +kernel
set_option maxRecDepth 20000 in
theorem ggX1_part_X2_touch : GoodIn wsX1_part wsX2_touch := goodIn_r _ [7, 8, 9, 19, 20, 21, 22, 23, 24, 25, 26, 27, 28, 29, 30, 31, 32, 33, 34] (by decide +kernel) (by decide +kernel)
set_option maxRecDepth 20000 in
theorem gX1_part_X2_touch : GoodIn wsX1_part (wsV RX1 114 RX2 yX2_touch wsX2_touch) := goodIn_app (goodIn_of _ (by decide +kernel)) ggX1_part_X2_touch
set_option maxRecDepth 20000 in
theorem ggX1_part_X2_goBack : GoodIn wsX1_part wsX2_goBack := goodIn_r _ [13, 14, 15, 19, 20, 21, 22, 23, 24, 25, 26, 27, 28, 29, 30, 31, 32, 33, 34] (by decide +kernel) (by decide +kernel)
set_option maxRecDepth 20000 in
theorem gX1_part_X2_goBack : GoodIn wsX1_part (wsV RX1 117 RX2 yX2_goBack wsX2_goBack) := goodIn_app (goodIn_of _ (by decide +kernel)) ggX1_part_X2_goBack
theorem dX1_part_0 : decode cX1_part 0 = .ok (.aload_n 0, 1) := by decide +kernel
theorem dX1_part_1 : decode cX1_part 1 = .ok (.getfield 14, 3) := by decide +kernel
theorem dX1_part_4 : decode cX1_part 4 = .ok (.iconst 0, 1) := by decide +kernel
theorem dX1_part_5 : decode cX1_part 5 = .ok (.invokevirtual 114, 3) := by decide +kernel
theorem dX1_part_8 : decode cX1_part 8 = .ok (.aload_n 0, 1) := by decide +kernel
theorem dX1_part_9 : decode cX1_part 9 = .ok (.getfield 20, 3) := by decide +kernel
theorem dX1_part_12 : decode cX1_part 12 = .ok (.iconst 0, 1) := by decide +kernel
theorem dX1_part_13 : decode cX1_part 13 = .ok (.invokevirtual 114, 3) := by decide +kernel
theorem dX1_part_16 : decode cX1_part 16 = .ok (.aload_n 0, 1) := by decide +kernel
theorem dX1_part_17 : decode cX1_part 17 = .ok (.getfield 14, 3) := by decide +kernel
theorem dX1_part_20 : decode cX1_part 20 = .ok (.bipush 20, 2) := by decide +kernel
theorem dX1_part_22 : decode cX1_part 22 = .ok (.invokevirtual 117, 3) := by decide +kernel
theorem dX1_part_25 : decode cX1_part 25 = .ok (.pop, 1) := by decide +kernel
theorem dX1_part_26 : decode cX1_part 26 = .ok (.aload_n 0, 1) := by decide +kernel
theorem dX1_part_27 : decode cX1_part 27 = .ok (.getfield 20, 3) := by decide +kernel
theorem dX1_part_30 : decode cX1_part 30 = .ok (.bipush 20, 2) := by decide +kernel
theorem dX1_part_32 : decode cX1_part 32 = .ok (.invokevirtual 117, 3) := by decide +kernel
theorem dX1_part_35 : decode cX1_part 35 = .ok (.pop, 1) := by decide +kernel
theorem dX1_part_36 : decode cX1_part 36 = .ok (.return_, 1) := by decide +kernel
set_option maxRecDepth 20000 in
theorem ggX1_land_X4_trait : GoodIn wsX1_land wsX4_trait := goodIn_r _ [5, 6, 52, 53, 54, 55, 56, 57, 58, 59] (by decide +kernel) (by decide +kernel)
set_option maxRecDepth 20000 in
theorem gX1_land_X4_trait : GoodIn wsX1_land (wsV RX1 121 RX4 yX4_trait wsX4_trait) := goodIn_app (goodIn_of _ (by decide +kernel)) ggX1_land_X4_trait
set_option maxRecDepth 20000 in
theorem ggX1_land_X2_touch : GoodIn wsX1_land wsX2_touch := goodIn_r _ [11, 12, 13, 60, 61, 62, 63, 64, 65, 66, 67, 68, 69, 70, 71, 72, 73, 74, 75] (by decide +kernel) (by decide +kernel)
set_option maxRecDepth 20000 in
theorem gX1_land_X2_touch : GoodIn wsX1_land (wsV RX1 114 RX2 yX2_touch wsX2_touch) := goodIn_app (goodIn_of _ (by decide +kernel)) ggX1_land_X2_touch
set_option maxRecDepth 20000 in
theorem ggX1_land_X2_blocks : GoodIn wsX1_land wsX2_blocks := goodIn_r _ [17, 18, 19, 20, 21, 22, 4, 23, 24, 60, 61, 62, 63, 64, 65, 66, 67, 68, 69, 70, 71, 72, 73, 74, 75, 52, 53, 54, 55, 56, 57, 58, 59] (by decide +kernel) (by decide +kernel)
set_option maxRecDepth 20000 in
theorem gX1_land_X2_blocks : GoodIn wsX1_land (wsV RX1 124 RX2 yX2_blocks wsX2_blocks) := goodIn_app (goodIn_of _ (by decide +kernel)) ggX1_land_X2_blocks
set_option maxRecDepth 20000 in
theorem ggX1_land_X2_block : GoodIn wsX1_land wsX2_block := goodIn_r _ [28, 29, 30, 31, 32, 33, 2, 3, 4, 5, 6, 60, 61, 62, 63, 64, 65, 66, 67, 68, 69, 70, 71, 72, 73, 74, 75, 52, 53, 54, 55, 56, 57, 58, 59] (by decide +kernel) (by decide +kernel)
set_option maxRecDepth 20000 in
theorem gX1_land_X2_block : GoodIn wsX1_land (wsV RX1 128 RX2 yX2_block wsX2_block) := goodIn_app (goodIn_of _ (by decide +kernel)) ggX1_land_X2_block
set_option maxRecDepth 20000 in
theorem ggX1_land_X2_suffer : GoodIn wsX1_land wsX2_suffer := goodIn_r _ [37, 18, 38, 39, 30, 29, 31, 32, 33, 2, 3, 4, 5, 6, 40, 41, 42, 10, 43, 44, 45, 12, 60, 61, 62, 63, 64, 65, 66, 67, 68, 69, 70, 71, 72, 73, 74, 75, 52, 53, 54, 55, 56, 57, 58, 59] (by decide +kernel) (by decide +kernel)
set_option maxRecDepth 20000 in
theorem gX1_land_X2_suffer : GoodIn wsX1_land (wsV RX1 132 RX2 yX2_suffer wsX2_suffer) := goodIn_app (goodIn_of _ (by decide +kernel)) ggX1_land_X2_suffer
set_option maxRecDepth 20000 in
theorem ggX1_land_X2_goBack : GoodIn wsX1_land wsX2_goBack := goodIn_r _ [49, 50, 51, 60, 61, 62, 63, 64, 65, 66, 67, 68, 69, 70, 71, 72, 73, 74, 75] (by decide +kernel) (by decide +kernel)
set_option maxRecDepth 20000 in
theorem gX1_land_X2_goBack : GoodIn wsX1_land (wsV RX1 117 RX2 yX2_goBack wsX2_goBack) := goodIn_app (goodIn_of _ (by decide +kernel)) ggX1_land_X2_goBack
theorem dX1_land_0 : decode cX1_land 0 = .ok (.aload_n 0, 1) := by decide +kernel
theorem dX1_land_1 : decode cX1_land 1 = .ok (.aload_n 1, 1) := by decide +kernel
theorem dX1_land_2 : decode cX1_land 2 = .ok (.iconst 4, 1) := by decide +kernel
theorem dX1_land_3 : decode cX1_land 3 = .ok (.invokevirtual 121, 3) := by decide +kernel
theorem dX1_land_6 : decode cX1_land 6 = .ok (.invokevirtual 114, 3) := by decide +kernel
theorem dX1_land_9 : decode cX1_land 9 = .ok (.aload_n 2, 1) := by decide +kernel
theorem dX1_land_10 : decode cX1_land 10 = .ok (.aload_n 1, 1) := by decide +kernel
theorem dX1_land_11 : decode cX1_land 11 = .ok (.invokevirtual 124, 3) := by decide +kernel
theorem dX1_land_14 : decode cX1_land 14 = .ok (.ifCond .eq 11, 3) := by decide +kernel
theorem dX1_land_17 : decode cX1_land 17 = .ok (.aload_n 2, 1) := by decide +kernel
theorem dX1_land_18 : decode cX1_land 18 = .ok (.aload_n 1, 1) := by decide +kernel
theorem dX1_land_19 : decode cX1_land 19 = .ok (.invokevirtual 128, 3) := by decide +kernel
theorem dX1_land_22 : decode cX1_land 22 = .ok (.goto 8, 3) := by decide +kernel
theorem dX1_land_25 : decode cX1_land 25 = .ok (.aload_n 2, 1) := by decide +kernel
theorem dX1_land_26 : decode cX1_land 26 = .ok (.aload_n 1, 1) := by decide +kernel
theorem dX1_land_27 : decode cX1_land 27 = .ok (.invokevirtual 132, 3) := by decide +kernel
theorem dX1_land_30 : decode cX1_land 30 = .ok (.aload_n 0, 1) := by decide +kernel
theorem dX1_land_31 : decode cX1_land 31 = .ok (.aload_n 2, 1) := by decide +kernel
theorem dX1_land_32 : decode cX1_land 32 = .ok (.aload_n 1, 1) := by decide +kernel
theorem dX1_land_33 : decode cX1_land 33 = .ok (.iconst 2, 1) := by decide +kernel
theorem dX1_land_34 : decode cX1_land 34 = .ok (.invokevirtual 121, 3) := by decide +kernel
theorem dX1_land_37 : decode cX1_land 37 = .ok (.invokevirtual 117, 3) := by decide +kernel
theorem dX1_land_40 : decode cX1_land 40 = .ok (.invokevirtual 117, 3) := by decide +kernel
theorem dX1_land_43 : decode cX1_land 43 = .ok (.pop, 1) := by decide +kernel
theorem dX1_land_44 : decode cX1_land 44 = .ok (.return_, 1) := by decide +kernel
theorem dX2_init_0 : decode cX2_init 0 = .ok (.aload_n 0, 1) := by decide +kernel
theorem dX2_init_1 : decode cX2_init 1 = .ok (.invokespecial 3, 3) := by decide +kernel
theorem dX2_init_4 : decode cX2_init 4 = .ok (.aload_n 0, 1) := by decide +kernel
theorem dX2_init_5 : decode cX2_init 5 = .ok (.iconst 0, 1) := by decide +kernel
theorem dX2_init_6 : decode cX2_init 6 = .ok (.putfield 9, 3) := by decide +kernel
theorem dX2_init_9 : decode cX2_init 9 = .ok (.aload_n 0, 1) := by decide +kernel
theorem dX2_init_10 : decode cX2_init 10 = .ok (.iconst 0, 1) := by decide +kernel
theorem dX2_init_11 : decode cX2_init 11 = .ok (.putfield 15, 3) := by decide +kernel
theorem dX2_init_14 : decode cX2_init 14 = .ok (.aload_n 0, 1) := by decide +kernel
theorem dX2_init_15 : decode cX2_init 15 = .ok (.iconst 0, 1) := by decide +kernel
theorem dX2_init_16 : decode cX2_init 16 = .ok (.putfield 18, 3) := by decide +kernel
theorem dX2_init_19 : decode cX2_init 19 = .ok (.aload_n 0, 1) := by decide +kernel
theorem dX2_init_20 : decode cX2_init 20 = .ok (.iconst 0, 1) := by decide +kernel
theorem dX2_init_21 : decode cX2_init 21 = .ok (.putfield 21, 3) := by decide +kernel
theorem dX2_init_24 : decode cX2_init 24 = .ok (.aload_n 0, 1) := by decide +kernel
theorem dX2_init_25 : decode cX2_init 25 = .ok (.iconst 0, 1) := by decide +kernel
theorem dX2_init_26 : decode cX2_init 26 = .ok (.putfield 24, 3) := by decide +kernel
theorem dX2_init_29 : decode cX2_init 29 = .ok (.aload_n 0, 1) := by decide +kernel
theorem dX2_init_30 : decode cX2_init 30 = .ok (.iconst (-1), 1) := by decide +kernel
theorem dX2_init_31 : decode cX2_init 31 = .ok (.putfield 27, 3) := by decide +kernel
theorem dX2_init_34 : decode cX2_init 34 = .ok (.aload_n 0, 1) := by decide +kernel
theorem dX2_init_35 : decode cX2_init 35 = .ok (.iconst 0, 1) := by decide +kernel
theorem dX2_init_36 : decode cX2_init 36 = .ok (.putfield 30, 3) := by decide +kernel
theorem dX2_init_39 : decode cX2_init 39 = .ok (.aload_n 0, 1) := by decide +kernel
theorem dX2_init_40 : decode cX2_init 40 = .ok (.iconst (-1), 1) := by decide +kernel
theorem dX2_init_41 : decode cX2_init 41 = .ok (.putfield 33, 3) := by decide +kernel
theorem dX2_init_44 : decode cX2_init 44 = .ok (.aload_n 0, 1) := by decide +kernel
theorem dX2_init_45 : decode cX2_init 45 = .ok (.iconst 0, 1) := by decide +kernel
theorem dX2_init_46 : decode cX2_init 46 = .ok (.putfield 36, 3) := by decide +kernel
theorem dX2_init_49 : decode cX2_init 49 = .ok (.aload_n 0, 1) := by decide +kernel
theorem dX2_init_50 : decode cX2_init 50 = .ok (.iconst (-1), 1) := by decide +kernel
theorem dX2_init_51 : decode cX2_init 51 = .ok (.putfield 39, 3) := by decide +kernel
theorem dX2_init_54 : decode cX2_init 54 = .ok (.aload_n 0, 1) := by decide +kernel
theorem dX2_init_55 : decode cX2_init 55 = .ok (.iconst 0, 1) := by decide +kernel
theorem dX2_init_56 : decode cX2_init 56 = .ok (.putfield 42, 3) := by decide +kernel
theorem dX2_init_59 : decode cX2_init 59 = .ok (.aload_n 0, 1) := by decide +kernel
theorem dX2_init_60 : decode cX2_init 60 = .ok (.iconst 0, 1) := by decide +kernel
theorem dX2_init_61 : decode cX2_init 61 = .ok (.putfield 45, 3) := by decide +kernel
theorem dX2_init_64 : decode cX2_init 64 = .ok (.aload_n 0, 1) := by decide +kernel
theorem dX2_init_65 : decode cX2_init 65 = .ok (.iconst 0, 1) := by decide +kernel
theorem dX2_init_66 : decode cX2_init 66 = .ok (.putfield 48, 3) := by decide +kernel
theorem dX2_init_69 : decode cX2_init 69 = .ok (.aload_n 0, 1) := by decide +kernel
theorem dX2_init_70 : decode cX2_init 70 = .ok (.iconst 0, 1) := by decide +kernel
theorem dX2_init_71 : decode cX2_init 71 = .ok (.putfield 52, 3) := by decide +kernel
theorem dX2_init_74 : decode cX2_init 74 = .ok (.aload_n 0, 1) := by decide +kernel
theorem dX2_init_75 : decode cX2_init 75 = .ok (.iconst 0, 1) := by decide +kernel
theorem dX2_init_76 : decode cX2_init 76 = .ok (.putfield 55, 3) := by decide +kernel
theorem dX2_init_79 : decode cX2_init 79 = .ok (.aload_n 0, 1) := by decide +kernel
theorem dX2_init_80 : decode cX2_init 80 = .ok (.iload_n 1, 1) := by decide +kernel
theorem dX2_init_81 : decode cX2_init 81 = .ok (.putfield 58, 3) := by decide +kernel
theorem dX2_init_84 : decode cX2_init 84 = .ok (.return_, 1) := by decide +kernel
set_option maxRecDepth 20000 in
theorem ggX2_prepare_X2_stand : GoodIn wsX2_prepare wsX2_stand := goodIn_r _ [9, 10, 11, 12, 13, 14, 8, 15, 16, 17, 18, 25, 26, 27, 28, 29, 30, 31, 32, 33, 34, 35, 36, 37, 38, 39, 40] (by decide +kernel) (by decide +kernel)
set_option maxRecDepth 20000 in
theorem gX2_prepare_X2_stand : GoodIn wsX2_prepare (wsV RX2 61 RX2 yX2_stand wsX2_stand) := goodIn_app (goodIn_of _ (by decide +kernel)) ggX2_prepare_X2_stand
set_option maxRecDepth 20000 in
theorem ggX2_prepare_X2_drop : GoodIn wsX2_prepare wsX2_drop := goodIn_r _ [22, 23, 24, 25, 26, 27, 28, 29, 30, 31, 32, 33, 34, 35, 36, 37, 38, 39, 40] (by decide +kernel) (by decide +kernel)
set_option maxRecDepth 20000 in
theorem gX2_prepare_X2_drop : GoodIn wsX2_prepare (wsV RX2 64 RX2 yX2_drop wsX2_drop) := goodIn_app (goodIn_of _ (by decide +kernel)) ggX2_prepare_X2_drop
theorem dX2_prepare_0 : decode cX2_prepare 0 = .ok (.aload_n 0, 1) := by decide +kernel
theorem dX2_prepare_1 : decode cX2_prepare 1 = .ok (.iload_n 1, 1) := by decide +kernel
theorem dX2_prepare_2 : decode cX2_prepare 2 = .ok (.putfield 9, 3) := by decide +kernel
theorem dX2_prepare_5 : decode cX2_prepare 5 = .ok (.aload_n 0, 1) := by decide +kernel
theorem dX2_prepare_6 : decode cX2_prepare 6 = .ok (.iload_n 2, 1) := by decide +kernel
theorem dX2_prepare_7 : decode cX2_prepare 7 = .ok (.putfield 18, 3) := by decide +kernel
theorem dX2_prepare_10 : decode cX2_prepare 10 = .ok (.aload_n 0, 1) := by decide +kernel
theorem dX2_prepare_11 : decode cX2_prepare 11 = .ok (.sipush 1000, 3) := by decide +kernel
theorem dX2_prepare_14 : decode cX2_prepare 14 = .ok (.putfield 15, 3) := by decide +kernel
theorem dX2_prepare_17 : decode cX2_prepare 17 = .ok (.aload_n 0, 1) := by decide +kernel
