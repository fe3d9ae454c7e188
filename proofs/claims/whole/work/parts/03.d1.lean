theorem dX0_init_0 : decode cX0_init 0 = .ok (.aload_n 0, 1) := by decide +kernel
theorem dX0_init_1 : decode cX0_init 1 = .ok (.invokespecial 3, 3) := by decide +kernel
theorem dX0_init_4 : decode cX0_init 4 = .ok (.aload_n 0, 1) := by decide +kernel
theorem dX0_init_5 : decode cX0_init 5 = .ok (.iconst 0, 1) := by decide +kernel
theorem dX0_init_6 : decode cX0_init 6 = .ok (.putfield 9, 3) := by decide +kernel
theorem dX0_init_9 : decode cX0_init 9 = .ok (.aload_n 0, 1) := by decide +kernel
theorem dX0_init_10 : decode cX0_init 10 = .ok (.iconst 0, 1) := by decide +kernel
theorem dX0_init_11 : decode cX0_init 11 = .ok (.putfield 15, 3) := by decide +kernel
theorem dX0_init_14 : decode cX0_init 14 = .ok (.aload_n 0, 1) := by decide +kernel
theorem dX0_init_15 : decode cX0_init 15 = .ok (.iconst 0, 1) := by decide +kernel
theorem dX0_init_16 : decode cX0_init 16 = .ok (.putfield 18, 3) := by decide +kernel
theorem dX0_init_19 : decode cX0_init 19 = .ok (.return_, 1) := by decide +kernel
theorem dX0_clear_0 : decode cX0_clear 0 = .ok (.aload_n 0, 1) := by decide +kernel
theorem dX0_clear_1 : decode cX0_clear 1 = .ok (.iconst 0, 1) := by decide +kernel
theorem dX0_clear_2 : decode cX0_clear 2 = .ok (.putfield 9, 3) := by decide +kernel
theorem dX0_clear_5 : decode cX0_clear 5 = .ok (.aload_n 0, 1) := by decide +kernel
theorem dX0_clear_6 : decode cX0_clear 6 = .ok (.iconst 0, 1) := by decide +kernel
theorem dX0_clear_7 : decode cX0_clear 7 = .ok (.putfield 15, 3) := by decide +kernel
theorem dX0_clear_10 : decode cX0_clear 10 = .ok (.aload_n 0, 1) := by decide +kernel
theorem dX0_clear_11 : decode cX0_clear 11 = .ok (.iconst 0, 1) := by decide +kernel
theorem dX0_clear_12 : decode cX0_clear 12 = .ok (.putfield 18, 3) := by decide +kernel
theorem dX0_clear_15 : decode cX0_clear 15 = .ok (.return_, 1) := by decide +kernel
theorem dX0_count_0 : decode cX0_count 0 = .ok (.iload_n 1, 1) := by decide +kernel
theorem dX0_count_1 : decode cX0_count 1 = .ok (.iload_n 2, 1) := by decide +kernel
theorem dX0_count_2 : decode cX0_count 2 = .ok (.if_icmp .le 16, 3) := by decide +kernel
theorem dX0_count_5 : decode cX0_count 5 = .ok (.aload_n 0, 1) := by decide +kernel
theorem dX0_count_6 : decode cX0_count 6 = .ok (.dup, 1) := by decide +kernel
theorem dX0_count_7 : decode cX0_count 7 = .ok (.getfield 15, 3) := by decide +kernel
theorem dX0_count_10 : decode cX0_count 10 = .ok (.iconst 1, 1) := by decide +kernel
theorem dX0_count_11 : decode cX0_count 11 = .ok (.iadd, 1) := by decide +kernel
theorem dX0_count_12 : decode cX0_count 12 = .ok (.putfield 15, 3) := by decide +kernel
theorem dX0_count_15 : decode cX0_count 15 = .ok (.goto 18, 3) := by decide +kernel
theorem dX0_count_18 : decode cX0_count 18 = .ok (.iload_n 2, 1) := by decide +kernel
theorem dX0_count_19 : decode cX0_count 19 = .ok (.iload_n 1, 1) := by decide +kernel
theorem dX0_count_20 : decode cX0_count 20 = .ok (.if_icmp .le 13, 3) := by decide +kernel
theorem dX0_count_23 : decode cX0_count 23 = .ok (.aload_n 0, 1) := by decide +kernel
theorem dX0_count_24 : decode cX0_count 24 = .ok (.dup, 1) := by decide +kernel
theorem dX0_count_25 : decode cX0_count 25 = .ok (.getfield 18, 3) := by decide +kernel
theorem dX0_count_28 : decode cX0_count 28 = .ok (.iconst 1, 1) := by decide +kernel
theorem dX0_count_29 : decode cX0_count 29 = .ok (.iadd, 1) := by decide +kernel
theorem dX0_count_30 : decode cX0_count 30 = .ok (.putfield 18, 3) := by decide +kernel
theorem dX0_count_33 : decode cX0_count 33 = .ok (.return_, 1) := by decide +kernel
theorem dX0_wins_0 : decode cX0_wins 0 = .ok (.iload_n 1, 1) := by decide +kernel
theorem dX0_wins_1 : decode cX0_wins 1 = .ok (.ifCond .ne 10, 3) := by decide +kernel
theorem dX0_wins_4 : decode cX0_wins 4 = .ok (.aload_n 0, 1) := by decide +kernel
theorem dX0_wins_5 : decode cX0_wins 5 = .ok (.getfield 15, 3) := by decide +kernel
theorem dX0_wins_8 : decode cX0_wins 8 = .ok (.goto 7, 3) := by decide +kernel
theorem dX0_wins_11 : decode cX0_wins 11 = .ok (.aload_n 0, 1) := by decide +kernel
theorem dX0_wins_12 : decode cX0_wins 12 = .ok (.getfield 18, 3) := by decide +kernel
theorem dX0_wins_15 : decode cX0_wins 15 = .ok (.ireturn, 1) := by decide +kernel
theorem dX0_wonBy_0 : decode cX0_wonBy 0 = .ok (.aload_n 0, 1) := by decide +kernel
theorem dX0_wonBy_1 : decode cX0_wonBy 1 = .ok (.getfield 15, 3) := by decide +kernel
theorem dX0_wonBy_4 : decode cX0_wonBy 4 = .ok (.iconst 2, 1) := by decide +kernel
theorem dX0_wonBy_5 : decode cX0_wonBy 5 = .ok (.if_icmp .lt 5, 3) := by decide +kernel
theorem dX0_wonBy_8 : decode cX0_wonBy 8 = .ok (.iconst 0, 1) := by decide +kernel
theorem dX0_wonBy_9 : decode cX0_wonBy 9 = .ok (.ireturn, 1) := by decide +kernel
theorem dX0_wonBy_10 : decode cX0_wonBy 10 = .ok (.aload_n 0, 1) := by decide +kernel
theorem dX0_wonBy_11 : decode cX0_wonBy 11 = .ok (.getfield 18, 3) := by decide +kernel
theorem dX0_wonBy_14 : decode cX0_wonBy 14 = .ok (.iconst 2, 1) := by decide +kernel
theorem dX0_wonBy_15 : decode cX0_wonBy 15 = .ok (.if_icmp .lt 7, 3) := by decide +kernel
theorem dX0_wonBy_18 : decode cX0_wonBy 18 = .ok (.iconst 1, 1) := by decide +kernel
theorem dX0_wonBy_19 : decode cX0_wonBy 19 = .ok (.goto 4, 3) := by decide +kernel
theorem dX0_wonBy_22 : decode cX0_wonBy 22 = .ok (.iconst (-1), 1) := by decide +kernel
theorem dX0_wonBy_23 : decode cX0_wonBy 23 = .ok (.ireturn, 1) := by decide +kernel
set_option maxRecDepth 20000 in
theorem ggX1_init_X2_init : GoodIn wsX1_init wsX2_init := goodIn_r _ [12, 13, 2, 3, 14, 15, 16, 17, 18, 19, 20, 21, 22, 23, 24, 25, 26, 27, 28, 29, 30, 31, 32, 33, 34, 35, 36, 37, 38, 39, 40, 41, 42, 43, 44, 45] (by decide +kernel) (by decide +kernel)
set_option maxRecDepth 20000 in
theorem gX1_init_X2_init : GoodIn wsX1_init (wsX2_init) := ggX1_init_X2_init
theorem dX1_init_0 : decode cX1_init 0 = .ok (.aload_n 0, 1) := by decide +kernel
theorem dX1_init_1 : decode cX1_init 1 = .ok (.invokespecial 3, 3) := by decide +kernel
theorem dX1_init_4 : decode cX1_init 4 = .ok (.aload_n 0, 1) := by decide +kernel
theorem dX1_init_5 : decode cX1_init 5 = .ok (.new 9, 3) := by decide +kernel
theorem dX1_init_8 : decode cX1_init 8 = .ok (.dup, 1) := by decide +kernel
theorem dX1_init_9 : decode cX1_init 9 = .ok (.iconst 1, 1) := by decide +kernel
theorem dX1_init_10 : decode cX1_init 10 = .ok (.invokespecial 11, 3) := by decide +kernel
theorem dX1_init_13 : decode cX1_init 13 = .ok (.putfield 14, 3) := by decide +kernel
theorem dX1_init_16 : decode cX1_init 16 = .ok (.aload_n 0, 1) := by decide +kernel
theorem dX1_init_17 : decode cX1_init 17 = .ok (.new 9, 3) := by decide +kernel
theorem dX1_init_20 : decode cX1_init 20 = .ok (.dup, 1) := by decide +kernel
theorem dX1_init_21 : decode cX1_init 21 = .ok (.iconst 0, 1) := by decide +kernel
theorem dX1_init_22 : decode cX1_init 22 = .ok (.invokespecial 11, 3) := by decide +kernel
theorem dX1_init_25 : decode cX1_init 25 = .ok (.putfield 20, 3) := by decide +kernel
theorem dX1_init_28 : decode cX1_init 28 = .ok (.aload_n 0, 1) := by decide +kernel
theorem dX1_init_29 : decode cX1_init 29 = .ok (.aload_n 1, 1) := by decide +kernel
theorem dX1_init_30 : decode cX1_init 30 = .ok (.putfield 23, 3) := by decide +kernel
theorem dX1_init_33 : decode cX1_init 33 = .ok (.return_, 1) := by decide +kernel
set_option maxRecDepth 20000 in
theorem ggX1_prepare_X2_prepare : GoodIn wsX1_prepare wsX2_prepare := goodIn_r _ [7, 8, 9, 10, 11, 12, 13, 14, 6, 15, 16, 17, 18, 19, 20, 21, 22, 23, 24, 25, 26, 27, 28, 29, 30, 34, 35, 36, 37, 38, 39, 40, 41, 42, 43, 44, 45, 46, 47, 48, 49] (by decide +kernel) (by decide +kernel)
set_option maxRecDepth 20000 in
theorem gX1_prepare_X2_prepare : GoodIn wsX1_prepare (wsV RX1 27 RX2 yX2_prepare wsX2_prepare) := goodIn_app (goodIn_of _ (by decide +kernel)) ggX1_prepare_X2_prepare
theorem dX1_prepare_0 : decode cX1_prepare 0 = .ok (.aload_n 0, 1) := by decide +kernel
theorem dX1_prepare_1 : decode cX1_prepare 1 = .ok (.getfield 14, 3) := by decide +kernel
theorem dX1_prepare_4 : decode cX1_prepare 4 = .ok (.sipush 300, 3) := by decide +kernel
theorem dX1_prepare_7 : decode cX1_prepare 7 = .ok (.iload_n 1, 1) := by decide +kernel
theorem dX1_prepare_8 : decode cX1_prepare 8 = .ok (.iconst 2, 1) := by decide +kernel
theorem dX1_prepare_9 : decode cX1_prepare 9 = .ok (.idiv, 1) := by decide +kernel
theorem dX1_prepare_10 : decode cX1_prepare 10 = .ok (.isub, 1) := by decide +kernel
theorem dX1_prepare_11 : decode cX1_prepare 11 = .ok (.iload_n 2, 1) := by decide +kernel
theorem dX1_prepare_12 : decode cX1_prepare 12 = .ok (.invokevirtual 27, 3) := by decide +kernel
theorem dX1_prepare_15 : decode cX1_prepare 15 = .ok (.aload_n 0, 1) := by decide +kernel
theorem dX1_prepare_16 : decode cX1_prepare 16 = .ok (.getfield 20, 3) := by decide +kernel
theorem dX1_prepare_19 : decode cX1_prepare 19 = .ok (.sipush 300, 3) := by decide +kernel
theorem dX1_prepare_22 : decode cX1_prepare 22 = .ok (.iload_n 1, 1) := by decide +kernel
theorem dX1_prepare_23 : decode cX1_prepare 23 = .ok (.iconst 2, 1) := by decide +kernel
theorem dX1_prepare_24 : decode cX1_prepare 24 = .ok (.idiv, 1) := by decide +kernel
theorem dX1_prepare_25 : decode cX1_prepare 25 = .ok (.iadd, 1) := by decide +kernel
theorem dX1_prepare_26 : decode cX1_prepare 26 = .ok (.iload_n 3, 1) := by decide +kernel
theorem dX1_prepare_27 : decode cX1_prepare 27 = .ok (.invokevirtual 27, 3) := by decide +kernel
theorem dX1_prepare_30 : decode cX1_prepare 30 = .ok (.return_, 1) := by decide +kernel
set_option maxRecDepth 20000 in
theorem ggX1_copy_X2_copy : GoodIn wsX1_copy wsX2_copy := goodIn_r _ [7, 8, 9, 10, 11, 12, 13, 14, 15, 16, 17, 18, 22, 23, 24, 25, 26, 27, 28, 29, 30, 31, 32, 33, 34, 35, 36, 37] (by decide +kernel) (by decide +kernel)
set_option maxRecDepth 20000 in
theorem gX1_copy_X2_copy : GoodIn wsX1_copy (wsV RX1 31 RX2 yX2_copy wsX2_copy) := goodIn_app (goodIn_of _ (by decide +kernel)) ggX1_copy_X2_copy
theorem dX1_copy_0 : decode cX1_copy 0 = .ok (.aload_n 0, 1) := by decide +kernel
theorem dX1_copy_1 : decode cX1_copy 1 = .ok (.getfield 14, 3) := by decide +kernel
theorem dX1_copy_4 : decode cX1_copy 4 = .ok (.aload_n 1, 1) := by decide +kernel
theorem dX1_copy_5 : decode cX1_copy 5 = .ok (.getfield 14, 3) := by decide +kernel
theorem dX1_copy_8 : decode cX1_copy 8 = .ok (.invokevirtual 31, 3) := by decide +kernel
theorem dX1_copy_11 : decode cX1_copy 11 = .ok (.aload_n 0, 1) := by decide +kernel
theorem dX1_copy_12 : decode cX1_copy 12 = .ok (.getfield 20, 3) := by decide +kernel
theorem dX1_copy_15 : decode cX1_copy 15 = .ok (.aload_n 1, 1) := by decide +kernel
theorem dX1_copy_16 : decode cX1_copy 16 = .ok (.getfield 20, 3) := by decide +kernel
theorem dX1_copy_19 : decode cX1_copy 19 = .ok (.invokevirtual 31, 3) := by decide +kernel
theorem dX1_copy_22 : decode cX1_copy 22 = .ok (.return_, 1) := by decide +kernel
theorem dX1_figure_0 : decode cX1_figure 0 = .ok (.iload_n 1, 1) := by decide +kernel
theorem dX1_figure_1 : decode cX1_figure 1 = .ok (.ifCond .ne 10, 3) := by decide +kernel
theorem dX1_figure_4 : decode cX1_figure 4 = .ok (.aload_n 0, 1) := by decide +kernel
theorem dX1_figure_5 : decode cX1_figure 5 = .ok (.getfield 14, 3) := by decide +kernel
theorem dX1_figure_8 : decode cX1_figure 8 = .ok (.goto 7, 3) := by decide +kernel
theorem dX1_figure_11 : decode cX1_figure 11 = .ok (.aload_n 0, 1) := by decide +kernel
theorem dX1_figure_12 : decode cX1_figure 12 = .ok (.getfield 20, 3) := by decide +kernel
theorem dX1_figure_15 : decode cX1_figure 15 = .ok (.areturn, 1) := by decide +kernel
set_option maxRecDepth 20000 in
theorem ggX1_playFrame_X2_take : GoodIn wsX1_playFrame wsX2_take := goodIn_r _ [8, 9, 10, 11, 12, 159, 160, 161, 162, 163, 164, 165, 166, 167, 168, 169, 170, 171, 172, 173, 174] (by decide +kernel) (by decide +kernel)
set_option maxRecDepth 20000 in
theorem gX1_playFrame_X2_take : GoodIn wsX1_playFrame (wsV RX1 35 RX2 yX2_take wsX2_take) := goodIn_app (goodIn_of _ (by decide +kernel)) ggX1_playFrame_X2_take
set_option maxRecDepth 20000 in
theorem ggX1_playFrame_X2_beginKept : GoodIn wsX1_playFrame wsX2_beginKept := goodIn_r _ [16, 11, 17, 18, 19, 20, 21, 10, 22, 23, 24, 25, 26, 27, 28, 29, 30, 31, 32, 33, 34, 35, 36, 37, 7, 38, 39, 40, 41, 42, 43, 44, 45, 46, 47, 12, 159, 160, 161, 162, 163, 164, 165, 166, 167, 168, 169, 170, 171, 172, 173, 174, 175, 176, 177, 178, 179, 180, 181, 182, 183, 184, 185] (by decide +kernel) (by decide +kernel)
set_option maxRecDepth 20000 in
theorem gX1_playFrame_X2_beginKept : GoodIn wsX1_playFrame (wsV RX1 39 RX2 yX2_beginKept wsX2_beginKept) := goodIn_app (goodIn_of _ (by decide +kernel)) ggX1_playFrame_X2_beginKept
set_option maxRecDepth 20000 in
theorem ggX1_playFrame_X1_walk : GoodIn wsX1_playFrame wsX1_walk := goodIn_r _ [52, 1, 2, 53, 54, 55, 56, 57, 58, 59, 60, 61, 62, 63, 7, 64, 18, 9, 65, 66, 67, 68, 69, 51, 70, 156, 157, 158, 159, 160, 161, 162, 163, 164, 165, 166, 167, 168, 169, 170, 171, 172, 173, 174] (by decide +kernel) (by decide +kernel)
set_option maxRecDepth 20000 in
theorem gX1_playFrame_X1_walk : GoodIn wsX1_playFrame (wsV RX1 43 RX1 yX1_walk wsX1_walk) := goodIn_app (goodIn_of _ (by decide +kernel)) ggX1_playFrame_X1_walk
set_option maxRecDepth 20000 in
theorem ggX1_playFrame_X1_strike : GoodIn wsX1_playFrame wsX1_strike := goodIn_r _ [74, 3, 1, 75, 2, 76, 77, 23, 24, 25, 26, 27, 28, 78, 79, 80, 51, 81, 82, 83, 84, 85, 86, 87, 88, 32, 89, 90, 91, 67, 68, 69, 70, 53, 92, 93, 94, 95, 96, 97, 98, 7, 99, 21, 17, 100, 101, 102, 103, 66, 65, 104, 105, 106, 107, 18, 108, 109, 110, 111, 112, 113, 114, 30, 31, 33, 34, 115, 116, 117, 118, 9, 119, 120, 121, 122, 123, 124, 125, 126, 127, 128, 129, 130, 29, 131, 132, 133, 134, 135, 136, 137, 138, 19, 20, 156, 157, 158, 159, 160, 161, 162, 163, 164, 165, 166, 167, 168, 169, 170, 171, 172, 173, 174, 178, 179, 180, 181, 182, 183, 184, 185, 175, 176, 177] (by decide +kernel) (by decide +kernel)
set_option maxRecDepth 20000 in
theorem gX1_playFrame_X1_strike : GoodIn wsX1_playFrame (wsV RX1 46 RX1 yX1_strike wsX1_strike) := goodIn_app (goodIn_of _ (by decide +kernel)) ggX1_playFrame_X1_strike
set_option maxRecDepth 20000 in
theorem ggX1_playFrame_X2_endFrame : GoodIn wsX1_playFrame wsX2_endFrame := goodIn_r _ [142, 18, 19, 130, 109, 12, 22, 23, 24, 25, 26, 27, 28, 143, 144, 145, 32, 146, 90, 91, 147, 148, 149, 150, 7, 151, 20, 21, 152, 153, 154, 155, 135, 136, 137, 138, 44, 45, 46, 47, 11, 159, 160, 161, 162, 163, 164, 165, 166, 167, 168, 169, 170, 171, 172, 173, 174, 175, 176, 177, 178, 179, 180, 181, 182, 183, 184, 185] (by decide +kernel) (by decide +kernel)
set_option maxRecDepth 20000 in
theorem gX1_playFrame_X2_endFrame : GoodIn wsX1_playFrame (wsV RX1 49 RX2 yX2_endFrame wsX2_endFrame) := goodIn_app (goodIn_of _ (by decide +kernel)) ggX1_playFrame_X2_endFrame
theorem dX1_playFrame_0 : decode cX1_playFrame 0 = .ok (.aload_n 0, 1) := by decide +kernel
theorem dX1_playFrame_1 : decode cX1_playFrame 1 = .ok (.getfield 14, 3) := by decide +kernel
theorem dX1_playFrame_4 : decode cX1_playFrame 4 = .ok (.iload_n 1, 1) := by decide +kernel
theorem dX1_playFrame_5 : decode cX1_playFrame 5 = .ok (.invokevirtual 35, 3) := by decide +kernel
theorem dX1_playFrame_8 : decode cX1_playFrame 8 = .ok (.aload_n 0, 1) := by decide +kernel
theorem dX1_playFrame_9 : decode cX1_playFrame 9 = .ok (.getfield 20, 3) := by decide +kernel
theorem dX1_playFrame_12 : decode cX1_playFrame 12 = .ok (.iload_n 2, 1) := by decide +kernel
theorem dX1_playFrame_13 : decode cX1_playFrame 13 = .ok (.invokevirtual 35, 3) := by decide +kernel
theorem dX1_playFrame_16 : decode cX1_playFrame 16 = .ok (.aload_n 0, 1) := by decide +kernel
theorem dX1_playFrame_17 : decode cX1_playFrame 17 = .ok (.getfield 14, 3) := by decide +kernel
theorem dX1_playFrame_20 : decode cX1_playFrame 20 = .ok (.aload_n 0, 1) := by decide +kernel
theorem dX1_playFrame_21 : decode cX1_playFrame 21 = .ok (.getfield 23, 3) := by decide +kernel
theorem dX1_playFrame_24 : decode cX1_playFrame 24 = .ok (.invokevirtual 39, 3) := by decide +kernel
theorem dX1_playFrame_27 : decode cX1_playFrame 27 = .ok (.aload_n 0, 1) := by decide +kernel
theorem dX1_playFrame_28 : decode cX1_playFrame 28 = .ok (.getfield 20, 3) := by decide +kernel
theorem dX1_playFrame_31 : decode cX1_playFrame 31 = .ok (.aload_n 0, 1) := by decide +kernel
theorem dX1_playFrame_32 : decode cX1_playFrame 32 = .ok (.getfield 23, 3) := by decide +kernel
theorem dX1_playFrame_35 : decode cX1_playFrame 35 = .ok (.invokevirtual 39, 3) := by decide +kernel
theorem dX1_playFrame_38 : decode cX1_playFrame 38 = .ok (.aload_n 0, 1) := by decide +kernel
theorem dX1_playFrame_39 : decode cX1_playFrame 39 = .ok (.invokevirtual 43, 3) := by decide +kernel
theorem dX1_playFrame_42 : decode cX1_playFrame 42 = .ok (.aload_n 0, 1) := by decide +kernel
theorem dX1_playFrame_43 : decode cX1_playFrame 43 = .ok (.invokevirtual 46, 3) := by decide +kernel
theorem dX1_playFrame_46 : decode cX1_playFrame 46 = .ok (.aload_n 0, 1) := by decide +kernel
theorem dX1_playFrame_47 : decode cX1_playFrame 47 = .ok (.getfield 14, 3) := by decide +kernel
theorem dX1_playFrame_50 : decode cX1_playFrame 50 = .ok (.aload_n 0, 1) := by decide +kernel
theorem dX1_playFrame_51 : decode cX1_playFrame 51 = .ok (.getfield 23, 3) := by decide +kernel
theorem dX1_playFrame_54 : decode cX1_playFrame 54 = .ok (.invokevirtual 49, 3) := by decide +kernel
theorem dX1_playFrame_57 : decode cX1_playFrame 57 = .ok (.aload_n 0, 1) := by decide +kernel
theorem dX1_playFrame_58 : decode cX1_playFrame 58 = .ok (.getfield 20, 3) := by decide +kernel
theorem dX1_playFrame_61 : decode cX1_playFrame 61 = .ok (.aload_n 0, 1) := by decide +kernel
theorem dX1_playFrame_62 : decode cX1_playFrame 62 = .ok (.getfield 23, 3) := by decide +kernel
theorem dX1_playFrame_65 : decode cX1_playFrame 65 = .ok (.invokevirtual 49, 3) := by decide +kernel
theorem dX1_playFrame_68 : decode cX1_playFrame 68 = .ok (.return_, 1) := by decide +kernel
theorem dX1_apart_0 : decode cX1_apart 0 = .ok (.aload_n 0, 1) := by decide +kernel
theorem dX1_apart_1 : decode cX1_apart 1 = .ok (.getfield 20, 3) := by decide +kernel
theorem dX1_apart_4 : decode cX1_apart 4 = .ok (.getfield 52, 3) := by decide +kernel
theorem dX1_apart_7 : decode cX1_apart 7 = .ok (.aload_n 0, 1) := by decide +kernel
theorem dX1_apart_8 : decode cX1_apart 8 = .ok (.getfield 14, 3) := by decide +kernel
theorem dX1_apart_11 : decode cX1_apart 11 = .ok (.getfield 52, 3) := by decide +kernel
theorem dX1_apart_14 : decode cX1_apart 14 = .ok (.isub, 1) := by decide +kernel
theorem dX1_apart_15 : decode cX1_apart 15 = .ok (.ireturn, 1) := by decide +kernel
set_option maxRecDepth 20000 in
theorem ggX1_walk_X2_walk : GoodIn wsX1_walk wsX2_walk := goodIn_r _ [15, 16, 17, 18, 19, 28, 29, 30, 31, 32, 33, 34, 35, 36, 37, 38, 39, 40, 41, 42, 43] (by decide +kernel) (by decide +kernel)
set_option maxRecDepth 20000 in
theorem gX1_walk_X2_walk : GoodIn wsX1_walk (wsV RX1 56 RX2 yX2_walk wsX2_walk) := goodIn_app (goodIn_of _ (by decide +kernel)) ggX1_walk_X2_walk
set_option maxRecDepth 20000 in
theorem ggX1_walk_X1_apart : GoodIn wsX1_walk wsX1_apart := goodIn_r _ [24, 2, 3, 1, 25, 26, 27, 28, 29, 30, 31, 32, 33, 34, 35, 36, 37, 38, 39, 40, 41, 42, 43] (by decide +kernel) (by decide +kernel)
set_option maxRecDepth 20000 in
theorem gX1_walk_X1_apart : GoodIn wsX1_walk (wsV RX1 57 RX1 yX1_apart wsX1_apart) := goodIn_app (goodIn_of _ (by decide +kernel)) ggX1_walk_X1_apart
theorem dX1_walk_0 : decode cX1_walk 0 = .ok (.aload_n 0, 1) := by decide +kernel
theorem dX1_walk_1 : decode cX1_walk 1 = .ok (.getfield 14, 3) := by decide +kernel
theorem dX1_walk_4 : decode cX1_walk 4 = .ok (.invokevirtual 56, 3) := by decide +kernel
theorem dX1_walk_7 : decode cX1_walk 7 = .ok (.aload_n 0, 1) := by decide +kernel
theorem dX1_walk_8 : decode cX1_walk 8 = .ok (.getfield 20, 3) := by decide +kernel
theorem dX1_walk_11 : decode cX1_walk 11 = .ok (.invokevirtual 56, 3) := by decide +kernel
theorem dX1_walk_14 : decode cX1_walk 14 = .ok (.bipush 20, 2) := by decide +kernel
theorem dX1_walk_16 : decode cX1_walk 16 = .ok (.aload_n 0, 1) := by decide +kernel
theorem dX1_walk_17 : decode cX1_walk 17 = .ok (.invokevirtual 57, 3) := by decide +kernel
theorem dX1_walk_20 : decode cX1_walk 20 = .ok (.isub, 1) := by decide +kernel
theorem dX1_walk_21 : decode cX1_walk 21 = .ok (.istore_n 1, 1) := by decide +kernel
theorem dX1_walk_22 : decode cX1_walk 22 = .ok (.iload_n 1, 1) := by decide +kernel
theorem dX1_walk_23 : decode cX1_walk 23 = .ok (.ifCond .le 35, 3) := by decide +kernel
theorem dX1_walk_26 : decode cX1_walk 26 = .ok (.aload_n 0, 1) := by decide +kernel
theorem dX1_walk_27 : decode cX1_walk 27 = .ok (.getfield 14, 3) := by decide +kernel
theorem dX1_walk_30 : decode cX1_walk 30 = .ok (.dup, 1) := by decide +kernel
theorem dX1_walk_31 : decode cX1_walk 31 = .ok (.getfield 52, 3) := by decide +kernel
theorem dX1_walk_34 : decode cX1_walk 34 = .ok (.iload_n 1, 1) := by decide +kernel
theorem dX1_walk_35 : decode cX1_walk 35 = .ok (.iconst 2, 1) := by decide +kernel
theorem dX1_walk_36 : decode cX1_walk 36 = .ok (.idiv, 1) := by decide +kernel
theorem dX1_walk_37 : decode cX1_walk 37 = .ok (.isub, 1) := by decide +kernel
theorem dX1_walk_38 : decode cX1_walk 38 = .ok (.putfield 52, 3) := by decide +kernel
theorem dX1_walk_41 : decode cX1_walk 41 = .ok (.aload_n 0, 1) := by decide +kernel
theorem dX1_walk_42 : decode cX1_walk 42 = .ok (.getfield 20, 3) := by decide +kernel
theorem dX1_walk_45 : decode cX1_walk 45 = .ok (.dup, 1) := by decide +kernel
theorem dX1_walk_46 : decode cX1_walk 46 = .ok (.getfield 52, 3) := by decide +kernel
theorem dX1_walk_49 : decode cX1_walk 49 = .ok (.iload_n 1, 1) := by decide +kernel
theorem dX1_walk_50 : decode cX1_walk 50 = .ok (.iload_n 1, 1) := by decide +kernel
theorem dX1_walk_51 : decode cX1_walk 51 = .ok (.iconst 2, 1) := by decide +kernel
theorem dX1_walk_52 : decode cX1_walk 52 = .ok (.idiv, 1) := by decide +kernel
theorem dX1_walk_53 : decode cX1_walk 53 = .ok (.isub, 1) := by decide +kernel
theorem dX1_walk_54 : decode cX1_walk 54 = .ok (.iadd, 1) := by decide +kernel
theorem dX1_walk_55 : decode cX1_walk 55 = .ok (.putfield 52, 3) := by decide +kernel
theorem dX1_walk_58 : decode cX1_walk 58 = .ok (.aload_n 0, 1) := by decide +kernel
theorem dX1_walk_59 : decode cX1_walk 59 = .ok (.getfield 14, 3) := by decide +kernel
theorem dX1_walk_62 : decode cX1_walk 62 = .ok (.getfield 52, 3) := by decide +kernel
theorem dX1_walk_65 : decode cX1_walk 65 = .ok (.ifCond .ge 30, 3) := by decide +kernel
theorem dX1_walk_68 : decode cX1_walk 68 = .ok (.aload_n 0, 1) := by decide +kernel
theorem dX1_walk_69 : decode cX1_walk 69 = .ok (.getfield 14, 3) := by decide +kernel
theorem dX1_walk_72 : decode cX1_walk 72 = .ok (.iconst 0, 1) := by decide +kernel
theorem dX1_walk_73 : decode cX1_walk 73 = .ok (.putfield 52, 3) := by decide +kernel
theorem dX1_walk_76 : decode cX1_walk 76 = .ok (.aload_n 0, 1) := by decide +kernel
theorem dX1_walk_77 : decode cX1_walk 77 = .ok (.getfield 20, 3) := by decide +kernel
theorem dX1_walk_80 : decode cX1_walk 80 = .ok (.aload_n 0, 1) := by decide +kernel
theorem dX1_walk_81 : decode cX1_walk 81 = .ok (.getfield 20, 3) := by decide +kernel
theorem dX1_walk_84 : decode cX1_walk 84 = .ok (.getfield 52, 3) := by decide +kernel
theorem dX1_walk_87 : decode cX1_walk 87 = .ok (.bipush 20, 2) := by decide +kernel
theorem dX1_walk_89 : decode cX1_walk 89 = .ok (.invokestatic 61, 3) := by decide +kernel
theorem dX1_walk_92 : decode cX1_walk 92 = .ok (.putfield 52, 3) := by decide +kernel
theorem dX1_walk_95 : decode cX1_walk 95 = .ok (.aload_n 0, 1) := by decide +kernel
theorem dX1_walk_96 : decode cX1_walk 96 = .ok (.getfield 20, 3) := by decide +kernel
theorem dX1_walk_99 : decode cX1_walk 99 = .ok (.getfield 52, 3) := by decide +kernel
theorem dX1_walk_102 : decode cX1_walk 102 = .ok (.sipush 600, 3) := by decide +kernel
theorem dX1_walk_105 : decode cX1_walk 105 = .ok (.if_icmp .le 33, 3) := by decide +kernel
theorem dX1_walk_108 : decode cX1_walk 108 = .ok (.aload_n 0, 1) := by decide +kernel
theorem dX1_walk_109 : decode cX1_walk 109 = .ok (.getfield 20, 3) := by decide +kernel
theorem dX1_walk_112 : decode cX1_walk 112 = .ok (.sipush 600, 3) := by decide +kernel
theorem dX1_walk_115 : decode cX1_walk 115 = .ok (.putfield 52, 3) := by decide +kernel
theorem dX1_walk_118 : decode cX1_walk 118 = .ok (.aload_n 0, 1) := by decide +kernel
theorem dX1_walk_119 : decode cX1_walk 119 = .ok (.getfield 14, 3) := by decide +kernel
theorem dX1_walk_122 : decode cX1_walk 122 = .ok (.aload_n 0, 1) := by decide +kernel
theorem dX1_walk_123 : decode cX1_walk 123 = .ok (.getfield 14, 3) := by decide +kernel
theorem dX1_walk_126 : decode cX1_walk 126 = .ok (.getfield 52, 3) := by decide +kernel
theorem dX1_walk_129 : decode cX1_walk 129 = .ok (.sipush 580, 3) := by decide +kernel
theorem dX1_walk_132 : decode cX1_walk 132 = .ok (.invokestatic 67, 3) := by decide +kernel
theorem dX1_walk_135 : decode cX1_walk 135 = .ok (.putfield 52, 3) := by decide +kernel
theorem dX1_walk_138 : decode cX1_walk 138 = .ok (.return_, 1) := by decide +kernel
set_option maxRecDepth 20000 in
theorem ggX1_strike_X5_at : GoodIn wsX1_strike wsX5_at := goodIn_r _ [10, 11, 12, 122, 123, 124] (by decide +kernel) (by decide +kernel)
set_option maxRecDepth 20000 in
theorem gX1_strike_X5_at : GoodIn wsX1_strike (wsV RX1 73 RX5 yX5_at wsX5_at) := goodIn_app (goodIn_of _ (by decide +kernel)) ggX1_strike_X5_at
set_option maxRecDepth 20000 in
theorem ggX1_strike_X1_reaches : GoodIn wsX1_strike wsX1_reaches := goodIn_r _ [17, 18, 19, 20, 5, 21, 22, 23, 24, 25, 26, 27, 28, 29, 30, 31, 16, 32, 4, 33, 2, 98, 99, 100, 101, 102, 103, 104, 105, 106, 107, 108, 109, 110, 111, 112, 113, 114, 115, 116, 117, 118, 119, 120, 121, 95, 96, 97] (by decide +kernel) (by decide +kernel)
set_option maxRecDepth 20000 in
theorem gX1_strike_X1_reaches : GoodIn wsX1_strike (wsV RX1 79 RX1 yX1_reaches wsX1_reaches) := goodIn_app (goodIn_of _ (by decide +kernel)) ggX1_strike_X1_reaches
set_option maxRecDepth 20000 in
theorem ggX1_strike_X1_part : GoodIn wsX1_strike wsX1_part := goodIn_r _ [37, 2, 4, 38, 39, 40, 41, 42, 43, 44, 45, 46, 47, 48, 49, 50, 95, 96, 97, 98, 99, 100, 101, 102, 103, 104, 105, 106, 107, 108, 109, 110, 111, 112, 113] (by decide +kernel) (by decide +kernel)
set_option maxRecDepth 20000 in
theorem gX1_strike_X1_part : GoodIn wsX1_strike (wsV RX1 88 RX1 yX1_part wsX1_part) := goodIn_app (goodIn_of _ (by decide +kernel)) ggX1_strike_X1_part
set_option maxRecDepth 20000 in
theorem ggX1_strike_X2_rememberAheadOfHits : GoodIn wsX1_strike wsX2_rememberAheadOfHits := goodIn_r _ [54, 55, 56, 57, 58, 98, 99, 100, 101, 102, 103, 104, 105, 106, 107, 108, 109, 110, 111, 112, 113] (by decide +kernel) (by decide +kernel)
set_option maxRecDepth 20000 in
theorem gX1_strike_X2_rememberAheadOfHits : GoodIn wsX1_strike (wsV RX1 91 RX2 yX2_rememberAheadOfHits wsX2_rememberAheadOfHits) := goodIn_app (goodIn_of _ (by decide +kernel)) ggX1_strike_X2_rememberAheadOfHits
set_option maxRecDepth 20000 in
theorem ggX1_strike_X1_land : GoodIn wsX1_strike wsX1_land := goodIn_r _ [61, 62, 63, 64, 25, 65, 66, 38, 39, 40, 41, 42, 43, 44, 67, 68, 69, 70, 56, 71, 72, 73, 74, 75, 76, 77, 78, 79, 80, 81, 82, 55, 83, 84, 85, 86, 87, 88, 58, 57, 89, 90, 91, 92, 93, 94, 45, 46, 47, 48, 49, 50, 114, 115, 116, 117, 118, 119, 120, 121, 98, 99, 100, 101, 102, 103, 104, 105, 106, 107, 108, 109, 110, 111, 112, 113] (by decide +kernel) (by decide +kernel)
set_option maxRecDepth 20000 in
theorem gX1_strike_X1_land : GoodIn wsX1_strike (va_wsS RX1 94 yX1_land wsX1_land) := goodIn_app (goodIn_of _ (by decide +kernel)) ggX1_strike_X1_land
theorem dX1_strike_0 : decode cX1_strike 0 = .ok (.aload_n 0, 1) := by decide +kernel
theorem dX1_strike_1 : decode cX1_strike 1 = .ok (.getfield 23, 3) := by decide +kernel
theorem dX1_strike_4 : decode cX1_strike 4 = .ok (.aload_n 0, 1) := by decide +kernel
theorem dX1_strike_5 : decode cX1_strike 5 = .ok (.getfield 14, 3) := by decide +kernel
theorem dX1_strike_8 : decode cX1_strike 8 = .ok (.getfield 70, 3) := by decide +kernel
theorem dX1_strike_11 : decode cX1_strike 11 = .ok (.invokevirtual 73, 3) := by decide +kernel
theorem dX1_strike_14 : decode cX1_strike 14 = .ok (.astore_n 1, 1) := by decide +kernel
theorem dX1_strike_15 : decode cX1_strike 15 = .ok (.aload_n 0, 1) := by decide +kernel
theorem dX1_strike_16 : decode cX1_strike 16 = .ok (.getfield 23, 3) := by decide +kernel
theorem dX1_strike_19 : decode cX1_strike 19 = .ok (.aload_n 0, 1) := by decide +kernel
theorem dX1_strike_20 : decode cX1_strike 20 = .ok (.getfield 20, 3) := by decide +kernel
theorem dX1_strike_23 : decode cX1_strike 23 = .ok (.getfield 70, 3) := by decide +kernel
theorem dX1_strike_26 : decode cX1_strike 26 = .ok (.invokevirtual 73, 3) := by decide +kernel
theorem dX1_strike_29 : decode cX1_strike 29 = .ok (.astore_n 2, 1) := by decide +kernel
theorem dX1_strike_30 : decode cX1_strike 30 = .ok (.aload_n 0, 1) := by decide +kernel
theorem dX1_strike_31 : decode cX1_strike 31 = .ok (.aload_n 0, 1) := by decide +kernel
theorem dX1_strike_32 : decode cX1_strike 32 = .ok (.getfield 14, 3) := by decide +kernel
theorem dX1_strike_35 : decode cX1_strike 35 = .ok (.aload_n 1, 1) := by decide +kernel
theorem dX1_strike_36 : decode cX1_strike 36 = .ok (.aload_n 0, 1) := by decide +kernel
theorem dX1_strike_37 : decode cX1_strike 37 = .ok (.getfield 20, 3) := by decide +kernel
theorem dX1_strike_40 : decode cX1_strike 40 = .ok (.invokevirtual 79, 3) := by decide +kernel
theorem dX1_strike_43 : decode cX1_strike 43 = .ok (.istore_n 3, 1) := by decide +kernel
theorem dX1_strike_44 : decode cX1_strike 44 = .ok (.aload_n 0, 1) := by decide +kernel
theorem dX1_strike_45 : decode cX1_strike 45 = .ok (.aload_n 0, 1) := by decide +kernel
theorem dX1_strike_46 : decode cX1_strike 46 = .ok (.getfield 20, 3) := by decide +kernel
theorem dX1_strike_49 : decode cX1_strike 49 = .ok (.aload_n 2, 1) := by decide +kernel
theorem dX1_strike_50 : decode cX1_strike 50 = .ok (.aload_n 0, 1) := by decide +kernel
theorem dX1_strike_51 : decode cX1_strike 51 = .ok (.getfield 14, 3) := by decide +kernel
theorem dX1_strike_54 : decode cX1_strike 54 = .ok (.invokevirtual 79, 3) := by decide +kernel
theorem dX1_strike_57 : decode cX1_strike 57 = .ok (.istore 4, 2) := by decide +kernel
theorem dX1_strike_59 : decode cX1_strike 59 = .ok (.iload_n 3, 1) := by decide +kernel
theorem dX1_strike_60 : decode cX1_strike 60 = .ok (.ifCond .eq 29, 3) := by decide +kernel
theorem dX1_strike_63 : decode cX1_strike 63 = .ok (.iload 4, 2) := by decide +kernel
theorem dX1_strike_65 : decode cX1_strike 65 = .ok (.ifCond .eq 24, 3) := by decide +kernel
theorem dX1_strike_68 : decode cX1_strike 68 = .ok (.aload_n 1, 1) := by decide +kernel
theorem dX1_strike_69 : decode cX1_strike 69 = .ok (.getfield 83, 3) := by decide +kernel
theorem dX1_strike_72 : decode cX1_strike 72 = .ok (.iconst 3, 1) := by decide +kernel
theorem dX1_strike_73 : decode cX1_strike 73 = .ok (.if_icmp .ne 16, 3) := by decide +kernel
theorem dX1_strike_76 : decode cX1_strike 76 = .ok (.aload_n 2, 1) := by decide +kernel
theorem dX1_strike_77 : decode cX1_strike 77 = .ok (.getfield 83, 3) := by decide +kernel
theorem dX1_strike_80 : decode cX1_strike 80 = .ok (.iconst 3, 1) := by decide +kernel
theorem dX1_strike_81 : decode cX1_strike 81 = .ok (.if_icmp .ne 8, 3) := by decide +kernel
theorem dX1_strike_84 : decode cX1_strike 84 = .ok (.aload_n 0, 1) := by decide +kernel
theorem dX1_strike_85 : decode cX1_strike 85 = .ok (.invokevirtual 88, 3) := by decide +kernel
theorem dX1_strike_88 : decode cX1_strike 88 = .ok (.return_, 1) := by decide +kernel
theorem dX1_strike_89 : decode cX1_strike 89 = .ok (.aload_n 0, 1) := by decide +kernel
theorem dX1_strike_90 : decode cX1_strike 90 = .ok (.getfield 14, 3) := by decide +kernel
theorem dX1_strike_93 : decode cX1_strike 93 = .ok (.invokevirtual 91, 3) := by decide +kernel
theorem dX1_strike_96 : decode cX1_strike 96 = .ok (.aload_n 0, 1) := by decide +kernel
theorem dX1_strike_97 : decode cX1_strike 97 = .ok (.getfield 20, 3) := by decide +kernel
theorem dX1_strike_100 : decode cX1_strike 100 = .ok (.invokevirtual 91, 3) := by decide +kernel
theorem dX1_strike_103 : decode cX1_strike 103 = .ok (.iload_n 3, 1) := by decide +kernel
theorem dX1_strike_104 : decode cX1_strike 104 = .ok (.ifCond .eq 15, 3) := by decide +kernel
theorem dX1_strike_107 : decode cX1_strike 107 = .ok (.aload_n 0, 1) := by decide +kernel
theorem dX1_strike_108 : decode cX1_strike 108 = .ok (.getfield 14, 3) := by decide +kernel
theorem dX1_strike_111 : decode cX1_strike 111 = .ok (.aload_n 1, 1) := by decide +kernel
theorem dX1_strike_112 : decode cX1_strike 112 = .ok (.aload_n 0, 1) := by decide +kernel
theorem dX1_strike_113 : decode cX1_strike 113 = .ok (.getfield 20, 3) := by decide +kernel
theorem dX1_strike_116 : decode cX1_strike 116 = .ok (.invokestatic 94, 3) := by decide +kernel
theorem dX1_strike_119 : decode cX1_strike 119 = .ok (.iload 4, 2) := by decide +kernel
theorem dX1_strike_121 : decode cX1_strike 121 = .ok (.ifCond .eq 15, 3) := by decide +kernel
theorem dX1_strike_124 : decode cX1_strike 124 = .ok (.aload_n 0, 1) := by decide +kernel
theorem dX1_strike_125 : decode cX1_strike 125 = .ok (.getfield 20, 3) := by decide +kernel
theorem dX1_strike_128 : decode cX1_strike 128 = .ok (.aload_n 2, 1) := by decide +kernel
theorem dX1_strike_129 : decode cX1_strike 129 = .ok (.aload_n 0, 1) := by decide +kernel
theorem dX1_strike_130 : decode cX1_strike 130 = .ok (.getfield 14, 3) := by decide +kernel
theorem dX1_strike_133 : decode cX1_strike 133 = .ok (.invokestatic 94, 3) := by decide +kernel
theorem dX1_strike_136 : decode cX1_strike 136 = .ok (.return_, 1) := by decide +kernel
set_option maxRecDepth 20000 in
theorem ggX1_reaches_X4_isActiveIn : GoodIn wsX1_reaches wsX4_isActiveIn := goodIn_r _ [10, 11, 12, 37, 38, 39, 40, 41, 42, 43, 44] (by decide +kernel) (by decide +kernel)
set_option maxRecDepth 20000 in
theorem gX1_reaches_X4_isActiveIn : GoodIn wsX1_reaches (wsV RX1 107 RX4 yX4_isActiveIn wsX4_isActiveIn) := goodIn_app (goodIn_of _ (by decide +kernel)) ggX1_reaches_X4_isActiveIn
set_option maxRecDepth 20000 in
theorem ggX1_reaches_X1_apart : GoodIn wsX1_reaches wsX1_apart := goodIn_r _ [17, 18, 19, 20, 45, 46, 47, 21, 22, 23, 24, 25, 26, 27, 28, 29, 30, 31, 32, 33, 34, 35, 36] (by decide +kernel) (by decide +kernel)
set_option maxRecDepth 20000 in
theorem gX1_reaches_X1_apart : GoodIn wsX1_reaches (wsV RX1 57 RX1 yX1_apart wsX1_apart) := goodIn_app (goodIn_of _ (by decide +kernel)) ggX1_reaches_X1_apart
theorem dX1_reaches_0 : decode cX1_reaches 0 = .ok (.aload_n 1, 1) := by decide +kernel
theorem dX1_reaches_1 : decode cX1_reaches 1 = .ok (.getfield 98, 3) := by decide +kernel
theorem dX1_reaches_4 : decode cX1_reaches 4 = .ok (.iconst 1, 1) := by decide +kernel
theorem dX1_reaches_5 : decode cX1_reaches 5 = .ok (.if_icmp .ne 26, 3) := by decide +kernel
theorem dX1_reaches_8 : decode cX1_reaches 8 = .ok (.aload_n 1, 1) := by decide +kernel
theorem dX1_reaches_9 : decode cX1_reaches 9 = .ok (.getfield 101, 3) := by decide +kernel
theorem dX1_reaches_12 : decode cX1_reaches 12 = .ok (.iconst (-1), 1) := by decide +kernel
theorem dX1_reaches_13 : decode cX1_reaches 13 = .ok (.if_icmp .ne 18, 3) := by decide +kernel
theorem dX1_reaches_16 : decode cX1_reaches 16 = .ok (.aload_n 2, 1) := by decide +kernel
theorem dX1_reaches_17 : decode cX1_reaches 17 = .ok (.aload_n 1, 1) := by decide +kernel
theorem dX1_reaches_18 : decode cX1_reaches 18 = .ok (.getfield 104, 3) := by decide +kernel
theorem dX1_reaches_21 : decode cX1_reaches 21 = .ok (.invokevirtual 107, 3) := by decide +kernel
theorem dX1_reaches_24 : decode cX1_reaches 24 = .ok (.ifCond .eq 7, 3) := by decide +kernel
theorem dX1_reaches_27 : decode cX1_reaches 27 = .ok (.iconst 1, 1) := by decide +kernel
theorem dX1_reaches_28 : decode cX1_reaches 28 = .ok (.goto 4, 3) := by decide +kernel
theorem dX1_reaches_31 : decode cX1_reaches 31 = .ok (.iconst 0, 1) := by decide +kernel
theorem dX1_reaches_32 : decode cX1_reaches 32 = .ok (.istore 4, 2) := by decide +kernel
theorem dX1_reaches_34 : decode cX1_reaches 34 = .ok (.aload_n 2, 1) := by decide +kernel
theorem dX1_reaches_35 : decode cX1_reaches 35 = .ok (.getfield 83, 3) := by decide +kernel
theorem dX1_reaches_38 : decode cX1_reaches 38 = .ok (.iconst 3, 1) := by decide +kernel
theorem dX1_reaches_39 : decode cX1_reaches 39 = .ok (.if_icmp .ne 18, 3) := by decide +kernel
theorem dX1_reaches_42 : decode cX1_reaches 42 = .ok (.aload_n 3, 1) := by decide +kernel
theorem dX1_reaches_43 : decode cX1_reaches 43 = .ok (.getfield 98, 3) := by decide +kernel
theorem dX1_reaches_46 : decode cX1_reaches 46 = .ok (.ifCond .eq 11, 3) := by decide +kernel
theorem dX1_reaches_49 : decode cX1_reaches 49 = .ok (.aload_n 3, 1) := by decide +kernel
theorem dX1_reaches_50 : decode cX1_reaches 50 = .ok (.getfield 98, 3) := by decide +kernel
theorem dX1_reaches_53 : decode cX1_reaches 53 = .ok (.iconst 1, 1) := by decide +kernel
theorem dX1_reaches_54 : decode cX1_reaches 54 = .ok (.if_icmp .ne 7, 3) := by decide +kernel
theorem dX1_reaches_57 : decode cX1_reaches 57 = .ok (.iconst 1, 1) := by decide +kernel
theorem dX1_reaches_58 : decode cX1_reaches 58 = .ok (.goto 4, 3) := by decide +kernel
theorem dX1_reaches_61 : decode cX1_reaches 61 = .ok (.iconst 0, 1) := by decide +kernel
theorem dX1_reaches_62 : decode cX1_reaches 62 = .ok (.istore 5, 2) := by decide +kernel
theorem dX1_reaches_64 : decode cX1_reaches 64 = .ok (.iload 4, 2) := by decide +kernel
theorem dX1_reaches_66 : decode cX1_reaches 66 = .ok (.ifCond .eq 23, 3) := by decide +kernel
theorem dX1_reaches_69 : decode cX1_reaches 69 = .ok (.iload 5, 2) := by decide +kernel
theorem dX1_reaches_71 : decode cX1_reaches 71 = .ok (.ifCond .eq 18, 3) := by decide +kernel
theorem dX1_reaches_74 : decode cX1_reaches 74 = .ok (.aload_n 0, 1) := by decide +kernel
theorem dX1_reaches_75 : decode cX1_reaches 75 = .ok (.invokevirtual 57, 3) := by decide +kernel
theorem dX1_reaches_78 : decode cX1_reaches 78 = .ok (.aload_n 2, 1) := by decide +kernel
theorem dX1_reaches_79 : decode cX1_reaches 79 = .ok (.getfield 111, 3) := by decide +kernel
theorem dX1_reaches_82 : decode cX1_reaches 82 = .ok (.if_icmp .gt 7, 3) := by decide +kernel
theorem dX1_reaches_85 : decode cX1_reaches 85 = .ok (.iconst 1, 1) := by decide +kernel
theorem dX1_reaches_86 : decode cX1_reaches 86 = .ok (.goto 4, 3) := by decide +kernel
theorem dX1_reaches_89 : decode cX1_reaches 89 = .ok (.iconst 0, 1) := by decide +kernel
theorem dX1_reaches_90 : decode cX1_reaches 90 = .ok (.ireturn, 1) := by decide +kernel
set_option maxRecDepth 20000 in
theorem ggX1_part_X2_touch : GoodIn wsX1_part wsX2_touch := goodIn_r _ [7, 8, 9, 19, 20, 21, 22, 23, 24, 25, 26, 27, 28, 29, 30, 31, 32, 33, 34] (by decide +kernel) (by decide +kernel)
set_option maxRecDepth 20000 in
theorem gX1_part_X2_touch : GoodIn wsX1_part (wsV RX1 114 RX2 yX2_touch wsX2_touch) := goodIn_app (goodIn_of _ (by decide +kernel)) ggX1_part_X2_touch
set_option maxRecDepth 20000 in
theorem ggX1_part_X2_goBack : GoodIn wsX1_part wsX2_goBack := goodIn_r _ [13, 14, 15, 19, 20, 21, 22, 23, 24, 25, 26, 27, 28, 29, 30, 31, 32, 33, 34] (by decide +kernel) (by decide +kernel)
set_option maxRecDepth 20000 in
theorem gX1_part_X2_goBack : GoodIn wsX1_part (wsV RX1 117 RX2 yX2_goBack wsX2_goBack) := goodIn_app (goodIn_of _ (by decide +kernel)) ggX1_part_X2_goBack
theorem dX1_part_0 : decode cX1_part 0 = .ok (.aload_n 0, 1) := by decide +kernel
theorem dX1_part_1 : decode cX1_part 1 = .ok (.getfield 14, 3) := by decide +kernel
theorem dX1_part_4 : decode cX1_part 4 = .ok (.iconst 0, 1) := by decide +kernel
theorem dX1_part_5 : decode cX1_part 5 = .ok (.invokevirtual 114, 3) := by decide +kernel
theorem dX1_part_8 : decode cX1_part 8 = .ok (.aload_n 0, 1) := by decide +kernel
theorem dX1_part_9 : decode cX1_part 9 = .ok (.getfield 20, 3) := by decide +kernel
theorem dX1_part_12 : decode cX1_part 12 = .ok (.iconst 0, 1) := by decide +kernel
theorem dX1_part_13 : decode cX1_part 13 = .ok (.invokevirtual 114, 3) := by decide +kernel
theorem dX1_part_16 : decode cX1_part 16 = .ok (.aload_n 0, 1) := by decide +kernel
theorem dX1_part_17 : decode cX1_part 17 = .ok (.getfield 14, 3) := by decide +kernel
theorem dX1_part_20 : decode cX1_part 20 = .ok (.bipush 20, 2) := by decide +kernel
theorem dX1_part_22 : decode cX1_part 22 = .ok (.invokevirtual 117, 3) := by decide +kernel
theorem dX1_part_25 : decode cX1_part 25 = .ok (.pop, 1) := by decide +kernel
theorem dX1_part_26 : decode cX1_part 26 = .ok (.aload_n 0, 1) := by decide +kernel
theorem dX1_part_27 : decode cX1_part 27 = .ok (.getfield 20, 3) := by decide +kernel
theorem dX1_part_30 : decode cX1_part 30 = .ok (.bipush 20, 2) := by decide +kernel
theorem dX1_part_32 : decode cX1_part 32 = .ok (.invokevirtual 117, 3) := by decide +kernel
theorem dX1_part_35 : decode cX1_part 35 = .ok (.pop, 1) := by decide +kernel
theorem dX1_part_36 : decode cX1_part 36 = .ok (.return_, 1) := by decide +kernel
set_option maxRecDepth 20000 in
theorem ggX1_land_X4_trait : GoodIn wsX1_land wsX4_trait := goodIn_r _ [5, 6, 52, 53, 54, 55, 56, 57, 58, 59] (by decide +kernel) (by decide +kernel)
set_option maxRecDepth 20000 in
theorem gX1_land_X4_trait : GoodIn wsX1_land (wsV RX1 121 RX4 yX4_trait wsX4_trait) := goodIn_app (goodIn_of _ (by decide +kernel)) ggX1_land_X4_trait
set_option maxRecDepth 20000 in
theorem ggX1_land_X2_touch : GoodIn wsX1_land wsX2_touch := goodIn_r _ [11, 12, 13, 60, 61, 62, 63, 64, 65, 66, 67, 68, 69, 70, 71, 72, 73, 74, 75] (by decide +kernel) (by decide +kernel)
set_option maxRecDepth 20000 in
theorem gX1_land_X2_touch : GoodIn wsX1_land (wsV RX1 114 RX2 yX2_touch wsX2_touch) := goodIn_app (goodIn_of _ (by decide +kernel)) ggX1_land_X2_touch
set_option maxRecDepth 20000 in
theorem ggX1_land_X2_blocks : GoodIn wsX1_land wsX2_blocks := goodIn_r _ [17, 18, 19, 20, 21, 22, 4, 23, 24, 60, 61, 62, 63, 64, 65, 66, 67, 68, 69, 70, 71, 72, 73, 74, 75, 52, 53, 54, 55, 56, 57, 58, 59] (by decide +kernel) (by decide +kernel)
set_option maxRecDepth 20000 in
theorem gX1_land_X2_blocks : GoodIn wsX1_land (wsV RX1 124 RX2 yX2_blocks wsX2_blocks) := goodIn_app (goodIn_of _ (by decide +kernel)) ggX1_land_X2_blocks
set_option maxRecDepth 20000 in
theorem ggX1_land_X2_block : GoodIn wsX1_land wsX2_block := goodIn_r _ [28, 29, 30, 31, 32, 33, 2, 3, 4, 5, 6, 60, 61, 62, 63, 64, 65, 66, 67, 68, 69, 70, 71, 72, 73, 74, 75, 52, 53, 54, 55, 56, 57, 58, 59] (by decide +kernel) (by decide +kernel)
set_option maxRecDepth 20000 in
theorem gX1_land_X2_block : GoodIn wsX1_land (wsV RX1 128 RX2 yX2_block wsX2_block) := goodIn_app (goodIn_of _ (by decide +kernel)) ggX1_land_X2_block
set_option maxRecDepth 20000 in
theorem ggX1_land_X2_suffer : GoodIn wsX1_land wsX2_suffer := goodIn_r _ [37, 18, 38, 39, 30, 29, 31, 32, 33, 2, 3, 4, 5, 6, 40, 41, 42, 10, 43, 44, 45, 12, 60, 61, 62, 63, 64, 65, 66, 67, 68, 69, 70, 71, 72, 73, 74, 75, 52, 53, 54, 55, 56, 57, 58, 59] (by decide +kernel) (by decide +kernel)
set_option maxRecDepth 20000 in
theorem gX1_land_X2_suffer : GoodIn wsX1_land (wsV RX1 132 RX2 yX2_suffer wsX2_suffer) := goodIn_app (goodIn_of _ (by decide +kernel)) ggX1_land_X2_suffer
set_option maxRecDepth 20000 in
theorem ggX1_land_X2_goBack : GoodIn wsX1_land wsX2_goBack := goodIn_r _ [49, 50, 51, 60, 61, 62, 63, 64, 65, 66, 67, 68, 69, 70, 71, 72, 73, 74, 75] (by decide +kernel) (by decide +kernel)
set_option maxRecDepth 20000 in
theorem gX1_land_X2_goBack : GoodIn wsX1_land (wsV RX1 117 RX2 yX2_goBack wsX2_goBack) := goodIn_app (goodIn_of _ (by decide +kernel)) ggX1_land_X2_goBack
theorem dX1_land_0 : decode cX1_land 0 = .ok (.aload_n 0, 1) := by decide +kernel
theorem dX1_land_1 : decode cX1_land 1 = .ok (.aload_n 1, 1) := by decide +kernel
theorem dX1_land_2 : decode cX1_land 2 = .ok (.iconst 4, 1) := by decide +kernel
theorem dX1_land_3 : decode cX1_land 3 = .ok (.invokevirtual 121, 3) := by decide +kernel
theorem dX1_land_6 : decode cX1_land 6 = .ok (.invokevirtual 114, 3) := by decide +kernel
theorem dX1_land_9 : decode cX1_land 9 = .ok (.aload_n 2, 1) := by decide +kernel
theorem dX1_land_10 : decode cX1_land 10 = .ok (.aload_n 1, 1) := by decide +kernel
theorem dX1_land_11 : decode cX1_land 11 = .ok (.invokevirtual 124, 3) := by decide +kernel
theorem dX1_land_14 : decode cX1_land 14 = .ok (.ifCond .eq 11, 3) := by decide +kernel
theorem dX1_land_17 : decode cX1_land 17 = .ok (.aload_n 2, 1) := by decide +kernel
theorem dX1_land_18 : decode cX1_land 18 = .ok (.aload_n 1, 1) := by decide +kernel
theorem dX1_land_19 : decode cX1_land 19 = .ok (.invokevirtual 128, 3) := by decide +kernel
theorem dX1_land_22 : decode cX1_land 22 = .ok (.goto 8, 3) := by decide +kernel
theorem dX1_land_25 : decode cX1_land 25 = .ok (.aload_n 2, 1) := by decide +kernel
theorem dX1_land_26 : decode cX1_land 26 = .ok (.aload_n 1, 1) := by decide +kernel
theorem dX1_land_27 : decode cX1_land 27 = .ok (.invokevirtual 132, 3) := by decide +kernel
theorem dX1_land_30 : decode cX1_land 30 = .ok (.aload_n 0, 1) := by decide +kernel
theorem dX1_land_31 : decode cX1_land 31 = .ok (.aload_n 2, 1) := by decide +kernel
theorem dX1_land_32 : decode cX1_land 32 = .ok (.aload_n 1, 1) := by decide +kernel
theorem dX1_land_33 : decode cX1_land 33 = .ok (.iconst 2, 1) := by decide +kernel
theorem dX1_land_34 : decode cX1_land 34 = .ok (.invokevirtual 121, 3) := by decide +kernel
theorem dX1_land_37 : decode cX1_land 37 = .ok (.invokevirtual 117, 3) := by decide +kernel
theorem dX1_land_40 : decode cX1_land 40 = .ok (.invokevirtual 117, 3) := by decide +kernel
theorem dX1_land_43 : decode cX1_land 43 = .ok (.pop, 1) := by decide +kernel
theorem dX1_land_44 : decode cX1_land 44 = .ok (.return_, 1) := by decide +kernel
theorem dX2_init_0 : decode cX2_init 0 = .ok (.aload_n 0, 1) := by decide +kernel
theorem dX2_init_1 : decode cX2_init 1 = .ok (.invokespecial 3, 3) := by decide +kernel
theorem dX2_init_4 : decode cX2_init 4 = .ok (.aload_n 0, 1) := by decide +kernel
theorem dX2_init_5 : decode cX2_init 5 = .ok (.iconst 0, 1) := by decide +kernel
theorem dX2_init_6 : decode cX2_init 6 = .ok (.putfield 9, 3) := by decide +kernel
theorem dX2_init_9 : decode cX2_init 9 = .ok (.aload_n 0, 1) := by decide +kernel
theorem dX2_init_10 : decode cX2_init 10 = .ok (.iconst 0, 1) := by decide +kernel
theorem dX2_init_11 : decode cX2_init 11 = .ok (.putfield 15, 3) := by decide +kernel
theorem dX2_init_14 : decode cX2_init 14 = .ok (.aload_n 0, 1) := by decide +kernel
theorem dX2_init_15 : decode cX2_init 15 = .ok (.iconst 0, 1) := by decide +kernel
theorem dX2_init_16 : decode cX2_init 16 = .ok (.putfield 18, 3) := by decide +kernel
theorem dX2_init_19 : decode cX2_init 19 = .ok (.aload_n 0, 1) := by decide +kernel
theorem dX2_init_20 : decode cX2_init 20 = .ok (.iconst 0, 1) := by decide +kernel
theorem dX2_init_21 : decode cX2_init 21 = .ok (.putfield 21, 3) := by decide +kernel
theorem dX2_init_24 : decode cX2_init 24 = .ok (.aload_n 0, 1) := by decide +kernel
theorem dX2_init_25 : decode cX2_init 25 = .ok (.iconst 0, 1) := by decide +kernel
theorem dX2_init_26 : decode cX2_init 26 = .ok (.putfield 24, 3) := by decide +kernel
theorem dX2_init_29 : decode cX2_init 29 = .ok (.aload_n 0, 1) := by decide +kernel
theorem dX2_init_30 : decode cX2_init 30 = .ok (.iconst (-1), 1) := by decide +kernel
theorem dX2_init_31 : decode cX2_init 31 = .ok (.putfield 27, 3) := by decide +kernel
theorem dX2_init_34 : decode cX2_init 34 = .ok (.aload_n 0, 1) := by decide +kernel
theorem dX2_init_35 : decode cX2_init 35 = .ok (.iconst 0, 1) := by decide +kernel
theorem dX2_init_36 : decode cX2_init 36 = .ok (.putfield 30, 3) := by decide +kernel
theorem dX2_init_39 : decode cX2_init 39 = .ok (.aload_n 0, 1) := by decide +kernel
theorem dX2_init_40 : decode cX2_init 40 = .ok (.iconst (-1), 1) := by decide +kernel
theorem dX2_init_41 : decode cX2_init 41 = .ok (.putfield 33, 3) := by decide +kernel
theorem dX2_init_44 : decode cX2_init 44 = .ok (.aload_n 0, 1) := by decide +kernel
theorem dX2_init_45 : decode cX2_init 45 = .ok (.iconst 0, 1) := by decide +kernel
theorem dX2_init_46 : decode cX2_init 46 = .ok (.putfield 36, 3) := by decide +kernel
theorem dX2_init_49 : decode cX2_init 49 = .ok (.aload_n 0, 1) := by decide +kernel
theorem dX2_init_50 : decode cX2_init 50 = .ok (.iconst (-1), 1) := by decide +kernel
theorem dX2_init_51 : decode cX2_init 51 = .ok (.putfield 39, 3) := by decide +kernel
theorem dX2_init_54 : decode cX2_init 54 = .ok (.aload_n 0, 1) := by decide +kernel
theorem dX2_init_55 : decode cX2_init 55 = .ok (.iconst 0, 1) := by decide +kernel
theorem dX2_init_56 : decode cX2_init 56 = .ok (.putfield 42, 3) := by decide +kernel
theorem dX2_init_59 : decode cX2_init 59 = .ok (.aload_n 0, 1) := by decide +kernel
theorem dX2_init_60 : decode cX2_init 60 = .ok (.iconst 0, 1) := by decide +kernel
theorem dX2_init_61 : decode cX2_init 61 = .ok (.putfield 45, 3) := by decide +kernel
theorem dX2_init_64 : decode cX2_init 64 = .ok (.aload_n 0, 1) := by decide +kernel
theorem dX2_init_65 : decode cX2_init 65 = .ok (.iconst 0, 1) := by decide +kernel
theorem dX2_init_66 : decode cX2_init 66 = .ok (.putfield 48, 3) := by decide +kernel
theorem dX2_init_69 : decode cX2_init 69 = .ok (.aload_n 0, 1) := by decide +kernel
theorem dX2_init_70 : decode cX2_init 70 = .ok (.iconst 0, 1) := by decide +kernel
theorem dX2_init_71 : decode cX2_init 71 = .ok (.putfield 52, 3) := by decide +kernel
theorem dX2_init_74 : decode cX2_init 74 = .ok (.aload_n 0, 1) := by decide +kernel
theorem dX2_init_75 : decode cX2_init 75 = .ok (.iconst 0, 1) := by decide +kernel
theorem dX2_init_76 : decode cX2_init 76 = .ok (.putfield 55, 3) := by decide +kernel
theorem dX2_init_79 : decode cX2_init 79 = .ok (.aload_n 0, 1) := by decide +kernel
theorem dX2_init_80 : decode cX2_init 80 = .ok (.iload_n 1, 1) := by decide +kernel
theorem dX2_init_81 : decode cX2_init 81 = .ok (.putfield 58, 3) := by decide +kernel
theorem dX2_init_84 : decode cX2_init 84 = .ok (.return_, 1) := by decide +kernel
set_option maxRecDepth 20000 in
theorem ggX2_prepare_X2_stand : GoodIn wsX2_prepare wsX2_stand := goodIn_r _ [9, 10, 11, 12, 13, 14, 8, 15, 16, 17, 18, 25, 26, 27, 28, 29, 30, 31, 32, 33, 34, 35, 36, 37, 38, 39, 40] (by decide +kernel) (by decide +kernel)
set_option maxRecDepth 20000 in
theorem gX2_prepare_X2_stand : GoodIn wsX2_prepare (wsV RX2 61 RX2 yX2_stand wsX2_stand) := goodIn_app (goodIn_of _ (by decide +kernel)) ggX2_prepare_X2_stand
set_option maxRecDepth 20000 in
theorem ggX2_prepare_X2_drop : GoodIn wsX2_prepare wsX2_drop := goodIn_r _ [22, 23, 24, 25, 26, 27, 28, 29, 30, 31, 32, 33, 34, 35, 36, 37, 38, 39, 40] (by decide +kernel) (by decide +kernel)
set_option maxRecDepth 20000 in
theorem gX2_prepare_X2_drop : GoodIn wsX2_prepare (wsV RX2 64 RX2 yX2_drop wsX2_drop) := goodIn_app (goodIn_of _ (by decide +kernel)) ggX2_prepare_X2_drop
theorem dX2_prepare_0 : decode cX2_prepare 0 = .ok (.aload_n 0, 1) := by decide +kernel
theorem dX2_prepare_1 : decode cX2_prepare 1 = .ok (.iload_n 1, 1) := by decide +kernel
theorem dX2_prepare_2 : decode cX2_prepare 2 = .ok (.putfield 9, 3) := by decide +kernel
theorem dX2_prepare_5 : decode cX2_prepare 5 = .ok (.aload_n 0, 1) := by decide +kernel
theorem dX2_prepare_6 : decode cX2_prepare 6 = .ok (.iload_n 2, 1) := by decide +kernel
theorem dX2_prepare_7 : decode cX2_prepare 7 = .ok (.putfield 18, 3) := by decide +kernel
theorem dX2_prepare_10 : decode cX2_prepare 10 = .ok (.aload_n 0, 1) := by decide +kernel
theorem dX2_prepare_11 : decode cX2_prepare 11 = .ok (.sipush 1000, 3) := by decide +kernel
theorem dX2_prepare_14 : decode cX2_prepare 14 = .ok (.putfield 15, 3) := by decide +kernel
theorem dX2_prepare_17 : decode cX2_prepare 17 = .ok (.aload_n 0, 1) := by decide +kernel
theorem dX2_prepare_18 : decode cX2_prepare 18 = .ok (.iconst 0, 1) := by decide +kernel
theorem dX2_prepare_19 : decode cX2_prepare 19 = .ok (.putfield 24, 3) := by decide +kernel
theorem dX2_prepare_22 : decode cX2_prepare 22 = .ok (.aload_n 0, 1) := by decide +kernel
theorem dX2_prepare_23 : decode cX2_prepare 23 = .ok (.invokevirtual 61, 3) := by decide +kernel
theorem dX2_prepare_26 : decode cX2_prepare 26 = .ok (.aload_n 0, 1) := by decide +kernel
theorem dX2_prepare_27 : decode cX2_prepare 27 = .ok (.invokevirtual 64, 3) := by decide +kernel
theorem dX2_prepare_30 : decode cX2_prepare 30 = .ok (.return_, 1) := by decide +kernel
theorem dX2_copy_0 : decode cX2_copy 0 = .ok (.aload_n 0, 1) := by decide +kernel
theorem dX2_copy_1 : decode cX2_copy 1 = .ok (.aload_n 1, 1) := by decide +kernel
theorem dX2_copy_2 : decode cX2_copy 2 = .ok (.getfield 9, 3) := by decide +kernel
theorem dX2_copy_5 : decode cX2_copy 5 = .ok (.putfield 9, 3) := by decide +kernel
theorem dX2_copy_8 : decode cX2_copy 8 = .ok (.aload_n 0, 1) := by decide +kernel
theorem dX2_copy_9 : decode cX2_copy 9 = .ok (.aload_n 1, 1) := by decide +kernel
theorem dX2_copy_10 : decode cX2_copy 10 = .ok (.getfield 15, 3) := by decide +kernel
theorem dX2_copy_13 : decode cX2_copy 13 = .ok (.putfield 15, 3) := by decide +kernel
theorem dX2_copy_16 : decode cX2_copy 16 = .ok (.aload_n 0, 1) := by decide +kernel
theorem dX2_copy_17 : decode cX2_copy 17 = .ok (.aload_n 1, 1) := by decide +kernel
theorem dX2_copy_18 : decode cX2_copy 18 = .ok (.getfield 18, 3) := by decide +kernel
theorem dX2_copy_21 : decode cX2_copy 21 = .ok (.putfield 18, 3) := by decide +kernel
theorem dX2_copy_24 : decode cX2_copy 24 = .ok (.aload_n 0, 1) := by decide +kernel
theorem dX2_copy_25 : decode cX2_copy 25 = .ok (.aload_n 1, 1) := by decide +kernel
theorem dX2_copy_26 : decode cX2_copy 26 = .ok (.getfield 21, 3) := by decide +kernel
theorem dX2_copy_29 : decode cX2_copy 29 = .ok (.putfield 21, 3) := by decide +kernel
theorem dX2_copy_32 : decode cX2_copy 32 = .ok (.aload_n 0, 1) := by decide +kernel
theorem dX2_copy_33 : decode cX2_copy 33 = .ok (.aload_n 1, 1) := by decide +kernel
theorem dX2_copy_34 : decode cX2_copy 34 = .ok (.getfield 24, 3) := by decide +kernel
theorem dX2_copy_37 : decode cX2_copy 37 = .ok (.putfield 24, 3) := by decide +kernel
theorem dX2_copy_40 : decode cX2_copy 40 = .ok (.aload_n 0, 1) := by decide +kernel
theorem dX2_copy_41 : decode cX2_copy 41 = .ok (.aload_n 1, 1) := by decide +kernel
theorem dX2_copy_42 : decode cX2_copy 42 = .ok (.getfield 27, 3) := by decide +kernel
theorem dX2_copy_45 : decode cX2_copy 45 = .ok (.putfield 27, 3) := by decide +kernel
theorem dX2_copy_48 : decode cX2_copy 48 = .ok (.aload_n 0, 1) := by decide +kernel
theorem dX2_copy_49 : decode cX2_copy 49 = .ok (.aload_n 1, 1) := by decide +kernel
theorem dX2_copy_50 : decode cX2_copy 50 = .ok (.getfield 30, 3) := by decide +kernel
theorem dX2_copy_53 : decode cX2_copy 53 = .ok (.putfield 30, 3) := by decide +kernel
theorem dX2_copy_56 : decode cX2_copy 56 = .ok (.aload_n 0, 1) := by decide +kernel
theorem dX2_copy_57 : decode cX2_copy 57 = .ok (.aload_n 1, 1) := by decide +kernel
theorem dX2_copy_58 : decode cX2_copy 58 = .ok (.getfield 33, 3) := by decide +kernel
theorem dX2_copy_61 : decode cX2_copy 61 = .ok (.putfield 33, 3) := by decide +kernel
theorem dX2_copy_64 : decode cX2_copy 64 = .ok (.aload_n 0, 1) := by decide +kernel
theorem dX2_copy_65 : decode cX2_copy 65 = .ok (.aload_n 1, 1) := by decide +kernel
theorem dX2_copy_66 : decode cX2_copy 66 = .ok (.getfield 36, 3) := by decide +kernel
theorem dX2_copy_69 : decode cX2_copy 69 = .ok (.putfield 36, 3) := by decide +kernel
theorem dX2_copy_72 : decode cX2_copy 72 = .ok (.aload_n 0, 1) := by decide +kernel
theorem dX2_copy_73 : decode cX2_copy 73 = .ok (.aload_n 1, 1) := by decide +kernel
theorem dX2_copy_74 : decode cX2_copy 74 = .ok (.getfield 39, 3) := by decide +kernel
theorem dX2_copy_77 : decode cX2_copy 77 = .ok (.putfield 39, 3) := by decide +kernel
theorem dX2_copy_80 : decode cX2_copy 80 = .ok (.aload_n 0, 1) := by decide +kernel
theorem dX2_copy_81 : decode cX2_copy 81 = .ok (.aload_n 1, 1) := by decide +kernel
theorem dX2_copy_82 : decode cX2_copy 82 = .ok (.getfield 42, 3) := by decide +kernel
theorem dX2_copy_85 : decode cX2_copy 85 = .ok (.putfield 42, 3) := by decide +kernel
theorem dX2_copy_88 : decode cX2_copy 88 = .ok (.return_, 1) := by decide +kernel
theorem dX2_tell_0 : decode cX2_tell 0 = .ok (.iload_n 1, 1) := by decide +kernel
theorem dX2_tell_1 : decode cX2_tell 1 = .ok (.tableswitch 84 0 5 #[39, 44, 49, 54, 59, 64], 39) := by decide +kernel
theorem dX2_tell_40 : decode cX2_tell 40 = .ok (.aload_n 0, 1) := by decide +kernel
theorem dX2_tell_41 : decode cX2_tell 41 = .ok (.getfield 9, 3) := by decide +kernel
theorem dX2_tell_44 : decode cX2_tell 44 = .ok (.ireturn, 1) := by decide +kernel
theorem dX2_tell_45 : decode cX2_tell 45 = .ok (.aload_n 0, 1) := by decide +kernel
theorem dX2_tell_46 : decode cX2_tell 46 = .ok (.getfield 15, 3) := by decide +kernel
theorem dX2_tell_49 : decode cX2_tell 49 = .ok (.ireturn, 1) := by decide +kernel
theorem dX2_tell_50 : decode cX2_tell 50 = .ok (.aload_n 0, 1) := by decide +kernel
theorem dX2_tell_51 : decode cX2_tell 51 = .ok (.getfield 18, 3) := by decide +kernel
theorem dX2_tell_54 : decode cX2_tell 54 = .ok (.ireturn, 1) := by decide +kernel
theorem dX2_tell_55 : decode cX2_tell 55 = .ok (.aload_n 0, 1) := by decide +kernel
theorem dX2_tell_56 : decode cX2_tell 56 = .ok (.getfield 21, 3) := by decide +kernel
theorem dX2_tell_59 : decode cX2_tell 59 = .ok (.ireturn, 1) := by decide +kernel
theorem dX2_tell_60 : decode cX2_tell 60 = .ok (.aload_n 0, 1) := by decide +kernel
theorem dX2_tell_61 : decode cX2_tell 61 = .ok (.getfield 27, 3) := by decide +kernel
theorem dX2_tell_64 : decode cX2_tell 64 = .ok (.ireturn, 1) := by decide +kernel
theorem dX2_tell_65 : decode cX2_tell 65 = .ok (.aload_n 0, 1) := by decide +kernel
theorem dX2_tell_66 : decode cX2_tell 66 = .ok (.getfield 21, 3) := by decide +kernel
theorem dX2_tell_69 : decode cX2_tell 69 = .ok (.iconst 1, 1) := by decide +kernel
theorem dX2_tell_70 : decode cX2_tell 70 = .ok (.if_icmp .ne 10, 3) := by decide +kernel
theorem dX2_tell_73 : decode cX2_tell 73 = .ok (.aload_n 0, 1) := by decide +kernel
theorem dX2_tell_74 : decode cX2_tell 74 = .ok (.getfield 30, 3) := by decide +kernel
theorem dX2_tell_77 : decode cX2_tell 77 = .ok (.goto 7, 3) := by decide +kernel
theorem dX2_tell_80 : decode cX2_tell 80 = .ok (.aload_n 0, 1) := by decide +kernel
theorem dX2_tell_81 : decode cX2_tell 81 = .ok (.getfield 36, 3) := by decide +kernel
theorem dX2_tell_84 : decode cX2_tell 84 = .ok (.ireturn, 1) := by decide +kernel
theorem dX2_tell_85 : decode cX2_tell 85 = .ok (.aload_n 0, 1) := by decide +kernel
theorem dX2_tell_86 : decode cX2_tell 86 = .ok (.getfield 24, 3) := by decide +kernel
theorem dX2_tell_89 : decode cX2_tell 89 = .ok (.ireturn, 1) := by decide +kernel
set_option maxRecDepth 20000 in
theorem ggX2_stand_X2_leaveMove : GoodIn wsX2_stand wsX2_leaveMove := goodIn_r _ [7, 8, 9, 10, 11, 12, 13, 14, 15, 16, 17, 18, 19, 20, 21, 22, 23, 24, 25, 26] (by decide +kernel) (by decide +kernel)
set_option maxRecDepth 20000 in
theorem gX2_stand_X2_leaveMove : GoodIn wsX2_stand (wsV RX2 67 RX2 yX2_leaveMove wsX2_leaveMove) := goodIn_app (goodIn_of _ (by decide +kernel)) ggX2_stand_X2_leaveMove
theorem dX2_stand_0 : decode cX2_stand 0 = .ok (.aload_n 0, 1) := by decide +kernel
theorem dX2_stand_1 : decode cX2_stand 1 = .ok (.iconst 0, 1) := by decide +kernel
theorem dX2_stand_2 : decode cX2_stand 2 = .ok (.putfield 21, 3) := by decide +kernel
theorem dX2_stand_5 : decode cX2_stand 5 = .ok (.aload_n 0, 1) := by decide +kernel
theorem dX2_stand_6 : decode cX2_stand 6 = .ok (.iconst 0, 1) := by decide +kernel
theorem dX2_stand_7 : decode cX2_stand 7 = .ok (.putfield 36, 3) := by decide +kernel
theorem dX2_stand_10 : decode cX2_stand 10 = .ok (.aload_n 0, 1) := by decide +kernel
theorem dX2_stand_11 : decode cX2_stand 11 = .ok (.invokevirtual 67, 3) := by decide +kernel
theorem dX2_stand_14 : decode cX2_stand 14 = .ok (.return_, 1) := by decide +kernel
theorem dX2_leaveMove_0 : decode cX2_leaveMove 0 = .ok (.aload_n 0, 1) := by decide +kernel
theorem dX2_leaveMove_1 : decode cX2_leaveMove 1 = .ok (.iconst (-1), 1) := by decide +kernel
theorem dX2_leaveMove_2 : decode cX2_leaveMove 2 = .ok (.putfield 27, 3) := by decide +kernel
theorem dX2_leaveMove_5 : decode cX2_leaveMove 5 = .ok (.aload_n 0, 1) := by decide +kernel
theorem dX2_leaveMove_6 : decode cX2_leaveMove 6 = .ok (.iconst 0, 1) := by decide +kernel
theorem dX2_leaveMove_7 : decode cX2_leaveMove 7 = .ok (.putfield 30, 3) := by decide +kernel
theorem dX2_leaveMove_10 : decode cX2_leaveMove 10 = .ok (.aload_n 0, 1) := by decide +kernel
theorem dX2_leaveMove_11 : decode cX2_leaveMove 11 = .ok (.iconst (-1), 1) := by decide +kernel
theorem dX2_leaveMove_12 : decode cX2_leaveMove 12 = .ok (.putfield 33, 3) := by decide +kernel
theorem dX2_leaveMove_15 : decode cX2_leaveMove 15 = .ok (.return_, 1) := by decide +kernel
theorem dX2_drop_0 : decode cX2_drop 0 = .ok (.aload_n 0, 1) := by decide +kernel
theorem dX2_drop_1 : decode cX2_drop 1 = .ok (.iconst (-1), 1) := by decide +kernel
theorem dX2_drop_2 : decode cX2_drop 2 = .ok (.putfield 39, 3) := by decide +kernel
theorem dX2_drop_5 : decode cX2_drop 5 = .ok (.aload_n 0, 1) := by decide +kernel
theorem dX2_drop_6 : decode cX2_drop 6 = .ok (.iconst 0, 1) := by decide +kernel
theorem dX2_drop_7 : decode cX2_drop 7 = .ok (.putfield 42, 3) := by decide +kernel
theorem dX2_drop_10 : decode cX2_drop 10 = .ok (.return_, 1) := by decide +kernel
theorem dX2_take_0 : decode cX2_take 0 = .ok (.aload_n 0, 1) := by decide +kernel
theorem dX2_take_1 : decode cX2_take 1 = .ok (.iload_n 1, 1) := by decide +kernel
theorem dX2_take_2 : decode cX2_take 2 = .ok (.putfield 45, 3) := by decide +kernel
theorem dX2_take_5 : decode cX2_take 5 = .ok (.aload_n 0, 1) := by decide +kernel
theorem dX2_take_6 : decode cX2_take 6 = .ok (.iconst 0, 1) := by decide +kernel
theorem dX2_take_7 : decode cX2_take 7 = .ok (.putfield 48, 3) := by decide +kernel
theorem dX2_take_10 : decode cX2_take 10 = .ok (.iload_n 1, 1) := by decide +kernel
theorem dX2_take_11 : decode cX2_take 11 = .ok (.bipush 10, 2) := by decide +kernel
theorem dX2_take_13 : decode cX2_take 13 = .ok (.if_icmp .lt 16, 3) := by decide +kernel
theorem dX2_take_16 : decode cX2_take 16 = .ok (.aload_n 0, 1) := by decide +kernel
theorem dX2_take_17 : decode cX2_take 17 = .ok (.iload_n 1, 1) := by decide +kernel
theorem dX2_take_18 : decode cX2_take 18 = .ok (.bipush 10, 2) := by decide +kernel
theorem dX2_take_20 : decode cX2_take 20 = .ok (.isub, 1) := by decide +kernel
theorem dX2_take_21 : decode cX2_take 21 = .ok (.putfield 39, 3) := by decide +kernel
theorem dX2_take_24 : decode cX2_take 24 = .ok (.aload_n 0, 1) := by decide +kernel
theorem dX2_take_25 : decode cX2_take 25 = .ok (.iconst 5, 1) := by decide +kernel
theorem dX2_take_26 : decode cX2_take 26 = .ok (.putfield 42, 3) := by decide +kernel
theorem dX2_take_29 : decode cX2_take 29 = .ok (.return_, 1) := by decide +kernel
set_option maxRecDepth 20000 in
theorem ggX2_beginKept_X5_at : GoodIn wsX2_beginKept wsX5_at := goodIn_r _ [12, 13, 14, 52, 53, 54] (by decide +kernel) (by decide +kernel)
set_option maxRecDepth 20000 in
theorem gX2_beginKept_X5_at : GoodIn wsX2_beginKept (wsV RX2 70 RX5 yX5_at wsX5_at) := goodIn_app (goodIn_of _ (by decide +kernel)) ggX2_beginKept_X5_at
set_option maxRecDepth 20000 in
theorem ggX2_beginKept_X4_trait : GoodIn wsX2_beginKept wsX4_trait := goodIn_r _ [19, 20, 55, 56, 57, 58, 59, 60, 61, 62] (by decide +kernel) (by decide +kernel)
set_option maxRecDepth 20000 in
theorem gX2_beginKept_X4_trait : GoodIn wsX2_beginKept (wsV RX2 76 RX4 yX4_trait wsX4_trait) := goodIn_app (goodIn_of _ (by decide +kernel)) ggX2_beginKept_X4_trait
set_option maxRecDepth 20000 in
theorem ggX2_beginKept_X2_isFreeForKept : GoodIn wsX2_beginKept wsX2_isFreeForKept := goodIn_r _ [25, 3, 6, 4, 1, 8, 9, 10, 11, 12, 13, 14, 26, 27, 28, 18, 29, 30, 36, 37, 38, 39, 40, 41, 42, 43, 44, 45, 46, 47, 48, 49, 50, 51, 52, 53, 54, 55, 56, 57, 58, 59, 60, 61, 62] (by decide +kernel) (by decide +kernel)
set_option maxRecDepth 20000 in
theorem gX2_beginKept_X2_isFreeForKept : GoodIn wsX2_beginKept (wsV RX2 82 RX2 yX2_isFreeForKept wsX2_isFreeForKept) := goodIn_app (goodIn_of _ (by decide +kernel)) ggX2_beginKept_X2_isFreeForKept
set_option maxRecDepth 20000 in
theorem ggX2_beginKept_X2_drop : GoodIn wsX2_beginKept wsX2_drop := goodIn_r _ [34, 1, 35, 36, 37, 38, 39, 40, 41, 42, 43, 44, 45, 46, 47, 48, 49, 50, 51] (by decide +kernel) (by decide +kernel)
set_option maxRecDepth 20000 in
theorem gX2_beginKept_X2_drop : GoodIn wsX2_beginKept (wsV RX2 64 RX2 yX2_drop wsX2_drop) := goodIn_app (goodIn_of _ (by decide +kernel)) ggX2_beginKept_X2_drop
theorem dX2_beginKept_0 : decode cX2_beginKept 0 = .ok (.aload_n 0, 1) := by decide +kernel
theorem dX2_beginKept_1 : decode cX2_beginKept 1 = .ok (.getfield 39, 3) := by decide +kernel
theorem dX2_beginKept_4 : decode cX2_beginKept 4 = .ok (.iconst (-1), 1) := by decide +kernel
theorem dX2_beginKept_5 : decode cX2_beginKept 5 = .ok (.if_icmp .eq 30, 3) := by decide +kernel
theorem dX2_beginKept_8 : decode cX2_beginKept 8 = .ok (.aload_n 1, 1) := by decide +kernel
theorem dX2_beginKept_9 : decode cX2_beginKept 9 = .ok (.aload_n 0, 1) := by decide +kernel
theorem dX2_beginKept_10 : decode cX2_beginKept 10 = .ok (.getfield 39, 3) := by decide +kernel
theorem dX2_beginKept_13 : decode cX2_beginKept 13 = .ok (.invokevirtual 70, 3) := by decide +kernel
theorem dX2_beginKept_16 : decode cX2_beginKept 16 = .ok (.iconst 3, 1) := by decide +kernel
theorem dX2_beginKept_17 : decode cX2_beginKept 17 = .ok (.invokevirtual 76, 3) := by decide +kernel
theorem dX2_beginKept_20 : decode cX2_beginKept 20 = .ok (.aload_n 0, 1) := by decide +kernel
theorem dX2_beginKept_21 : decode cX2_beginKept 21 = .ok (.getfield 18, 3) := by decide +kernel
theorem dX2_beginKept_24 : decode cX2_beginKept 24 = .ok (.if_icmp .gt 11, 3) := by decide +kernel
theorem dX2_beginKept_27 : decode cX2_beginKept 27 = .ok (.aload_n 0, 1) := by decide +kernel
theorem dX2_beginKept_28 : decode cX2_beginKept 28 = .ok (.aload_n 1, 1) := by decide +kernel
theorem dX2_beginKept_29 : decode cX2_beginKept 29 = .ok (.invokevirtual 82, 3) := by decide +kernel
theorem dX2_beginKept_32 : decode cX2_beginKept 32 = .ok (.ifCond .ne 4, 3) := by decide +kernel
theorem dX2_beginKept_35 : decode cX2_beginKept 35 = .ok (.return_, 1) := by decide +kernel
theorem dX2_beginKept_36 : decode cX2_beginKept 36 = .ok (.aload_n 0, 1) := by decide +kernel
theorem dX2_beginKept_37 : decode cX2_beginKept 37 = .ok (.dup, 1) := by decide +kernel
theorem dX2_beginKept_38 : decode cX2_beginKept 38 = .ok (.getfield 18, 3) := by decide +kernel
theorem dX2_beginKept_41 : decode cX2_beginKept 41 = .ok (.aload_n 1, 1) := by decide +kernel
theorem dX2_beginKept_42 : decode cX2_beginKept 42 = .ok (.aload_n 0, 1) := by decide +kernel
theorem dX2_beginKept_43 : decode cX2_beginKept 43 = .ok (.getfield 39, 3) := by decide +kernel
theorem dX2_beginKept_46 : decode cX2_beginKept 46 = .ok (.invokevirtual 70, 3) := by decide +kernel
theorem dX2_beginKept_49 : decode cX2_beginKept 49 = .ok (.iconst 3, 1) := by decide +kernel
theorem dX2_beginKept_50 : decode cX2_beginKept 50 = .ok (.invokevirtual 76, 3) := by decide +kernel
theorem dX2_beginKept_53 : decode cX2_beginKept 53 = .ok (.isub, 1) := by decide +kernel
theorem dX2_beginKept_54 : decode cX2_beginKept 54 = .ok (.putfield 18, 3) := by decide +kernel
theorem dX2_beginKept_57 : decode cX2_beginKept 57 = .ok (.aload_n 0, 1) := by decide +kernel
theorem dX2_beginKept_58 : decode cX2_beginKept 58 = .ok (.iconst 1, 1) := by decide +kernel
theorem dX2_beginKept_59 : decode cX2_beginKept 59 = .ok (.putfield 21, 3) := by decide +kernel
theorem dX2_beginKept_62 : decode cX2_beginKept 62 = .ok (.aload_n 0, 1) := by decide +kernel
theorem dX2_beginKept_63 : decode cX2_beginKept 63 = .ok (.aload_n 0, 1) := by decide +kernel
theorem dX2_beginKept_64 : decode cX2_beginKept 64 = .ok (.getfield 39, 3) := by decide +kernel
theorem dX2_beginKept_67 : decode cX2_beginKept 67 = .ok (.putfield 27, 3) := by decide +kernel
theorem dX2_beginKept_70 : decode cX2_beginKept 70 = .ok (.aload_n 0, 1) := by decide +kernel
theorem dX2_beginKept_71 : decode cX2_beginKept 71 = .ok (.iconst 0, 1) := by decide +kernel
theorem dX2_beginKept_72 : decode cX2_beginKept 72 = .ok (.putfield 30, 3) := by decide +kernel
theorem dX2_beginKept_75 : decode cX2_beginKept 75 = .ok (.aload_n 0, 1) := by decide +kernel
theorem dX2_beginKept_76 : decode cX2_beginKept 76 = .ok (.iconst (-1), 1) := by decide +kernel
theorem dX2_beginKept_77 : decode cX2_beginKept 77 = .ok (.putfield 33, 3) := by decide +kernel
theorem dX2_beginKept_80 : decode cX2_beginKept 80 = .ok (.aload_n 0, 1) := by decide +kernel
theorem dX2_beginKept_81 : decode cX2_beginKept 81 = .ok (.iconst 1, 1) := by decide +kernel
theorem dX2_beginKept_82 : decode cX2_beginKept 82 = .ok (.putfield 48, 3) := by decide +kernel
theorem dX2_beginKept_85 : decode cX2_beginKept 85 = .ok (.aload_n 0, 1) := by decide +kernel
theorem dX2_beginKept_86 : decode cX2_beginKept 86 = .ok (.invokevirtual 64, 3) := by decide +kernel
theorem dX2_beginKept_89 : decode cX2_beginKept 89 = .ok (.return_, 1) := by decide +kernel
set_option maxRecDepth 20000 in
theorem ggX2_isFreeForKept_X5_at : GoodIn wsX2_isFreeForKept wsX5_at := goodIn_r _ [9, 10, 11, 34, 35, 36] (by decide +kernel) (by decide +kernel)
set_option maxRecDepth 20000 in
theorem gX2_isFreeForKept_X5_at : GoodIn wsX2_isFreeForKept (wsV RX2 70 RX5 yX5_at wsX5_at) := goodIn_app (goodIn_of _ (by decide +kernel)) ggX2_isFreeForKept_X5_at
set_option maxRecDepth 20000 in
theorem ggX2_isFreeForKept_X4_goesInto : GoodIn wsX2_isFreeForKept wsX4_goesInto := goodIn_r _ [16, 17, 37, 38, 39, 40, 41, 42, 43, 44] (by decide +kernel) (by decide +kernel)
set_option maxRecDepth 20000 in
theorem gX2_isFreeForKept_X4_goesInto : GoodIn wsX2_isFreeForKept (wsV RX2 86 RX4 yX4_goesInto wsX4_goesInto) := goodIn_app (goodIn_of _ (by decide +kernel)) ggX2_isFreeForKept_X4_goesInto
theorem dX2_isFreeForKept_0 : decode cX2_isFreeForKept 0 = .ok (.aload_n 0, 1) := by decide +kernel
theorem dX2_isFreeForKept_1 : decode cX2_isFreeForKept 1 = .ok (.getfield 21, 3) := by decide +kernel
theorem dX2_isFreeForKept_4 : decode cX2_isFreeForKept 4 = .ok (.ifCond .ne 5, 3) := by decide +kernel
theorem dX2_isFreeForKept_7 : decode cX2_isFreeForKept 7 = .ok (.iconst 1, 1) := by decide +kernel
theorem dX2_isFreeForKept_8 : decode cX2_isFreeForKept 8 = .ok (.ireturn, 1) := by decide +kernel
theorem dX2_isFreeForKept_9 : decode cX2_isFreeForKept 9 = .ok (.aload_n 0, 1) := by decide +kernel
theorem dX2_isFreeForKept_10 : decode cX2_isFreeForKept 10 = .ok (.getfield 33, 3) := by decide +kernel
theorem dX2_isFreeForKept_13 : decode cX2_isFreeForKept 13 = .ok (.iconst (-1), 1) := by decide +kernel
theorem dX2_isFreeForKept_14 : decode cX2_isFreeForKept 14 = .ok (.if_icmp .eq 16, 3) := by decide +kernel
theorem dX2_isFreeForKept_17 : decode cX2_isFreeForKept 17 = .ok (.aload_n 0, 1) := by decide +kernel
theorem dX2_isFreeForKept_18 : decode cX2_isFreeForKept 18 = .ok (.getfield 33, 3) := by decide +kernel
theorem dX2_isFreeForKept_21 : decode cX2_isFreeForKept 21 = .ok (.bipush 10, 2) := by decide +kernel
theorem dX2_isFreeForKept_23 : decode cX2_isFreeForKept 23 = .ok (.if_icmp .gt 7, 3) := by decide +kernel
theorem dX2_isFreeForKept_26 : decode cX2_isFreeForKept 26 = .ok (.iconst 1, 1) := by decide +kernel
theorem dX2_isFreeForKept_27 : decode cX2_isFreeForKept 27 = .ok (.goto 4, 3) := by decide +kernel
theorem dX2_isFreeForKept_30 : decode cX2_isFreeForKept 30 = .ok (.iconst 0, 1) := by decide +kernel
theorem dX2_isFreeForKept_31 : decode cX2_isFreeForKept 31 = .ok (.istore_n 2, 1) := by decide +kernel
theorem dX2_isFreeForKept_32 : decode cX2_isFreeForKept 32 = .ok (.aload_n 0, 1) := by decide +kernel
theorem dX2_isFreeForKept_33 : decode cX2_isFreeForKept 33 = .ok (.getfield 21, 3) := by decide +kernel
theorem dX2_isFreeForKept_36 : decode cX2_isFreeForKept 36 = .ok (.iconst 1, 1) := by decide +kernel
theorem dX2_isFreeForKept_37 : decode cX2_isFreeForKept 37 = .ok (.if_icmp .ne 29, 3) := by decide +kernel
theorem dX2_isFreeForKept_40 : decode cX2_isFreeForKept 40 = .ok (.iload_n 2, 1) := by decide +kernel
theorem dX2_isFreeForKept_41 : decode cX2_isFreeForKept 41 = .ok (.ifCond .eq 25, 3) := by decide +kernel
theorem dX2_isFreeForKept_44 : decode cX2_isFreeForKept 44 = .ok (.aload_n 1, 1) := by decide +kernel
theorem dX2_isFreeForKept_45 : decode cX2_isFreeForKept 45 = .ok (.aload_n 0, 1) := by decide +kernel
theorem dX2_isFreeForKept_46 : decode cX2_isFreeForKept 46 = .ok (.getfield 27, 3) := by decide +kernel
theorem dX2_isFreeForKept_49 : decode cX2_isFreeForKept 49 = .ok (.invokevirtual 70, 3) := by decide +kernel
theorem dX2_isFreeForKept_52 : decode cX2_isFreeForKept 52 = .ok (.aload_n 0, 1) := by decide +kernel
theorem dX2_isFreeForKept_53 : decode cX2_isFreeForKept 53 = .ok (.getfield 39, 3) := by decide +kernel
theorem dX2_isFreeForKept_56 : decode cX2_isFreeForKept 56 = .ok (.invokevirtual 86, 3) := by decide +kernel
theorem dX2_isFreeForKept_59 : decode cX2_isFreeForKept 59 = .ok (.ifCond .eq 7, 3) := by decide +kernel
theorem dX2_isFreeForKept_62 : decode cX2_isFreeForKept 62 = .ok (.iconst 1, 1) := by decide +kernel
theorem dX2_isFreeForKept_63 : decode cX2_isFreeForKept 63 = .ok (.goto 4, 3) := by decide +kernel
theorem dX2_isFreeForKept_66 : decode cX2_isFreeForKept 66 = .ok (.iconst 0, 1) := by decide +kernel
theorem dX2_isFreeForKept_67 : decode cX2_isFreeForKept 67 = .ok (.ireturn, 1) := by decide +kernel
theorem dX2_walk_0 : decode cX2_walk 0 = .ok (.aload_n 0, 1) := by decide +kernel
theorem dX2_walk_1 : decode cX2_walk 1 = .ok (.getfield 21, 3) := by decide +kernel
theorem dX2_walk_4 : decode cX2_walk 4 = .ok (.ifCond .ne 36, 3) := by decide +kernel
theorem dX2_walk_7 : decode cX2_walk 7 = .ok (.aload_n 0, 1) := by decide +kernel
theorem dX2_walk_8 : decode cX2_walk 8 = .ok (.getfield 45, 3) := by decide +kernel
theorem dX2_walk_11 : decode cX2_walk 11 = .ok (.iconst 1, 1) := by decide +kernel
theorem dX2_walk_12 : decode cX2_walk 12 = .ok (.if_icmp .ne 28, 3) := by decide +kernel
theorem dX2_walk_15 : decode cX2_walk 15 = .ok (.aload_n 0, 1) := by decide +kernel
theorem dX2_walk_16 : decode cX2_walk 16 = .ok (.dup, 1) := by decide +kernel
theorem dX2_walk_17 : decode cX2_walk 17 = .ok (.getfield 9, 3) := by decide +kernel
theorem dX2_walk_20 : decode cX2_walk 20 = .ok (.aload_n 0, 1) := by decide +kernel
theorem dX2_walk_21 : decode cX2_walk 21 = .ok (.getfield 58, 3) := by decide +kernel
theorem dX2_walk_24 : decode cX2_walk 24 = .ok (.ifCond .eq 7, 3) := by decide +kernel
theorem dX2_walk_27 : decode cX2_walk 27 = .ok (.iconst 4, 1) := by decide +kernel
theorem dX2_walk_28 : decode cX2_walk 28 = .ok (.goto 5, 3) := by decide +kernel
theorem dX2_walk_31 : decode cX2_walk 31 = .ok (.bipush (-4), 2) := by decide +kernel
theorem dX2_walk_33 : decode cX2_walk 33 = .ok (.iadd, 1) := by decide +kernel
theorem dX2_walk_34 : decode cX2_walk 34 = .ok (.putfield 9, 3) := by decide +kernel
theorem dX2_walk_37 : decode cX2_walk 37 = .ok (.goto 40, 3) := by decide +kernel
theorem dX2_walk_40 : decode cX2_walk 40 = .ok (.aload_n 0, 1) := by decide +kernel
theorem dX2_walk_41 : decode cX2_walk 41 = .ok (.getfield 21, 3) := by decide +kernel
theorem dX2_walk_44 : decode cX2_walk 44 = .ok (.ifCond .ne 33, 3) := by decide +kernel
theorem dX2_walk_47 : decode cX2_walk 47 = .ok (.aload_n 0, 1) := by decide +kernel
theorem dX2_walk_48 : decode cX2_walk 48 = .ok (.getfield 45, 3) := by decide +kernel
theorem dX2_walk_51 : decode cX2_walk 51 = .ok (.iconst 2, 1) := by decide +kernel
theorem dX2_walk_52 : decode cX2_walk 52 = .ok (.if_icmp .ne 25, 3) := by decide +kernel
theorem dX2_walk_55 : decode cX2_walk 55 = .ok (.aload_n 0, 1) := by decide +kernel
theorem dX2_walk_56 : decode cX2_walk 56 = .ok (.dup, 1) := by decide +kernel
theorem dX2_walk_57 : decode cX2_walk 57 = .ok (.getfield 9, 3) := by decide +kernel
theorem dX2_walk_60 : decode cX2_walk 60 = .ok (.aload_n 0, 1) := by decide +kernel
theorem dX2_walk_61 : decode cX2_walk 61 = .ok (.getfield 58, 3) := by decide +kernel
theorem dX2_walk_64 : decode cX2_walk 64 = .ok (.ifCond .eq 8, 3) := by decide +kernel
theorem dX2_walk_67 : decode cX2_walk 67 = .ok (.bipush (-3), 2) := by decide +kernel
theorem dX2_walk_69 : decode cX2_walk 69 = .ok (.goto 4, 3) := by decide +kernel
theorem dX2_walk_72 : decode cX2_walk 72 = .ok (.iconst 3, 1) := by decide +kernel
theorem dX2_walk_73 : decode cX2_walk 73 = .ok (.iadd, 1) := by decide +kernel
theorem dX2_walk_74 : decode cX2_walk 74 = .ok (.putfield 9, 3) := by decide +kernel
theorem dX2_walk_77 : decode cX2_walk 77 = .ok (.return_, 1) := by decide +kernel
theorem dX2_goBack_0 : decode cX2_goBack 0 = .ok (.aload_n 0, 1) := by decide +kernel
theorem dX2_goBack_1 : decode cX2_goBack 1 = .ok (.getfield 58, 3) := by decide +kernel
theorem dX2_goBack_4 : decode cX2_goBack 4 = .ok (.ifCond .eq 10, 3) := by decide +kernel
theorem dX2_goBack_7 : decode cX2_goBack 7 = .ok (.aload_n 0, 1) := by decide +kernel
theorem dX2_goBack_8 : decode cX2_goBack 8 = .ok (.getfield 9, 3) := by decide +kernel
theorem dX2_goBack_11 : decode cX2_goBack 11 = .ok (.goto 11, 3) := by decide +kernel
theorem dX2_goBack_14 : decode cX2_goBack 14 = .ok (.sipush 600, 3) := by decide +kernel
theorem dX2_goBack_17 : decode cX2_goBack 17 = .ok (.aload_n 0, 1) := by decide +kernel
theorem dX2_goBack_18 : decode cX2_goBack 18 = .ok (.getfield 9, 3) := by decide +kernel
theorem dX2_goBack_21 : decode cX2_goBack 21 = .ok (.isub, 1) := by decide +kernel
theorem dX2_goBack_22 : decode cX2_goBack 22 = .ok (.istore_n 2, 1) := by decide +kernel
theorem dX2_goBack_23 : decode cX2_goBack 23 = .ok (.iload_n 1, 1) := by decide +kernel
theorem dX2_goBack_24 : decode cX2_goBack 24 = .ok (.iload_n 2, 1) := by decide +kernel
theorem dX2_goBack_25 : decode cX2_goBack 25 = .ok (.if_icmp .ge 7, 3) := by decide +kernel
theorem dX2_goBack_28 : decode cX2_goBack 28 = .ok (.iload_n 1, 1) := by decide +kernel
theorem dX2_goBack_29 : decode cX2_goBack 29 = .ok (.goto 4, 3) := by decide +kernel
theorem dX2_goBack_32 : decode cX2_goBack 32 = .ok (.iload_n 2, 1) := by decide +kernel
theorem dX2_goBack_33 : decode cX2_goBack 33 = .ok (.istore_n 3, 1) := by decide +kernel
theorem dX2_goBack_34 : decode cX2_goBack 34 = .ok (.aload_n 0, 1) := by decide +kernel
theorem dX2_goBack_35 : decode cX2_goBack 35 = .ok (.dup, 1) := by decide +kernel
theorem dX2_goBack_36 : decode cX2_goBack 36 = .ok (.getfield 9, 3) := by decide +kernel
theorem dX2_goBack_39 : decode cX2_goBack 39 = .ok (.aload_n 0, 1) := by decide +kernel
theorem dX2_goBack_40 : decode cX2_goBack 40 = .ok (.getfield 58, 3) := by decide +kernel
theorem dX2_goBack_43 : decode cX2_goBack 43 = .ok (.ifCond .eq 8, 3) := by decide +kernel
theorem dX2_goBack_46 : decode cX2_goBack 46 = .ok (.iload_n 3, 1) := by decide +kernel
theorem dX2_goBack_47 : decode cX2_goBack 47 = .ok (.ineg, 1) := by decide +kernel
theorem dX2_goBack_48 : decode cX2_goBack 48 = .ok (.goto 4, 3) := by decide +kernel
theorem dX2_goBack_51 : decode cX2_goBack 51 = .ok (.iload_n 3, 1) := by decide +kernel
theorem dX2_goBack_52 : decode cX2_goBack 52 = .ok (.iadd, 1) := by decide +kernel
theorem dX2_goBack_53 : decode cX2_goBack 53 = .ok (.putfield 9, 3) := by decide +kernel
theorem dX2_goBack_56 : decode cX2_goBack 56 = .ok (.iload_n 1, 1) := by decide +kernel
theorem dX2_goBack_57 : decode cX2_goBack 57 = .ok (.iload_n 3, 1) := by decide +kernel
theorem dX2_goBack_58 : decode cX2_goBack 58 = .ok (.isub, 1) := by decide +kernel
theorem dX2_goBack_59 : decode cX2_goBack 59 = .ok (.ireturn, 1) := by decide +kernel
theorem dX2_rememberAheadOfHits_0 : decode cX2_rememberAheadOfHits 0 = .ok (.aload_n 0, 1) := by decide +kernel
theorem dX2_rememberAheadOfHits_1 : decode cX2_rememberAheadOfHits 1 = .ok (.aload_n 0, 1) := by decide +kernel
theorem dX2_rememberAheadOfHits_2 : decode cX2_rememberAheadOfHits 2 = .ok (.getfield 21, 3) := by decide +kernel
theorem dX2_rememberAheadOfHits_5 : decode cX2_rememberAheadOfHits 5 = .ok (.putfield 52, 3) := by decide +kernel
theorem dX2_rememberAheadOfHits_8 : decode cX2_rememberAheadOfHits 8 = .ok (.aload_n 0, 1) := by decide +kernel
theorem dX2_rememberAheadOfHits_9 : decode cX2_rememberAheadOfHits 9 = .ok (.aload_n 0, 1) := by decide +kernel
theorem dX2_rememberAheadOfHits_10 : decode cX2_rememberAheadOfHits 10 = .ok (.getfield 24, 3) := by decide +kernel
theorem dX2_rememberAheadOfHits_13 : decode cX2_rememberAheadOfHits 13 = .ok (.putfield 55, 3) := by decide +kernel
theorem dX2_rememberAheadOfHits_16 : decode cX2_rememberAheadOfHits 16 = .ok (.return_, 1) := by decide +kernel
theorem dX2_touch_0 : decode cX2_touch 0 = .ok (.aload_n 0, 1) := by decide +kernel
theorem dX2_touch_1 : decode cX2_touch 1 = .ok (.iconst 0, 1) := by decide +kernel
theorem dX2_touch_2 : decode cX2_touch 2 = .ok (.putfield 33, 3) := by decide +kernel
theorem dX2_touch_5 : decode cX2_touch 5 = .ok (.aload_n 0, 1) := by decide +kernel
theorem dX2_touch_6 : decode cX2_touch 6 = .ok (.aload_n 0, 1) := by decide +kernel
theorem dX2_touch_7 : decode cX2_touch 7 = .ok (.getfield 18, 3) := by decide +kernel
theorem dX2_touch_10 : decode cX2_touch 10 = .ok (.iload_n 1, 1) := by decide +kernel
theorem dX2_touch_11 : decode cX2_touch 11 = .ok (.iadd, 1) := by decide +kernel
theorem dX2_touch_12 : decode cX2_touch 12 = .ok (.bipush 100, 2) := by decide +kernel
theorem dX2_touch_14 : decode cX2_touch 14 = .ok (.if_icmp .le 8, 3) := by decide +kernel
theorem dX2_touch_17 : decode cX2_touch 17 = .ok (.bipush 100, 2) := by decide +kernel
theorem dX2_touch_19 : decode cX2_touch 19 = .ok (.goto 9, 3) := by decide +kernel
theorem dX2_touch_22 : decode cX2_touch 22 = .ok (.aload_n 0, 1) := by decide +kernel
theorem dX2_touch_23 : decode cX2_touch 23 = .ok (.getfield 18, 3) := by decide +kernel
theorem dX2_touch_26 : decode cX2_touch 26 = .ok (.iload_n 1, 1) := by decide +kernel
theorem dX2_touch_27 : decode cX2_touch 27 = .ok (.iadd, 1) := by decide +kernel
theorem dX2_touch_28 : decode cX2_touch 28 = .ok (.putfield 18, 3) := by decide +kernel
theorem dX2_touch_31 : decode cX2_touch 31 = .ok (.return_, 1) := by decide +kernel
set_option maxRecDepth 20000 in
theorem ggX2_blocks_X4_isBlockedWith : GoodIn wsX2_blocks wsX4_isBlockedWith := goodIn_r _ [7, 8, 25, 26, 27, 28, 29, 30, 31, 32] (by decide +kernel) (by decide +kernel)
set_option maxRecDepth 20000 in
theorem gX2_blocks_X4_isBlockedWith : GoodIn wsX2_blocks (wsV RX2 90 RX4 yX4_isBlockedWith wsX4_isBlockedWith) := goodIn_app (goodIn_of _ (by decide +kernel)) ggX2_blocks_X4_isBlockedWith
theorem dX2_blocks_0 : decode cX2_blocks 0 = .ok (.aload_n 0, 1) := by decide +kernel
theorem dX2_blocks_1 : decode cX2_blocks 1 = .ok (.getfield 52, 3) := by decide +kernel
theorem dX2_blocks_4 : decode cX2_blocks 4 = .ok (.ifCond .eq 11, 3) := by decide +kernel
theorem dX2_blocks_7 : decode cX2_blocks 7 = .ok (.aload_n 0, 1) := by decide +kernel
theorem dX2_blocks_8 : decode cX2_blocks 8 = .ok (.getfield 52, 3) := by decide +kernel
theorem dX2_blocks_11 : decode cX2_blocks 11 = .ok (.iconst 3, 1) := by decide +kernel
theorem dX2_blocks_12 : decode cX2_blocks 12 = .ok (.if_icmp .ne 18, 3) := by decide +kernel
theorem dX2_blocks_15 : decode cX2_blocks 15 = .ok (.aload_n 1, 1) := by decide +kernel
theorem dX2_blocks_16 : decode cX2_blocks 16 = .ok (.aload_n 0, 1) := by decide +kernel
theorem dX2_blocks_17 : decode cX2_blocks 17 = .ok (.getfield 45, 3) := by decide +kernel
theorem dX2_blocks_20 : decode cX2_blocks 20 = .ok (.invokevirtual 90, 3) := by decide +kernel
theorem dX2_blocks_23 : decode cX2_blocks 23 = .ok (.ifCond .eq 7, 3) := by decide +kernel
theorem dX2_blocks_26 : decode cX2_blocks 26 = .ok (.iconst 1, 1) := by decide +kernel
theorem dX2_blocks_27 : decode cX2_blocks 27 = .ok (.goto 4, 3) := by decide +kernel
theorem dX2_blocks_30 : decode cX2_blocks 30 = .ok (.iconst 0, 1) := by decide +kernel
theorem dX2_blocks_31 : decode cX2_blocks 31 = .ok (.ireturn, 1) := by decide +kernel
set_option maxRecDepth 20000 in
theorem ggX2_block_X4_trait : GoodIn wsX2_block wsX4_trait := goodIn_r _ [9, 10, 27, 28, 29, 30, 31, 32, 33, 34] (by decide +kernel) (by decide +kernel)
set_option maxRecDepth 20000 in
theorem gX2_block_X4_trait : GoodIn wsX2_block (wsV RX2 76 RX4 yX4_trait wsX4_trait) := goodIn_app (goodIn_of _ (by decide +kernel)) ggX2_block_X4_trait
theorem dX2_block_0 : decode cX2_block 0 = .ok (.aload_n 0, 1) := by decide +kernel
theorem dX2_block_1 : decode cX2_block 1 = .ok (.dup, 1) := by decide +kernel
theorem dX2_block_2 : decode cX2_block 2 = .ok (.getfield 15, 3) := by decide +kernel
theorem dX2_block_5 : decode cX2_block 5 = .ok (.aload_n 1, 1) := by decide +kernel
theorem dX2_block_6 : decode cX2_block 6 = .ok (.getfield 93, 3) := by decide +kernel
theorem dX2_block_9 : decode cX2_block 9 = .ok (.bipush 10, 2) := by decide +kernel
theorem dX2_block_11 : decode cX2_block 11 = .ok (.idiv, 1) := by decide +kernel
theorem dX2_block_12 : decode cX2_block 12 = .ok (.isub, 1) := by decide +kernel
theorem dX2_block_13 : decode cX2_block 13 = .ok (.putfield 15, 3) := by decide +kernel
theorem dX2_block_16 : decode cX2_block 16 = .ok (.aload_n 0, 1) := by decide +kernel
theorem dX2_block_17 : decode cX2_block 17 = .ok (.iconst 3, 1) := by decide +kernel
theorem dX2_block_18 : decode cX2_block 18 = .ok (.putfield 21, 3) := by decide +kernel
theorem dX2_block_21 : decode cX2_block 21 = .ok (.aload_n 0, 1) := by decide +kernel
theorem dX2_block_22 : decode cX2_block 22 = .ok (.aload_n 1, 1) := by decide +kernel
theorem dX2_block_23 : decode cX2_block 23 = .ok (.iconst 1, 1) := by decide +kernel
theorem dX2_block_24 : decode cX2_block 24 = .ok (.invokevirtual 76, 3) := by decide +kernel
theorem dX2_block_27 : decode cX2_block 27 = .ok (.putfield 36, 3) := by decide +kernel
theorem dX2_block_30 : decode cX2_block 30 = .ok (.return_, 1) := by decide +kernel
set_option maxRecDepth 20000 in
theorem ggX2_suffer_X4_trait : GoodIn wsX2_suffer wsX4_trait := goodIn_r _ [12, 13, 38, 39, 40, 41, 42, 43, 44, 45] (by decide +kernel) (by decide +kernel)
set_option maxRecDepth 20000 in
theorem gX2_suffer_X4_trait : GoodIn wsX2_suffer (wsV RX2 76 RX4 yX4_trait wsX4_trait) := goodIn_app (goodIn_of _ (by decide +kernel)) ggX2_suffer_X4_trait
set_option maxRecDepth 20000 in
theorem ggX2_suffer_X2_leaveMove : GoodIn wsX2_suffer wsX2_leaveMove := goodIn_r _ [18, 19, 20, 21, 22, 23, 24, 25, 26, 27, 28, 29, 30, 31, 32, 33, 34, 35, 36, 37] (by decide +kernel) (by decide +kernel)
set_option maxRecDepth 20000 in
theorem gX2_suffer_X2_leaveMove : GoodIn wsX2_suffer (wsV RX2 67 RX2 yX2_leaveMove wsX2_leaveMove) := goodIn_app (goodIn_of _ (by decide +kernel)) ggX2_suffer_X2_leaveMove
theorem dX2_suffer_0 : decode cX2_suffer 0 = .ok (.aload_n 0, 1) := by decide +kernel
theorem dX2_suffer_1 : decode cX2_suffer 1 = .ok (.getfield 52, 3) := by decide +kernel
theorem dX2_suffer_4 : decode cX2_suffer 4 = .ok (.iconst 1, 1) := by decide +kernel
theorem dX2_suffer_5 : decode cX2_suffer 5 = .ok (.if_icmp .ne 7, 3) := by decide +kernel
theorem dX2_suffer_8 : decode cX2_suffer 8 = .ok (.iconst 1, 1) := by decide +kernel
theorem dX2_suffer_9 : decode cX2_suffer 9 = .ok (.goto 4, 3) := by decide +kernel
theorem dX2_suffer_12 : decode cX2_suffer 12 = .ok (.iconst 0, 1) := by decide +kernel
theorem dX2_suffer_13 : decode cX2_suffer 13 = .ok (.istore_n 2, 1) := by decide +kernel
theorem dX2_suffer_14 : decode cX2_suffer 14 = .ok (.aload_n 0, 1) := by decide +kernel
theorem dX2_suffer_15 : decode cX2_suffer 15 = .ok (.aload_n 0, 1) := by decide +kernel
theorem dX2_suffer_16 : decode cX2_suffer 16 = .ok (.getfield 52, 3) := by decide +kernel
theorem dX2_suffer_19 : decode cX2_suffer 19 = .ok (.iconst 2, 1) := by decide +kernel
theorem dX2_suffer_20 : decode cX2_suffer 20 = .ok (.if_icmp .ne 12, 3) := by decide +kernel
theorem dX2_suffer_23 : decode cX2_suffer 23 = .ok (.aload_n 0, 1) := by decide +kernel
theorem dX2_suffer_24 : decode cX2_suffer 24 = .ok (.getfield 55, 3) := by decide +kernel
theorem dX2_suffer_27 : decode cX2_suffer 27 = .ok (.iconst 1, 1) := by decide +kernel
theorem dX2_suffer_28 : decode cX2_suffer 28 = .ok (.iadd, 1) := by decide +kernel
theorem dX2_suffer_29 : decode cX2_suffer 29 = .ok (.goto 4, 3) := by decide +kernel
theorem dX2_suffer_32 : decode cX2_suffer 32 = .ok (.iconst 1, 1) := by decide +kernel
theorem dX2_suffer_33 : decode cX2_suffer 33 = .ok (.putfield 24, 3) := by decide +kernel
theorem dX2_suffer_36 : decode cX2_suffer 36 = .ok (.aload_n 0, 1) := by decide +kernel
theorem dX2_suffer_37 : decode cX2_suffer 37 = .ok (.getfield 24, 3) := by decide +kernel
theorem dX2_suffer_40 : decode cX2_suffer 40 = .ok (.bipush 10, 2) := by decide +kernel
theorem dX2_suffer_42 : decode cX2_suffer 42 = .ok (.if_icmp .ge 13, 3) := by decide +kernel
theorem dX2_suffer_45 : decode cX2_suffer 45 = .ok (.bipush 11, 2) := by decide +kernel
theorem dX2_suffer_47 : decode cX2_suffer 47 = .ok (.aload_n 0, 1) := by decide +kernel
theorem dX2_suffer_48 : decode cX2_suffer 48 = .ok (.getfield 24, 3) := by decide +kernel
theorem dX2_suffer_51 : decode cX2_suffer 51 = .ok (.isub, 1) := by decide +kernel
theorem dX2_suffer_52 : decode cX2_suffer 52 = .ok (.goto 4, 3) := by decide +kernel
theorem dX2_suffer_55 : decode cX2_suffer 55 = .ok (.iconst 1, 1) := by decide +kernel
theorem dX2_suffer_56 : decode cX2_suffer 56 = .ok (.istore_n 3, 1) := by decide +kernel
theorem dX2_suffer_57 : decode cX2_suffer 57 = .ok (.aload_n 1, 1) := by decide +kernel
theorem dX2_suffer_58 : decode cX2_suffer 58 = .ok (.getfield 93, 3) := by decide +kernel
theorem dX2_suffer_61 : decode cX2_suffer 61 = .ok (.iload_n 3, 1) := by decide +kernel
theorem dX2_suffer_62 : decode cX2_suffer 62 = .ok (.imul, 1) := by decide +kernel
theorem dX2_suffer_63 : decode cX2_suffer 63 = .ok (.bipush 10, 2) := by decide +kernel
theorem dX2_suffer_65 : decode cX2_suffer 65 = .ok (.idiv, 1) := by decide +kernel
theorem dX2_suffer_66 : decode cX2_suffer 66 = .ok (.istore 4, 2) := by decide +kernel
theorem dX2_suffer_68 : decode cX2_suffer 68 = .ok (.aload_n 1, 1) := by decide +kernel
theorem dX2_suffer_69 : decode cX2_suffer 69 = .ok (.iconst 0, 1) := by decide +kernel
theorem dX2_suffer_70 : decode cX2_suffer 70 = .ok (.invokevirtual 76, 3) := by decide +kernel
theorem dX2_suffer_73 : decode cX2_suffer 73 = .ok (.iconst 2, 1) := by decide +kernel
theorem dX2_suffer_74 : decode cX2_suffer 74 = .ok (.aload_n 0, 1) := by decide +kernel
theorem dX2_suffer_75 : decode cX2_suffer 75 = .ok (.getfield 24, 3) := by decide +kernel
theorem dX2_suffer_78 : decode cX2_suffer 78 = .ok (.iconst 1, 1) := by decide +kernel
theorem dX2_suffer_79 : decode cX2_suffer 79 = .ok (.isub, 1) := by decide +kernel
theorem dX2_suffer_80 : decode cX2_suffer 80 = .ok (.imul, 1) := by decide +kernel
theorem dX2_suffer_81 : decode cX2_suffer 81 = .ok (.isub, 1) := by decide +kernel
theorem dX2_suffer_82 : decode cX2_suffer 82 = .ok (.istore 5, 2) := by decide +kernel
theorem dX2_suffer_84 : decode cX2_suffer 84 = .ok (.iload_n 2, 1) := by decide +kernel
theorem dX2_suffer_85 : decode cX2_suffer 85 = .ok (.ifCond .eq 15, 3) := by decide +kernel
theorem dX2_suffer_88 : decode cX2_suffer 88 = .ok (.iload 4, 2) := by decide +kernel
theorem dX2_suffer_90 : decode cX2_suffer 90 = .ok (.bipush 6, 2) := by decide +kernel
theorem dX2_suffer_92 : decode cX2_suffer 92 = .ok (.imul, 1) := by decide +kernel
theorem dX2_suffer_93 : decode cX2_suffer 93 = .ok (.iconst 5, 1) := by decide +kernel
theorem dX2_suffer_94 : decode cX2_suffer 94 = .ok (.idiv, 1) := by decide +kernel
theorem dX2_suffer_95 : decode cX2_suffer 95 = .ok (.istore 4, 2) := by decide +kernel
theorem dX2_suffer_97 : decode cX2_suffer 97 = .ok (.iinc 5 4, 3) := by decide +kernel
theorem dX2_suffer_100 : decode cX2_suffer 100 = .ok (.aload_n 0, 1) := by decide +kernel
theorem dX2_suffer_101 : decode cX2_suffer 101 = .ok (.dup, 1) := by decide +kernel
theorem dX2_suffer_102 : decode cX2_suffer 102 = .ok (.getfield 15, 3) := by decide +kernel
theorem dX2_suffer_105 : decode cX2_suffer 105 = .ok (.iload 4, 2) := by decide +kernel
theorem dX2_suffer_107 : decode cX2_suffer 107 = .ok (.isub, 1) := by decide +kernel
theorem dX2_suffer_108 : decode cX2_suffer 108 = .ok (.putfield 15, 3) := by decide +kernel
theorem dX2_suffer_111 : decode cX2_suffer 111 = .ok (.aload_n 0, 1) := by decide +kernel
theorem dX2_suffer_112 : decode cX2_suffer 112 = .ok (.invokevirtual 67, 3) := by decide +kernel
theorem dX2_suffer_115 : decode cX2_suffer 115 = .ok (.aload_n 0, 1) := by decide +kernel
theorem dX2_suffer_116 : decode cX2_suffer 116 = .ok (.iconst 2, 1) := by decide +kernel
theorem dX2_suffer_117 : decode cX2_suffer 117 = .ok (.putfield 21, 3) := by decide +kernel
theorem dX2_suffer_120 : decode cX2_suffer 120 = .ok (.aload_n 0, 1) := by decide +kernel
theorem dX2_suffer_121 : decode cX2_suffer 121 = .ok (.iload 5, 2) := by decide +kernel
theorem dX2_suffer_123 : decode cX2_suffer 123 = .ok (.ifCond .ge 7, 3) := by decide +kernel
theorem dX2_suffer_126 : decode cX2_suffer 126 = .ok (.iconst 0, 1) := by decide +kernel
theorem dX2_suffer_127 : decode cX2_suffer 127 = .ok (.goto 5, 3) := by decide +kernel
theorem dX2_suffer_130 : decode cX2_suffer 130 = .ok (.iload 5, 2) := by decide +kernel
theorem dX2_suffer_132 : decode cX2_suffer 132 = .ok (.putfield 36, 3) := by decide +kernel
theorem dX2_suffer_135 : decode cX2_suffer 135 = .ok (.return_, 1) := by decide +kernel
set_option maxRecDepth 20000 in
theorem ggX2_endFrame_X5_at : GoodIn wsX2_endFrame wsX5_at := goodIn_r _ [10, 11, 12, 57, 58, 59] (by decide +kernel) (by decide +kernel)
set_option maxRecDepth 20000 in
theorem gX2_endFrame_X5_at : GoodIn wsX2_endFrame (wsV RX2 70 RX5 yX5_at wsX5_at) := goodIn_app (goodIn_of _ (by decide +kernel)) ggX2_endFrame_X5_at
set_option maxRecDepth 20000 in
theorem ggX2_endFrame_X4_frames : GoodIn wsX2_endFrame wsX4_frames := goodIn_r _ [17, 18, 19, 20, 60, 61, 62, 63, 64, 65, 66, 67] (by decide +kernel) (by decide +kernel)
set_option maxRecDepth 20000 in
theorem gX2_endFrame_X4_frames : GoodIn wsX2_endFrame (wsV RX2 96 RX4 yX4_frames wsX4_frames) := goodIn_app (goodIn_of _ (by decide +kernel)) ggX2_endFrame_X4_frames
set_option maxRecDepth 20000 in
theorem ggX2_endFrame_X2_endFrameOfMove : GoodIn wsX2_endFrame wsX2_endFrameOfMove := goodIn_r _ [25, 26, 27, 28, 29, 30, 24, 31, 1, 3, 32, 33, 34, 35, 2, 41, 42, 43, 44, 45, 46, 47, 48, 49, 50, 51, 52, 53, 54, 55, 56] (by decide +kernel) (by decide +kernel)
set_option maxRecDepth 20000 in
theorem gX2_endFrame_X2_endFrameOfMove : GoodIn wsX2_endFrame (wsV RX2 100 RX2 yX2_endFrameOfMove wsX2_endFrameOfMove) := goodIn_app (goodIn_of _ (by decide +kernel)) ggX2_endFrame_X2_endFrameOfMove
set_option maxRecDepth 20000 in
theorem ggX2_endFrame_X2_stand : GoodIn wsX2_endFrame wsX2_stand := goodIn_r _ [31, 1, 3, 32, 33, 34, 24, 35, 2, 26, 27, 41, 42, 43, 44, 45, 46, 47, 48, 49, 50, 51, 52, 53, 54, 55, 56] (by decide +kernel) (by decide +kernel)
set_option maxRecDepth 20000 in
theorem gX2_endFrame_X2_stand : GoodIn wsX2_endFrame (wsV RX2 61 RX2 yX2_stand wsX2_stand) := goodIn_app (goodIn_of _ (by decide +kernel)) ggX2_endFrame_X2_stand
set_option maxRecDepth 20000 in
theorem ggX2_endFrame_X2_drop : GoodIn wsX2_endFrame wsX2_drop := goodIn_r _ [39, 40, 5, 41, 42, 43, 44, 45, 46, 47, 48, 49, 50, 51, 52, 53, 54, 55, 56] (by decide +kernel) (by decide +kernel)
set_option maxRecDepth 20000 in
theorem gX2_endFrame_X2_drop : GoodIn wsX2_endFrame (wsV RX2 64 RX2 yX2_drop wsX2_drop) := goodIn_app (goodIn_of _ (by decide +kernel)) ggX2_endFrame_X2_drop
theorem dX2_endFrame_0 : decode cX2_endFrame 0 = .ok (.aload_n 0, 1) := by decide +kernel
theorem dX2_endFrame_1 : decode cX2_endFrame 1 = .ok (.getfield 21, 3) := by decide +kernel
theorem dX2_endFrame_4 : decode cX2_endFrame 4 = .ok (.iconst 1, 1) := by decide +kernel
theorem dX2_endFrame_5 : decode cX2_endFrame 5 = .ok (.if_icmp .ne 21, 3) := by decide +kernel
theorem dX2_endFrame_8 : decode cX2_endFrame 8 = .ok (.aload_n 0, 1) := by decide +kernel
theorem dX2_endFrame_9 : decode cX2_endFrame 9 = .ok (.aload_n 1, 1) := by decide +kernel
theorem dX2_endFrame_10 : decode cX2_endFrame 10 = .ok (.aload_n 0, 1) := by decide +kernel
theorem dX2_endFrame_11 : decode cX2_endFrame 11 = .ok (.getfield 27, 3) := by decide +kernel
theorem dX2_endFrame_14 : decode cX2_endFrame 14 = .ok (.invokevirtual 70, 3) := by decide +kernel
theorem dX2_endFrame_17 : decode cX2_endFrame 17 = .ok (.invokevirtual 96, 3) := by decide +kernel
theorem dX2_endFrame_20 : decode cX2_endFrame 20 = .ok (.invokevirtual 100, 3) := by decide +kernel
theorem dX2_endFrame_23 : decode cX2_endFrame 23 = .ok (.goto 31, 3) := by decide +kernel
theorem dX2_endFrame_26 : decode cX2_endFrame 26 = .ok (.aload_n 0, 1) := by decide +kernel
theorem dX2_endFrame_27 : decode cX2_endFrame 27 = .ok (.getfield 21, 3) := by decide +kernel
theorem dX2_endFrame_30 : decode cX2_endFrame 30 = .ok (.ifCond .eq 24, 3) := by decide +kernel
theorem dX2_endFrame_33 : decode cX2_endFrame 33 = .ok (.aload_n 0, 1) := by decide +kernel
theorem dX2_endFrame_34 : decode cX2_endFrame 34 = .ok (.dup, 1) := by decide +kernel
theorem dX2_endFrame_35 : decode cX2_endFrame 35 = .ok (.getfield 36, 3) := by decide +kernel
theorem dX2_endFrame_38 : decode cX2_endFrame 38 = .ok (.iconst 1, 1) := by decide +kernel
theorem dX2_endFrame_39 : decode cX2_endFrame 39 = .ok (.isub, 1) := by decide +kernel
theorem dX2_endFrame_40 : decode cX2_endFrame 40 = .ok (.putfield 36, 3) := by decide +kernel
theorem dX2_endFrame_43 : decode cX2_endFrame 43 = .ok (.aload_n 0, 1) := by decide +kernel
theorem dX2_endFrame_44 : decode cX2_endFrame 44 = .ok (.getfield 36, 3) := by decide +kernel
theorem dX2_endFrame_47 : decode cX2_endFrame 47 = .ok (.ifCond .gt 7, 3) := by decide +kernel
theorem dX2_endFrame_50 : decode cX2_endFrame 50 = .ok (.aload_n 0, 1) := by decide +kernel
theorem dX2_endFrame_51 : decode cX2_endFrame 51 = .ok (.invokevirtual 61, 3) := by decide +kernel
theorem dX2_endFrame_54 : decode cX2_endFrame 54 = .ok (.aload_n 0, 1) := by decide +kernel
theorem dX2_endFrame_55 : decode cX2_endFrame 55 = .ok (.getfield 21, 3) := by decide +kernel
theorem dX2_endFrame_58 : decode cX2_endFrame 58 = .ok (.iconst 2, 1) := by decide +kernel
theorem dX2_endFrame_59 : decode cX2_endFrame 59 = .ok (.if_icmp .eq 8, 3) := by decide +kernel
theorem dX2_endFrame_62 : decode cX2_endFrame 62 = .ok (.aload_n 0, 1) := by decide +kernel
theorem dX2_endFrame_63 : decode cX2_endFrame 63 = .ok (.iconst 0, 1) := by decide +kernel
theorem dX2_endFrame_64 : decode cX2_endFrame 64 = .ok (.putfield 24, 3) := by decide +kernel
theorem dX2_endFrame_67 : decode cX2_endFrame 67 = .ok (.aload_n 0, 1) := by decide +kernel
theorem dX2_endFrame_68 : decode cX2_endFrame 68 = .ok (.dup, 1) := by decide +kernel
theorem dX2_endFrame_69 : decode cX2_endFrame 69 = .ok (.getfield 42, 3) := by decide +kernel
theorem dX2_endFrame_72 : decode cX2_endFrame 72 = .ok (.iconst 1, 1) := by decide +kernel
theorem dX2_endFrame_73 : decode cX2_endFrame 73 = .ok (.isub, 1) := by decide +kernel
theorem dX2_endFrame_74 : decode cX2_endFrame 74 = .ok (.putfield 42, 3) := by decide +kernel
theorem dX2_endFrame_77 : decode cX2_endFrame 77 = .ok (.aload_n 0, 1) := by decide +kernel
theorem dX2_endFrame_78 : decode cX2_endFrame 78 = .ok (.getfield 42, 3) := by decide +kernel
theorem dX2_endFrame_81 : decode cX2_endFrame 81 = .ok (.ifCond .gt 7, 3) := by decide +kernel
theorem dX2_endFrame_84 : decode cX2_endFrame 84 = .ok (.aload_n 0, 1) := by decide +kernel
theorem dX2_endFrame_85 : decode cX2_endFrame 85 = .ok (.invokevirtual 64, 3) := by decide +kernel
theorem dX2_endFrame_88 : decode cX2_endFrame 88 = .ok (.return_, 1) := by decide +kernel
set_option maxRecDepth 20000 in
theorem ggX2_endFrameOfMove_X2_stand : GoodIn wsX2_endFrameOfMove wsX2_stand := goodIn_r _ [7, 8, 9, 10, 11, 12, 6, 13, 14, 1, 2, 15, 16, 17, 18, 19, 20, 21, 22, 23, 24, 25, 26, 27, 28, 29, 30] (by decide +kernel) (by decide +kernel)
set_option maxRecDepth 20000 in
theorem gX2_endFrameOfMove_X2_stand : GoodIn wsX2_endFrameOfMove (wsV RX2 61 RX2 yX2_stand wsX2_stand) := goodIn_app (goodIn_of _ (by decide +kernel)) ggX2_endFrameOfMove_X2_stand
theorem dX2_endFrameOfMove_0 : decode cX2_endFrameOfMove 0 = .ok (.aload_n 0, 1) := by decide +kernel
theorem dX2_endFrameOfMove_1 : decode cX2_endFrameOfMove 1 = .ok (.dup, 1) := by decide +kernel
theorem dX2_endFrameOfMove_2 : decode cX2_endFrameOfMove 2 = .ok (.getfield 30, 3) := by decide +kernel
theorem dX2_endFrameOfMove_5 : decode cX2_endFrameOfMove 5 = .ok (.iconst 1, 1) := by decide +kernel
theorem dX2_endFrameOfMove_6 : decode cX2_endFrameOfMove 6 = .ok (.iadd, 1) := by decide +kernel
theorem dX2_endFrameOfMove_7 : decode cX2_endFrameOfMove 7 = .ok (.putfield 30, 3) := by decide +kernel
theorem dX2_endFrameOfMove_10 : decode cX2_endFrameOfMove 10 = .ok (.aload_n 0, 1) := by decide +kernel
theorem dX2_endFrameOfMove_11 : decode cX2_endFrameOfMove 11 = .ok (.getfield 33, 3) := by decide +kernel
theorem dX2_endFrameOfMove_14 : decode cX2_endFrameOfMove 14 = .ok (.iconst (-1), 1) := by decide +kernel
theorem dX2_endFrameOfMove_15 : decode cX2_endFrameOfMove 15 = .ok (.if_icmp .eq 13, 3) := by decide +kernel
theorem dX2_endFrameOfMove_18 : decode cX2_endFrameOfMove 18 = .ok (.aload_n 0, 1) := by decide +kernel
theorem dX2_endFrameOfMove_19 : decode cX2_endFrameOfMove 19 = .ok (.dup, 1) := by decide +kernel
theorem dX2_endFrameOfMove_20 : decode cX2_endFrameOfMove 20 = .ok (.getfield 33, 3) := by decide +kernel
theorem dX2_endFrameOfMove_23 : decode cX2_endFrameOfMove 23 = .ok (.iconst 1, 1) := by decide +kernel
theorem dX2_endFrameOfMove_24 : decode cX2_endFrameOfMove 24 = .ok (.iadd, 1) := by decide +kernel
theorem dX2_endFrameOfMove_25 : decode cX2_endFrameOfMove 25 = .ok (.putfield 33, 3) := by decide +kernel
theorem dX2_endFrameOfMove_28 : decode cX2_endFrameOfMove 28 = .ok (.aload_n 0, 1) := by decide +kernel
theorem dX2_endFrameOfMove_29 : decode cX2_endFrameOfMove 29 = .ok (.getfield 30, 3) := by decide +kernel
theorem dX2_endFrameOfMove_32 : decode cX2_endFrameOfMove 32 = .ok (.iload_n 1, 1) := by decide +kernel
theorem dX2_endFrameOfMove_33 : decode cX2_endFrameOfMove 33 = .ok (.if_icmp .lt 7, 3) := by decide +kernel
theorem dX2_endFrameOfMove_36 : decode cX2_endFrameOfMove 36 = .ok (.aload_n 0, 1) := by decide +kernel
theorem dX2_endFrameOfMove_37 : decode cX2_endFrameOfMove 37 = .ok (.invokevirtual 61, 3) := by decide +kernel
theorem dX2_endFrameOfMove_40 : decode cX2_endFrameOfMove 40 = .ok (.return_, 1) := by decide +kernel
set_option maxRecDepth 20000 in
theorem ggX3_init_X1_init : GoodIn wsX3_init wsX1_init := goodIn_r _ [17, 18, 2, 3, 19, 20, 21, 22, 23, 24, 25, 26, 27, 28, 29, 30, 31, 32, 33, 34, 35, 36, 37, 38, 39, 40, 41, 42, 43, 44, 55, 56, 57, 58, 59, 60, 61, 62, 63, 64, 65, 66, 67, 68, 69, 70, 52, 53, 54] (by decide +kernel) (by decide +kernel)
set_option maxRecDepth 20000 in
theorem gX3_init_X1_init : GoodIn wsX3_init (wsX1_init) := ggX3_init_X1_init
theorem dX3_init_0 : decode cX3_init 0 = .ok (.aload_n 0, 1) := by decide +kernel
theorem dX3_init_1 : decode cX3_init 1 = .ok (.invokespecial 3, 3) := by decide +kernel
theorem dX3_init_4 : decode cX3_init 4 = .ok (.aload_n 0, 1) := by decide +kernel
theorem dX3_init_5 : decode cX3_init 5 = .ok (.iconst 0, 1) := by decide +kernel
theorem dX3_init_6 : decode cX3_init 6 = .ok (.putfield 9, 3) := by decide +kernel
theorem dX3_init_9 : decode cX3_init 9 = .ok (.aload_n 0, 1) := by decide +kernel
theorem dX3_init_10 : decode cX3_init 10 = .ok (.iconst 5, 1) := by decide +kernel
theorem dX3_init_11 : decode cX3_init 11 = .ok (.anewarray 15, 3) := by decide +kernel
theorem dX3_init_14 : decode cX3_init 14 = .ok (.putfield 17, 3) := by decide +kernel
theorem dX3_init_17 : decode cX3_init 17 = .ok (.aload_n 0, 1) := by decide +kernel
theorem dX3_init_18 : decode cX3_init 18 = .ok (.iconst 4, 1) := by decide +kernel
theorem dX3_init_19 : decode cX3_init 19 = .ok (.newarray .int, 2) := by decide +kernel
theorem dX3_init_21 : decode cX3_init 21 = .ok (.putfield 21, 3) := by decide +kernel
theorem dX3_init_24 : decode cX3_init 24 = .ok (.aload_n 0, 1) := by decide +kernel
theorem dX3_init_25 : decode cX3_init 25 = .ok (.iconst 4, 1) := by decide +kernel
theorem dX3_init_26 : decode cX3_init 26 = .ok (.newarray .int, 2) := by decide +kernel
theorem dX3_init_28 : decode cX3_init 28 = .ok (.putfield 25, 3) := by decide +kernel
theorem dX3_init_31 : decode cX3_init 31 = .ok (.aload_n 0, 1) := by decide +kernel
theorem dX3_init_32 : decode cX3_init 32 = .ok (.iconst 0, 1) := by decide +kernel
theorem dX3_init_33 : decode cX3_init 33 = .ok (.putfield 28, 3) := by decide +kernel
theorem dX3_init_36 : decode cX3_init 36 = .ok (.aload_n 0, 1) := by decide +kernel
theorem dX3_init_37 : decode cX3_init 37 = .ok (.aload_n 1, 1) := by decide +kernel
theorem dX3_init_38 : decode cX3_init 38 = .ok (.putfield 31, 3) := by decide +kernel
theorem dX3_init_41 : decode cX3_init 41 = .ok (.aload_n 0, 1) := by decide +kernel
theorem dX3_init_42 : decode cX3_init 42 = .ok (.new 15, 3) := by decide +kernel
theorem dX3_init_45 : decode cX3_init 45 = .ok (.dup, 1) := by decide +kernel
theorem dX3_init_46 : decode cX3_init 46 = .ok (.aload_n 1, 1) := by decide +kernel
theorem dX3_init_47 : decode cX3_init 47 = .ok (.invokespecial 35, 3) := by decide +kernel
theorem dX3_init_50 : decode cX3_init 50 = .ok (.putfield 38, 3) := by decide +kernel
theorem dX3_init_53 : decode cX3_init 53 = .ok (.iconst 0, 1) := by decide +kernel
theorem dX3_init_54 : decode cX3_init 54 = .ok (.istore_n 2, 1) := by decide +kernel
theorem dX3_init_55 : decode cX3_init 55 = .ok (.iload_n 2, 1) := by decide +kernel
theorem dX3_init_56 : decode cX3_init 56 = .ok (.iconst 4, 1) := by decide +kernel
theorem dX3_init_57 : decode cX3_init 57 = .ok (.if_icmp .gt 23, 3) := by decide +kernel
theorem dX3_init_60 : decode cX3_init 60 = .ok (.aload_n 0, 1) := by decide +kernel
theorem dX3_init_61 : decode cX3_init 61 = .ok (.getfield 17, 3) := by decide +kernel
theorem dX3_init_64 : decode cX3_init 64 = .ok (.iload_n 2, 1) := by decide +kernel
theorem dX3_init_65 : decode cX3_init 65 = .ok (.new 15, 3) := by decide +kernel
theorem dX3_init_68 : decode cX3_init 68 = .ok (.dup, 1) := by decide +kernel
theorem dX3_init_69 : decode cX3_init 69 = .ok (.aload_n 1, 1) := by decide +kernel
theorem dX3_init_70 : decode cX3_init 70 = .ok (.invokespecial 35, 3) := by decide +kernel
theorem dX3_init_73 : decode cX3_init 73 = .ok (.aastore, 1) := by decide +kernel
theorem dX3_init_74 : decode cX3_init 74 = .ok (.iinc 2 1, 3) := by decide +kernel
theorem dX3_init_77 : decode cX3_init 77 = .ok (.goto (-22), 3) := by decide +kernel
theorem dX3_init_80 : decode cX3_init 80 = .ok (.return_, 1) := by decide +kernel
set_option maxRecDepth 20000 in
theorem ggX3_framesAhead_X1_prepare : GoodIn wsX3_framesAhead wsX1_prepare := goodIn_r _ [9, 10, 11, 12, 13, 14, 15, 16, 17, 18, 19, 20, 21, 22, 23, 24, 25, 26, 27, 28, 29, 30, 31, 32, 33, 34, 35, 36, 37, 38, 39, 191, 192, 193, 194, 195, 196, 197, 198, 199, 200, 201, 202, 203, 204, 205, 206, 207, 208, 209] (by decide +kernel) (by decide +kernel)
set_option maxRecDepth 20000 in
theorem gX3_framesAhead_X1_prepare : GoodIn wsX3_framesAhead (wsV RX3 42 RX1 yX1_prepare wsX1_prepare) := goodIn_app (goodIn_of _ (by decide +kernel)) ggX3_framesAhead_X1_prepare
set_option maxRecDepth 20000 in
theorem ggX3_framesAhead_X7_inputOf : GoodIn wsX3_framesAhead wsX7_inputOf := goodIn_r _ [42] (by decide +kernel) (by decide +kernel)
set_option maxRecDepth 20000 in
theorem gX3_framesAhead_X7_inputOf_n46 : GoodIn wsX3_framesAhead (wsX7_inputOf) := ggX3_framesAhead_X7_inputOf
set_option maxRecDepth 20000 in
theorem ggX3_framesAhead_X3_inputToBlock : GoodIn wsX3_framesAhead wsX3_inputToBlock := goodIn_r _ [47, 48, 49, 50, 51, 52, 53, 54, 55, 56, 57, 184, 185, 186, 187, 188, 189, 190, 210, 211, 212, 213, 214, 215, 216, 217, 218, 219, 220] (by decide +kernel) (by decide +kernel)
set_option maxRecDepth 20000 in
theorem gX3_framesAhead_X3_inputToBlock : GoodIn wsX3_framesAhead (wsV RX3 50 RX3 yX3_inputToBlock wsX3_inputToBlock) := goodIn_app (goodIn_of _ (by decide +kernel)) ggX3_framesAhead_X3_inputToBlock
set_option maxRecDepth 20000 in
theorem ggX3_framesAhead_X1_playFrame : GoodIn wsX3_framesAhead wsX1_playFrame := goodIn_r _ [61, 10, 11, 62, 63, 64, 65, 15, 66, 67, 68, 38, 39, 69, 70, 71, 72, 18, 25, 31, 32, 33, 73, 52, 53, 54, 55, 56, 57, 74, 75, 76, 77, 78, 79, 80, 81, 82, 83, 84, 85, 86, 87, 88, 34, 35, 36, 37, 89, 90, 91, 8, 92, 93, 94, 95, 96, 97, 98, 99, 100, 101, 102, 103, 104, 17, 105, 106, 107, 108, 109, 110, 111, 112, 113, 114, 115, 116, 117, 118, 119, 120, 121, 122, 123, 124, 125, 126, 127, 128, 129, 130, 131, 132, 133, 134, 135, 136, 137, 138, 139, 140, 141, 142, 143, 144, 145, 146, 147, 20, 148, 149, 150, 151, 152, 153, 154, 155, 156, 157, 158, 159, 160, 161, 162, 163, 164, 165, 19, 166, 26, 167, 168, 169, 170, 27, 28, 29, 30, 171, 172, 173, 174, 175, 176, 177, 178, 179, 180, 181, 182, 183, 21, 22, 23, 24, 191, 192, 193, 194, 195, 196, 197, 198, 199, 200, 201, 202, 203, 204, 205, 206, 207, 208, 209, 218, 219, 220, 210, 211, 212, 213, 214, 215, 216, 217] (by decide +kernel) (by decide +kernel)
set_option maxRecDepth 20000 in
theorem gX3_framesAhead_X1_playFrame : GoodIn wsX3_framesAhead (wsV RX3 54 RX1 yX1_playFrame wsX1_playFrame) := goodIn_app (goodIn_of _ (by decide +kernel)) ggX3_framesAhead_X1_playFrame
theorem dX3_framesAhead_0 : decode cX3_framesAhead 0 = .ok (.iconst 0, 1) := by decide +kernel
theorem dX3_framesAhead_1 : decode cX3_framesAhead 1 = .ok (.istore_n 3, 1) := by decide +kernel
theorem dX3_framesAhead_2 : decode cX3_framesAhead 2 = .ok (.iconst 0, 1) := by decide +kernel
theorem dX3_framesAhead_3 : decode cX3_framesAhead 3 = .ok (.istore 4, 2) := by decide +kernel
theorem dX3_framesAhead_5 : decode cX3_framesAhead 5 = .ok (.aload_n 0, 1) := by decide +kernel
theorem dX3_framesAhead_6 : decode cX3_framesAhead 6 = .ok (.getfield 38, 3) := by decide +kernel
theorem dX3_framesAhead_9 : decode cX3_framesAhead 9 = .ok (.bipush 20, 2) := by decide +kernel
theorem dX3_framesAhead_11 : decode cX3_framesAhead 11 = .ok (.bipush 100, 2) := by decide +kernel
theorem dX3_framesAhead_13 : decode cX3_framesAhead 13 = .ok (.bipush 100, 2) := by decide +kernel
theorem dX3_framesAhead_15 : decode cX3_framesAhead 15 = .ok (.invokevirtual 42, 3) := by decide +kernel
theorem dX3_framesAhead_18 : decode cX3_framesAhead 18 = .ok (.iconst 1, 1) := by decide +kernel
theorem dX3_framesAhead_19 : decode cX3_framesAhead 19 = .ok (.istore 5, 2) := by decide +kernel
theorem dX3_framesAhead_21 : decode cX3_framesAhead 21 = .ok (.iload 5, 2) := by decide +kernel
theorem dX3_framesAhead_23 : decode cX3_framesAhead 23 = .ok (.sipush 200, 3) := by decide +kernel
theorem dX3_framesAhead_26 : decode cX3_framesAhead 26 = .ok (.if_icmp .gt 86, 3) := by decide +kernel
theorem dX3_framesAhead_29 : decode cX3_framesAhead 29 = .ok (.iload 5, 2) := by decide +kernel
theorem dX3_framesAhead_31 : decode cX3_framesAhead 31 = .ok (.iconst 1, 1) := by decide +kernel
theorem dX3_framesAhead_32 : decode cX3_framesAhead 32 = .ok (.if_icmp .ne 10, 3) := by decide +kernel
theorem dX3_framesAhead_35 : decode cX3_framesAhead 35 = .ok (.iload_n 1, 1) := by decide +kernel
theorem dX3_framesAhead_36 : decode cX3_framesAhead 36 = .ok (.invokestatic 46, 3) := by decide +kernel
theorem dX3_framesAhead_39 : decode cX3_framesAhead 39 = .ok (.goto 4, 3) := by decide +kernel
theorem dX3_framesAhead_42 : decode cX3_framesAhead 42 = .ok (.iconst 0, 1) := by decide +kernel
theorem dX3_framesAhead_43 : decode cX3_framesAhead 43 = .ok (.istore 6, 2) := by decide +kernel
theorem dX3_framesAhead_45 : decode cX3_framesAhead 45 = .ok (.aload_n 0, 1) := by decide +kernel
theorem dX3_framesAhead_46 : decode cX3_framesAhead 46 = .ok (.getfield 38, 3) := by decide +kernel
theorem dX3_framesAhead_49 : decode cX3_framesAhead 49 = .ok (.iload 6, 2) := by decide +kernel
theorem dX3_framesAhead_51 : decode cX3_framesAhead 51 = .ok (.iload_n 2, 1) := by decide +kernel
theorem dX3_framesAhead_52 : decode cX3_framesAhead 52 = .ok (.ifCond .eq 13, 3) := by decide +kernel
theorem dX3_framesAhead_55 : decode cX3_framesAhead 55 = .ok (.aload_n 0, 1) := by decide +kernel
theorem dX3_framesAhead_56 : decode cX3_framesAhead 56 = .ok (.iload_n 1, 1) := by decide +kernel
theorem dX3_framesAhead_57 : decode cX3_framesAhead 57 = .ok (.iload 5, 2) := by decide +kernel
theorem dX3_framesAhead_59 : decode cX3_framesAhead 59 = .ok (.invokevirtual 50, 3) := by decide +kernel
theorem dX3_framesAhead_62 : decode cX3_framesAhead 62 = .ok (.goto 4, 3) := by decide +kernel
theorem dX3_framesAhead_65 : decode cX3_framesAhead 65 = .ok (.iconst 0, 1) := by decide +kernel
theorem dX3_framesAhead_66 : decode cX3_framesAhead 66 = .ok (.invokevirtual 54, 3) := by decide +kernel
theorem dX3_framesAhead_69 : decode cX3_framesAhead 69 = .ok (.aload_n 0, 1) := by decide +kernel
theorem dX3_framesAhead_70 : decode cX3_framesAhead 70 = .ok (.getfield 38, 3) := by decide +kernel
theorem dX3_framesAhead_73 : decode cX3_framesAhead 73 = .ok (.getfield 58, 3) := by decide +kernel
theorem dX3_framesAhead_76 : decode cX3_framesAhead 76 = .ok (.getfield 62, 3) := by decide +kernel
theorem dX3_framesAhead_79 : decode cX3_framesAhead 79 = .ok (.ifCond .eq 8, 3) := by decide +kernel
theorem dX3_framesAhead_82 : decode cX3_framesAhead 82 = .ok (.iload 5, 2) := by decide +kernel
theorem dX3_framesAhead_84 : decode cX3_framesAhead 84 = .ok (.iconst 1, 1) := by decide +kernel
theorem dX3_framesAhead_85 : decode cX3_framesAhead 85 = .ok (.iadd, 1) := by decide +kernel
theorem dX3_framesAhead_86 : decode cX3_framesAhead 86 = .ok (.istore_n 3, 1) := by decide +kernel
theorem dX3_framesAhead_87 : decode cX3_framesAhead 87 = .ok (.aload_n 0, 1) := by decide +kernel
theorem dX3_framesAhead_88 : decode cX3_framesAhead 88 = .ok (.getfield 38, 3) := by decide +kernel
theorem dX3_framesAhead_91 : decode cX3_framesAhead 91 = .ok (.getfield 67, 3) := by decide +kernel
theorem dX3_framesAhead_94 : decode cX3_framesAhead 94 = .ok (.getfield 62, 3) := by decide +kernel
theorem dX3_framesAhead_97 : decode cX3_framesAhead 97 = .ok (.ifCond .eq 9, 3) := by decide +kernel
theorem dX3_framesAhead_100 : decode cX3_framesAhead 100 = .ok (.iload 5, 2) := by decide +kernel
theorem dX3_framesAhead_102 : decode cX3_framesAhead 102 = .ok (.iconst 1, 1) := by decide +kernel
theorem dX3_framesAhead_103 : decode cX3_framesAhead 103 = .ok (.iadd, 1) := by decide +kernel
theorem dX3_framesAhead_104 : decode cX3_framesAhead 104 = .ok (.istore 4, 2) := by decide +kernel
theorem dX3_framesAhead_106 : decode cX3_framesAhead 106 = .ok (.iinc 5 1, 3) := by decide +kernel
theorem dX3_framesAhead_109 : decode cX3_framesAhead 109 = .ok (.goto (-88), 3) := by decide +kernel
theorem dX3_framesAhead_112 : decode cX3_framesAhead 112 = .ok (.iload 4, 2) := by decide +kernel
theorem dX3_framesAhead_114 : decode cX3_framesAhead 114 = .ok (.iload_n 3, 1) := by decide +kernel
theorem dX3_framesAhead_115 : decode cX3_framesAhead 115 = .ok (.isub, 1) := by decide +kernel
theorem dX3_framesAhead_116 : decode cX3_framesAhead 116 = .ok (.ireturn, 1) := by decide +kernel
set_option maxRecDepth 20000 in
theorem ggX3_inputToBlock_X5_at : GoodIn wsX3_inputToBlock wsX5_at := goodIn_r _ [8, 9, 10, 26, 27, 28] (by decide +kernel) (by decide +kernel)
set_option maxRecDepth 20000 in
theorem gX3_inputToBlock_X5_at : GoodIn wsX3_inputToBlock (wsV RX3 70 RX5 yX5_at wsX5_at) := goodIn_app (goodIn_of _ (by decide +kernel)) ggX3_inputToBlock_X5_at
theorem dX3_inputToBlock_0 : decode cX3_inputToBlock 0 = .ok (.iload_n 2, 1) := by decide +kernel
theorem dX3_inputToBlock_1 : decode cX3_inputToBlock 1 = .ok (.aload_n 0, 1) := by decide +kernel
theorem dX3_inputToBlock_2 : decode cX3_inputToBlock 2 = .ok (.getfield 31, 3) := by decide +kernel
theorem dX3_inputToBlock_5 : decode cX3_inputToBlock 5 = .ok (.iload_n 1, 1) := by decide +kernel
theorem dX3_inputToBlock_6 : decode cX3_inputToBlock 6 = .ok (.invokevirtual 70, 3) := by decide +kernel
theorem dX3_inputToBlock_9 : decode cX3_inputToBlock 9 = .ok (.getfield 76, 3) := by decide +kernel
theorem dX3_inputToBlock_12 : decode cX3_inputToBlock 12 = .ok (.if_icmp .gt 5, 3) := by decide +kernel
theorem dX3_inputToBlock_15 : decode cX3_inputToBlock 15 = .ok (.iconst 0, 1) := by decide +kernel
theorem dX3_inputToBlock_16 : decode cX3_inputToBlock 16 = .ok (.ireturn, 1) := by decide +kernel
theorem dX3_inputToBlock_17 : decode cX3_inputToBlock 17 = .ok (.aload_n 0, 1) := by decide +kernel
theorem dX3_inputToBlock_18 : decode cX3_inputToBlock 18 = .ok (.getfield 31, 3) := by decide +kernel
theorem dX3_inputToBlock_21 : decode cX3_inputToBlock 21 = .ok (.iload_n 1, 1) := by decide +kernel
theorem dX3_inputToBlock_22 : decode cX3_inputToBlock 22 = .ok (.invokevirtual 70, 3) := by decide +kernel
theorem dX3_inputToBlock_25 : decode cX3_inputToBlock 25 = .ok (.getfield 81, 3) := by decide +kernel
theorem dX3_inputToBlock_28 : decode cX3_inputToBlock 28 = .ok (.iconst 1, 1) := by decide +kernel
theorem dX3_inputToBlock_29 : decode cX3_inputToBlock 29 = .ok (.if_icmp .ne 7, 3) := by decide +kernel
theorem dX3_inputToBlock_32 : decode cX3_inputToBlock 32 = .ok (.iconst 4, 1) := by decide +kernel
theorem dX3_inputToBlock_33 : decode cX3_inputToBlock 33 = .ok (.goto 4, 3) := by decide +kernel
theorem dX3_inputToBlock_36 : decode cX3_inputToBlock 36 = .ok (.iconst 2, 1) := by decide +kernel
theorem dX3_inputToBlock_37 : decode cX3_inputToBlock 37 = .ok (.ireturn, 1) := by decide +kernel
set_option maxRecDepth 20000 in
theorem ggX3_lossOfPunished_X1_prepare : GoodIn wsX3_lossOfPunished wsX1_prepare := goodIn_r _ [10, 11, 12, 13, 14, 15, 16, 17, 18, 19, 20, 21, 22, 23, 24, 25, 26, 27, 28, 29, 30, 31, 32, 33, 34, 35, 36, 37, 38, 39, 40, 192, 193, 194, 195, 196, 197, 198, 199, 200, 201, 202, 203, 204, 205, 206, 207, 208, 209, 210] (by decide +kernel) (by decide +kernel)
set_option maxRecDepth 20000 in
theorem gX3_lossOfPunished_X1_prepare : GoodIn wsX3_lossOfPunished (wsV RX3 42 RX1 yX1_prepare wsX1_prepare) := goodIn_app (goodIn_of _ (by decide +kernel)) ggX3_lossOfPunished_X1_prepare
set_option maxRecDepth 20000 in
theorem ggX3_lossOfPunished_X3_inputToBlock : GoodIn wsX3_lossOfPunished wsX3_inputToBlock := goodIn_r _ [45, 46, 47, 48, 49, 50, 51, 52, 53, 54, 55, 185, 186, 187, 188, 189, 190, 191, 211, 212, 213, 214, 215, 216, 217, 218, 219, 220, 221] (by decide +kernel) (by decide +kernel)
set_option maxRecDepth 20000 in
theorem gX3_lossOfPunished_X3_inputToBlock : GoodIn wsX3_lossOfPunished (wsV RX3 50 RX3 yX3_inputToBlock wsX3_inputToBlock) := goodIn_app (goodIn_of _ (by decide +kernel)) ggX3_lossOfPunished_X3_inputToBlock
set_option maxRecDepth 20000 in
theorem ggX3_lossOfPunished_X7_inputOf : GoodIn wsX3_lossOfPunished wsX7_inputOf := goodIn_r _ [58] (by decide +kernel) (by decide +kernel)
set_option maxRecDepth 20000 in
theorem gX3_lossOfPunished_X7_inputOf_n46 : GoodIn wsX3_lossOfPunished (wsX7_inputOf) := ggX3_lossOfPunished_X7_inputOf
set_option maxRecDepth 20000 in
theorem ggX3_lossOfPunished_X1_playFrame : GoodIn wsX3_lossOfPunished wsX1_playFrame := goodIn_r _ [62, 11, 12, 63, 64, 65, 66, 16, 67, 68, 69, 39, 40, 70, 71, 72, 73, 19, 26, 32, 33, 34, 74, 50, 51, 52, 53, 54, 55, 75, 76, 77, 78, 79, 80, 81, 82, 83, 84, 85, 86, 87, 88, 89, 35, 36, 37, 38, 90, 91, 92, 9, 93, 94, 95, 96, 97, 98, 99, 100, 101, 102, 103, 104, 105, 18, 106, 107, 108, 109, 110, 111, 112, 113, 114, 115, 116, 117, 118, 119, 120, 121, 122, 123, 124, 125, 126, 127, 128, 129, 130, 131, 132, 133, 134, 135, 136, 137, 138, 139, 140, 141, 142, 143, 144, 145, 146, 147, 148, 21, 149, 150, 151, 152, 153, 154, 155, 156, 157, 158, 159, 160, 161, 162, 163, 164, 165, 166, 20, 167, 27, 168, 169, 170, 171, 28, 29, 30, 31, 172, 173, 174, 175, 176, 177, 178, 179, 180, 181, 182, 183, 184, 22, 23, 24, 25, 192, 193, 194, 195, 196, 197, 198, 199, 200, 201, 202, 203, 204, 205, 206, 207, 208, 209, 210, 219, 220, 221, 211, 212, 213, 214, 215, 216, 217, 218] (by decide +kernel) (by decide +kernel)
set_option maxRecDepth 20000 in
theorem gX3_lossOfPunished_X1_playFrame : GoodIn wsX3_lossOfPunished (wsV RX3 54 RX1 yX1_playFrame wsX1_playFrame) := goodIn_app (goodIn_of _ (by decide +kernel)) ggX3_lossOfPunished_X1_playFrame
theorem dX3_lossOfPunished_0 : decode cX3_lossOfPunished 0 = .ok (.iconst 0, 1) := by decide +kernel
theorem dX3_lossOfPunished_1 : decode cX3_lossOfPunished 1 = .ok (.istore 4, 2) := by decide +kernel
theorem dX3_lossOfPunished_3 : decode cX3_lossOfPunished 3 = .ok (.iconst 0, 1) := by decide +kernel
theorem dX3_lossOfPunished_4 : decode cX3_lossOfPunished 4 = .ok (.istore 5, 2) := by decide +kernel
theorem dX3_lossOfPunished_6 : decode cX3_lossOfPunished 6 = .ok (.aload_n 0, 1) := by decide +kernel
theorem dX3_lossOfPunished_7 : decode cX3_lossOfPunished 7 = .ok (.getfield 38, 3) := by decide +kernel
theorem dX3_lossOfPunished_10 : decode cX3_lossOfPunished 10 = .ok (.bipush 20, 2) := by decide +kernel
theorem dX3_lossOfPunished_12 : decode cX3_lossOfPunished 12 = .ok (.bipush 100, 2) := by decide +kernel
theorem dX3_lossOfPunished_14 : decode cX3_lossOfPunished 14 = .ok (.bipush 100, 2) := by decide +kernel
theorem dX3_lossOfPunished_16 : decode cX3_lossOfPunished 16 = .ok (.invokevirtual 42, 3) := by decide +kernel
theorem dX3_lossOfPunished_19 : decode cX3_lossOfPunished 19 = .ok (.iconst 1, 1) := by decide +kernel
theorem dX3_lossOfPunished_20 : decode cX3_lossOfPunished 20 = .ok (.istore 6, 2) := by decide +kernel
theorem dX3_lossOfPunished_22 : decode cX3_lossOfPunished 22 = .ok (.iload 6, 2) := by decide +kernel
theorem dX3_lossOfPunished_24 : decode cX3_lossOfPunished 24 = .ok (.sipush 200, 3) := by decide +kernel
theorem dX3_lossOfPunished_27 : decode cX3_lossOfPunished 27 = .ok (.if_icmp .gt 108, 3) := by decide +kernel
theorem dX3_lossOfPunished_30 : decode cX3_lossOfPunished 30 = .ok (.iload 5, 2) := by decide +kernel
theorem dX3_lossOfPunished_32 : decode cX3_lossOfPunished 32 = .ok (.ifCond .eq 7, 3) := by decide +kernel
theorem dX3_lossOfPunished_35 : decode cX3_lossOfPunished 35 = .ok (.iconst 0, 1) := by decide +kernel
theorem dX3_lossOfPunished_36 : decode cX3_lossOfPunished 36 = .ok (.goto 10, 3) := by decide +kernel
theorem dX3_lossOfPunished_39 : decode cX3_lossOfPunished 39 = .ok (.aload_n 0, 1) := by decide +kernel
theorem dX3_lossOfPunished_40 : decode cX3_lossOfPunished 40 = .ok (.iload_n 1, 1) := by decide +kernel
theorem dX3_lossOfPunished_41 : decode cX3_lossOfPunished 41 = .ok (.iload 6, 2) := by decide +kernel
theorem dX3_lossOfPunished_43 : decode cX3_lossOfPunished 43 = .ok (.invokevirtual 50, 3) := by decide +kernel
theorem dX3_lossOfPunished_46 : decode cX3_lossOfPunished 46 = .ok (.istore 7, 2) := by decide +kernel
theorem dX3_lossOfPunished_48 : decode cX3_lossOfPunished 48 = .ok (.iload 4, 2) := by decide +kernel
theorem dX3_lossOfPunished_50 : decode cX3_lossOfPunished 50 = .ok (.ifCond .eq 30, 3) := by decide +kernel
theorem dX3_lossOfPunished_53 : decode cX3_lossOfPunished 53 = .ok (.iload 5, 2) := by decide +kernel
