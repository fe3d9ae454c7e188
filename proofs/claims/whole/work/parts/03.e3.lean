set_option maxRecDepth 20000 in
theorem ggX8_of_X8_in : GoodIn wsX8_of wsX8_in := goodIn_r _ [6] (by decide +kernel) (by decide +kernel)
set_option maxRecDepth 20000 in
theorem gX8_of_X8_in : GoodIn wsX8_of (va_wsS RX8 47 yX8_in wsX8_in) := goodIn_app (goodIn_of _ (by decide +kernel)) ggX8_of_X8_in
set_option maxRecDepth 20000 in
theorem ggX8_of_X8_isFine : GoodIn wsX8_of wsX8_isFine := goodIn_r _ [10, 11, 12, 13, 14, 15, 16, 17, 18, 19, 20, 21, 22, 23, 24, 25, 26, 27, 28] (by decide +kernel) (by decide +kernel)
set_option maxRecDepth 20000 in
theorem gX8_of_X8_isFine : GoodIn wsX8_of (wsV RX8 55 RX8 yX8_isFine wsX8_isFine) := goodIn_app (goodIn_of _ (by decide +kernel)) ggX8_of_X8_isFine
theorem dX8_of_0 : decode cX8_of 0 = .ok (.aload_n 0, 1) := by decide +kernel
theorem dX8_of_1 : decode cX8_of 1 = .ok (.iload_n 1, 1) := by decide +kernel
theorem dX8_of_2 : decode cX8_of 2 = .ok (.iconst 0, 1) := by decide +kernel
theorem dX8_of_3 : decode cX8_of 3 = .ok (.iconst 1, 1) := by decide +kernel
theorem dX8_of_4 : decode cX8_of 4 = .ok (.invokestatic 47, 3) := by decide +kernel
theorem dX8_of_7 : decode cX8_of 7 = .ok (.ifCond .ne 7, 3) := by decide +kernel
theorem dX8_of_10 : decode cX8_of 10 = .ok (.iconst 1, 1) := by decide +kernel
theorem dX8_of_11 : decode cX8_of 11 = .ok (.goto 18, 3) := by decide +kernel
theorem dX8_of_14 : decode cX8_of 14 = .ok (.iload_n 2, 1) := by decide +kernel
theorem dX8_of_15 : decode cX8_of 15 = .ok (.iconst 0, 1) := by decide +kernel
theorem dX8_of_16 : decode cX8_of 16 = .ok (.bipush 7, 2) := by decide +kernel
theorem dX8_of_18 : decode cX8_of 18 = .ok (.invokestatic 47, 3) := by decide +kernel
theorem dX8_of_21 : decode cX8_of 21 = .ok (.ifCond .eq 7, 3) := by decide +kernel
theorem dX8_of_24 : decode cX8_of 24 = .ok (.iconst 0, 1) := by decide +kernel
theorem dX8_of_25 : decode cX8_of 25 = .ok (.goto 4, 3) := by decide +kernel
theorem dX8_of_28 : decode cX8_of 28 = .ok (.iconst 2, 1) := by decide +kernel
theorem dX8_of_29 : decode cX8_of 29 = .ok (.invokevirtual 55, 3) := by decide +kernel
theorem dX8_of_32 : decode cX8_of 32 = .ok (.ifCond .ne 5, 3) := by decide +kernel
theorem dX8_of_35 : decode cX8_of 35 = .ok (.iconst 0, 1) := by decide +kernel
theorem dX8_of_36 : decode cX8_of 36 = .ok (.ireturn, 1) := by decide +kernel
theorem dX8_of_37 : decode cX8_of 37 = .ok (.iload_n 2, 1) := by decide +kernel
theorem dX8_of_38 : decode cX8_of 38 = .ok (.bipush 7, 2) := by decide +kernel
theorem dX8_of_40 : decode cX8_of 40 = .ok (.if_icmp .ne 12, 3) := by decide +kernel
theorem dX8_of_43 : decode cX8_of 43 = .ok (.aload_n 0, 1) := by decide +kernel
theorem dX8_of_44 : decode cX8_of 44 = .ok (.getfield 25, 3) := by decide +kernel
theorem dX8_of_47 : decode cX8_of 47 = .ok (.iload_n 1, 1) := by decide +kernel
theorem dX8_of_48 : decode cX8_of 48 = .ok (.iaload, 1) := by decide +kernel
theorem dX8_of_49 : decode cX8_of 49 = .ok (.goto 14, 3) := by decide +kernel
theorem dX8_of_52 : decode cX8_of 52 = .ok (.aload_n 0, 1) := by decide +kernel
theorem dX8_of_53 : decode cX8_of 53 = .ok (.getfield 16, 3) := by decide +kernel
theorem dX8_of_56 : decode cX8_of 56 = .ok (.bipush 11, 2) := by decide +kernel
theorem dX8_of_58 : decode cX8_of 58 = .ok (.iload_n 1, 1) := by decide +kernel
theorem dX8_of_59 : decode cX8_of 59 = .ok (.imul, 1) := by decide +kernel
theorem dX8_of_60 : decode cX8_of 60 = .ok (.iload_n 2, 1) := by decide +kernel
theorem dX8_of_61 : decode cX8_of 61 = .ok (.iadd, 1) := by decide +kernel
theorem dX8_of_62 : decode cX8_of 62 = .ok (.iaload, 1) := by decide +kernel
theorem dX8_of_63 : decode cX8_of 63 = .ok (.ireturn, 1) := by decide +kernel
set_option maxRecDepth 20000 in
theorem ggX8_again_X8_in : GoodIn wsX8_again wsX8_in := goodIn_r _ [6] (by decide +kernel) (by decide +kernel)
set_option maxRecDepth 20000 in
theorem gX8_again_X8_in : GoodIn wsX8_again (va_wsS RX8 47 yX8_in wsX8_in) := goodIn_app (goodIn_of _ (by decide +kernel)) ggX8_again_X8_in
set_option maxRecDepth 20000 in
theorem ggX8_again_X8_isFine : GoodIn wsX8_again wsX8_isFine := goodIn_r _ [10, 11, 12, 13, 14, 15, 16, 17, 18, 19, 20, 21, 22, 23, 24, 25, 26, 27, 28] (by decide +kernel) (by decide +kernel)
set_option maxRecDepth 20000 in
theorem gX8_again_X8_isFine : GoodIn wsX8_again (wsV RX8 55 RX8 yX8_isFine wsX8_isFine) := goodIn_app (goodIn_of _ (by decide +kernel)) ggX8_again_X8_isFine
theorem dX8_again_0 : decode cX8_again 0 = .ok (.aload_n 0, 1) := by decide +kernel
theorem dX8_again_1 : decode cX8_again 1 = .ok (.iload_n 1, 1) := by decide +kernel
theorem dX8_again_2 : decode cX8_again 2 = .ok (.iconst 0, 1) := by decide +kernel
theorem dX8_again_3 : decode cX8_again 3 = .ok (.aload_n 0, 1) := by decide +kernel
theorem dX8_again_4 : decode cX8_again 4 = .ok (.getfield 28, 3) := by decide +kernel
theorem dX8_again_7 : decode cX8_again 7 = .ok (.invokestatic 47, 3) := by decide +kernel
theorem dX8_again_10 : decode cX8_again 10 = .ok (.ifCond .eq 12, 3) := by decide +kernel
theorem dX8_again_13 : decode cX8_again 13 = .ok (.iload_n 2, 1) := by decide +kernel
theorem dX8_again_14 : decode cX8_again 14 = .ok (.iconst 0, 1) := by decide +kernel
theorem dX8_again_15 : decode cX8_again 15 = .ok (.iconst 1, 1) := by decide +kernel
theorem dX8_again_16 : decode cX8_again 16 = .ok (.invokestatic 47, 3) := by decide +kernel
theorem dX8_again_19 : decode cX8_again 19 = .ok (.ifCond .ne 7, 3) := by decide +kernel
theorem dX8_again_22 : decode cX8_again 22 = .ok (.iconst 1, 1) := by decide +kernel
theorem dX8_again_23 : decode cX8_again 23 = .ok (.goto 18, 3) := by decide +kernel
theorem dX8_again_26 : decode cX8_again 26 = .ok (.iload_n 3, 1) := by decide +kernel
theorem dX8_again_27 : decode cX8_again 27 = .ok (.iconst 0, 1) := by decide +kernel
theorem dX8_again_28 : decode cX8_again 28 = .ok (.bipush 6, 2) := by decide +kernel
theorem dX8_again_30 : decode cX8_again 30 = .ok (.invokestatic 47, 3) := by decide +kernel
theorem dX8_again_33 : decode cX8_again 33 = .ok (.ifCond .eq 7, 3) := by decide +kernel
theorem dX8_again_36 : decode cX8_again 36 = .ok (.iconst 0, 1) := by decide +kernel
theorem dX8_again_37 : decode cX8_again 37 = .ok (.goto 4, 3) := by decide +kernel
theorem dX8_again_40 : decode cX8_again 40 = .ok (.iconst 2, 1) := by decide +kernel
theorem dX8_again_41 : decode cX8_again 41 = .ok (.invokevirtual 55, 3) := by decide +kernel
theorem dX8_again_44 : decode cX8_again 44 = .ok (.ifCond .ne 5, 3) := by decide +kernel
theorem dX8_again_47 : decode cX8_again 47 = .ok (.iconst 0, 1) := by decide +kernel
theorem dX8_again_48 : decode cX8_again 48 = .ok (.ireturn, 1) := by decide +kernel
theorem dX8_again_49 : decode cX8_again 49 = .ok (.aload_n 0, 1) := by decide +kernel
theorem dX8_again_50 : decode cX8_again 50 = .ok (.getfield 22, 3) := by decide +kernel
theorem dX8_again_53 : decode cX8_again 53 = .ok (.bipush 14, 2) := by decide +kernel
theorem dX8_again_55 : decode cX8_again 55 = .ok (.iload_n 1, 1) := by decide +kernel
theorem dX8_again_56 : decode cX8_again 56 = .ok (.imul, 1) := by decide +kernel
theorem dX8_again_57 : decode cX8_again 57 = .ok (.bipush 7, 2) := by decide +kernel
theorem dX8_again_59 : decode cX8_again 59 = .ok (.iload_n 2, 1) := by decide +kernel
theorem dX8_again_60 : decode cX8_again 60 = .ok (.imul, 1) := by decide +kernel
theorem dX8_again_61 : decode cX8_again 61 = .ok (.iadd, 1) := by decide +kernel
theorem dX8_again_62 : decode cX8_again 62 = .ok (.iload_n 3, 1) := by decide +kernel
theorem dX8_again_63 : decode cX8_again 63 = .ok (.iadd, 1) := by decide +kernel
theorem dX8_again_64 : decode cX8_again 64 = .ok (.iaload, 1) := by decide +kernel
theorem dX8_again_65 : decode cX8_again 65 = .ok (.ireturn, 1) := by decide +kernel
set_option maxRecDepth 20000 in
theorem ggX8_goesOn_X8_isFine : GoodIn wsX8_goesOn wsX8_isFine := goodIn_r _ [6, 7, 8, 9, 10, 11, 12, 13, 14, 15, 16, 17, 18, 19, 20, 21, 22, 23, 24] (by decide +kernel) (by decide +kernel)
set_option maxRecDepth 20000 in
theorem gX8_goesOn_X8_isFine : GoodIn wsX8_goesOn (wsV RX8 55 RX8 yX8_isFine wsX8_isFine) := goodIn_app (goodIn_of _ (by decide +kernel)) ggX8_goesOn_X8_isFine
theorem dX8_goesOn_0 : decode cX8_goesOn 0 = .ok (.aload_n 0, 1) := by decide +kernel
theorem dX8_goesOn_1 : decode cX8_goesOn 1 = .ok (.iconst 0, 1) := by decide +kernel
theorem dX8_goesOn_2 : decode cX8_goesOn 2 = .ok (.invokevirtual 55, 3) := by decide +kernel
theorem dX8_goesOn_5 : decode cX8_goesOn 5 = .ok (.pop, 1) := by decide +kernel
theorem dX8_goesOn_6 : decode cX8_goesOn 6 = .ok (.aload_n 0, 1) := by decide +kernel
theorem dX8_goesOn_7 : decode cX8_goesOn 7 = .ok (.getfield 51, 3) := by decide +kernel
theorem dX8_goesOn_10 : decode cX8_goesOn 10 = .ok (.ireturn, 1) := by decide +kernel
set_option maxRecDepth 20000 in
theorem ggX8_winner_X8_isFine : GoodIn wsX8_winner wsX8_isFine := goodIn_r _ [6, 7, 8, 9, 10, 11, 12, 13, 14, 15, 16, 17, 18, 19, 20, 21, 22, 23, 24] (by decide +kernel) (by decide +kernel)
set_option maxRecDepth 20000 in
theorem gX8_winner_X8_isFine : GoodIn wsX8_winner (wsV RX8 55 RX8 yX8_isFine wsX8_isFine) := goodIn_app (goodIn_of _ (by decide +kernel)) ggX8_winner_X8_isFine
theorem dX8_winner_0 : decode cX8_winner 0 = .ok (.aload_n 0, 1) := by decide +kernel
theorem dX8_winner_1 : decode cX8_winner 1 = .ok (.iconst 0, 1) := by decide +kernel
theorem dX8_winner_2 : decode cX8_winner 2 = .ok (.invokevirtual 55, 3) := by decide +kernel
theorem dX8_winner_5 : decode cX8_winner 5 = .ok (.pop, 1) := by decide +kernel
theorem dX8_winner_6 : decode cX8_winner 6 = .ok (.aload_n 0, 1) := by decide +kernel
theorem dX8_winner_7 : decode cX8_winner 7 = .ok (.getfield 32, 3) := by decide +kernel
theorem dX8_winner_10 : decode cX8_winner 10 = .ok (.ireturn, 1) := by decide +kernel
set_option maxRecDepth 20000 in
theorem ggX8_blocking_X8_ofMove : GoodIn wsX8_blocking wsX8_ofMove := goodIn_r _ [5, 6, 7, 8, 9, 10, 11, 12, 13, 14, 15, 16, 17, 18, 19, 20, 21, 22, 23] (by decide +kernel) (by decide +kernel)
set_option maxRecDepth 20000 in
theorem gX8_blocking_X8_ofMove : GoodIn wsX8_blocking (wsV RX8 62 RX8 yX8_ofMove wsX8_ofMove) := goodIn_app (goodIn_of _ (by decide +kernel)) ggX8_blocking_X8_ofMove
theorem dX8_blocking_0 : decode cX8_blocking 0 = .ok (.iload_n 2, 1) := by decide +kernel
theorem dX8_blocking_1 : decode cX8_blocking 1 = .ok (.aload_n 0, 1) := by decide +kernel
theorem dX8_blocking_2 : decode cX8_blocking 2 = .ok (.iload_n 1, 1) := by decide +kernel
theorem dX8_blocking_3 : decode cX8_blocking 3 = .ok (.iconst 0, 1) := by decide +kernel
theorem dX8_blocking_4 : decode cX8_blocking 4 = .ok (.invokevirtual 62, 3) := by decide +kernel
theorem dX8_blocking_7 : decode cX8_blocking 7 = .ok (.if_icmp .ge 7, 3) := by decide +kernel
theorem dX8_blocking_10 : decode cX8_blocking 10 = .ok (.iconst 0, 1) := by decide +kernel
theorem dX8_blocking_11 : decode cX8_blocking 11 = .ok (.goto 18, 3) := by decide +kernel
theorem dX8_blocking_14 : decode cX8_blocking 14 = .ok (.aload_n 0, 1) := by decide +kernel
theorem dX8_blocking_15 : decode cX8_blocking 15 = .ok (.iload_n 1, 1) := by decide +kernel
theorem dX8_blocking_16 : decode cX8_blocking 16 = .ok (.iconst 4, 1) := by decide +kernel
theorem dX8_blocking_17 : decode cX8_blocking 17 = .ok (.invokevirtual 62, 3) := by decide +kernel
theorem dX8_blocking_20 : decode cX8_blocking 20 = .ok (.iconst 1, 1) := by decide +kernel
theorem dX8_blocking_21 : decode cX8_blocking 21 = .ok (.if_icmp .ne 7, 3) := by decide +kernel
theorem dX8_blocking_24 : decode cX8_blocking 24 = .ok (.iconst 4, 1) := by decide +kernel
theorem dX8_blocking_25 : decode cX8_blocking 25 = .ok (.goto 4, 3) := by decide +kernel
theorem dX8_blocking_28 : decode cX8_blocking 28 = .ok (.iconst 2, 1) := by decide +kernel
theorem dX8_blocking_29 : decode cX8_blocking 29 = .ok (.ireturn, 1) := by decide +kernel
set_option maxRecDepth 20000 in
theorem ggX8_advantage_X8_isMove : GoodIn wsX8_advantage wsX8_isMove := goodIn_r _ [6, 7, 8, 9, 5, 10, 66, 67, 68, 69, 70, 71, 72, 73, 74, 75, 76, 77, 78, 79, 80, 81, 82] (by decide +kernel) (by decide +kernel)
set_option maxRecDepth 20000 in
theorem gX8_advantage_X8_isMove : GoodIn wsX8_advantage (wsV RX8 59 RX8 yX8_isMove wsX8_isMove) := goodIn_app (goodIn_of _ (by decide +kernel)) ggX8_advantage_X8_isMove
set_option maxRecDepth 20000 in
theorem ggX8_advantage_X8_isFine : GoodIn wsX8_advantage wsX8_isFine := goodIn_r _ [14, 15, 66, 67, 68, 69, 70, 71, 72, 73, 74, 75, 76, 77, 78, 79, 80, 81, 82] (by decide +kernel) (by decide +kernel)
set_option maxRecDepth 20000 in
theorem gX8_advantage_X8_isFine : GoodIn wsX8_advantage (wsV RX8 55 RX8 yX8_isFine wsX8_isFine) := goodIn_app (goodIn_of _ (by decide +kernel)) ggX8_advantage_X8_isFine
set_option maxRecDepth 20000 in
theorem ggX8_advantage_X8_lay : GoodIn wsX8_advantage wsX8_lay := goodIn_r _ [19, 1, 66, 67, 68, 69, 70, 71, 72, 73, 74, 75, 76, 77, 78, 79, 80, 81, 82] (by decide +kernel) (by decide +kernel)
set_option maxRecDepth 20000 in
theorem gX8_advantage_X8_lay : GoodIn wsX8_advantage (wsV RX8 99 RX8 yX8_lay wsX8_lay) := goodIn_app (goodIn_of _ (by decide +kernel)) ggX8_advantage_X8_lay
set_option maxRecDepth 20000 in
theorem ggX8_advantage_X8_blocking : GoodIn wsX8_advantage wsX8_blocking := goodIn_r _ [23, 24, 25, 26, 5, 27, 28, 66, 67, 68, 69, 70, 71, 72, 73, 74, 75, 76, 77, 78, 79, 80, 81, 82] (by decide +kernel) (by decide +kernel)
set_option maxRecDepth 20000 in
theorem gX8_advantage_X8_blocking : GoodIn wsX8_advantage (wsV RX8 118 RX8 yX8_blocking wsX8_blocking) := goodIn_app (goodIn_of _ (by decide +kernel)) ggX8_advantage_X8_blocking
set_option maxRecDepth 20000 in
theorem ggX8_advantage_X8_frame : GoodIn wsX8_advantage wsX8_frame := goodIn_r _ [32, 33, 34, 35, 36, 5, 37, 1, 38, 39, 40, 41, 24, 25, 26, 27, 28, 42, 43, 44, 45, 46, 47, 48, 49, 50, 51, 52, 53, 54, 55, 56, 57, 58, 59, 60, 61, 62, 63, 64, 65, 66, 67, 68, 69, 70, 71, 72, 73, 74, 75, 76, 77, 78, 79, 80, 81, 82] (by decide +kernel) (by decide +kernel)
set_option maxRecDepth 20000 in
theorem gX8_advantage_X8_frame : GoodIn wsX8_advantage (wsV RX8 112 RX8 yX8_frame wsX8_frame) := goodIn_app (goodIn_of _ (by decide +kernel)) ggX8_advantage_X8_frame
theorem dX8_advantage_0 : decode cX8_advantage 0 = .ok (.aload_n 0, 1) := by decide +kernel
theorem dX8_advantage_1 : decode cX8_advantage 1 = .ok (.aload_n 0, 1) := by decide +kernel
theorem dX8_advantage_2 : decode cX8_advantage 2 = .ok (.iload_n 1, 1) := by decide +kernel
theorem dX8_advantage_3 : decode cX8_advantage 3 = .ok (.invokevirtual 59, 3) := by decide +kernel
theorem dX8_advantage_6 : decode cX8_advantage 6 = .ok (.ifCond .eq 7, 3) := by decide +kernel
theorem dX8_advantage_9 : decode cX8_advantage 9 = .ok (.iconst 0, 1) := by decide +kernel
theorem dX8_advantage_10 : decode cX8_advantage 10 = .ok (.goto 4, 3) := by decide +kernel
theorem dX8_advantage_13 : decode cX8_advantage 13 = .ok (.iconst 1, 1) := by decide +kernel
theorem dX8_advantage_14 : decode cX8_advantage 14 = .ok (.invokevirtual 55, 3) := by decide +kernel
theorem dX8_advantage_17 : decode cX8_advantage 17 = .ok (.ifCond .ne 5, 3) := by decide +kernel
theorem dX8_advantage_20 : decode cX8_advantage 20 = .ok (.iconst 0, 1) := by decide +kernel
theorem dX8_advantage_21 : decode cX8_advantage 21 = .ok (.ireturn, 1) := by decide +kernel
theorem dX8_advantage_22 : decode cX8_advantage 22 = .ok (.aload_n 0, 1) := by decide +kernel
theorem dX8_advantage_23 : decode cX8_advantage 23 = .ok (.sipush 290, 3) := by decide +kernel
theorem dX8_advantage_26 : decode cX8_advantage 26 = .ok (.sipush 310, 3) := by decide +kernel
theorem dX8_advantage_29 : decode cX8_advantage 29 = .ok (.bipush 100, 2) := by decide +kernel
theorem dX8_advantage_31 : decode cX8_advantage 31 = .ok (.bipush 100, 2) := by decide +kernel
theorem dX8_advantage_33 : decode cX8_advantage 33 = .ok (.invokevirtual 99, 3) := by decide +kernel
theorem dX8_advantage_36 : decode cX8_advantage 36 = .ok (.iconst 0, 1) := by decide +kernel
theorem dX8_advantage_37 : decode cX8_advantage 37 = .ok (.istore_n 3, 1) := by decide +kernel
theorem dX8_advantage_38 : decode cX8_advantage 38 = .ok (.iconst 0, 1) := by decide +kernel
theorem dX8_advantage_39 : decode cX8_advantage 39 = .ok (.istore 4, 2) := by decide +kernel
theorem dX8_advantage_41 : decode cX8_advantage 41 = .ok (.iconst 0, 1) := by decide +kernel
theorem dX8_advantage_42 : decode cX8_advantage 42 = .ok (.istore 5, 2) := by decide +kernel
theorem dX8_advantage_44 : decode cX8_advantage 44 = .ok (.iload 5, 2) := by decide +kernel
theorem dX8_advantage_46 : decode cX8_advantage 46 = .ok (.sipush 200, 3) := by decide +kernel
theorem dX8_advantage_49 : decode cX8_advantage 49 = .ok (.if_icmp .ge 80, 3) := by decide +kernel
theorem dX8_advantage_52 : decode cX8_advantage 52 = .ok (.aload_n 0, 1) := by decide +kernel
theorem dX8_advantage_53 : decode cX8_advantage 53 = .ok (.iload 5, 2) := by decide +kernel
theorem dX8_advantage_55 : decode cX8_advantage 55 = .ok (.ifCond .ne 10, 3) := by decide +kernel
theorem dX8_advantage_58 : decode cX8_advantage 58 = .ok (.bipush 10, 2) := by decide +kernel
theorem dX8_advantage_60 : decode cX8_advantage 60 = .ok (.iload_n 1, 1) := by decide +kernel
theorem dX8_advantage_61 : decode cX8_advantage 61 = .ok (.iadd, 1) := by decide +kernel
theorem dX8_advantage_62 : decode cX8_advantage 62 = .ok (.goto 4, 3) := by decide +kernel
theorem dX8_advantage_65 : decode cX8_advantage 65 = .ok (.iconst 0, 1) := by decide +kernel
theorem dX8_advantage_66 : decode cX8_advantage 66 = .ok (.iload_n 2, 1) := by decide +kernel
theorem dX8_advantage_67 : decode cX8_advantage 67 = .ok (.ifCond .eq 13, 3) := by decide +kernel
theorem dX8_advantage_70 : decode cX8_advantage 70 = .ok (.aload_n 0, 1) := by decide +kernel
theorem dX8_advantage_71 : decode cX8_advantage 71 = .ok (.iload_n 1, 1) := by decide +kernel
theorem dX8_advantage_72 : decode cX8_advantage 72 = .ok (.iload 5, 2) := by decide +kernel
theorem dX8_advantage_74 : decode cX8_advantage 74 = .ok (.invokevirtual 118, 3) := by decide +kernel
theorem dX8_advantage_77 : decode cX8_advantage 77 = .ok (.goto 4, 3) := by decide +kernel
theorem dX8_advantage_80 : decode cX8_advantage 80 = .ok (.iconst 0, 1) := by decide +kernel
theorem dX8_advantage_81 : decode cX8_advantage 81 = .ok (.invokevirtual 112, 3) := by decide +kernel
theorem dX8_advantage_84 : decode cX8_advantage 84 = .ok (.aload_n 0, 1) := by decide +kernel
theorem dX8_advantage_85 : decode cX8_advantage 85 = .ok (.getfield 13, 3) := by decide +kernel
theorem dX8_advantage_88 : decode cX8_advantage 88 = .ok (.iconst 3, 1) := by decide +kernel
theorem dX8_advantage_89 : decode cX8_advantage 89 = .ok (.iaload, 1) := by decide +kernel
theorem dX8_advantage_90 : decode cX8_advantage 90 = .ok (.ifCond .ne 7, 3) := by decide +kernel
theorem dX8_advantage_93 : decode cX8_advantage 93 = .ok (.iload_n 3, 1) := by decide +kernel
theorem dX8_advantage_94 : decode cX8_advantage 94 = .ok (.goto 7, 3) := by decide +kernel
theorem dX8_advantage_97 : decode cX8_advantage 97 = .ok (.iload 5, 2) := by decide +kernel
theorem dX8_advantage_99 : decode cX8_advantage 99 = .ok (.iconst 2, 1) := by decide +kernel
theorem dX8_advantage_100 : decode cX8_advantage 100 = .ok (.iadd, 1) := by decide +kernel
theorem dX8_advantage_101 : decode cX8_advantage 101 = .ok (.istore_n 3, 1) := by decide +kernel
theorem dX8_advantage_102 : decode cX8_advantage 102 = .ok (.aload_n 0, 1) := by decide +kernel
theorem dX8_advantage_103 : decode cX8_advantage 103 = .ok (.getfield 13, 3) := by decide +kernel
theorem dX8_advantage_106 : decode cX8_advantage 106 = .ok (.bipush 14, 2) := by decide +kernel
theorem dX8_advantage_108 : decode cX8_advantage 108 = .ok (.iaload, 1) := by decide +kernel
theorem dX8_advantage_109 : decode cX8_advantage 109 = .ok (.ifCond .ne 8, 3) := by decide +kernel
theorem dX8_advantage_112 : decode cX8_advantage 112 = .ok (.iload 4, 2) := by decide +kernel
theorem dX8_advantage_114 : decode cX8_advantage 114 = .ok (.goto 7, 3) := by decide +kernel
theorem dX8_advantage_117 : decode cX8_advantage 117 = .ok (.iload 5, 2) := by decide +kernel
theorem dX8_advantage_119 : decode cX8_advantage 119 = .ok (.iconst 2, 1) := by decide +kernel
theorem dX8_advantage_120 : decode cX8_advantage 120 = .ok (.iadd, 1) := by decide +kernel
theorem dX8_advantage_121 : decode cX8_advantage 121 = .ok (.istore 4, 2) := by decide +kernel
theorem dX8_advantage_123 : decode cX8_advantage 123 = .ok (.iinc 5 1, 3) := by decide +kernel
theorem dX8_advantage_126 : decode cX8_advantage 126 = .ok (.goto (-82), 3) := by decide +kernel
theorem dX8_advantage_129 : decode cX8_advantage 129 = .ok (.iload 4, 2) := by decide +kernel
theorem dX8_advantage_131 : decode cX8_advantage 131 = .ok (.iload_n 3, 1) := by decide +kernel
theorem dX8_advantage_132 : decode cX8_advantage 132 = .ok (.isub, 1) := by decide +kernel
theorem dX8_advantage_133 : decode cX8_advantage 133 = .ok (.ireturn, 1) := by decide +kernel
set_option maxRecDepth 20000 in
theorem ggX8_lossBy_X8_lay : GoodIn wsX8_lossBy wsX8_lay := goodIn_r _ [6, 1, 53, 54, 55, 56, 57, 58, 59, 60, 61, 62, 63, 64, 65, 66, 67, 68, 69] (by decide +kernel) (by decide +kernel)
set_option maxRecDepth 20000 in
theorem gX8_lossBy_X8_lay : GoodIn wsX8_lossBy (wsV RX8 99 RX8 yX8_lay wsX8_lay) := goodIn_app (goodIn_of _ (by decide +kernel)) ggX8_lossBy_X8_lay
set_option maxRecDepth 20000 in
theorem ggX8_lossBy_X8_blocking : GoodIn wsX8_lossBy wsX8_blocking := goodIn_r _ [10, 11, 12, 13, 5, 14, 15, 53, 54, 55, 56, 57, 58, 59, 60, 61, 62, 63, 64, 65, 66, 67, 68, 69] (by decide +kernel) (by decide +kernel)
set_option maxRecDepth 20000 in
theorem gX8_lossBy_X8_blocking : GoodIn wsX8_lossBy (wsV RX8 118 RX8 yX8_blocking wsX8_blocking) := goodIn_app (goodIn_of _ (by decide +kernel)) ggX8_lossBy_X8_blocking
set_option maxRecDepth 20000 in
theorem ggX8_lossBy_X8_frame : GoodIn wsX8_lossBy wsX8_frame := goodIn_r _ [19, 20, 21, 22, 23, 5, 24, 1, 25, 26, 27, 28, 11, 12, 13, 14, 15, 29, 30, 31, 32, 33, 34, 35, 36, 37, 38, 39, 40, 41, 42, 43, 44, 45, 46, 47, 48, 49, 50, 51, 52, 53, 54, 55, 56, 57, 58, 59, 60, 61, 62, 63, 64, 65, 66, 67, 68, 69] (by decide +kernel) (by decide +kernel)
set_option maxRecDepth 20000 in
theorem gX8_lossBy_X8_frame : GoodIn wsX8_lossBy (wsV RX8 112 RX8 yX8_frame wsX8_frame) := goodIn_app (goodIn_of _ (by decide +kernel)) ggX8_lossBy_X8_frame
theorem dX8_lossBy_0 : decode cX8_lossBy 0 = .ok (.aload_n 0, 1) := by decide +kernel
theorem dX8_lossBy_1 : decode cX8_lossBy 1 = .ok (.sipush 290, 3) := by decide +kernel
theorem dX8_lossBy_4 : decode cX8_lossBy 4 = .ok (.sipush 310, 3) := by decide +kernel
theorem dX8_lossBy_7 : decode cX8_lossBy 7 = .ok (.bipush 100, 2) := by decide +kernel
theorem dX8_lossBy_9 : decode cX8_lossBy 9 = .ok (.bipush 100, 2) := by decide +kernel
theorem dX8_lossBy_11 : decode cX8_lossBy 11 = .ok (.invokevirtual 99, 3) := by decide +kernel
theorem dX8_lossBy_14 : decode cX8_lossBy 14 = .ok (.iconst 0, 1) := by decide +kernel
theorem dX8_lossBy_15 : decode cX8_lossBy 15 = .ok (.istore 4, 2) := by decide +kernel
theorem dX8_lossBy_17 : decode cX8_lossBy 17 = .ok (.iconst 0, 1) := by decide +kernel
theorem dX8_lossBy_18 : decode cX8_lossBy 18 = .ok (.istore 5, 2) := by decide +kernel
theorem dX8_lossBy_20 : decode cX8_lossBy 20 = .ok (.iload 5, 2) := by decide +kernel
theorem dX8_lossBy_22 : decode cX8_lossBy 22 = .ok (.sipush 200, 3) := by decide +kernel
theorem dX8_lossBy_25 : decode cX8_lossBy 25 = .ok (.if_icmp .ge 119, 3) := by decide +kernel
theorem dX8_lossBy_28 : decode cX8_lossBy 28 = .ok (.iload 4, 2) := by decide +kernel
theorem dX8_lossBy_30 : decode cX8_lossBy 30 = .ok (.iconst 1, 1) := by decide +kernel
theorem dX8_lossBy_31 : decode cX8_lossBy 31 = .ok (.if_icmp .ne 17, 3) := by decide +kernel
theorem dX8_lossBy_34 : decode cX8_lossBy 34 = .ok (.aload_n 0, 1) := by decide +kernel
theorem dX8_lossBy_35 : decode cX8_lossBy 35 = .ok (.getfield 13, 3) := by decide +kernel
theorem dX8_lossBy_38 : decode cX8_lossBy 38 = .ok (.bipush 14, 2) := by decide +kernel
theorem dX8_lossBy_40 : decode cX8_lossBy 40 = .ok (.iaload, 1) := by decide +kernel
theorem dX8_lossBy_41 : decode cX8_lossBy 41 = .ok (.ifCond .ne 7, 3) := by decide +kernel
theorem dX8_lossBy_44 : decode cX8_lossBy 44 = .ok (.iconst 1, 1) := by decide +kernel
theorem dX8_lossBy_45 : decode cX8_lossBy 45 = .ok (.goto 4, 3) := by decide +kernel
theorem dX8_lossBy_48 : decode cX8_lossBy 48 = .ok (.iconst 0, 1) := by decide +kernel
theorem dX8_lossBy_49 : decode cX8_lossBy 49 = .ok (.istore 6, 2) := by decide +kernel
theorem dX8_lossBy_51 : decode cX8_lossBy 51 = .ok (.iload 4, 2) := by decide +kernel
theorem dX8_lossBy_53 : decode cX8_lossBy 53 = .ok (.iconst 2, 1) := by decide +kernel
theorem dX8_lossBy_54 : decode cX8_lossBy 54 = .ok (.if_icmp .ne 7, 3) := by decide +kernel
theorem dX8_lossBy_57 : decode cX8_lossBy 57 = .ok (.iconst 0, 1) := by decide +kernel
theorem dX8_lossBy_58 : decode cX8_lossBy 58 = .ok (.goto 22, 3) := by decide +kernel
theorem dX8_lossBy_61 : decode cX8_lossBy 61 = .ok (.iload 6, 2) := by decide +kernel
theorem dX8_lossBy_63 : decode cX8_lossBy 63 = .ok (.ifCond .eq 10, 3) := by decide +kernel
theorem dX8_lossBy_66 : decode cX8_lossBy 66 = .ok (.bipush 10, 2) := by decide +kernel
theorem dX8_lossBy_68 : decode cX8_lossBy 68 = .ok (.iload_n 2, 1) := by decide +kernel
theorem dX8_lossBy_69 : decode cX8_lossBy 69 = .ok (.iadd, 1) := by decide +kernel
theorem dX8_lossBy_70 : decode cX8_lossBy 70 = .ok (.goto 10, 3) := by decide +kernel
theorem dX8_lossBy_73 : decode cX8_lossBy 73 = .ok (.aload_n 0, 1) := by decide +kernel
theorem dX8_lossBy_74 : decode cX8_lossBy 74 = .ok (.iload_n 1, 1) := by decide +kernel
theorem dX8_lossBy_75 : decode cX8_lossBy 75 = .ok (.iload 5, 2) := by decide +kernel
theorem dX8_lossBy_77 : decode cX8_lossBy 77 = .ok (.invokevirtual 118, 3) := by decide +kernel
theorem dX8_lossBy_80 : decode cX8_lossBy 80 = .ok (.istore 7, 2) := by decide +kernel
theorem dX8_lossBy_82 : decode cX8_lossBy 82 = .ok (.iload 6, 2) := by decide +kernel
theorem dX8_lossBy_84 : decode cX8_lossBy 84 = .ok (.ifCond .eq 7, 3) := by decide +kernel
theorem dX8_lossBy_87 : decode cX8_lossBy 87 = .ok (.iconst 2, 1) := by decide +kernel
theorem dX8_lossBy_88 : decode cX8_lossBy 88 = .ok (.goto 5, 3) := by decide +kernel
theorem dX8_lossBy_91 : decode cX8_lossBy 91 = .ok (.iload 4, 2) := by decide +kernel
theorem dX8_lossBy_93 : decode cX8_lossBy 93 = .ok (.istore 4, 2) := by decide +kernel
theorem dX8_lossBy_95 : decode cX8_lossBy 95 = .ok (.aload_n 0, 1) := by decide +kernel
theorem dX8_lossBy_96 : decode cX8_lossBy 96 = .ok (.iload 5, 2) := by decide +kernel
theorem dX8_lossBy_98 : decode cX8_lossBy 98 = .ok (.ifCond .ne 10, 3) := by decide +kernel
theorem dX8_lossBy_101 : decode cX8_lossBy 101 = .ok (.bipush 10, 2) := by decide +kernel
theorem dX8_lossBy_103 : decode cX8_lossBy 103 = .ok (.iload_n 1, 1) := by decide +kernel
theorem dX8_lossBy_104 : decode cX8_lossBy 104 = .ok (.iadd, 1) := by decide +kernel
theorem dX8_lossBy_105 : decode cX8_lossBy 105 = .ok (.goto 4, 3) := by decide +kernel
theorem dX8_lossBy_108 : decode cX8_lossBy 108 = .ok (.iload_n 3, 1) := by decide +kernel
theorem dX8_lossBy_109 : decode cX8_lossBy 109 = .ok (.iload 7, 2) := by decide +kernel
theorem dX8_lossBy_111 : decode cX8_lossBy 111 = .ok (.invokevirtual 112, 3) := by decide +kernel
theorem dX8_lossBy_114 : decode cX8_lossBy 114 = .ok (.iload 4, 2) := by decide +kernel
theorem dX8_lossBy_116 : decode cX8_lossBy 116 = .ok (.ifCond .ne 18, 3) := by decide +kernel
theorem dX8_lossBy_119 : decode cX8_lossBy 119 = .ok (.aload_n 0, 1) := by decide +kernel
theorem dX8_lossBy_120 : decode cX8_lossBy 120 = .ok (.getfield 13, 3) := by decide +kernel
theorem dX8_lossBy_123 : decode cX8_lossBy 123 = .ok (.bipush 14, 2) := by decide +kernel
theorem dX8_lossBy_125 : decode cX8_lossBy 125 = .ok (.iaload, 1) := by decide +kernel
theorem dX8_lossBy_126 : decode cX8_lossBy 126 = .ok (.iconst 3, 1) := by decide +kernel
theorem dX8_lossBy_127 : decode cX8_lossBy 127 = .ok (.if_icmp .ne 7, 3) := by decide +kernel
theorem dX8_lossBy_130 : decode cX8_lossBy 130 = .ok (.iconst 1, 1) := by decide +kernel
theorem dX8_lossBy_131 : decode cX8_lossBy 131 = .ok (.goto 5, 3) := by decide +kernel
theorem dX8_lossBy_134 : decode cX8_lossBy 134 = .ok (.iload 4, 2) := by decide +kernel
theorem dX8_lossBy_136 : decode cX8_lossBy 136 = .ok (.istore 4, 2) := by decide +kernel
theorem dX8_lossBy_138 : decode cX8_lossBy 138 = .ok (.iinc 5 1, 3) := by decide +kernel
theorem dX8_lossBy_141 : decode cX8_lossBy 141 = .ok (.goto (-121), 3) := by decide +kernel
theorem dX8_lossBy_144 : decode cX8_lossBy 144 = .ok (.iload 4, 2) := by decide +kernel
theorem dX8_lossBy_146 : decode cX8_lossBy 146 = .ok (.ifCond .ne 7, 3) := by decide +kernel
theorem dX8_lossBy_149 : decode cX8_lossBy 149 = .ok (.iconst (-1), 1) := by decide +kernel
theorem dX8_lossBy_150 : decode cX8_lossBy 150 = .ok (.goto 13, 3) := by decide +kernel
theorem dX8_lossBy_153 : decode cX8_lossBy 153 = .ok (.sipush 1000, 3) := by decide +kernel
theorem dX8_lossBy_156 : decode cX8_lossBy 156 = .ok (.aload_n 0, 1) := by decide +kernel
theorem dX8_lossBy_157 : decode cX8_lossBy 157 = .ok (.getfield 13, 3) := by decide +kernel
theorem dX8_lossBy_160 : decode cX8_lossBy 160 = .ok (.iconst 1, 1) := by decide +kernel
theorem dX8_lossBy_161 : decode cX8_lossBy 161 = .ok (.iaload, 1) := by decide +kernel
theorem dX8_lossBy_162 : decode cX8_lossBy 162 = .ok (.isub, 1) := by decide +kernel
theorem dX8_lossBy_163 : decode cX8_lossBy 163 = .ok (.ireturn, 1) := by decide +kernel
set_option maxRecDepth 20000 in
theorem ggX8_punish_X8_isMove : GoodIn wsX8_punish wsX8_isMove := goodIn_r _ [5, 6, 7, 8, 4, 9, 70, 71, 72, 73, 74, 75, 76, 77, 78, 79, 80, 81, 82, 83, 84, 85, 86] (by decide +kernel) (by decide +kernel)
set_option maxRecDepth 20000 in
theorem gX8_punish_X8_isMove : GoodIn wsX8_punish (wsV RX8 59 RX8 yX8_isMove wsX8_isMove) := goodIn_app (goodIn_of _ (by decide +kernel)) ggX8_punish_X8_isMove
set_option maxRecDepth 20000 in
theorem ggX8_punish_X8_isFine : GoodIn wsX8_punish wsX8_isFine := goodIn_r _ [13, 14, 70, 71, 72, 73, 74, 75, 76, 77, 78, 79, 80, 81, 82, 83, 84, 85, 86] (by decide +kernel) (by decide +kernel)
set_option maxRecDepth 20000 in
theorem gX8_punish_X8_isFine : GoodIn wsX8_punish (wsV RX8 55 RX8 yX8_isFine wsX8_isFine) := goodIn_app (goodIn_of _ (by decide +kernel)) ggX8_punish_X8_isFine
