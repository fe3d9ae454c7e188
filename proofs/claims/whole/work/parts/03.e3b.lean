set_option maxRecDepth 20000 in
theorem gX8_winner_X8_isFine : GoodIn wsX8_winner (wsV RX8 55 RX8 yX8_isFine wsX8_isFine) := goodIn_app (goodIn_of _ (by decide +kernel)) ggX8_winner_X8_isFine
theorem dX8_winner_0 : decode cX8_winner 0 = .ok (.aload_n 0, 1) := by decide +kernel
theorem dX8_winner_1 : decode cX8_winner 1 = .ok (.iconst 0, 1) := by decide +kernel
theorem dX8_winner_2 : decode cX8_winner 2 = .ok (.invokevirtual 55, 3) := by decide +kernel
theorem dX8_winner_5 : decode cX8_winner 5 = .ok (.pop, 1) := by decide +kernel
theorem dX8_winner_6 : decode cX8_winner 6 = .ok (.aload_n 0, 1) := by decide +kernel
theorem dX8_winner_7 : decode cX8_winner 7 = .ok (.getfield 32, 3) := by decide +kernel
theorem dX8_winner_10 : decode cX8_winner 10 = .ok (.ireturn, 1) := by decide +kernel
set_option maxRecDepth 20000 in
theorem ggX8_blocking_X8_ofMove : GoodIn wsX8_blocking wsX8_ofMove := goodIn_r _ [5, 6, 7, 8, 9, 10, 11, 12, 13, 14, 15, 16, 17, 18, 19, 20, 21, 22, 23] rfl (by decide +kernel)
set_option maxRecDepth 20000 in
theorem gX8_blocking_X8_ofMove : GoodIn wsX8_blocking (wsV RX8 62 RX8 yX8_ofMove wsX8_ofMove) := goodIn_app (goodIn_of _ (by decide +kernel)) ggX8_blocking_X8_ofMove
theorem dX8_blocking_0 : decode cX8_blocking 0 = .ok (.iload_n 2, 1) := by decide +kernel
theorem dX8_blocking_1 : decode cX8_blocking 1 = .ok (.aload_n 0, 1) := by decide +kernel
theorem dX8_blocking_2 : decode cX8_blocking 2 = .ok (.iload_n 1, 1) := by decide +kernel
theorem dX8_blocking_3 : decode cX8_blocking 3 = .ok (.iconst 0, 1) := by decide +kernel
theorem dX8_blocking_4 : decode cX8_blocking 4 = .ok (.invokevirtual 62, 3) := by decide +kernel
theorem dX8_blocking_7 : decode cX8_blocking 7 = .ok (.if_icmp .ge 7, 3) := by decide +kernel
theorem dX8_blocking_10 : decode cX8_blocking 10 = .ok (.iconst 0, 1) := by decide +kernel
theorem dX8_blocking_11 : decode cX8_blocking 11 = .ok (.goto 18, 3) := by decide +kernel
theorem dX8_blocking_14 : decode cX8_blocking 14 = .ok (.aload_n 0, 1) := by decide +kernel
theorem dX8_blocking_15 : decode cX8_blocking 15 = .ok (.iload_n 1, 1) := by decide +kernel
theorem dX8_blocking_16 : decode cX8_blocking 16 = .ok (.iconst 4, 1) := by decide +kernel
theorem dX8_blocking_17 : decode cX8_blocking 17 = .ok (.invokevirtual 62, 3) := by decide +kernel
theorem dX8_blocking_20 : decode cX8_blocking 20 = .ok (.iconst 1, 1) := by decide +kernel
theorem dX8_blocking_21 : decode cX8_blocking 21 = .ok (.if_icmp .ne 7, 3) := by decide +kernel
theorem dX8_blocking_24 : decode cX8_blocking 24 = .ok (.iconst 4, 1) := by decide +kernel
theorem dX8_blocking_25 : decode cX8_blocking 25 = .ok (.goto 4, 3) := by decide +kernel
theorem dX8_blocking_28 : decode cX8_blocking 28 = .ok (.iconst 2, 1) := by decide +kernel
theorem dX8_blocking_29 : decode cX8_blocking 29 = .ok (.ireturn, 1) := by decide +kernel
set_option maxRecDepth 20000 in
theorem ggX8_advantage_X8_isMove : GoodIn wsX8_advantage wsX8_isMove := goodIn_r _ [6, 7, 8, 9, 5, 10, 66, 67, 68, 69, 70, 71, 72, 73, 74, 75, 76, 77, 78, 79, 80, 81, 82] rfl (by decide +kernel)
set_option maxRecDepth 20000 in
theorem gX8_advantage_X8_isMove : GoodIn wsX8_advantage (wsV RX8 59 RX8 yX8_isMove wsX8_isMove) := goodIn_app (goodIn_of _ (by decide +kernel)) ggX8_advantage_X8_isMove
set_option maxRecDepth 20000 in
theorem ggX8_advantage_X8_isFine : GoodIn wsX8_advantage wsX8_isFine := goodIn_r _ [14, 15, 66, 67, 68, 69, 70, 71, 72, 73, 74, 75, 76, 77, 78, 79, 80, 81, 82] rfl (by decide +kernel)
set_option maxRecDepth 20000 in
theorem gX8_advantage_X8_isFine : GoodIn wsX8_advantage (wsV RX8 55 RX8 yX8_isFine wsX8_isFine) := goodIn_app (goodIn_of _ (by decide +kernel)) ggX8_advantage_X8_isFine
set_option maxRecDepth 20000 in
theorem ggX8_advantage_X8_lay : GoodIn wsX8_advantage wsX8_lay := goodIn_r _ [19, 1, 66, 67, 68, 69, 70, 71, 72, 73, 74, 75, 76, 77, 78, 79, 80, 81, 82] rfl (by decide +kernel)
set_option maxRecDepth 20000 in
theorem gX8_advantage_X8_lay : GoodIn wsX8_advantage (wsV RX8 99 RX8 yX8_lay wsX8_lay) := goodIn_app (goodIn_of _ (by decide +kernel)) ggX8_advantage_X8_lay
set_option maxRecDepth 20000 in
theorem ggX8_advantage_X8_blocking : GoodIn wsX8_advantage wsX8_blocking := goodIn_r _ [23, 24, 25, 26, 5, 27, 28, 66, 67, 68, 69, 70, 71, 72, 73, 74, 75, 76, 77, 78, 79, 80, 81, 82] rfl (by decide +kernel)
set_option maxRecDepth 20000 in
theorem gX8_advantage_X8_blocking : GoodIn wsX8_advantage (wsV RX8 118 RX8 yX8_blocking wsX8_blocking) := goodIn_app (goodIn_of _ (by decide +kernel)) ggX8_advantage_X8_blocking
set_option maxRecDepth 20000 in
theorem ggX8_advantage_X8_frame : GoodIn wsX8_advantage wsX8_frame := goodIn_r _ [32, 33, 34, 35, 36, 5, 37, 1, 38, 39, 40, 41, 24, 25, 26, 27, 28, 42, 43, 44, 45, 46, 47, 48, 49, 50, 51, 52, 53, 54, 55, 56, 57, 58, 59, 60, 61, 62, 63, 64, 65, 66, 67, 68, 69, 70, 71, 72, 73, 74, 75, 76, 77, 78, 79, 80, 81, 82] rfl (by decide +kernel)
set_option maxRecDepth 20000 in
theorem gX8_advantage_X8_frame : GoodIn wsX8_advantage (wsV RX8 112 RX8 yX8_frame wsX8_frame) := goodIn_app (goodIn_of _ (by decide +kernel)) ggX8_advantage_X8_frame
theorem dX8_advantage_0 : decode cX8_advantage 0 = .ok (.aload_n 0, 1) := by decide +kernel
theorem dX8_advantage_1 : decode cX8_advantage 1 = .ok (.aload_n 0, 1) := by decide +kernel
theorem dX8_advantage_2 : decode cX8_advantage 2 = .ok (.iload_n 1, 1) := by decide +kernel
theorem dX8_advantage_3 : decode cX8_advantage 3 = .ok (.invokevirtual 59, 3) := by decide +kernel
theorem dX8_advantage_6 : decode cX8_advantage 6 = .ok (.ifCond .eq 7, 3) := by decide +kernel
theorem dX8_advantage_9 : decode cX8_advantage 9 = .ok (.iconst 0, 1) := by decide +kernel
theorem dX8_advantage_10 : decode cX8_advantage 10 = .ok (.goto 4, 3) := by decide +kernel
theorem dX8_advantage_13 : decode cX8_advantage 13 = .ok (.iconst 1, 1) := by decide +kernel
theorem dX8_advantage_14 : decode cX8_advantage 14 = .ok (.invokevirtual 55, 3) := by decide +kernel
theorem dX8_advantage_17 : decode cX8_advantage 17 = .ok (.ifCond .ne 5, 3) := by decide +kernel
theorem dX8_advantage_20 : decode cX8_advantage 20 = .ok (.iconst 0, 1) := by decide +kernel
theorem dX8_advantage_21 : decode cX8_advantage 21 = .ok (.ireturn, 1) := by decide +kernel
theorem dX8_advantage_22 : decode cX8_advantage 22 = .ok (.aload_n 0, 1) := by decide +kernel
theorem dX8_advantage_23 : decode cX8_advantage 23 = .ok (.sipush 290, 3) := by decide +kernel
theorem dX8_advantage_26 : decode cX8_advantage 26 = .ok (.sipush 310, 3) := by decide +kernel
theorem dX8_advantage_29 : decode cX8_advantage 29 = .ok (.bipush 100, 2) := by decide +kernel
theorem dX8_advantage_31 : decode cX8_advantage 31 = .ok (.bipush 100, 2) := by decide +kernel
theorem dX8_advantage_33 : decode cX8_advantage 33 = .ok (.invokevirtual 99, 3) := by decide +kernel
theorem dX8_advantage_36 : decode cX8_advantage 36 = .ok (.iconst 0, 1) := by decide +kernel
theorem dX8_advantage_37 : decode cX8_advantage 37 = .ok (.istore_n 3, 1) := by decide +kernel
theorem dX8_advantage_38 : decode cX8_advantage 38 = .ok (.iconst 0, 1) := by decide +kernel
theorem dX8_advantage_39 : decode cX8_advantage 39 = .ok (.istore 4, 2) := by decide +kernel
theorem dX8_advantage_41 : decode cX8_advantage 41 = .ok (.iconst 0, 1) := by decide +kernel
theorem dX8_advantage_42 : decode cX8_advantage 42 = .ok (.istore 5, 2) := by decide +kernel
theorem dX8_advantage_44 : decode cX8_advantage 44 = .ok (.iload 5, 2) := by decide +kernel
theorem dX8_advantage_46 : decode cX8_advantage 46 = .ok (.sipush 200, 3) := by decide +kernel
theorem dX8_advantage_49 : decode cX8_advantage 49 = .ok (.if_icmp .ge 80, 3) := by decide +kernel
theorem dX8_advantage_52 : decode cX8_advantage 52 = .ok (.aload_n 0, 1) := by decide +kernel
theorem dX8_advantage_53 : decode cX8_advantage 53 = .ok (.iload 5, 2) := by decide +kernel
theorem dX8_advantage_55 : decode cX8_advantage 55 = .ok (.ifCond .ne 10, 3) := by decide +kernel
theorem dX8_advantage_58 : decode cX8_advantage 58 = .ok (.bipush 10, 2) := by decide +kernel
theorem dX8_advantage_60 : decode cX8_advantage 60 = .ok (.iload_n 1, 1) := by decide +kernel
theorem dX8_advantage_61 : decode cX8_advantage 61 = .ok (.iadd, 1) := by decide +kernel
theorem dX8_advantage_62 : decode cX8_advantage 62 = .ok (.goto 4, 3) := by decide +kernel
theorem dX8_advantage_65 : decode cX8_advantage 65 = .ok (.iconst 0, 1) := by decide +kernel
theorem dX8_advantage_66 : decode cX8_advantage 66 = .ok (.iload_n 2, 1) := by decide +kernel
theorem dX8_advantage_67 : decode cX8_advantage 67 = .ok (.ifCond .eq 13, 3) := by decide +kernel
theorem dX8_advantage_70 : decode cX8_advantage 70 = .ok (.aload_n 0, 1) := by decide +kernel
theorem dX8_advantage_71 : decode cX8_advantage 71 = .ok (.iload_n 1, 1) := by decide +kernel
theorem dX8_advantage_72 : decode cX8_advantage 72 = .ok (.iload 5, 2) := by decide +kernel
theorem dX8_advantage_74 : decode cX8_advantage 74 = .ok (.invokevirtual 118, 3) := by decide +kernel
theorem dX8_advantage_77 : decode cX8_advantage 77 = .ok (.goto 4, 3) := by decide +kernel
theorem dX8_advantage_80 : decode cX8_advantage 80 = .ok (.iconst 0, 1) := by decide +kernel
theorem dX8_advantage_81 : decode cX8_advantage 81 = .ok (.invokevirtual 112, 3) := by decide +kernel
theorem dX8_advantage_84 : decode cX8_advantage 84 = .ok (.aload_n 0, 1) := by decide +kernel
theorem dX8_advantage_85 : decode cX8_advantage 85 = .ok (.getfield 13, 3) := by decide +kernel
theorem dX8_advantage_88 : decode cX8_advantage 88 = .ok (.iconst 3, 1) := by decide +kernel
theorem dX8_advantage_89 : decode cX8_advantage 89 = .ok (.iaload, 1) := by decide +kernel
theorem dX8_advantage_90 : decode cX8_advantage 90 = .ok (.ifCond .ne 7, 3) := by decide +kernel
theorem dX8_advantage_93 : decode cX8_advantage 93 = .ok (.iload_n 3, 1) := by decide +kernel
theorem dX8_advantage_94 : decode cX8_advantage 94 = .ok (.goto 7, 3) := by decide +kernel
theorem dX8_advantage_97 : decode cX8_advantage 97 = .ok (.iload 5, 2) := by decide +kernel
theorem dX8_advantage_99 : decode cX8_advantage 99 = .ok (.iconst 2, 1) := by decide +kernel
theorem dX8_advantage_100 : decode cX8_advantage 100 = .ok (.iadd, 1) := by decide +kernel
