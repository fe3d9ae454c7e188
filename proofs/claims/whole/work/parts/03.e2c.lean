theorem dX8_endRound_47 : decode cX8_endRound 47 = .ok (.iload_n 1, 1) := by decide +kernel
theorem dX8_endRound_48 : decode cX8_endRound 48 = .ok (.iconst (-1), 1) := by decide +kernel
theorem dX8_endRound_49 : decode cX8_endRound 49 = .ok (.if_icmp .eq 32, 3) := by decide +kernel
theorem dX8_endRound_52 : decode cX8_endRound 52 = .ok (.aload_n 0, 1) := by decide +kernel
theorem dX8_endRound_53 : decode cX8_endRound 53 = .ok (.getfield 25, 3) := by decide +kernel
theorem dX8_endRound_56 : decode cX8_endRound 56 = .ok (.iload_n 1, 1) := by decide +kernel
theorem dX8_endRound_57 : decode cX8_endRound 57 = .ok (.dup2, 1) := by decide +kernel
theorem dX8_endRound_58 : decode cX8_endRound 58 = .ok (.iaload, 1) := by decide +kernel
theorem dX8_endRound_59 : decode cX8_endRound 59 = .ok (.iconst 1, 1) := by decide +kernel
theorem dX8_endRound_60 : decode cX8_endRound 60 = .ok (.iadd, 1) := by decide +kernel
theorem dX8_endRound_61 : decode cX8_endRound 61 = .ok (.iastore, 1) := by decide +kernel
theorem dX8_endRound_62 : decode cX8_endRound 62 = .ok (.aload_n 0, 1) := by decide +kernel
theorem dX8_endRound_63 : decode cX8_endRound 63 = .ok (.aload_n 0, 1) := by decide +kernel
theorem dX8_endRound_64 : decode cX8_endRound 64 = .ok (.getfield 25, 3) := by decide +kernel
theorem dX8_endRound_67 : decode cX8_endRound 67 = .ok (.iload_n 1, 1) := by decide +kernel
theorem dX8_endRound_68 : decode cX8_endRound 68 = .ok (.iaload, 1) := by decide +kernel
theorem dX8_endRound_69 : decode cX8_endRound 69 = .ok (.iconst 2, 1) := by decide +kernel
theorem dX8_endRound_70 : decode cX8_endRound 70 = .ok (.if_icmp .ne 7, 3) := by decide +kernel
theorem dX8_endRound_73 : decode cX8_endRound 73 = .ok (.iload_n 1, 1) := by decide +kernel
theorem dX8_endRound_74 : decode cX8_endRound 74 = .ok (.goto 4, 3) := by decide +kernel
theorem dX8_endRound_77 : decode cX8_endRound 77 = .ok (.iconst (-1), 1) := by decide +kernel
theorem dX8_endRound_78 : decode cX8_endRound 78 = .ok (.putfield 32, 3) := by decide +kernel
theorem dX8_endRound_81 : decode cX8_endRound 81 = .ok (.return_, 1) := by decide +kernel
set_option maxRecDepth 20000 in
theorem ggX8_play_X8_in : GoodIn wsX8_play wsX8_in := goodIn_r _ [7] rfl (by decide +kernel)
set_option maxRecDepth 20000 in
theorem gX8_play_X8_in : GoodIn wsX8_play (va_wsS RX8 47 yX8_in wsX8_in) := goodIn_app (goodIn_of _ (by decide +kernel)) ggX8_play_X8_in
set_option maxRecDepth 20000 in
theorem ggX8_play_X8_isInput : GoodIn wsX8_play wsX8_isInput := goodIn_r _ [11, 12, 4, 5, 6, 7, 76, 77, 78, 79, 80, 81, 82, 83, 84, 85, 86, 87, 88, 89, 90, 91, 92] rfl (by decide +kernel)
set_option maxRecDepth 20000 in
theorem gX8_play_X8_isInput : GoodIn wsX8_play (wsV RX8 106 RX8 yX8_isInput wsX8_isInput) := goodIn_app (goodIn_of _ (by decide +kernel)) ggX8_play_X8_isInput
set_option maxRecDepth 20000 in
theorem ggX8_play_X8_isFine : GoodIn wsX8_play wsX8_isFine := goodIn_r _ [16, 17, 76, 77, 78, 79, 80, 81, 82, 83, 84, 85, 86, 87, 88, 89, 90, 91, 92] rfl (by decide +kernel)
set_option maxRecDepth 20000 in
theorem gX8_play_X8_isFine : GoodIn wsX8_play (wsV RX8 55 RX8 yX8_isFine wsX8_isFine) := goodIn_app (goodIn_of _ (by decide +kernel)) ggX8_play_X8_isFine
set_option maxRecDepth 20000 in
theorem ggX8_play_X8_load : GoodIn wsX8_play wsX8_load := goodIn_r _ [21, 3, 22, 76, 77, 78, 79, 80, 81, 82, 83, 84, 85, 86, 87, 88, 89, 90, 91, 92] rfl (by decide +kernel)
set_option maxRecDepth 20000 in
theorem gX8_play_X8_load : GoodIn wsX8_play (wsV RX8 109 RX8 yX8_load wsX8_load) := goodIn_app (goodIn_of _ (by decide +kernel)) ggX8_play_X8_load
set_option maxRecDepth 20000 in
theorem ggX8_play_X8_frame : GoodIn wsX8_play wsX8_frame := goodIn_r _ [26, 27, 28, 29, 30, 6, 31, 3, 32, 33, 34, 35, 36, 37, 38, 39, 40, 41, 42, 43, 44, 45, 46, 47, 48, 49, 50, 51, 52, 53, 54, 55, 56, 57, 58, 59, 60, 61, 62, 63, 64, 76, 77, 78, 79, 80, 81, 82, 83, 84, 85, 86, 87, 88, 89, 90, 91, 92] rfl (by decide +kernel)
set_option maxRecDepth 20000 in
theorem gX8_play_X8_frame : GoodIn wsX8_play (wsV RX8 112 RX8 yX8_frame wsX8_frame) := goodIn_app (goodIn_of _ (by decide +kernel)) ggX8_play_X8_frame
set_option maxRecDepth 20000 in
theorem ggX8_play_X8_store : GoodIn wsX8_play wsX8_store := goodIn_r _ [68, 22, 3, 69, 2, 76, 77, 78, 79, 80, 81, 82, 83, 84, 85, 86, 87, 88, 89, 90, 91, 92] rfl (by decide +kernel)
set_option maxRecDepth 20000 in
theorem gX8_play_X8_store : GoodIn wsX8_play (wsV RX8 103 RX8 yX8_store wsX8_store) := goodIn_app (goodIn_of _ (by decide +kernel)) ggX8_play_X8_store
set_option maxRecDepth 20000 in
theorem ggX8_play_X8_endRound : GoodIn wsX8_play wsX8_endRound := goodIn_r _ [73, 1, 3, 74, 75, 76, 77, 78, 79, 80, 81, 82, 83, 84, 85, 86, 87, 88, 89, 90, 91, 92] rfl (by decide +kernel)
set_option maxRecDepth 20000 in
theorem gX8_play_X8_endRound : GoodIn wsX8_play (wsV RX8 115 RX8 yX8_endRound wsX8_endRound) := goodIn_app (goodIn_of _ (by decide +kernel)) ggX8_play_X8_endRound
theorem dX8_play_0 : decode cX8_play 0 = .ok (.aload_n 0, 1) := by decide +kernel
theorem dX8_play_1 : decode cX8_play 1 = .ok (.iload_n 1, 1) := by decide +kernel
theorem dX8_play_2 : decode cX8_play 2 = .ok (.iconst 1, 1) := by decide +kernel
theorem dX8_play_3 : decode cX8_play 3 = .ok (.bipush 60, 2) := by decide +kernel
theorem dX8_play_5 : decode cX8_play 5 = .ok (.invokestatic 47, 3) := by decide +kernel
theorem dX8_play_8 : decode cX8_play 8 = .ok (.ifCond .eq 19, 3) := by decide +kernel
theorem dX8_play_11 : decode cX8_play 11 = .ok (.aload_n 0, 1) := by decide +kernel
theorem dX8_play_12 : decode cX8_play 12 = .ok (.iload_n 2, 1) := by decide +kernel
theorem dX8_play_13 : decode cX8_play 13 = .ok (.invokevirtual 106, 3) := by decide +kernel
theorem dX8_play_16 : decode cX8_play 16 = .ok (.ifCond .eq 11, 3) := by decide +kernel
theorem dX8_play_19 : decode cX8_play 19 = .ok (.aload_n 0, 1) := by decide +kernel
theorem dX8_play_20 : decode cX8_play 20 = .ok (.iload_n 3, 1) := by decide +kernel
theorem dX8_play_21 : decode cX8_play 21 = .ok (.invokevirtual 106, 3) := by decide +kernel
theorem dX8_play_24 : decode cX8_play 24 = .ok (.ifCond .ne 7, 3) := by decide +kernel
theorem dX8_play_27 : decode cX8_play 27 = .ok (.iconst 1, 1) := by decide +kernel
theorem dX8_play_28 : decode cX8_play 28 = .ok (.goto 15, 3) := by decide +kernel
theorem dX8_play_31 : decode cX8_play 31 = .ok (.aload_n 0, 1) := by decide +kernel
theorem dX8_play_32 : decode cX8_play 32 = .ok (.getfield 51, 3) := by decide +kernel
theorem dX8_play_35 : decode cX8_play 35 = .ok (.ifCond .eq 7, 3) := by decide +kernel
theorem dX8_play_38 : decode cX8_play 38 = .ok (.iconst 0, 1) := by decide +kernel
theorem dX8_play_39 : decode cX8_play 39 = .ok (.goto 4, 3) := by decide +kernel
theorem dX8_play_42 : decode cX8_play 42 = .ok (.iconst 2, 1) := by decide +kernel
theorem dX8_play_43 : decode cX8_play 43 = .ok (.invokevirtual 55, 3) := by decide +kernel
theorem dX8_play_46 : decode cX8_play 46 = .ok (.ifCond .ne 5, 3) := by decide +kernel
theorem dX8_play_49 : decode cX8_play 49 = .ok (.iconst 0, 1) := by decide +kernel
theorem dX8_play_50 : decode cX8_play 50 = .ok (.ireturn, 1) := by decide +kernel
theorem dX8_play_51 : decode cX8_play 51 = .ok (.aload_n 0, 1) := by decide +kernel
theorem dX8_play_52 : decode cX8_play 52 = .ok (.invokevirtual 109, 3) := by decide +kernel
theorem dX8_play_55 : decode cX8_play 55 = .ok (.iconst 0, 1) := by decide +kernel
theorem dX8_play_56 : decode cX8_play 56 = .ok (.istore 4, 2) := by decide +kernel
theorem dX8_play_58 : decode cX8_play 58 = .ok (.iload 4, 2) := by decide +kernel
theorem dX8_play_60 : decode cX8_play 60 = .ok (.iload_n 1, 1) := by decide +kernel
theorem dX8_play_61 : decode cX8_play 61 = .ok (.if_icmp .ge 69, 3) := by decide +kernel
theorem dX8_play_64 : decode cX8_play 64 = .ok (.aload_n 0, 1) := by decide +kernel
theorem dX8_play_65 : decode cX8_play 65 = .ok (.getfield 51, 3) := by decide +kernel
theorem dX8_play_68 : decode cX8_play 68 = .ok (.ifCond .eq 62, 3) := by decide +kernel
theorem dX8_play_71 : decode cX8_play 71 = .ok (.aload_n 0, 1) := by decide +kernel
theorem dX8_play_72 : decode cX8_play 72 = .ok (.iload_n 2, 1) := by decide +kernel
theorem dX8_play_73 : decode cX8_play 73 = .ok (.iload_n 3, 1) := by decide +kernel
theorem dX8_play_74 : decode cX8_play 74 = .ok (.invokevirtual 112, 3) := by decide +kernel
theorem dX8_play_77 : decode cX8_play 77 = .ok (.aload_n 0, 1) := by decide +kernel
theorem dX8_play_78 : decode cX8_play 78 = .ok (.dup, 1) := by decide +kernel
theorem dX8_play_79 : decode cX8_play 79 = .ok (.getfield 28, 3) := by decide +kernel
theorem dX8_play_82 : decode cX8_play 82 = .ok (.iconst 1, 1) := by decide +kernel
theorem dX8_play_83 : decode cX8_play 83 = .ok (.iadd, 1) := by decide +kernel
theorem dX8_play_84 : decode cX8_play 84 = .ok (.putfield 28, 3) := by decide +kernel
theorem dX8_play_87 : decode cX8_play 87 = .ok (.aload_n 0, 1) := by decide +kernel
theorem dX8_play_88 : decode cX8_play 88 = .ok (.invokevirtual 103, 3) := by decide +kernel
theorem dX8_play_91 : decode cX8_play 91 = .ok (.aload_n 0, 1) := by decide +kernel
theorem dX8_play_92 : decode cX8_play 92 = .ok (.getfield 13, 3) := by decide +kernel
theorem dX8_play_95 : decode cX8_play 95 = .ok (.iconst 1, 1) := by decide +kernel
theorem dX8_play_96 : decode cX8_play 96 = .ok (.iaload, 1) := by decide +kernel
theorem dX8_play_97 : decode cX8_play 97 = .ok (.ifCond .le 23, 3) := by decide +kernel
theorem dX8_play_100 : decode cX8_play 100 = .ok (.aload_n 0, 1) := by decide +kernel
