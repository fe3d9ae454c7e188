set_option maxRecDepth 20000 in
theorem ggX8_of_X8_in : GoodIn wsX8_of wsX8_in := goodIn_r _ [6] rfl (by decide +kernel)
set_option maxRecDepth 20000 in
theorem gX8_of_X8_in : GoodIn wsX8_of (va_wsS RX8 47 yX8_in wsX8_in) := goodIn_app (goodIn_of _ (by decide +kernel)) ggX8_of_X8_in
set_option maxRecDepth 20000 in
theorem ggX8_of_X8_isFine : GoodIn wsX8_of wsX8_isFine := goodIn_r _ [10, 11, 12, 13, 14, 15, 16, 17, 18, 19, 20, 21, 22, 23, 24, 25, 26, 27, 28] rfl (by decide +kernel)
set_option maxRecDepth 20000 in
theorem gX8_of_X8_isFine : GoodIn wsX8_of (wsV RX8 55 RX8 yX8_isFine wsX8_isFine) := goodIn_app (goodIn_of _ (by decide +kernel)) ggX8_of_X8_isFine
theorem dX8_of_0 : decode cX8_of 0 = .ok (.aload_n 0, 1) := by decide +kernel
theorem dX8_of_1 : decode cX8_of 1 = .ok (.iload_n 1, 1) := by decide +kernel
theorem dX8_of_2 : decode cX8_of 2 = .ok (.iconst 0, 1) := by decide +kernel
theorem dX8_of_3 : decode cX8_of 3 = .ok (.iconst 1, 1) := by decide +kernel
theorem dX8_of_4 : decode cX8_of 4 = .ok (.invokestatic 47, 3) := by decide +kernel
theorem dX8_of_7 : decode cX8_of 7 = .ok (.ifCond .ne 7, 3) := by decide +kernel
theorem dX8_of_10 : decode cX8_of 10 = .ok (.iconst 1, 1) := by decide +kernel
theorem dX8_of_11 : decode cX8_of 11 = .ok (.goto 18, 3) := by decide +kernel
theorem dX8_of_14 : decode cX8_of 14 = .ok (.iload_n 2, 1) := by decide +kernel
theorem dX8_of_15 : decode cX8_of 15 = .ok (.iconst 0, 1) := by decide +kernel
theorem dX8_of_16 : decode cX8_of 16 = .ok (.bipush 7, 2) := by decide +kernel
theorem dX8_of_18 : decode cX8_of 18 = .ok (.invokestatic 47, 3) := by decide +kernel
theorem dX8_of_21 : decode cX8_of 21 = .ok (.ifCond .eq 7, 3) := by decide +kernel
theorem dX8_of_24 : decode cX8_of 24 = .ok (.iconst 0, 1) := by decide +kernel
theorem dX8_of_25 : decode cX8_of 25 = .ok (.goto 4, 3) := by decide +kernel
theorem dX8_of_28 : decode cX8_of 28 = .ok (.iconst 2, 1) := by decide +kernel
theorem dX8_of_29 : decode cX8_of 29 = .ok (.invokevirtual 55, 3) := by decide +kernel
theorem dX8_of_32 : decode cX8_of 32 = .ok (.ifCond .ne 5, 3) := by decide +kernel
theorem dX8_of_35 : decode cX8_of 35 = .ok (.iconst 0, 1) := by decide +kernel
theorem dX8_of_36 : decode cX8_of 36 = .ok (.ireturn, 1) := by decide +kernel
theorem dX8_of_37 : decode cX8_of 37 = .ok (.iload_n 2, 1) := by decide +kernel
theorem dX8_of_38 : decode cX8_of 38 = .ok (.bipush 7, 2) := by decide +kernel
theorem dX8_of_40 : decode cX8_of 40 = .ok (.if_icmp .ne 12, 3) := by decide +kernel
theorem dX8_of_43 : decode cX8_of 43 = .ok (.aload_n 0, 1) := by decide +kernel
theorem dX8_of_44 : decode cX8_of 44 = .ok (.getfield 25, 3) := by decide +kernel
theorem dX8_of_47 : decode cX8_of 47 = .ok (.iload_n 1, 1) := by decide +kernel
theorem dX8_of_48 : decode cX8_of 48 = .ok (.iaload, 1) := by decide +kernel
theorem dX8_of_49 : decode cX8_of 49 = .ok (.goto 14, 3) := by decide +kernel
theorem dX8_of_52 : decode cX8_of 52 = .ok (.aload_n 0, 1) := by decide +kernel
theorem dX8_of_53 : decode cX8_of 53 = .ok (.getfield 16, 3) := by decide +kernel
theorem dX8_of_56 : decode cX8_of 56 = .ok (.bipush 11, 2) := by decide +kernel
theorem dX8_of_58 : decode cX8_of 58 = .ok (.iload_n 1, 1) := by decide +kernel
theorem dX8_of_59 : decode cX8_of 59 = .ok (.imul, 1) := by decide +kernel
theorem dX8_of_60 : decode cX8_of 60 = .ok (.iload_n 2, 1) := by decide +kernel
theorem dX8_of_61 : decode cX8_of 61 = .ok (.iadd, 1) := by decide +kernel
theorem dX8_of_62 : decode cX8_of 62 = .ok (.iaload, 1) := by decide +kernel
theorem dX8_of_63 : decode cX8_of 63 = .ok (.ireturn, 1) := by decide +kernel
set_option maxRecDepth 20000 in
theorem ggX8_again_X8_in : GoodIn wsX8_again wsX8_in := goodIn_r _ [6] rfl (by decide +kernel)
set_option maxRecDepth 20000 in
theorem gX8_again_X8_in : GoodIn wsX8_again (va_wsS RX8 47 yX8_in wsX8_in) := goodIn_app (goodIn_of _ (by decide +kernel)) ggX8_again_X8_in
set_option maxRecDepth 20000 in
theorem ggX8_again_X8_isFine : GoodIn wsX8_again wsX8_isFine := goodIn_r _ [10, 11, 12, 13, 14, 15, 16, 17, 18, 19, 20, 21, 22, 23, 24, 25, 26, 27, 28] rfl (by decide +kernel)
set_option maxRecDepth 20000 in
theorem gX8_again_X8_isFine : GoodIn wsX8_again (wsV RX8 55 RX8 yX8_isFine wsX8_isFine) := goodIn_app (goodIn_of _ (by decide +kernel)) ggX8_again_X8_isFine
theorem dX8_again_0 : decode cX8_again 0 = .ok (.aload_n 0, 1) := by decide +kernel
theorem dX8_again_1 : decode cX8_again 1 = .ok (.iload_n 1, 1) := by decide +kernel
theorem dX8_again_2 : decode cX8_again 2 = .ok (.iconst 0, 1) := by decide +kernel
theorem dX8_again_3 : decode cX8_again 3 = .ok (.aload_n 0, 1) := by decide +kernel
theorem dX8_again_4 : decode cX8_again 4 = .ok (.getfield 28, 3) := by decide +kernel
theorem dX8_again_7 : decode cX8_again 7 = .ok (.invokestatic 47, 3) := by decide +kernel
theorem dX8_again_10 : decode cX8_again 10 = .ok (.ifCond .eq 12, 3) := by decide +kernel
theorem dX8_again_13 : decode cX8_again 13 = .ok (.iload_n 2, 1) := by decide +kernel
theorem dX8_again_14 : decode cX8_again 14 = .ok (.iconst 0, 1) := by decide +kernel
theorem dX8_again_15 : decode cX8_again 15 = .ok (.iconst 1, 1) := by decide +kernel
theorem dX8_again_16 : decode cX8_again 16 = .ok (.invokestatic 47, 3) := by decide +kernel
theorem dX8_again_19 : decode cX8_again 19 = .ok (.ifCond .ne 7, 3) := by decide +kernel
theorem dX8_again_22 : decode cX8_again 22 = .ok (.iconst 1, 1) := by decide +kernel
theorem dX8_again_23 : decode cX8_again 23 = .ok (.goto 18, 3) := by decide +kernel
theorem dX8_again_26 : decode cX8_again 26 = .ok (.iload_n 3, 1) := by decide +kernel
theorem dX8_again_27 : decode cX8_again 27 = .ok (.iconst 0, 1) := by decide +kernel
theorem dX8_again_28 : decode cX8_again 28 = .ok (.bipush 6, 2) := by decide +kernel
theorem dX8_again_30 : decode cX8_again 30 = .ok (.invokestatic 47, 3) := by decide +kernel
theorem dX8_again_33 : decode cX8_again 33 = .ok (.ifCond .eq 7, 3) := by decide +kernel
theorem dX8_again_36 : decode cX8_again 36 = .ok (.iconst 0, 1) := by decide +kernel
theorem dX8_again_37 : decode cX8_again 37 = .ok (.goto 4, 3) := by decide +kernel
theorem dX8_again_40 : decode cX8_again 40 = .ok (.iconst 2, 1) := by decide +kernel
theorem dX8_again_41 : decode cX8_again 41 = .ok (.invokevirtual 55, 3) := by decide +kernel
theorem dX8_again_44 : decode cX8_again 44 = .ok (.ifCond .ne 5, 3) := by decide +kernel
theorem dX8_again_47 : decode cX8_again 47 = .ok (.iconst 0, 1) := by decide +kernel
theorem dX8_again_48 : decode cX8_again 48 = .ok (.ireturn, 1) := by decide +kernel
theorem dX8_again_49 : decode cX8_again 49 = .ok (.aload_n 0, 1) := by decide +kernel
theorem dX8_again_50 : decode cX8_again 50 = .ok (.getfield 22, 3) := by decide +kernel
theorem dX8_again_53 : decode cX8_again 53 = .ok (.bipush 14, 2) := by decide +kernel
theorem dX8_again_55 : decode cX8_again 55 = .ok (.iload_n 1, 1) := by decide +kernel
theorem dX8_again_56 : decode cX8_again 56 = .ok (.imul, 1) := by decide +kernel
theorem dX8_again_57 : decode cX8_again 57 = .ok (.bipush 7, 2) := by decide +kernel
theorem dX8_again_59 : decode cX8_again 59 = .ok (.iload_n 2, 1) := by decide +kernel
theorem dX8_again_60 : decode cX8_again 60 = .ok (.imul, 1) := by decide +kernel
theorem dX8_again_61 : decode cX8_again 61 = .ok (.iadd, 1) := by decide +kernel
theorem dX8_again_62 : decode cX8_again 62 = .ok (.iload_n 3, 1) := by decide +kernel
theorem dX8_again_63 : decode cX8_again 63 = .ok (.iadd, 1) := by decide +kernel
theorem dX8_again_64 : decode cX8_again 64 = .ok (.iaload, 1) := by decide +kernel
theorem dX8_again_65 : decode cX8_again 65 = .ok (.ireturn, 1) := by decide +kernel
set_option maxRecDepth 20000 in
theorem ggX8_goesOn_X8_isFine : GoodIn wsX8_goesOn wsX8_isFine := goodIn_r _ [6, 7, 8, 9, 10, 11, 12, 13, 14, 15, 16, 17, 18, 19, 20, 21, 22, 23, 24] rfl (by decide +kernel)
set_option maxRecDepth 20000 in
theorem gX8_goesOn_X8_isFine : GoodIn wsX8_goesOn (wsV RX8 55 RX8 yX8_isFine wsX8_isFine) := goodIn_app (goodIn_of _ (by decide +kernel)) ggX8_goesOn_X8_isFine
theorem dX8_goesOn_0 : decode cX8_goesOn 0 = .ok (.aload_n 0, 1) := by decide +kernel
theorem dX8_goesOn_1 : decode cX8_goesOn 1 = .ok (.iconst 0, 1) := by decide +kernel
theorem dX8_goesOn_2 : decode cX8_goesOn 2 = .ok (.invokevirtual 55, 3) := by decide +kernel
theorem dX8_goesOn_5 : decode cX8_goesOn 5 = .ok (.pop, 1) := by decide +kernel
theorem dX8_goesOn_6 : decode cX8_goesOn 6 = .ok (.aload_n 0, 1) := by decide +kernel
theorem dX8_goesOn_7 : decode cX8_goesOn 7 = .ok (.getfield 51, 3) := by decide +kernel
theorem dX8_goesOn_10 : decode cX8_goesOn 10 = .ok (.ireturn, 1) := by decide +kernel
set_option maxRecDepth 20000 in
theorem ggX8_winner_X8_isFine : GoodIn wsX8_winner wsX8_isFine := goodIn_r _ [6, 7, 8, 9, 10, 11, 12, 13, 14, 15, 16, 17, 18, 19, 20, 21, 22, 23, 24] rfl (by decide +kernel)
