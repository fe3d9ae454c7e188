set_option maxRecDepth 20000 in
theorem gX8_mostAt_X8_isMove : GoodIn wsX8_mostAt (wsV RX8 59 RX8 yX8_isMove wsX8_isMove) := goodIn_app (goodIn_of _ (by decide +kernel)) ggX8_mostAt_X8_isMove
set_option maxRecDepth 20000 in
theorem ggX8_mostAt_X8_in : GoodIn wsX8_mostAt wsX8_in := goodIn_r _ [11] rfl (by decide +kernel)
set_option maxRecDepth 20000 in
theorem gX8_mostAt_X8_in : GoodIn wsX8_mostAt (va_wsS RX8 47 yX8_in wsX8_in) := goodIn_app (goodIn_of _ (by decide +kernel)) ggX8_mostAt_X8_in
set_option maxRecDepth 20000 in
theorem ggX8_mostAt_X8_isFine : GoodIn wsX8_mostAt wsX8_isFine := goodIn_r _ [15, 16, 87, 88, 89, 90, 91, 92, 93, 94, 95, 96, 97, 98, 99, 100, 101, 102, 103] rfl (by decide +kernel)
set_option maxRecDepth 20000 in
theorem gX8_mostAt_X8_isFine : GoodIn wsX8_mostAt (wsV RX8 55 RX8 yX8_isFine wsX8_isFine) := goodIn_app (goodIn_of _ (by decide +kernel)) ggX8_mostAt_X8_isFine
set_option maxRecDepth 20000 in
theorem ggX8_mostAt_X8_search : GoodIn wsX8_mostAt wsX8_search := goodIn_r _ [20, 1, 21, 22, 8, 23, 24, 25, 6, 26, 27, 28, 29, 30, 31, 32, 33, 34, 35, 36, 37, 38, 39, 40, 41, 42, 43, 44, 45, 46, 47, 48, 49, 50, 51, 52, 53, 54, 55, 56, 57, 58, 59, 60, 61, 62, 63, 64, 65, 66, 67, 68, 69, 70, 71, 72, 73, 74, 75, 76, 77, 78, 79, 80, 81, 82, 2, 83, 84, 85, 86, 87, 88, 89, 90, 91, 92, 93, 94, 95, 96, 97, 98, 99, 100, 101, 102, 103] rfl (by decide +kernel)
set_option maxRecDepth 20000 in
theorem gX8_mostAt_X8_search : GoodIn wsX8_mostAt (wsV RX8 144 RX8 yX8_search wsX8_search) := goodIn_app (goodIn_of _ (by decide +kernel)) ggX8_mostAt_X8_search
theorem dX8_mostAt_0 : decode cX8_mostAt 0 = .ok (.aload_n 0, 1) := by decide +kernel
theorem dX8_mostAt_1 : decode cX8_mostAt 1 = .ok (.aload_n 0, 1) := by decide +kernel
theorem dX8_mostAt_2 : decode cX8_mostAt 2 = .ok (.iload_n 1, 1) := by decide +kernel
theorem dX8_mostAt_3 : decode cX8_mostAt 3 = .ok (.invokevirtual 59, 3) := by decide +kernel
theorem dX8_mostAt_6 : decode cX8_mostAt 6 = .ok (.ifCond .eq 8, 3) := by decide +kernel
theorem dX8_mostAt_9 : decode cX8_mostAt 9 = .ok (.iload 4, 2) := by decide +kernel
theorem dX8_mostAt_11 : decode cX8_mostAt 11 = .ok (.ifCond .ge 7, 3) := by decide +kernel
theorem dX8_mostAt_14 : decode cX8_mostAt 14 = .ok (.iconst 1, 1) := by decide +kernel
theorem dX8_mostAt_15 : decode cX8_mostAt 15 = .ok (.goto 27, 3) := by decide +kernel
theorem dX8_mostAt_18 : decode cX8_mostAt 18 = .ok (.iload_n 2, 1) := by decide +kernel
theorem dX8_mostAt_19 : decode cX8_mostAt 19 = .ok (.iconst 1, 1) := by decide +kernel
theorem dX8_mostAt_20 : decode cX8_mostAt 20 = .ok (.iconst 4, 1) := by decide +kernel
theorem dX8_mostAt_21 : decode cX8_mostAt 21 = .ok (.invokestatic 47, 3) := by decide +kernel
theorem dX8_mostAt_24 : decode cX8_mostAt 24 = .ok (.ifCond .eq 17, 3) := by decide +kernel
theorem dX8_mostAt_27 : decode cX8_mostAt 27 = .ok (.iload_n 3, 1) := by decide +kernel
theorem dX8_mostAt_28 : decode cX8_mostAt 28 = .ok (.iconst 0, 1) := by decide +kernel
theorem dX8_mostAt_29 : decode cX8_mostAt 29 = .ok (.bipush 100, 2) := by decide +kernel
theorem dX8_mostAt_31 : decode cX8_mostAt 31 = .ok (.invokestatic 47, 3) := by decide +kernel
theorem dX8_mostAt_34 : decode cX8_mostAt 34 = .ok (.ifCond .eq 7, 3) := by decide +kernel
theorem dX8_mostAt_37 : decode cX8_mostAt 37 = .ok (.iconst 0, 1) := by decide +kernel
theorem dX8_mostAt_38 : decode cX8_mostAt 38 = .ok (.goto 4, 3) := by decide +kernel
theorem dX8_mostAt_41 : decode cX8_mostAt 41 = .ok (.iconst 2, 1) := by decide +kernel
theorem dX8_mostAt_42 : decode cX8_mostAt 42 = .ok (.invokevirtual 55, 3) := by decide +kernel
theorem dX8_mostAt_45 : decode cX8_mostAt 45 = .ok (.ifCond .ne 5, 3) := by decide +kernel
theorem dX8_mostAt_48 : decode cX8_mostAt 48 = .ok (.iconst 0, 1) := by decide +kernel
theorem dX8_mostAt_49 : decode cX8_mostAt 49 = .ok (.ireturn, 1) := by decide +kernel
theorem dX8_mostAt_50 : decode cX8_mostAt 50 = .ok (.aload_n 0, 1) := by decide +kernel
theorem dX8_mostAt_51 : decode cX8_mostAt 51 = .ok (.iload_n 1, 1) := by decide +kernel
theorem dX8_mostAt_52 : decode cX8_mostAt 52 = .ok (.iload_n 2, 1) := by decide +kernel
theorem dX8_mostAt_53 : decode cX8_mostAt 53 = .ok (.iload_n 3, 1) := by decide +kernel
theorem dX8_mostAt_54 : decode cX8_mostAt 54 = .ok (.invokevirtual 144, 3) := by decide +kernel
theorem dX8_mostAt_57 : decode cX8_mostAt 57 = .ok (.iload 4, 2) := by decide +kernel
theorem dX8_mostAt_59 : decode cX8_mostAt 59 = .ok (.aload_n 0, 1) := by decide +kernel
theorem dX8_mostAt_60 : decode cX8_mostAt 60 = .ok (.getfield 125, 3) := by decide +kernel
theorem dX8_mostAt_63 : decode cX8_mostAt 63 = .ok (.if_icmp .ge 13, 3) := by decide +kernel
theorem dX8_mostAt_66 : decode cX8_mostAt 66 = .ok (.aload_n 0, 1) := by decide +kernel
theorem dX8_mostAt_67 : decode cX8_mostAt 67 = .ok (.getfield 38, 3) := by decide +kernel
theorem dX8_mostAt_70 : decode cX8_mostAt 70 = .ok (.iload 4, 2) := by decide +kernel
theorem dX8_mostAt_72 : decode cX8_mostAt 72 = .ok (.iaload, 1) := by decide +kernel
theorem dX8_mostAt_73 : decode cX8_mostAt 73 = .ok (.goto 4, 3) := by decide +kernel
theorem dX8_mostAt_76 : decode cX8_mostAt 76 = .ok (.iconst (-1), 1) := by decide +kernel
theorem dX8_mostAt_77 : decode cX8_mostAt 77 = .ok (.ireturn, 1) := by decide +kernel
theorem dJ9_max_7cf53_0 : decode cJ9_max_7cf53 0 = .ok (.iload_n 0, 1) := by decide +kernel
theorem dJ9_max_7cf53_1 : decode cJ9_max_7cf53 1 = .ok (.iload_n 1, 1) := by decide +kernel
theorem dJ9_max_7cf53_2 : decode cJ9_max_7cf53 2 = .ok (.if_icmp .lt 7, 3) := by decide +kernel
theorem dJ9_max_7cf53_5 : decode cJ9_max_7cf53 5 = .ok (.iload_n 0, 1) := by decide +kernel
theorem dJ9_max_7cf53_6 : decode cJ9_max_7cf53 6 = .ok (.goto 4, 3) := by decide +kernel
theorem dJ9_max_7cf53_9 : decode cJ9_max_7cf53 9 = .ok (.iload_n 1, 1) := by decide +kernel
theorem dJ9_max_7cf53_10 : decode cJ9_max_7cf53 10 = .ok (.ireturn, 1) := by decide +kernel
theorem dJ9_min_7cf53_0 : decode cJ9_min_7cf53 0 = .ok (.iload_n 0, 1) := by decide +kernel
theorem dJ9_min_7cf53_1 : decode cJ9_min_7cf53 1 = .ok (.iload_n 1, 1) := by decide +kernel
theorem dJ9_min_7cf53_2 : decode cJ9_min_7cf53 2 = .ok (.if_icmp .gt 7, 3) := by decide +kernel
theorem dJ9_min_7cf53_5 : decode cJ9_min_7cf53 5 = .ok (.iload_n 0, 1) := by decide +kernel
theorem dJ9_min_7cf53_6 : decode cJ9_min_7cf53 6 = .ok (.goto 4, 3) := by decide +kernel
theorem dJ9_min_7cf53_9 : decode cJ9_min_7cf53 9 = .ok (.iload_n 1, 1) := by decide +kernel
theorem dJ9_min_7cf53_10 : decode cJ9_min_7cf53 10 = .ok (.ireturn, 1) := by decide +kernel
