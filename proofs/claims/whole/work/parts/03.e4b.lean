theorem dX8_hits_28 : decode cX8_hits 28 = .ok (.ifCond .eq 12, 3) := by decide +kernel
theorem dX8_hits_31 : decode cX8_hits 31 = .ok (.iload 5, 2) := by decide +kernel
theorem dX8_hits_33 : decode cX8_hits 33 = .ok (.ifCond .le 7, 3) := by decide +kernel
theorem dX8_hits_36 : decode cX8_hits 36 = .ok (.iconst 0, 1) := by decide +kernel
theorem dX8_hits_37 : decode cX8_hits 37 = .ok (.goto 7, 3) := by decide +kernel
theorem dX8_hits_40 : decode cX8_hits 40 = .ok (.bipush 10, 2) := by decide +kernel
theorem dX8_hits_42 : decode cX8_hits 42 = .ok (.iload_n 1, 1) := by decide +kernel
theorem dX8_hits_43 : decode cX8_hits 43 = .ok (.iadd, 1) := by decide +kernel
theorem dX8_hits_44 : decode cX8_hits 44 = .ok (.iconst 0, 1) := by decide +kernel
theorem dX8_hits_45 : decode cX8_hits 45 = .ok (.invokevirtual 112, 3) := by decide +kernel
theorem dX8_hits_48 : decode cX8_hits 48 = .ok (.iload 4, 2) := by decide +kernel
theorem dX8_hits_50 : decode cX8_hits 50 = .ok (.ifCond .ne 10, 3) := by decide +kernel
theorem dX8_hits_53 : decode cX8_hits 53 = .ok (.aload_n 0, 1) := by decide +kernel
theorem dX8_hits_54 : decode cX8_hits 54 = .ok (.getfield 83, 3) := by decide +kernel
theorem dX8_hits_57 : decode cX8_hits 57 = .ok (.ifCond .eq 7, 3) := by decide +kernel
theorem dX8_hits_60 : decode cX8_hits 60 = .ok (.iconst 1, 1) := by decide +kernel
theorem dX8_hits_61 : decode cX8_hits 61 = .ok (.goto 4, 3) := by decide +kernel
theorem dX8_hits_64 : decode cX8_hits 64 = .ok (.iconst 0, 1) := by decide +kernel
theorem dX8_hits_65 : decode cX8_hits 65 = .ok (.istore 4, 2) := by decide +kernel
theorem dX8_hits_67 : decode cX8_hits 67 = .ok (.aload_n 0, 1) := by decide +kernel
theorem dX8_hits_68 : decode cX8_hits 68 = .ok (.getfield 13, 3) := by decide +kernel
theorem dX8_hits_71 : decode cX8_hits 71 = .ok (.bipush 17, 2) := by decide +kernel
theorem dX8_hits_73 : decode cX8_hits 73 = .ok (.iaload, 1) := by decide +kernel
theorem dX8_hits_74 : decode cX8_hits 74 = .ok (.iload_n 3, 1) := by decide +kernel
theorem dX8_hits_75 : decode cX8_hits 75 = .ok (.if_icmp .eq 20, 3) := by decide +kernel
theorem dX8_hits_78 : decode cX8_hits 78 = .ok (.aload_n 0, 1) := by decide +kernel
theorem dX8_hits_79 : decode cX8_hits 79 = .ok (.getfield 13, 3) := by decide +kernel
theorem dX8_hits_82 : decode cX8_hits 82 = .ok (.bipush 17, 2) := by decide +kernel
theorem dX8_hits_84 : decode cX8_hits 84 = .ok (.iaload, 1) := by decide +kernel
theorem dX8_hits_85 : decode cX8_hits 85 = .ok (.iload_n 3, 1) := by decide +kernel
theorem dX8_hits_86 : decode cX8_hits 86 = .ok (.if_icmp .le 7, 3) := by decide +kernel
theorem dX8_hits_89 : decode cX8_hits 89 = .ok (.iconst 1, 1) := by decide +kernel
theorem dX8_hits_90 : decode cX8_hits 90 = .ok (.goto 4, 3) := by decide +kernel
theorem dX8_hits_93 : decode cX8_hits 93 = .ok (.iconst 0, 1) := by decide +kernel
theorem dX8_hits_94 : decode cX8_hits 94 = .ok (.ireturn, 1) := by decide +kernel
theorem dX8_hits_95 : decode cX8_hits 95 = .ok (.iinc 5 1, 3) := by decide +kernel
theorem dX8_hits_98 : decode cX8_hits 98 = .ok (.goto (-84), 3) := by decide +kernel
theorem dX8_hits_101 : decode cX8_hits 101 = .ok (.iconst 0, 1) := by decide +kernel
theorem dX8_hits_102 : decode cX8_hits 102 = .ok (.ireturn, 1) := by decide +kernel
theorem dX8_noteRow_0 : decode cX8_noteRow 0 = .ok (.sipush 1000, 3) := by decide +kernel
theorem dX8_noteRow_3 : decode cX8_noteRow 3 = .ok (.aload_n 0, 1) := by decide +kernel
theorem dX8_noteRow_4 : decode cX8_noteRow 4 = .ok (.getfield 13, 3) := by decide +kernel
theorem dX8_noteRow_7 : decode cX8_noteRow 7 = .ok (.bipush 12, 2) := by decide +kernel
theorem dX8_noteRow_9 : decode cX8_noteRow 9 = .ok (.iaload, 1) := by decide +kernel
theorem dX8_noteRow_10 : decode cX8_noteRow 10 = .ok (.isub, 1) := by decide +kernel
theorem dX8_noteRow_11 : decode cX8_noteRow 11 = .ok (.istore_n 2, 1) := by decide +kernel
theorem dX8_noteRow_12 : decode cX8_noteRow 12 = .ok (.aload_n 0, 1) := by decide +kernel
theorem dX8_noteRow_13 : decode cX8_noteRow 13 = .ok (.getfield 125, 3) := by decide +kernel
theorem dX8_noteRow_16 : decode cX8_noteRow 16 = .ok (.ifCond .eq 11, 3) := by decide +kernel
theorem dX8_noteRow_19 : decode cX8_noteRow 19 = .ok (.iload_n 2, 1) := by decide +kernel
theorem dX8_noteRow_20 : decode cX8_noteRow 20 = .ok (.aload_n 0, 1) := by decide +kernel
theorem dX8_noteRow_21 : decode cX8_noteRow 21 = .ok (.getfield 128, 3) := by decide +kernel
theorem dX8_noteRow_24 : decode cX8_noteRow 24 = .ok (.if_icmp .le 38, 3) := by decide +kernel
theorem dX8_noteRow_27 : decode cX8_noteRow 27 = .ok (.aload_n 0, 1) := by decide +kernel
theorem dX8_noteRow_28 : decode cX8_noteRow 28 = .ok (.iload_n 2, 1) := by decide +kernel
theorem dX8_noteRow_29 : decode cX8_noteRow 29 = .ok (.putfield 128, 3) := by decide +kernel
theorem dX8_noteRow_32 : decode cX8_noteRow 32 = .ok (.aload_n 0, 1) := by decide +kernel
theorem dX8_noteRow_33 : decode cX8_noteRow 33 = .ok (.iload_n 1, 1) := by decide +kernel
theorem dX8_noteRow_34 : decode cX8_noteRow 34 = .ok (.putfield 125, 3) := by decide +kernel
theorem dX8_noteRow_37 : decode cX8_noteRow 37 = .ok (.iconst 0, 1) := by decide +kernel
theorem dX8_noteRow_38 : decode cX8_noteRow 38 = .ok (.istore_n 3, 1) := by decide +kernel
theorem dX8_noteRow_39 : decode cX8_noteRow 39 = .ok (.iload_n 3, 1) := by decide +kernel
theorem dX8_noteRow_40 : decode cX8_noteRow 40 = .ok (.iload_n 1, 1) := by decide +kernel
theorem dX8_noteRow_41 : decode cX8_noteRow 41 = .ok (.if_icmp .ge 21, 3) := by decide +kernel
theorem dX8_noteRow_44 : decode cX8_noteRow 44 = .ok (.aload_n 0, 1) := by decide +kernel
theorem dX8_noteRow_45 : decode cX8_noteRow 45 = .ok (.getfield 38, 3) := by decide +kernel
theorem dX8_noteRow_48 : decode cX8_noteRow 48 = .ok (.iload_n 3, 1) := by decide +kernel
theorem dX8_noteRow_49 : decode cX8_noteRow 49 = .ok (.aload_n 0, 1) := by decide +kernel
theorem dX8_noteRow_50 : decode cX8_noteRow 50 = .ok (.getfield 35, 3) := by decide +kernel
theorem dX8_noteRow_53 : decode cX8_noteRow 53 = .ok (.iload_n 3, 1) := by decide +kernel
theorem dX8_noteRow_54 : decode cX8_noteRow 54 = .ok (.iaload, 1) := by decide +kernel
theorem dX8_noteRow_55 : decode cX8_noteRow 55 = .ok (.iastore, 1) := by decide +kernel
theorem dX8_noteRow_56 : decode cX8_noteRow 56 = .ok (.iinc 3 1, 3) := by decide +kernel
theorem dX8_noteRow_59 : decode cX8_noteRow 59 = .ok (.goto (-20), 3) := by decide +kernel
theorem dX8_noteRow_62 : decode cX8_noteRow 62 = .ok (.return_, 1) := by decide +kernel
set_option maxRecDepth 20000 in
theorem ggX8_search_X8_lay : GoodIn wsX8_search wsX8_lay := goodIn_r _ [9, 10, 71, 72, 73, 74, 75, 76, 77, 78, 79, 80, 81, 82, 83, 84, 85, 86, 87] rfl (by decide +kernel)
set_option maxRecDepth 20000 in
theorem gX8_search_X8_lay : GoodIn wsX8_search (wsV RX8 99 RX8 yX8_lay wsX8_lay) := goodIn_app (goodIn_of _ (by decide +kernel)) ggX8_search_X8_lay
set_option maxRecDepth 20000 in
theorem ggX8_search_X8_hits : GoodIn wsX8_search wsX8_hits := goodIn_r _ [14, 10, 15, 16, 17, 18, 8, 19, 20, 21, 22, 23, 24, 25, 26, 27, 28, 29, 30, 31, 32, 33, 34, 35, 36, 37, 38, 39, 40, 41, 42, 43, 44, 45, 46, 47, 48, 49, 50, 51, 52, 53, 54, 55, 56, 71, 72, 73, 74, 75, 76, 77, 78, 79, 80, 81, 82, 83, 84, 85, 86, 87] rfl (by decide +kernel)
set_option maxRecDepth 20000 in
theorem gX8_search_X8_hits : GoodIn wsX8_search (wsV RX8 131 RX8 yX8_hits wsX8_hits) := goodIn_app (goodIn_of _ (by decide +kernel)) ggX8_search_X8_hits
set_option maxRecDepth 20000 in
theorem ggX8_search_X8_keepState : GoodIn wsX8_search wsX8_keepState := goodIn_r _ [60, 61, 10, 71, 72, 73, 74, 75, 76, 77, 78, 79, 80, 81, 82, 83, 84, 85, 86, 87] rfl (by decide +kernel)
set_option maxRecDepth 20000 in
theorem gX8_search_X8_keepState : GoodIn wsX8_search (wsV RX8 135 RX8 yX8_keepState wsX8_keepState) := goodIn_app (goodIn_of _ (by decide +kernel)) ggX8_search_X8_keepState
set_option maxRecDepth 20000 in
theorem ggX8_search_X8_noteRow : GoodIn wsX8_search wsX8_noteRow := goodIn_r _ [65, 10, 1, 2, 66, 3, 71, 72, 73, 74, 75, 76, 77, 78, 79, 80, 81, 82, 83, 84, 85, 86, 87] rfl (by decide +kernel)
set_option maxRecDepth 20000 in
theorem gX8_search_X8_noteRow : GoodIn wsX8_search (wsV RX8 138 RX8 yX8_noteRow wsX8_noteRow) := goodIn_app (goodIn_of _ (by decide +kernel)) ggX8_search_X8_noteRow
set_option maxRecDepth 20000 in
theorem ggX8_search_X8_fetch : GoodIn wsX8_search wsX8_fetch := goodIn_r _ [70, 10, 61, 71, 72, 73, 74, 75, 76, 77, 78, 79, 80, 81, 82, 83, 84, 85, 86, 87] rfl (by decide +kernel)
set_option maxRecDepth 20000 in
theorem gX8_search_X8_fetch : GoodIn wsX8_search (wsV RX8 141 RX8 yX8_fetch wsX8_fetch) := goodIn_app (goodIn_of _ (by decide +kernel)) ggX8_search_X8_fetch
theorem dX8_search_0 : decode cX8_search 0 = .ok (.aload_n 0, 1) := by decide +kernel
theorem dX8_search_1 : decode cX8_search 1 = .ok (.iconst 0, 1) := by decide +kernel
theorem dX8_search_2 : decode cX8_search 2 = .ok (.putfield 125, 3) := by decide +kernel
theorem dX8_search_5 : decode cX8_search 5 = .ok (.aload_n 0, 1) := by decide +kernel
theorem dX8_search_6 : decode cX8_search 6 = .ok (.iconst 0, 1) := by decide +kernel
theorem dX8_search_7 : decode cX8_search 7 = .ok (.putfield 128, 3) := by decide +kernel
theorem dX8_search_10 : decode cX8_search 10 = .ok (.aload_n 0, 1) := by decide +kernel
theorem dX8_search_11 : decode cX8_search 11 = .ok (.sipush 290, 3) := by decide +kernel
theorem dX8_search_14 : decode cX8_search 14 = .ok (.sipush 310, 3) := by decide +kernel
theorem dX8_search_17 : decode cX8_search 17 = .ok (.iload_n 3, 1) := by decide +kernel
