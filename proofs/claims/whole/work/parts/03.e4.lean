set_option maxRecDepth 20000 in
theorem ggX8_punish_X8_lossBy : GoodIn wsX8_punish wsX8_lossBy := goodIn_r _ [18, 19, 20, 21, 22, 4, 23, 24, 25, 26, 27, 28, 29, 30, 31, 32, 33, 34, 35, 36, 37, 38, 39, 40, 41, 42, 43, 44, 45, 46, 47, 48, 49, 50, 51, 52, 53, 54, 55, 56, 57, 58, 59, 60, 61, 62, 63, 64, 65, 66, 67, 68, 69, 70, 71, 72, 73, 74, 75, 76, 77, 78, 79, 80, 81, 82, 83, 84, 85, 86] rfl (by decide +kernel)
set_option maxRecDepth 20000 in
theorem gX8_punish_X8_lossBy : GoodIn wsX8_punish (wsV RX8 121 RX8 yX8_lossBy wsX8_lossBy) := goodIn_app (goodIn_of _ (by decide +kernel)) ggX8_punish_X8_lossBy
theorem dX8_punish_0 : decode cX8_punish 0 = .ok (.aload_n 0, 1) := by decide +kernel
theorem dX8_punish_1 : decode cX8_punish 1 = .ok (.aload_n 0, 1) := by decide +kernel
theorem dX8_punish_2 : decode cX8_punish 2 = .ok (.iload_n 1, 1) := by decide +kernel
theorem dX8_punish_3 : decode cX8_punish 3 = .ok (.invokevirtual 59, 3) := by decide +kernel
theorem dX8_punish_6 : decode cX8_punish 6 = .ok (.ifCond .eq 15, 3) := by decide +kernel
theorem dX8_punish_9 : decode cX8_punish 9 = .ok (.aload_n 0, 1) := by decide +kernel
theorem dX8_punish_10 : decode cX8_punish 10 = .ok (.iload_n 2, 1) := by decide +kernel
theorem dX8_punish_11 : decode cX8_punish 11 = .ok (.invokevirtual 59, 3) := by decide +kernel
theorem dX8_punish_14 : decode cX8_punish 14 = .ok (.ifCond .eq 7, 3) := by decide +kernel
theorem dX8_punish_17 : decode cX8_punish 17 = .ok (.iconst 0, 1) := by decide +kernel
theorem dX8_punish_18 : decode cX8_punish 18 = .ok (.goto 4, 3) := by decide +kernel
theorem dX8_punish_21 : decode cX8_punish 21 = .ok (.iconst 1, 1) := by decide +kernel
theorem dX8_punish_22 : decode cX8_punish 22 = .ok (.invokevirtual 55, 3) := by decide +kernel
theorem dX8_punish_25 : decode cX8_punish 25 = .ok (.ifCond .ne 5, 3) := by decide +kernel
theorem dX8_punish_28 : decode cX8_punish 28 = .ok (.iconst 0, 1) := by decide +kernel
theorem dX8_punish_29 : decode cX8_punish 29 = .ok (.ireturn, 1) := by decide +kernel
theorem dX8_punish_30 : decode cX8_punish 30 = .ok (.aload_n 0, 1) := by decide +kernel
theorem dX8_punish_31 : decode cX8_punish 31 = .ok (.iload_n 1, 1) := by decide +kernel
theorem dX8_punish_32 : decode cX8_punish 32 = .ok (.iload_n 2, 1) := by decide +kernel
theorem dX8_punish_33 : decode cX8_punish 33 = .ok (.iconst 2, 1) := by decide +kernel
theorem dX8_punish_34 : decode cX8_punish 34 = .ok (.invokevirtual 121, 3) := by decide +kernel
theorem dX8_punish_37 : decode cX8_punish 37 = .ok (.istore_n 3, 1) := by decide +kernel
theorem dX8_punish_38 : decode cX8_punish 38 = .ok (.aload_n 0, 1) := by decide +kernel
theorem dX8_punish_39 : decode cX8_punish 39 = .ok (.iload_n 1, 1) := by decide +kernel
theorem dX8_punish_40 : decode cX8_punish 40 = .ok (.iload_n 2, 1) := by decide +kernel
theorem dX8_punish_41 : decode cX8_punish 41 = .ok (.iconst 4, 1) := by decide +kernel
theorem dX8_punish_42 : decode cX8_punish 42 = .ok (.invokevirtual 121, 3) := by decide +kernel
theorem dX8_punish_45 : decode cX8_punish 45 = .ok (.istore 4, 2) := by decide +kernel
theorem dX8_punish_47 : decode cX8_punish 47 = .ok (.iload_n 3, 1) := by decide +kernel
theorem dX8_punish_48 : decode cX8_punish 48 = .ok (.iload 4, 2) := by decide +kernel
theorem dX8_punish_50 : decode cX8_punish 50 = .ok (.if_icmp .ge 7, 3) := by decide +kernel
theorem dX8_punish_53 : decode cX8_punish 53 = .ok (.iload_n 3, 1) := by decide +kernel
theorem dX8_punish_54 : decode cX8_punish 54 = .ok (.goto 5, 3) := by decide +kernel
theorem dX8_punish_57 : decode cX8_punish 57 = .ok (.iload 4, 2) := by decide +kernel
theorem dX8_punish_59 : decode cX8_punish 59 = .ok (.istore 5, 2) := by decide +kernel
theorem dX8_punish_61 : decode cX8_punish 61 = .ok (.iload 5, 2) := by decide +kernel
theorem dX8_punish_63 : decode cX8_punish 63 = .ok (.ifCond .ge 7, 3) := by decide +kernel
theorem dX8_punish_66 : decode cX8_punish 66 = .ok (.iconst 0, 1) := by decide +kernel
theorem dX8_punish_67 : decode cX8_punish 67 = .ok (.goto 5, 3) := by decide +kernel
theorem dX8_punish_70 : decode cX8_punish 70 = .ok (.iload 5, 2) := by decide +kernel
theorem dX8_punish_72 : decode cX8_punish 72 = .ok (.ireturn, 1) := by decide +kernel
theorem dX8_keepState_0 : decode cX8_keepState 0 = .ok (.iconst 0, 1) := by decide +kernel
theorem dX8_keepState_1 : decode cX8_keepState 1 = .ok (.istore_n 2, 1) := by decide +kernel
theorem dX8_keepState_2 : decode cX8_keepState 2 = .ok (.iload_n 2, 1) := by decide +kernel
theorem dX8_keepState_3 : decode cX8_keepState 3 = .ok (.bipush 22, 2) := by decide +kernel
theorem dX8_keepState_5 : decode cX8_keepState 5 = .ok (.if_icmp .ge 26, 3) := by decide +kernel
theorem dX8_keepState_8 : decode cX8_keepState 8 = .ok (.aload_n 0, 1) := by decide +kernel
theorem dX8_keepState_9 : decode cX8_keepState 9 = .ok (.getfield 19, 3) := by decide +kernel
theorem dX8_keepState_12 : decode cX8_keepState 12 = .ok (.bipush 22, 2) := by decide +kernel
theorem dX8_keepState_14 : decode cX8_keepState 14 = .ok (.iload_n 1, 1) := by decide +kernel
theorem dX8_keepState_15 : decode cX8_keepState 15 = .ok (.imul, 1) := by decide +kernel
theorem dX8_keepState_16 : decode cX8_keepState 16 = .ok (.iload_n 2, 1) := by decide +kernel
theorem dX8_keepState_17 : decode cX8_keepState 17 = .ok (.iadd, 1) := by decide +kernel
theorem dX8_keepState_18 : decode cX8_keepState 18 = .ok (.aload_n 0, 1) := by decide +kernel
theorem dX8_keepState_19 : decode cX8_keepState 19 = .ok (.getfield 13, 3) := by decide +kernel
theorem dX8_keepState_22 : decode cX8_keepState 22 = .ok (.iload_n 2, 1) := by decide +kernel
theorem dX8_keepState_23 : decode cX8_keepState 23 = .ok (.iaload, 1) := by decide +kernel
theorem dX8_keepState_24 : decode cX8_keepState 24 = .ok (.iastore, 1) := by decide +kernel
theorem dX8_keepState_25 : decode cX8_keepState 25 = .ok (.iinc 2 1, 3) := by decide +kernel
theorem dX8_keepState_28 : decode cX8_keepState 28 = .ok (.goto (-26), 3) := by decide +kernel
theorem dX8_keepState_31 : decode cX8_keepState 31 = .ok (.return_, 1) := by decide +kernel
theorem dX8_fetch_0 : decode cX8_fetch 0 = .ok (.iconst 0, 1) := by decide +kernel
theorem dX8_fetch_1 : decode cX8_fetch 1 = .ok (.istore_n 2, 1) := by decide +kernel
theorem dX8_fetch_2 : decode cX8_fetch 2 = .ok (.iload_n 2, 1) := by decide +kernel
theorem dX8_fetch_3 : decode cX8_fetch 3 = .ok (.bipush 22, 2) := by decide +kernel
theorem dX8_fetch_5 : decode cX8_fetch 5 = .ok (.if_icmp .ge 26, 3) := by decide +kernel
theorem dX8_fetch_8 : decode cX8_fetch 8 = .ok (.aload_n 0, 1) := by decide +kernel
theorem dX8_fetch_9 : decode cX8_fetch 9 = .ok (.getfield 13, 3) := by decide +kernel
theorem dX8_fetch_12 : decode cX8_fetch 12 = .ok (.iload_n 2, 1) := by decide +kernel
theorem dX8_fetch_13 : decode cX8_fetch 13 = .ok (.aload_n 0, 1) := by decide +kernel
theorem dX8_fetch_14 : decode cX8_fetch 14 = .ok (.getfield 19, 3) := by decide +kernel
theorem dX8_fetch_17 : decode cX8_fetch 17 = .ok (.bipush 22, 2) := by decide +kernel
theorem dX8_fetch_19 : decode cX8_fetch 19 = .ok (.iload_n 1, 1) := by decide +kernel
theorem dX8_fetch_20 : decode cX8_fetch 20 = .ok (.imul, 1) := by decide +kernel
theorem dX8_fetch_21 : decode cX8_fetch 21 = .ok (.iload_n 2, 1) := by decide +kernel
theorem dX8_fetch_22 : decode cX8_fetch 22 = .ok (.iadd, 1) := by decide +kernel
theorem dX8_fetch_23 : decode cX8_fetch 23 = .ok (.iaload, 1) := by decide +kernel
theorem dX8_fetch_24 : decode cX8_fetch 24 = .ok (.iastore, 1) := by decide +kernel
theorem dX8_fetch_25 : decode cX8_fetch 25 = .ok (.iinc 2 1, 3) := by decide +kernel
theorem dX8_fetch_28 : decode cX8_fetch 28 = .ok (.goto (-26), 3) := by decide +kernel
theorem dX8_fetch_31 : decode cX8_fetch 31 = .ok (.return_, 1) := by decide +kernel
set_option maxRecDepth 20000 in
theorem ggX8_hits_X8_frame : GoodIn wsX8_hits wsX8_frame := goodIn_r _ [7, 2, 8, 9, 10, 6, 11, 1, 12, 13, 14, 15, 16, 17, 18, 19, 20, 21, 22, 23, 24, 25, 26, 27, 28, 29, 30, 31, 32, 33, 34, 35, 36, 37, 38, 39, 40, 41, 42, 43, 44, 45, 46, 47, 48, 49, 50, 51, 52, 53, 54, 55, 56, 57, 58, 59, 60, 61] rfl (by decide +kernel)
set_option maxRecDepth 20000 in
theorem gX8_hits_X8_frame : GoodIn wsX8_hits (wsV RX8 112 RX8 yX8_frame wsX8_frame) := goodIn_app (goodIn_of _ (by decide +kernel)) ggX8_hits_X8_frame
theorem dX8_hits_0 : decode cX8_hits 0 = .ok (.aload_n 0, 1) := by decide +kernel
theorem dX8_hits_1 : decode cX8_hits 1 = .ok (.getfield 13, 3) := by decide +kernel
theorem dX8_hits_4 : decode cX8_hits 4 = .ok (.bipush 17, 2) := by decide +kernel
theorem dX8_hits_6 : decode cX8_hits 6 = .ok (.iaload, 1) := by decide +kernel
theorem dX8_hits_7 : decode cX8_hits 7 = .ok (.istore_n 3, 1) := by decide +kernel
theorem dX8_hits_8 : decode cX8_hits 8 = .ok (.iconst 0, 1) := by decide +kernel
theorem dX8_hits_9 : decode cX8_hits 9 = .ok (.istore 4, 2) := by decide +kernel
theorem dX8_hits_11 : decode cX8_hits 11 = .ok (.iconst 0, 1) := by decide +kernel
theorem dX8_hits_12 : decode cX8_hits 12 = .ok (.istore 5, 2) := by decide +kernel
theorem dX8_hits_14 : decode cX8_hits 14 = .ok (.iload 5, 2) := by decide +kernel
theorem dX8_hits_16 : decode cX8_hits 16 = .ok (.bipush 60, 2) := by decide +kernel
theorem dX8_hits_18 : decode cX8_hits 18 = .ok (.if_icmp .ge 83, 3) := by decide +kernel
theorem dX8_hits_21 : decode cX8_hits 21 = .ok (.aload_n 0, 1) := by decide +kernel
theorem dX8_hits_22 : decode cX8_hits 22 = .ok (.iload 4, 2) := by decide +kernel
theorem dX8_hits_24 : decode cX8_hits 24 = .ok (.ifCond .ne 12, 3) := by decide +kernel
theorem dX8_hits_27 : decode cX8_hits 27 = .ok (.iload_n 2, 1) := by decide +kernel
theorem dX8_hits_28 : decode cX8_hits 28 = .ok (.ifCond .eq 12, 3) := by decide +kernel
theorem dX8_hits_31 : decode cX8_hits 31 = .ok (.iload 5, 2) := by decide +kernel
theorem dX8_hits_33 : decode cX8_hits 33 = .ok (.ifCond .le 7, 3) := by decide +kernel
theorem dX8_hits_36 : decode cX8_hits 36 = .ok (.iconst 0, 1) := by decide +kernel
theorem dX8_hits_37 : decode cX8_hits 37 = .ok (.goto 7, 3) := by decide +kernel
theorem dX8_hits_40 : decode cX8_hits 40 = .ok (.bipush 10, 2) := by decide +kernel
theorem dX8_hits_42 : decode cX8_hits 42 = .ok (.iload_n 1, 1) := by decide +kernel
theorem dX8_hits_43 : decode cX8_hits 43 = .ok (.iadd, 1) := by decide +kernel
theorem dX8_hits_44 : decode cX8_hits 44 = .ok (.iconst 0, 1) := by decide +kernel
theorem dX8_hits_45 : decode cX8_hits 45 = .ok (.invokevirtual 112, 3) := by decide +kernel
theorem dX8_hits_48 : decode cX8_hits 48 = .ok (.iload 4, 2) := by decide +kernel
theorem dX8_hits_50 : decode cX8_hits 50 = .ok (.ifCond .ne 10, 3) := by decide +kernel
theorem dX8_hits_53 : decode cX8_hits 53 = .ok (.aload_n 0, 1) := by decide +kernel
theorem dX8_hits_54 : decode cX8_hits 54 = .ok (.getfield 83, 3) := by decide +kernel
theorem dX8_hits_57 : decode cX8_hits 57 = .ok (.ifCond .eq 7, 3) := by decide +kernel
theorem dX8_hits_60 : decode cX8_hits 60 = .ok (.iconst 1, 1) := by decide +kernel
theorem dX8_hits_61 : decode cX8_hits 61 = .ok (.goto 4, 3) := by decide +kernel
theorem dX8_hits_64 : decode cX8_hits 64 = .ok (.iconst 0, 1) := by decide +kernel
theorem dX8_hits_65 : decode cX8_hits 65 = .ok (.istore 4, 2) := by decide +kernel
theorem dX8_hits_67 : decode cX8_hits 67 = .ok (.aload_n 0, 1) := by decide +kernel
theorem dX8_hits_68 : decode cX8_hits 68 = .ok (.getfield 13, 3) := by decide +kernel
theorem dX8_hits_71 : decode cX8_hits 71 = .ok (.bipush 17, 2) := by decide +kernel
theorem dX8_hits_73 : decode cX8_hits 73 = .ok (.iaload, 1) := by decide +kernel
theorem dX8_hits_74 : decode cX8_hits 74 = .ok (.iload_n 3, 1) := by decide +kernel
theorem dX8_hits_75 : decode cX8_hits 75 = .ok (.if_icmp .eq 20, 3) := by decide +kernel
theorem dX8_hits_78 : decode cX8_hits 78 = .ok (.aload_n 0, 1) := by decide +kernel
theorem dX8_hits_79 : decode cX8_hits 79 = .ok (.getfield 13, 3) := by decide +kernel
theorem dX8_hits_82 : decode cX8_hits 82 = .ok (.bipush 17, 2) := by decide +kernel
theorem dX8_hits_84 : decode cX8_hits 84 = .ok (.iaload, 1) := by decide +kernel
theorem dX8_hits_85 : decode cX8_hits 85 = .ok (.iload_n 3, 1) := by decide +kernel
theorem dX8_hits_86 : decode cX8_hits 86 = .ok (.if_icmp .le 7, 3) := by decide +kernel
theorem dX8_hits_89 : decode cX8_hits 89 = .ok (.iconst 1, 1) := by decide +kernel
theorem dX8_hits_90 : decode cX8_hits 90 = .ok (.goto 4, 3) := by decide +kernel
theorem dX8_hits_93 : decode cX8_hits 93 = .ok (.iconst 0, 1) := by decide +kernel
theorem dX8_hits_94 : decode cX8_hits 94 = .ok (.ireturn, 1) := by decide +kernel
theorem dX8_hits_95 : decode cX8_hits 95 = .ok (.iinc 5 1, 3) := by decide +kernel
theorem dX8_hits_98 : decode cX8_hits 98 = .ok (.goto (-84), 3) := by decide +kernel
theorem dX8_hits_101 : decode cX8_hits 101 = .ok (.iconst 0, 1) := by decide +kernel
theorem dX8_hits_102 : decode cX8_hits 102 = .ok (.ireturn, 1) := by decide +kernel
theorem dX8_noteRow_0 : decode cX8_noteRow 0 = .ok (.sipush 1000, 3) := by decide +kernel
theorem dX8_noteRow_3 : decode cX8_noteRow 3 = .ok (.aload_n 0, 1) := by decide +kernel
theorem dX8_noteRow_4 : decode cX8_noteRow 4 = .ok (.getfield 13, 3) := by decide +kernel
theorem dX8_noteRow_7 : decode cX8_noteRow 7 = .ok (.bipush 12, 2) := by decide +kernel
theorem dX8_noteRow_9 : decode cX8_noteRow 9 = .ok (.iaload, 1) := by decide +kernel
theorem dX8_noteRow_10 : decode cX8_noteRow 10 = .ok (.isub, 1) := by decide +kernel
theorem dX8_noteRow_11 : decode cX8_noteRow 11 = .ok (.istore_n 2, 1) := by decide +kernel
theorem dX8_noteRow_12 : decode cX8_noteRow 12 = .ok (.aload_n 0, 1) := by decide +kernel
theorem dX8_noteRow_13 : decode cX8_noteRow 13 = .ok (.getfield 125, 3) := by decide +kernel
theorem dX8_noteRow_16 : decode cX8_noteRow 16 = .ok (.ifCond .eq 11, 3) := by decide +kernel
theorem dX8_noteRow_19 : decode cX8_noteRow 19 = .ok (.iload_n 2, 1) := by decide +kernel
theorem dX8_noteRow_20 : decode cX8_noteRow 20 = .ok (.aload_n 0, 1) := by decide +kernel
theorem dX8_noteRow_21 : decode cX8_noteRow 21 = .ok (.getfield 128, 3) := by decide +kernel
theorem dX8_noteRow_24 : decode cX8_noteRow 24 = .ok (.if_icmp .le 38, 3) := by decide +kernel
theorem dX8_noteRow_27 : decode cX8_noteRow 27 = .ok (.aload_n 0, 1) := by decide +kernel
theorem dX8_noteRow_28 : decode cX8_noteRow 28 = .ok (.iload_n 2, 1) := by decide +kernel
theorem dX8_noteRow_29 : decode cX8_noteRow 29 = .ok (.putfield 128, 3) := by decide +kernel
theorem dX8_noteRow_32 : decode cX8_noteRow 32 = .ok (.aload_n 0, 1) := by decide +kernel
theorem dX8_noteRow_33 : decode cX8_noteRow 33 = .ok (.iload_n 1, 1) := by decide +kernel
theorem dX8_noteRow_34 : decode cX8_noteRow 34 = .ok (.putfield 125, 3) := by decide +kernel
theorem dX8_noteRow_37 : decode cX8_noteRow 37 = .ok (.iconst 0, 1) := by decide +kernel
theorem dX8_noteRow_38 : decode cX8_noteRow 38 = .ok (.istore_n 3, 1) := by decide +kernel
theorem dX8_noteRow_39 : decode cX8_noteRow 39 = .ok (.iload_n 3, 1) := by decide +kernel
theorem dX8_noteRow_40 : decode cX8_noteRow 40 = .ok (.iload_n 1, 1) := by decide +kernel
theorem dX8_noteRow_41 : decode cX8_noteRow 41 = .ok (.if_icmp .ge 21, 3) := by decide +kernel
theorem dX8_noteRow_44 : decode cX8_noteRow 44 = .ok (.aload_n 0, 1) := by decide +kernel
theorem dX8_noteRow_45 : decode cX8_noteRow 45 = .ok (.getfield 38, 3) := by decide +kernel
theorem dX8_noteRow_48 : decode cX8_noteRow 48 = .ok (.iload_n 3, 1) := by decide +kernel
theorem dX8_noteRow_49 : decode cX8_noteRow 49 = .ok (.aload_n 0, 1) := by decide +kernel
theorem dX8_noteRow_50 : decode cX8_noteRow 50 = .ok (.getfield 35, 3) := by decide +kernel
theorem dX8_noteRow_53 : decode cX8_noteRow 53 = .ok (.iload_n 3, 1) := by decide +kernel
theorem dX8_noteRow_54 : decode cX8_noteRow 54 = .ok (.iaload, 1) := by decide +kernel
theorem dX8_noteRow_55 : decode cX8_noteRow 55 = .ok (.iastore, 1) := by decide +kernel
theorem dX8_noteRow_56 : decode cX8_noteRow 56 = .ok (.iinc 3 1, 3) := by decide +kernel
theorem dX8_noteRow_59 : decode cX8_noteRow 59 = .ok (.goto (-20), 3) := by decide +kernel
theorem dX8_noteRow_62 : decode cX8_noteRow 62 = .ok (.return_, 1) := by decide +kernel
set_option maxRecDepth 20000 in
theorem ggX8_search_X8_lay : GoodIn wsX8_search wsX8_lay := goodIn_r _ [9, 10, 71, 72, 73, 74, 75, 76, 77, 78, 79, 80, 81, 82, 83, 84, 85, 86, 87] rfl (by decide +kernel)
set_option maxRecDepth 20000 in
theorem gX8_search_X8_lay : GoodIn wsX8_search (wsV RX8 99 RX8 yX8_lay wsX8_lay) := goodIn_app (goodIn_of _ (by decide +kernel)) ggX8_search_X8_lay
set_option maxRecDepth 20000 in
theorem ggX8_search_X8_hits : GoodIn wsX8_search wsX8_hits := goodIn_r _ [14, 10, 15, 16, 17, 18, 8, 19, 20, 21, 22, 23, 24, 25, 26, 27, 28, 29, 30, 31, 32, 33, 34, 35, 36, 37, 38, 39, 40, 41, 42, 43, 44, 45, 46, 47, 48, 49, 50, 51, 52, 53, 54, 55, 56, 71, 72, 73, 74, 75, 76, 77, 78, 79, 80, 81, 82, 83, 84, 85, 86, 87] rfl (by decide +kernel)
set_option maxRecDepth 20000 in
theorem gX8_search_X8_hits : GoodIn wsX8_search (wsV RX8 131 RX8 yX8_hits wsX8_hits) := goodIn_app (goodIn_of _ (by decide +kernel)) ggX8_search_X8_hits
set_option maxRecDepth 20000 in
theorem ggX8_search_X8_keepState : GoodIn wsX8_search wsX8_keepState := goodIn_r _ [60, 61, 10, 71, 72, 73, 74, 75, 76, 77, 78, 79, 80, 81, 82, 83, 84, 85, 86, 87] rfl (by decide +kernel)
set_option maxRecDepth 20000 in
theorem gX8_search_X8_keepState : GoodIn wsX8_search (wsV RX8 135 RX8 yX8_keepState wsX8_keepState) := goodIn_app (goodIn_of _ (by decide +kernel)) ggX8_search_X8_keepState
set_option maxRecDepth 20000 in
theorem ggX8_search_X8_noteRow : GoodIn wsX8_search wsX8_noteRow := goodIn_r _ [65, 10, 1, 2, 66, 3, 71, 72, 73, 74, 75, 76, 77, 78, 79, 80, 81, 82, 83, 84, 85, 86, 87] rfl (by decide +kernel)
set_option maxRecDepth 20000 in
theorem gX8_search_X8_noteRow : GoodIn wsX8_search (wsV RX8 138 RX8 yX8_noteRow wsX8_noteRow) := goodIn_app (goodIn_of _ (by decide +kernel)) ggX8_search_X8_noteRow
set_option maxRecDepth 20000 in
theorem ggX8_search_X8_fetch : GoodIn wsX8_search wsX8_fetch := goodIn_r _ [70, 10, 61, 71, 72, 73, 74, 75, 76, 77, 78, 79, 80, 81, 82, 83, 84, 85, 86, 87] rfl (by decide +kernel)
set_option maxRecDepth 20000 in
theorem gX8_search_X8_fetch : GoodIn wsX8_search (wsV RX8 141 RX8 yX8_fetch wsX8_fetch) := goodIn_app (goodIn_of _ (by decide +kernel)) ggX8_search_X8_fetch
theorem dX8_search_0 : decode cX8_search 0 = .ok (.aload_n 0, 1) := by decide +kernel
theorem dX8_search_1 : decode cX8_search 1 = .ok (.iconst 0, 1) := by decide +kernel
theorem dX8_search_2 : decode cX8_search 2 = .ok (.putfield 125, 3) := by decide +kernel
theorem dX8_search_5 : decode cX8_search 5 = .ok (.aload_n 0, 1) := by decide +kernel
theorem dX8_search_6 : decode cX8_search 6 = .ok (.iconst 0, 1) := by decide +kernel
theorem dX8_search_7 : decode cX8_search 7 = .ok (.putfield 128, 3) := by decide +kernel
theorem dX8_search_10 : decode cX8_search 10 = .ok (.aload_n 0, 1) := by decide +kernel
theorem dX8_search_11 : decode cX8_search 11 = .ok (.sipush 290, 3) := by decide +kernel
theorem dX8_search_14 : decode cX8_search 14 = .ok (.sipush 310, 3) := by decide +kernel
theorem dX8_search_17 : decode cX8_search 17 = .ok (.iload_n 3, 1) := by decide +kernel
theorem dX8_search_18 : decode cX8_search 18 = .ok (.bipush 100, 2) := by decide +kernel
theorem dX8_search_20 : decode cX8_search 20 = .ok (.invokevirtual 99, 3) := by decide +kernel
theorem dX8_search_23 : decode cX8_search 23 = .ok (.aload_n 0, 1) := by decide +kernel
theorem dX8_search_24 : decode cX8_search 24 = .ok (.iload_n 1, 1) := by decide +kernel
theorem dX8_search_25 : decode cX8_search 25 = .ok (.iconst 1, 1) := by decide +kernel
theorem dX8_search_26 : decode cX8_search 26 = .ok (.invokevirtual 131, 3) := by decide +kernel
theorem dX8_search_29 : decode cX8_search 29 = .ok (.ifCond .ne 4, 3) := by decide +kernel
theorem dX8_search_32 : decode cX8_search 32 = .ok (.return_, 1) := by decide +kernel
theorem dX8_search_33 : decode cX8_search 33 = .ok (.aload_n 0, 1) := by decide +kernel
theorem dX8_search_34 : decode cX8_search 34 = .ok (.getfield 35, 3) := by decide +kernel
theorem dX8_search_37 : decode cX8_search 37 = .ok (.iconst 0, 1) := by decide +kernel
theorem dX8_search_38 : decode cX8_search 38 = .ok (.iload_n 1, 1) := by decide +kernel
theorem dX8_search_39 : decode cX8_search 39 = .ok (.iastore, 1) := by decide +kernel
theorem dX8_search_40 : decode cX8_search 40 = .ok (.aload_n 0, 1) := by decide +kernel
theorem dX8_search_41 : decode cX8_search 41 = .ok (.iconst 1, 1) := by decide +kernel
theorem dX8_search_42 : decode cX8_search 42 = .ok (.invokevirtual 135, 3) := by decide +kernel
theorem dX8_search_45 : decode cX8_search 45 = .ok (.aload_n 0, 1) := by decide +kernel
theorem dX8_search_46 : decode cX8_search 46 = .ok (.iconst 1, 1) := by decide +kernel
theorem dX8_search_47 : decode cX8_search 47 = .ok (.invokevirtual 138, 3) := by decide +kernel
theorem dX8_search_50 : decode cX8_search 50 = .ok (.iconst 1, 1) := by decide +kernel
theorem dX8_search_51 : decode cX8_search 51 = .ok (.istore 4, 2) := by decide +kernel
theorem dX8_search_53 : decode cX8_search 53 = .ok (.iconst 0, 1) := by decide +kernel
theorem dX8_search_54 : decode cX8_search 54 = .ok (.istore 5, 2) := by decide +kernel
theorem dX8_search_56 : decode cX8_search 56 = .ok (.iload 4, 2) := by decide +kernel
theorem dX8_search_58 : decode cX8_search 58 = .ok (.ifCond .le 96, 3) := by decide +kernel
theorem dX8_search_61 : decode cX8_search 61 = .ok (.iload 4, 2) := by decide +kernel
theorem dX8_search_63 : decode cX8_search 63 = .ok (.iload_n 2, 1) := by decide +kernel
theorem dX8_search_64 : decode cX8_search 64 = .ok (.if_icmp .eq 12, 3) := by decide +kernel
theorem dX8_search_67 : decode cX8_search 67 = .ok (.iload 5, 2) := by decide +kernel
theorem dX8_search_69 : decode cX8_search 69 = .ok (.aload_n 0, 1) := by decide +kernel
theorem dX8_search_70 : decode cX8_search 70 = .ok (.getfield 44, 3) := by decide +kernel
theorem dX8_search_73 : decode cX8_search 73 = .ok (.if_icmp .ne 29, 3) := by decide +kernel
theorem dX8_search_76 : decode cX8_search 76 = .ok (.iinc 4 (-1), 3) := by decide +kernel
theorem dX8_search_79 : decode cX8_search 79 = .ok (.iload 4, 2) := by decide +kernel
theorem dX8_search_81 : decode cX8_search 81 = .ok (.ifCond .le 15, 3) := by decide +kernel
theorem dX8_search_84 : decode cX8_search 84 = .ok (.aload_n 0, 1) := by decide +kernel
theorem dX8_search_85 : decode cX8_search 85 = .ok (.getfield 35, 3) := by decide +kernel
theorem dX8_search_88 : decode cX8_search 88 = .ok (.iload 4, 2) := by decide +kernel
theorem dX8_search_90 : decode cX8_search 90 = .ok (.iaload, 1) := by decide +kernel
theorem dX8_search_91 : decode cX8_search 91 = .ok (.iconst 1, 1) := by decide +kernel
theorem dX8_search_92 : decode cX8_search 92 = .ok (.iadd, 1) := by decide +kernel
theorem dX8_search_93 : decode cX8_search 93 = .ok (.goto 4, 3) := by decide +kernel
theorem dX8_search_96 : decode cX8_search 96 = .ok (.iconst 0, 1) := by decide +kernel
theorem dX8_search_97 : decode cX8_search 97 = .ok (.istore 5, 2) := by decide +kernel
theorem dX8_search_99 : decode cX8_search 99 = .ok (.goto (-43), 3) := by decide +kernel
theorem dX8_search_102 : decode cX8_search 102 = .ok (.aload_n 0, 1) := by decide +kernel
theorem dX8_search_103 : decode cX8_search 103 = .ok (.iload 4, 2) := by decide +kernel
theorem dX8_search_105 : decode cX8_search 105 = .ok (.invokevirtual 141, 3) := by decide +kernel
theorem dX8_search_108 : decode cX8_search 108 = .ok (.aload_n 0, 1) := by decide +kernel
theorem dX8_search_109 : decode cX8_search 109 = .ok (.iload 5, 2) := by decide +kernel
theorem dX8_search_111 : decode cX8_search 111 = .ok (.iconst 0, 1) := by decide +kernel
theorem dX8_search_112 : decode cX8_search 112 = .ok (.invokevirtual 131, 3) := by decide +kernel
theorem dX8_search_115 : decode cX8_search 115 = .ok (.ifCond .eq 33, 3) := by decide +kernel
theorem dX8_search_118 : decode cX8_search 118 = .ok (.aload_n 0, 1) := by decide +kernel
theorem dX8_search_119 : decode cX8_search 119 = .ok (.getfield 35, 3) := by decide +kernel
theorem dX8_search_122 : decode cX8_search 122 = .ok (.iload 4, 2) := by decide +kernel
theorem dX8_search_124 : decode cX8_search 124 = .ok (.iload 5, 2) := by decide +kernel
theorem dX8_search_126 : decode cX8_search 126 = .ok (.iastore, 1) := by decide +kernel
theorem dX8_search_127 : decode cX8_search 127 = .ok (.iinc 4 1, 3) := by decide +kernel
theorem dX8_search_130 : decode cX8_search 130 = .ok (.aload_n 0, 1) := by decide +kernel
theorem dX8_search_131 : decode cX8_search 131 = .ok (.iload 4, 2) := by decide +kernel
theorem dX8_search_133 : decode cX8_search 133 = .ok (.invokevirtual 135, 3) := by decide +kernel
theorem dX8_search_136 : decode cX8_search 136 = .ok (.aload_n 0, 1) := by decide +kernel
theorem dX8_search_137 : decode cX8_search 137 = .ok (.iload 4, 2) := by decide +kernel
theorem dX8_search_139 : decode cX8_search 139 = .ok (.invokevirtual 138, 3) := by decide +kernel
theorem dX8_search_142 : decode cX8_search 142 = .ok (.iconst 0, 1) := by decide +kernel
theorem dX8_search_143 : decode cX8_search 143 = .ok (.istore 5, 2) := by decide +kernel
theorem dX8_search_145 : decode cX8_search 145 = .ok (.goto (-89), 3) := by decide +kernel
theorem dX8_search_148 : decode cX8_search 148 = .ok (.iinc 5 1, 3) := by decide +kernel
theorem dX8_search_151 : decode cX8_search 151 = .ok (.goto (-95), 3) := by decide +kernel
theorem dX8_search_154 : decode cX8_search 154 = .ok (.return_, 1) := by decide +kernel
set_option maxRecDepth 20000 in
theorem ggX8_most_X8_isMove : GoodIn wsX8_most wsX8_isMove := goodIn_r _ [6, 7, 8, 9, 5, 10, 87, 88, 89, 90, 91, 92, 93, 94, 95, 96, 97, 98, 99, 100, 101, 102, 103] rfl (by decide +kernel)
set_option maxRecDepth 20000 in
theorem gX8_most_X8_isMove : GoodIn wsX8_most (wsV RX8 59 RX8 yX8_isMove wsX8_isMove) := goodIn_app (goodIn_of _ (by decide +kernel)) ggX8_most_X8_isMove
set_option maxRecDepth 20000 in
theorem ggX8_most_X8_in : GoodIn wsX8_most wsX8_in := goodIn_r _ [10] rfl (by decide +kernel)
set_option maxRecDepth 20000 in
theorem gX8_most_X8_in : GoodIn wsX8_most (va_wsS RX8 47 yX8_in wsX8_in) := goodIn_app (goodIn_of _ (by decide +kernel)) ggX8_most_X8_in
set_option maxRecDepth 20000 in
theorem ggX8_most_X8_isFine : GoodIn wsX8_most wsX8_isFine := goodIn_r _ [14, 15, 87, 88, 89, 90, 91, 92, 93, 94, 95, 96, 97, 98, 99, 100, 101, 102, 103] rfl (by decide +kernel)
set_option maxRecDepth 20000 in
theorem gX8_most_X8_isFine : GoodIn wsX8_most (wsV RX8 55 RX8 yX8_isFine wsX8_isFine) := goodIn_app (goodIn_of _ (by decide +kernel)) ggX8_most_X8_isFine
set_option maxRecDepth 20000 in
theorem ggX8_most_X8_search : GoodIn wsX8_most wsX8_search := goodIn_r _ [19, 20, 1, 21, 7, 22, 23, 24, 5, 25, 26, 27, 28, 29, 30, 31, 32, 33, 34, 35, 36, 37, 38, 39, 40, 41, 42, 43, 44, 45, 46, 47, 48, 49, 50, 51, 52, 53, 54, 55, 56, 57, 58, 59, 60, 61, 62, 63, 64, 65, 66, 67, 68, 69, 70, 71, 72, 73, 74, 75, 76, 77, 78, 79, 80, 81, 82, 83, 84, 85, 86, 87, 88, 89, 90, 91, 92, 93, 94, 95, 96, 97, 98, 99, 100, 101, 102, 103] rfl (by decide +kernel)
set_option maxRecDepth 20000 in
theorem gX8_most_X8_search : GoodIn wsX8_most (wsV RX8 144 RX8 yX8_search wsX8_search) := goodIn_app (goodIn_of _ (by decide +kernel)) ggX8_most_X8_search
theorem dX8_most_0 : decode cX8_most 0 = .ok (.aload_n 0, 1) := by decide +kernel
theorem dX8_most_1 : decode cX8_most 1 = .ok (.aload_n 0, 1) := by decide +kernel
theorem dX8_most_2 : decode cX8_most 2 = .ok (.iload_n 1, 1) := by decide +kernel
theorem dX8_most_3 : decode cX8_most 3 = .ok (.invokevirtual 59, 3) := by decide +kernel
theorem dX8_most_6 : decode cX8_most 6 = .ok (.ifCond .ne 7, 3) := by decide +kernel
theorem dX8_most_9 : decode cX8_most 9 = .ok (.iconst 1, 1) := by decide +kernel
theorem dX8_most_10 : decode cX8_most 10 = .ok (.goto 27, 3) := by decide +kernel
theorem dX8_most_13 : decode cX8_most 13 = .ok (.iload_n 2, 1) := by decide +kernel
theorem dX8_most_14 : decode cX8_most 14 = .ok (.iconst 1, 1) := by decide +kernel
theorem dX8_most_15 : decode cX8_most 15 = .ok (.iconst 4, 1) := by decide +kernel
theorem dX8_most_16 : decode cX8_most 16 = .ok (.invokestatic 47, 3) := by decide +kernel
theorem dX8_most_19 : decode cX8_most 19 = .ok (.ifCond .eq 17, 3) := by decide +kernel
theorem dX8_most_22 : decode cX8_most 22 = .ok (.iload_n 3, 1) := by decide +kernel
theorem dX8_most_23 : decode cX8_most 23 = .ok (.iconst 0, 1) := by decide +kernel
theorem dX8_most_24 : decode cX8_most 24 = .ok (.bipush 100, 2) := by decide +kernel
theorem dX8_most_26 : decode cX8_most 26 = .ok (.invokestatic 47, 3) := by decide +kernel
theorem dX8_most_29 : decode cX8_most 29 = .ok (.ifCond .eq 7, 3) := by decide +kernel
theorem dX8_most_32 : decode cX8_most 32 = .ok (.iconst 0, 1) := by decide +kernel
theorem dX8_most_33 : decode cX8_most 33 = .ok (.goto 4, 3) := by decide +kernel
theorem dX8_most_36 : decode cX8_most 36 = .ok (.iconst 2, 1) := by decide +kernel
theorem dX8_most_37 : decode cX8_most 37 = .ok (.invokevirtual 55, 3) := by decide +kernel
theorem dX8_most_40 : decode cX8_most 40 = .ok (.ifCond .ne 5, 3) := by decide +kernel
theorem dX8_most_43 : decode cX8_most 43 = .ok (.iconst 0, 1) := by decide +kernel
theorem dX8_most_44 : decode cX8_most 44 = .ok (.ireturn, 1) := by decide +kernel
theorem dX8_most_45 : decode cX8_most 45 = .ok (.aload_n 0, 1) := by decide +kernel
theorem dX8_most_46 : decode cX8_most 46 = .ok (.iload_n 1, 1) := by decide +kernel
theorem dX8_most_47 : decode cX8_most 47 = .ok (.iload_n 2, 1) := by decide +kernel
theorem dX8_most_48 : decode cX8_most 48 = .ok (.iload_n 3, 1) := by decide +kernel
theorem dX8_most_49 : decode cX8_most 49 = .ok (.invokevirtual 144, 3) := by decide +kernel
theorem dX8_most_52 : decode cX8_most 52 = .ok (.aload_n 0, 1) := by decide +kernel
theorem dX8_most_53 : decode cX8_most 53 = .ok (.getfield 128, 3) := by decide +kernel
theorem dX8_most_56 : decode cX8_most 56 = .ok (.ireturn, 1) := by decide +kernel
set_option maxRecDepth 20000 in
theorem ggX8_mostAt_X8_isMove : GoodIn wsX8_mostAt wsX8_isMove := goodIn_r _ [7, 8, 9, 10, 6, 11, 87, 88, 89, 90, 91, 92, 93, 94, 95, 96, 97, 98, 99, 100, 101, 102, 103] rfl (by decide +kernel)
