set_option maxRecDepth 20000 in
theorem ggX8_punish_X8_lossBy : GoodIn wsX8_punish wsX8_lossBy := goodIn_r _ [18, 19, 20, 21, 22, 4, 23, 24, 25, 26, 27, 28, 29, 30, 31, 32, 33, 34, 35, 36, 37, 38, 39, 40, 41, 42, 43, 44, 45, 46, 47, 48, 49, 50, 51, 52, 53, 54, 55, 56, 57, 58, 59, 60, 61, 62, 63, 64, 65, 66, 67, 68, 69, 70, 71, 72, 73, 74, 75, 76, 77, 78, 79, 80, 81, 82, 83, 84, 85, 86] rfl (by decide +kernel)
set_option maxRecDepth 20000 in
theorem gX8_punish_X8_lossBy : GoodIn wsX8_punish (wsV RX8 121 RX8 yX8_lossBy wsX8_lossBy) := goodIn_app (goodIn_of _ (by decide +kernel)) ggX8_punish_X8_lossBy
theorem dX8_punish_0 : decode cX8_punish 0 = .ok (.aload_n 0, 1) := by decide +kernel
theorem dX8_punish_1 : decode cX8_punish 1 = .ok (.aload_n 0, 1) := by decide +kernel
theorem dX8_punish_2 : decode cX8_punish 2 = .ok (.iload_n 1, 1) := by decide +kernel
theorem dX8_punish_3 : decode cX8_punish 3 = .ok (.invokevirtual 59, 3) := by decide +kernel
theorem dX8_punish_6 : decode cX8_punish 6 = .ok (.ifCond .eq 15, 3) := by decide +kernel
theorem dX8_punish_9 : decode cX8_punish 9 = .ok (.aload_n 0, 1) := by decide +kernel
theorem dX8_punish_10 : decode cX8_punish 10 = .ok (.iload_n 2, 1) := by decide +kernel
theorem dX8_punish_11 : decode cX8_punish 11 = .ok (.invokevirtual 59, 3) := by decide +kernel
theorem dX8_punish_14 : decode cX8_punish 14 = .ok (.ifCond .eq 7, 3) := by decide +kernel
theorem dX8_punish_17 : decode cX8_punish 17 = .ok (.iconst 0, 1) := by decide +kernel
theorem dX8_punish_18 : decode cX8_punish 18 = .ok (.goto 4, 3) := by decide +kernel
theorem dX8_punish_21 : decode cX8_punish 21 = .ok (.iconst 1, 1) := by decide +kernel
theorem dX8_punish_22 : decode cX8_punish 22 = .ok (.invokevirtual 55, 3) := by decide +kernel
theorem dX8_punish_25 : decode cX8_punish 25 = .ok (.ifCond .ne 5, 3) := by decide +kernel
theorem dX8_punish_28 : decode cX8_punish 28 = .ok (.iconst 0, 1) := by decide +kernel
theorem dX8_punish_29 : decode cX8_punish 29 = .ok (.ireturn, 1) := by decide +kernel
theorem dX8_punish_30 : decode cX8_punish 30 = .ok (.aload_n 0, 1) := by decide +kernel
theorem dX8_punish_31 : decode cX8_punish 31 = .ok (.iload_n 1, 1) := by decide +kernel
theorem dX8_punish_32 : decode cX8_punish 32 = .ok (.iload_n 2, 1) := by decide +kernel
theorem dX8_punish_33 : decode cX8_punish 33 = .ok (.iconst 2, 1) := by decide +kernel
theorem dX8_punish_34 : decode cX8_punish 34 = .ok (.invokevirtual 121, 3) := by decide +kernel
theorem dX8_punish_37 : decode cX8_punish 37 = .ok (.istore_n 3, 1) := by decide +kernel
theorem dX8_punish_38 : decode cX8_punish 38 = .ok (.aload_n 0, 1) := by decide +kernel
theorem dX8_punish_39 : decode cX8_punish 39 = .ok (.iload_n 1, 1) := by decide +kernel
theorem dX8_punish_40 : decode cX8_punish 40 = .ok (.iload_n 2, 1) := by decide +kernel
theorem dX8_punish_41 : decode cX8_punish 41 = .ok (.iconst 4, 1) := by decide +kernel
theorem dX8_punish_42 : decode cX8_punish 42 = .ok (.invokevirtual 121, 3) := by decide +kernel
theorem dX8_punish_45 : decode cX8_punish 45 = .ok (.istore 4, 2) := by decide +kernel
theorem dX8_punish_47 : decode cX8_punish 47 = .ok (.iload_n 3, 1) := by decide +kernel
theorem dX8_punish_48 : decode cX8_punish 48 = .ok (.iload 4, 2) := by decide +kernel
theorem dX8_punish_50 : decode cX8_punish 50 = .ok (.if_icmp .ge 7, 3) := by decide +kernel
theorem dX8_punish_53 : decode cX8_punish 53 = .ok (.iload_n 3, 1) := by decide +kernel
theorem dX8_punish_54 : decode cX8_punish 54 = .ok (.goto 5, 3) := by decide +kernel
theorem dX8_punish_57 : decode cX8_punish 57 = .ok (.iload 4, 2) := by decide +kernel
theorem dX8_punish_59 : decode cX8_punish 59 = .ok (.istore 5, 2) := by decide +kernel
theorem dX8_punish_61 : decode cX8_punish 61 = .ok (.iload 5, 2) := by decide +kernel
theorem dX8_punish_63 : decode cX8_punish 63 = .ok (.ifCond .ge 7, 3) := by decide +kernel
theorem dX8_punish_66 : decode cX8_punish 66 = .ok (.iconst 0, 1) := by decide +kernel
theorem dX8_punish_67 : decode cX8_punish 67 = .ok (.goto 5, 3) := by decide +kernel
theorem dX8_punish_70 : decode cX8_punish 70 = .ok (.iload 5, 2) := by decide +kernel
theorem dX8_punish_72 : decode cX8_punish 72 = .ok (.ireturn, 1) := by decide +kernel
theorem dX8_keepState_0 : decode cX8_keepState 0 = .ok (.iconst 0, 1) := by decide +kernel
theorem dX8_keepState_1 : decode cX8_keepState 1 = .ok (.istore_n 2, 1) := by decide +kernel
theorem dX8_keepState_2 : decode cX8_keepState 2 = .ok (.iload_n 2, 1) := by decide +kernel
theorem dX8_keepState_3 : decode cX8_keepState 3 = .ok (.bipush 22, 2) := by decide +kernel
theorem dX8_keepState_5 : decode cX8_keepState 5 = .ok (.if_icmp .ge 26, 3) := by decide +kernel
theorem dX8_keepState_8 : decode cX8_keepState 8 = .ok (.aload_n 0, 1) := by decide +kernel
theorem dX8_keepState_9 : decode cX8_keepState 9 = .ok (.getfield 19, 3) := by decide +kernel
theorem dX8_keepState_12 : decode cX8_keepState 12 = .ok (.bipush 22, 2) := by decide +kernel
theorem dX8_keepState_14 : decode cX8_keepState 14 = .ok (.iload_n 1, 1) := by decide +kernel
theorem dX8_keepState_15 : decode cX8_keepState 15 = .ok (.imul, 1) := by decide +kernel
theorem dX8_keepState_16 : decode cX8_keepState 16 = .ok (.iload_n 2, 1) := by decide +kernel
theorem dX8_keepState_17 : decode cX8_keepState 17 = .ok (.iadd, 1) := by decide +kernel
theorem dX8_keepState_18 : decode cX8_keepState 18 = .ok (.aload_n 0, 1) := by decide +kernel
theorem dX8_keepState_19 : decode cX8_keepState 19 = .ok (.getfield 13, 3) := by decide +kernel
theorem dX8_keepState_22 : decode cX8_keepState 22 = .ok (.iload_n 2, 1) := by decide +kernel
theorem dX8_keepState_23 : decode cX8_keepState 23 = .ok (.iaload, 1) := by decide +kernel
theorem dX8_keepState_24 : decode cX8_keepState 24 = .ok (.iastore, 1) := by decide +kernel
theorem dX8_keepState_25 : decode cX8_keepState 25 = .ok (.iinc 2 1, 3) := by decide +kernel
theorem dX8_keepState_28 : decode cX8_keepState 28 = .ok (.goto (-26), 3) := by decide +kernel
theorem dX8_keepState_31 : decode cX8_keepState 31 = .ok (.return_, 1) := by decide +kernel
theorem dX8_fetch_0 : decode cX8_fetch 0 = .ok (.iconst 0, 1) := by decide +kernel
theorem dX8_fetch_1 : decode cX8_fetch 1 = .ok (.istore_n 2, 1) := by decide +kernel
theorem dX8_fetch_2 : decode cX8_fetch 2 = .ok (.iload_n 2, 1) := by decide +kernel
theorem dX8_fetch_3 : decode cX8_fetch 3 = .ok (.bipush 22, 2) := by decide +kernel
theorem dX8_fetch_5 : decode cX8_fetch 5 = .ok (.if_icmp .ge 26, 3) := by decide +kernel
theorem dX8_fetch_8 : decode cX8_fetch 8 = .ok (.aload_n 0, 1) := by decide +kernel
theorem dX8_fetch_9 : decode cX8_fetch 9 = .ok (.getfield 13, 3) := by decide +kernel
theorem dX8_fetch_12 : decode cX8_fetch 12 = .ok (.iload_n 2, 1) := by decide +kernel
theorem dX8_fetch_13 : decode cX8_fetch 13 = .ok (.aload_n 0, 1) := by decide +kernel
theorem dX8_fetch_14 : decode cX8_fetch 14 = .ok (.getfield 19, 3) := by decide +kernel
theorem dX8_fetch_17 : decode cX8_fetch 17 = .ok (.bipush 22, 2) := by decide +kernel
theorem dX8_fetch_19 : decode cX8_fetch 19 = .ok (.iload_n 1, 1) := by decide +kernel
theorem dX8_fetch_20 : decode cX8_fetch 20 = .ok (.imul, 1) := by decide +kernel
theorem dX8_fetch_21 : decode cX8_fetch 21 = .ok (.iload_n 2, 1) := by decide +kernel
theorem dX8_fetch_22 : decode cX8_fetch 22 = .ok (.iadd, 1) := by decide +kernel
theorem dX8_fetch_23 : decode cX8_fetch 23 = .ok (.iaload, 1) := by decide +kernel
theorem dX8_fetch_24 : decode cX8_fetch 24 = .ok (.iastore, 1) := by decide +kernel
theorem dX8_fetch_25 : decode cX8_fetch 25 = .ok (.iinc 2 1, 3) := by decide +kernel
theorem dX8_fetch_28 : decode cX8_fetch 28 = .ok (.goto (-26), 3) := by decide +kernel
theorem dX8_fetch_31 : decode cX8_fetch 31 = .ok (.return_, 1) := by decide +kernel
set_option maxRecDepth 20000 in
theorem ggX8_hits_X8_frame : GoodIn wsX8_hits wsX8_frame := goodIn_r _ [7, 2, 8, 9, 10, 6, 11, 1, 12, 13, 14, 15, 16, 17, 18, 19, 20, 21, 22, 23, 24, 25, 26, 27, 28, 29, 30, 31, 32, 33, 34, 35, 36, 37, 38, 39, 40, 41, 42, 43, 44, 45, 46, 47, 48, 49, 50, 51, 52, 53, 54, 55, 56, 57, 58, 59, 60, 61] rfl (by decide +kernel)
set_option maxRecDepth 20000 in
theorem gX8_hits_X8_frame : GoodIn wsX8_hits (wsV RX8 112 RX8 yX8_frame wsX8_frame) := goodIn_app (goodIn_of _ (by decide +kernel)) ggX8_hits_X8_frame
theorem dX8_hits_0 : decode cX8_hits 0 = .ok (.aload_n 0, 1) := by decide +kernel
theorem dX8_hits_1 : decode cX8_hits 1 = .ok (.getfield 13, 3) := by decide +kernel
theorem dX8_hits_4 : decode cX8_hits 4 = .ok (.bipush 17, 2) := by decide +kernel
theorem dX8_hits_6 : decode cX8_hits 6 = .ok (.iaload, 1) := by decide +kernel
theorem dX8_hits_7 : decode cX8_hits 7 = .ok (.istore_n 3, 1) := by decide +kernel
theorem dX8_hits_8 : decode cX8_hits 8 = .ok (.iconst 0, 1) := by decide +kernel
theorem dX8_hits_9 : decode cX8_hits 9 = .ok (.istore 4, 2) := by decide +kernel
theorem dX8_hits_11 : decode cX8_hits 11 = .ok (.iconst 0, 1) := by decide +kernel
theorem dX8_hits_12 : decode cX8_hits 12 = .ok (.istore 5, 2) := by decide +kernel
theorem dX8_hits_14 : decode cX8_hits 14 = .ok (.iload 5, 2) := by decide +kernel
theorem dX8_hits_16 : decode cX8_hits 16 = .ok (.bipush 60, 2) := by decide +kernel
theorem dX8_hits_18 : decode cX8_hits 18 = .ok (.if_icmp .ge 83, 3) := by decide +kernel
theorem dX8_hits_21 : decode cX8_hits 21 = .ok (.aload_n 0, 1) := by decide +kernel
theorem dX8_hits_22 : decode cX8_hits 22 = .ok (.iload 4, 2) := by decide +kernel
theorem dX8_hits_24 : decode cX8_hits 24 = .ok (.ifCond .ne 12, 3) := by decide +kernel
theorem dX8_hits_27 : decode cX8_hits 27 = .ok (.iload_n 2, 1) := by decide +kernel
