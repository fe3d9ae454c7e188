theorem dX2_prepare_18 : decode cX2_prepare 18 = .ok (.iconst 0, 1) := by decide +kernel
theorem dX2_prepare_19 : decode cX2_prepare 19 = .ok (.putfield 24, 3) := by decide +kernel
theorem dX2_prepare_22 : decode cX2_prepare 22 = .ok (.aload_n 0, 1) := by decide +kernel
theorem dX2_prepare_23 : decode cX2_prepare 23 = .ok (.invokevirtual 61, 3) := by decide +kernel
theorem dX2_prepare_26 : decode cX2_prepare 26 = .ok (.aload_n 0, 1) := by decide +kernel
theorem dX2_prepare_27 : decode cX2_prepare 27 = .ok (.invokevirtual 64, 3) := by decide +kernel
theorem dX2_prepare_30 : decode cX2_prepare 30 = .ok (.return_, 1) := by decide +kernel
theorem dX2_copy_0 : decode cX2_copy 0 = .ok (.aload_n 0, 1) := by decide +kernel
theorem dX2_copy_1 : decode cX2_copy 1 = .ok (.aload_n 1, 1) := by decide +kernel
theorem dX2_copy_2 : decode cX2_copy 2 = .ok (.getfield 9, 3) := by decide +kernel
theorem dX2_copy_5 : decode cX2_copy 5 = .ok (.putfield 9, 3) := by decide +kernel
theorem dX2_copy_8 : decode cX2_copy 8 = .ok (.aload_n 0, 1) := by decide +kernel
theorem dX2_copy_9 : decode cX2_copy 9 = .ok (.aload_n 1, 1) := by decide +kernel
theorem dX2_copy_10 : decode cX2_copy 10 = .ok (.getfield 15, 3) := by decide +kernel
theorem dX2_copy_13 : decode cX2_copy 13 = .ok (.putfield 15, 3) := by decide +kernel
theorem dX2_copy_16 : decode cX2_copy 16 = .ok (.aload_n 0, 1) := by decide +kernel
theorem dX2_copy_17 : decode cX2_copy 17 = .ok (.aload_n 1, 1) := by decide +kernel
theorem dX2_copy_18 : decode cX2_copy 18 = .ok (.getfield 18, 3) := by decide +kernel
theorem dX2_copy_21 : decode cX2_copy 21 = .ok (.putfield 18, 3) := by decide +kernel
theorem dX2_copy_24 : decode cX2_copy 24 = .ok (.aload_n 0, 1) := by decide +kernel
theorem dX2_copy_25 : decode cX2_copy 25 = .ok (.aload_n 1, 1) := by decide +kernel
theorem dX2_copy_26 : decode cX2_copy 26 = .ok (.getfield 21, 3) := by decide +kernel
theorem dX2_copy_29 : decode cX2_copy 29 = .ok (.putfield 21, 3) := by decide +kernel
theorem dX2_copy_32 : decode cX2_copy 32 = .ok (.aload_n 0, 1) := by decide +kernel
theorem dX2_copy_33 : decode cX2_copy 33 = .ok (.aload_n 1, 1) := by decide +kernel
theorem dX2_copy_34 : decode cX2_copy 34 = .ok (.getfield 24, 3) := by decide +kernel
theorem dX2_copy_37 : decode cX2_copy 37 = .ok (.putfield 24, 3) := by decide +kernel
theorem dX2_copy_40 : decode cX2_copy 40 = .ok (.aload_n 0, 1) := by decide +kernel
theorem dX2_copy_41 : decode cX2_copy 41 = .ok (.aload_n 1, 1) := by decide +kernel
theorem dX2_copy_42 : decode cX2_copy 42 = .ok (.getfield 27, 3) := by decide +kernel
theorem dX2_copy_45 : decode cX2_copy 45 = .ok (.putfield 27, 3) := by decide +kernel
theorem dX2_copy_48 : decode cX2_copy 48 = .ok (.aload_n 0, 1) := by decide +kernel
theorem dX2_copy_49 : decode cX2_copy 49 = .ok (.aload_n 1, 1) := by decide +kernel
theorem dX2_copy_50 : decode cX2_copy 50 = .ok (.getfield 30, 3) := by decide +kernel
theorem dX2_copy_53 : decode cX2_copy 53 = .ok (.putfield 30, 3) := by decide +kernel
theorem dX2_copy_56 : decode cX2_copy 56 = .ok (.aload_n 0, 1) := by decide +kernel
theorem dX2_copy_57 : decode cX2_copy 57 = .ok (.aload_n 1, 1) := by decide +kernel
theorem dX2_copy_58 : decode cX2_copy 58 = .ok (.getfield 33, 3) := by decide +kernel
theorem dX2_copy_61 : decode cX2_copy 61 = .ok (.putfield 33, 3) := by decide +kernel
theorem dX2_copy_64 : decode cX2_copy 64 = .ok (.aload_n 0, 1) := by decide +kernel
theorem dX2_copy_65 : decode cX2_copy 65 = .ok (.aload_n 1, 1) := by decide +kernel
theorem dX2_copy_66 : decode cX2_copy 66 = .ok (.getfield 36, 3) := by decide +kernel
theorem dX2_copy_69 : decode cX2_copy 69 = .ok (.putfield 36, 3) := by decide +kernel
theorem dX2_copy_72 : decode cX2_copy 72 = .ok (.aload_n 0, 1) := by decide +kernel
theorem dX2_copy_73 : decode cX2_copy 73 = .ok (.aload_n 1, 1) := by decide +kernel
theorem dX2_copy_74 : decode cX2_copy 74 = .ok (.getfield 39, 3) := by decide +kernel
theorem dX2_copy_77 : decode cX2_copy 77 = .ok (.putfield 39, 3) := by decide +kernel
theorem dX2_copy_80 : decode cX2_copy 80 = .ok (.aload_n 0, 1) := by decide +kernel
theorem dX2_copy_81 : decode cX2_copy 81 = .ok (.aload_n 1, 1) := by decide +kernel
theorem dX2_copy_82 : decode cX2_copy 82 = .ok (.getfield 42, 3) := by decide +kernel
theorem dX2_copy_85 : decode cX2_copy 85 = .ok (.putfield 42, 3) := by decide +kernel
theorem dX2_copy_88 : decode cX2_copy 88 = .ok (.return_, 1) := by decide +kernel
theorem dX2_tell_0 : decode cX2_tell 0 = .ok (.iload_n 1, 1) := by decide +kernel
theorem dX2_tell_1 : decode cX2_tell 1 = .ok (.tableswitch 84 0 5 #[39, 44, 49, 54, 59, 64], 39) := by decide +kernel
theorem dX2_tell_40 : decode cX2_tell 40 = .ok (.aload_n 0, 1) := by decide +kernel
theorem dX2_tell_41 : decode cX2_tell 41 = .ok (.getfield 9, 3) := by decide +kernel
theorem dX2_tell_44 : decode cX2_tell 44 = .ok (.ireturn, 1) := by decide +kernel
theorem dX2_tell_45 : decode cX2_tell 45 = .ok (.aload_n 0, 1) := by decide +kernel
theorem dX2_tell_46 : decode cX2_tell 46 = .ok (.getfield 15, 3) := by decide +kernel
theorem dX2_tell_49 : decode cX2_tell 49 = .ok (.ireturn, 1) := by decide +kernel
theorem dX2_tell_50 : decode cX2_tell 50 = .ok (.aload_n 0, 1) := by decide +kernel
theorem dX2_tell_51 : decode cX2_tell 51 = .ok (.getfield 18, 3) := by decide +kernel
theorem dX2_tell_54 : decode cX2_tell 54 = .ok (.ireturn, 1) := by decide +kernel
theorem dX2_tell_55 : decode cX2_tell 55 = .ok (.aload_n 0, 1) := by decide +kernel
theorem dX2_tell_56 : decode cX2_tell 56 = .ok (.getfield 21, 3) := by decide +kernel
theorem dX2_tell_59 : decode cX2_tell 59 = .ok (.ireturn, 1) := by decide +kernel
theorem dX2_tell_60 : decode cX2_tell 60 = .ok (.aload_n 0, 1) := by decide +kernel
theorem dX2_tell_61 : decode cX2_tell 61 = .ok (.getfield 27, 3) := by decide +kernel
theorem dX2_tell_64 : decode cX2_tell 64 = .ok (.ireturn, 1) := by decide +kernel
theorem dX2_tell_65 : decode cX2_tell 65 = .ok (.aload_n 0, 1) := by decide +kernel
theorem dX2_tell_66 : decode cX2_tell 66 = .ok (.getfield 21, 3) := by decide +kernel
theorem dX2_tell_69 : decode cX2_tell 69 = .ok (.iconst 1, 1) := by decide +kernel
theorem dX2_tell_70 : decode cX2_tell 70 = .ok (.if_icmp .ne 10, 3) := by decide +kernel
theorem dX2_tell_73 : decode cX2_tell 73 = .ok (.aload_n 0, 1) := by decide +kernel
theorem dX2_tell_74 : decode cX2_tell 74 = .ok (.getfield 30, 3) := by decide +kernel
theorem dX2_tell_77 : decode cX2_tell 77 = .ok (.goto 7, 3) := by decide +kernel
theorem dX2_tell_80 : decode cX2_tell 80 = .ok (.aload_n 0, 1) := by decide +kernel
theorem dX2_tell_81 : decode cX2_tell 81 = .ok (.getfield 36, 3) := by decide +kernel
theorem dX2_tell_84 : decode cX2_tell 84 = .ok (.ireturn, 1) := by decide +kernel
theorem dX2_tell_85 : decode cX2_tell 85 = .ok (.aload_n 0, 1) := by decide +kernel
theorem dX2_tell_86 : decode cX2_tell 86 = .ok (.getfield 24, 3) := by decide +kernel
theorem dX2_tell_89 : decode cX2_tell 89 = .ok (.ireturn, 1) := by decide +kernel
set_option maxRecDepth 20000 in
theorem ggX2_stand_X2_leaveMove : GoodIn wsX2_stand wsX2_leaveMove := goodIn_r _ [7, 8, 9, 10, 11, 12, 13, 14, 15, 16, 17, 18, 19, 20, 21, 22, 23, 24, 25, 26] (by decide +kernel) (by decide +kernel)
set_option maxRecDepth 20000 in
theorem gX2_stand_X2_leaveMove : GoodIn wsX2_stand (wsV RX2 67 RX2 yX2_leaveMove wsX2_leaveMove) := goodIn_app (goodIn_of _ (by decide +kernel)) ggX2_stand_X2_leaveMove
theorem dX2_stand_0 : decode cX2_stand 0 = .ok (.aload_n 0, 1) := by decide +kernel
theorem dX2_stand_1 : decode cX2_stand 1 = .ok (.iconst 0, 1) := by decide +kernel
theorem dX2_stand_2 : decode cX2_stand 2 = .ok (.putfield 21, 3) := by decide +kernel
theorem dX2_stand_5 : decode cX2_stand 5 = .ok (.aload_n 0, 1) := by decide +kernel
theorem dX2_stand_6 : decode cX2_stand 6 = .ok (.iconst 0, 1) := by decide +kernel
theorem dX2_stand_7 : decode cX2_stand 7 = .ok (.putfield 36, 3) := by decide +kernel
theorem dX2_stand_10 : decode cX2_stand 10 = .ok (.aload_n 0, 1) := by decide +kernel
theorem dX2_stand_11 : decode cX2_stand 11 = .ok (.invokevirtual 67, 3) := by decide +kernel
theorem dX2_stand_14 : decode cX2_stand 14 = .ok (.return_, 1) := by decide +kernel
theorem dX2_leaveMove_0 : decode cX2_leaveMove 0 = .ok (.aload_n 0, 1) := by decide +kernel
theorem dX2_leaveMove_1 : decode cX2_leaveMove 1 = .ok (.iconst (-1), 1) := by decide +kernel
theorem dX2_leaveMove_2 : decode cX2_leaveMove 2 = .ok (.putfield 27, 3) := by decide +kernel
theorem dX2_leaveMove_5 : decode cX2_leaveMove 5 = .ok (.aload_n 0, 1) := by decide +kernel
theorem dX2_leaveMove_6 : decode cX2_leaveMove 6 = .ok (.iconst 0, 1) := by decide +kernel
theorem dX2_leaveMove_7 : decode cX2_leaveMove 7 = .ok (.putfield 30, 3) := by decide +kernel
theorem dX2_leaveMove_10 : decode cX2_leaveMove 10 = .ok (.aload_n 0, 1) := by decide +kernel
theorem dX2_leaveMove_11 : decode cX2_leaveMove 11 = .ok (.iconst (-1), 1) := by decide +kernel
theorem dX2_leaveMove_12 : decode cX2_leaveMove 12 = .ok (.putfield 33, 3) := by decide +kernel
theorem dX2_leaveMove_15 : decode cX2_leaveMove 15 = .ok (.return_, 1) := by decide +kernel
theorem dX2_drop_0 : decode cX2_drop 0 = .ok (.aload_n 0, 1) := by decide +kernel
theorem dX2_drop_1 : decode cX2_drop 1 = .ok (.iconst (-1), 1) := by decide +kernel
theorem dX2_drop_2 : decode cX2_drop 2 = .ok (.putfield 39, 3) := by decide +kernel
theorem dX2_drop_5 : decode cX2_drop 5 = .ok (.aload_n 0, 1) := by decide +kernel
theorem dX2_drop_6 : decode cX2_drop 6 = .ok (.iconst 0, 1) := by decide +kernel
theorem dX2_drop_7 : decode cX2_drop 7 = .ok (.putfield 42, 3) := by decide +kernel
theorem dX2_drop_10 : decode cX2_drop 10 = .ok (.return_, 1) := by decide +kernel
theorem dX2_take_0 : decode cX2_take 0 = .ok (.aload_n 0, 1) := by decide +kernel
theorem dX2_take_1 : decode cX2_take 1 = .ok (.iload_n 1, 1) := by decide +kernel
theorem dX2_take_2 : decode cX2_take 2 = .ok (.putfield 45, 3) := by decide +kernel
theorem dX2_take_5 : decode cX2_take 5 = .ok (.aload_n 0, 1) := by decide +kernel
theorem dX2_take_6 : decode cX2_take 6 = .ok (.iconst 0, 1) := by decide +kernel
theorem dX2_take_7 : decode cX2_take 7 = .ok (.putfield 48, 3) := by decide +kernel
theorem dX2_take_10 : decode cX2_take 10 = .ok (.iload_n 1, 1) := by decide +kernel
theorem dX2_take_11 : decode cX2_take 11 = .ok (.bipush 10, 2) := by decide +kernel
theorem dX2_take_13 : decode cX2_take 13 = .ok (.if_icmp .lt 16, 3) := by decide +kernel
theorem dX2_take_16 : decode cX2_take 16 = .ok (.aload_n 0, 1) := by decide +kernel
theorem dX2_take_17 : decode cX2_take 17 = .ok (.iload_n 1, 1) := by decide +kernel
theorem dX2_take_18 : decode cX2_take 18 = .ok (.bipush 10, 2) := by decide +kernel
theorem dX2_take_20 : decode cX2_take 20 = .ok (.isub, 1) := by decide +kernel
theorem dX2_take_21 : decode cX2_take 21 = .ok (.putfield 39, 3) := by decide +kernel
theorem dX2_take_24 : decode cX2_take 24 = .ok (.aload_n 0, 1) := by decide +kernel
theorem dX2_take_25 : decode cX2_take 25 = .ok (.iconst 5, 1) := by decide +kernel
theorem dX2_take_26 : decode cX2_take 26 = .ok (.putfield 42, 3) := by decide +kernel
theorem dX2_take_29 : decode cX2_take 29 = .ok (.return_, 1) := by decide +kernel
set_option maxRecDepth 20000 in
theorem ggX2_beginKept_X5_at : GoodIn wsX2_beginKept wsX5_at := goodIn_r _ [12, 13, 14, 52, 53, 54] (by decide +kernel) (by decide +kernel)
set_option maxRecDepth 20000 in
theorem gX2_beginKept_X5_at : GoodIn wsX2_beginKept (wsV RX2 70 RX5 yX5_at wsX5_at) := goodIn_app (goodIn_of _ (by decide +kernel)) ggX2_beginKept_X5_at
set_option maxRecDepth 20000 in
theorem ggX2_beginKept_X4_trait : GoodIn wsX2_beginKept wsX4_trait := goodIn_r _ [19, 20, 55, 56, 57, 58, 59, 60, 61, 62] (by decide +kernel) (by decide +kernel)
set_option maxRecDepth 20000 in
theorem gX2_beginKept_X4_trait : GoodIn wsX2_beginKept (wsV RX2 76 RX4 yX4_trait wsX4_trait) := goodIn_app (goodIn_of _ (by decide +kernel)) ggX2_beginKept_X4_trait
set_option maxRecDepth 20000 in
theorem ggX2_beginKept_X2_isFreeForKept : GoodIn wsX2_beginKept wsX2_isFreeForKept := goodIn_r _ [25, 3, 6, 4, 1, 8, 9, 10, 11, 12, 13, 14, 26, 27, 28, 18, 29, 30, 36, 37, 38, 39, 40, 41, 42, 43, 44, 45, 46, 47, 48, 49, 50, 51, 52, 53, 54, 55, 56, 57, 58, 59, 60, 61, 62] (by decide +kernel) (by decide +kernel)
set_option maxRecDepth 20000 in
theorem gX2_beginKept_X2_isFreeForKept : GoodIn wsX2_beginKept (wsV RX2 82 RX2 yX2_isFreeForKept wsX2_isFreeForKept) := goodIn_app (goodIn_of _ (by decide +kernel)) ggX2_beginKept_X2_isFreeForKept
set_option maxRecDepth 20000 in
theorem ggX2_beginKept_X2_drop : GoodIn wsX2_beginKept wsX2_drop := goodIn_r _ [34, 1, 35, 36, 37, 38, 39, 40, 41, 42, 43, 44, 45, 46, 47, 48, 49, 50, 51] (by decide +kernel) (by decide +kernel)
set_option maxRecDepth 20000 in
theorem gX2_beginKept_X2_drop : GoodIn wsX2_beginKept (wsV RX2 64 RX2 yX2_drop wsX2_drop) := goodIn_app (goodIn_of _ (by decide +kernel)) ggX2_beginKept_X2_drop
theorem dX2_beginKept_0 : decode cX2_beginKept 0 = .ok (.aload_n 0, 1) := by decide +kernel
theorem dX2_beginKept_1 : decode cX2_beginKept 1 = .ok (.getfield 39, 3) := by decide +kernel
theorem dX2_beginKept_4 : decode cX2_beginKept 4 = .ok (.iconst (-1), 1) := by decide +kernel
theorem dX2_beginKept_5 : decode cX2_beginKept 5 = .ok (.if_icmp .eq 30, 3) := by decide +kernel
theorem dX2_beginKept_8 : decode cX2_beginKept 8 = .ok (.aload_n 1, 1) := by decide +kernel
theorem dX2_beginKept_9 : decode cX2_beginKept 9 = .ok (.aload_n 0, 1) := by decide +kernel
theorem dX2_beginKept_10 : decode cX2_beginKept 10 = .ok (.getfield 39, 3) := by decide +kernel
theorem dX2_beginKept_13 : decode cX2_beginKept 13 = .ok (.invokevirtual 70, 3) := by decide +kernel
theorem dX2_beginKept_16 : decode cX2_beginKept 16 = .ok (.iconst 3, 1) := by decide +kernel
theorem dX2_beginKept_17 : decode cX2_beginKept 17 = .ok (.invokevirtual 76, 3) := by decide +kernel
theorem dX2_beginKept_20 : decode cX2_beginKept 20 = .ok (.aload_n 0, 1) := by decide +kernel
theorem dX2_beginKept_21 : decode cX2_beginKept 21 = .ok (.getfield 18, 3) := by decide +kernel
theorem dX2_beginKept_24 : decode cX2_beginKept 24 = .ok (.if_icmp .gt 11, 3) := by decide +kernel
theorem dX2_beginKept_27 : decode cX2_beginKept 27 = .ok (.aload_n 0, 1) := by decide +kernel
theorem dX2_beginKept_28 : decode cX2_beginKept 28 = .ok (.aload_n 1, 1) := by decide +kernel
theorem dX2_beginKept_29 : decode cX2_beginKept 29 = .ok (.invokevirtual 82, 3) := by decide +kernel
theorem dX2_beginKept_32 : decode cX2_beginKept 32 = .ok (.ifCond .ne 4, 3) := by decide +kernel
theorem dX2_beginKept_35 : decode cX2_beginKept 35 = .ok (.return_, 1) := by decide +kernel
theorem dX2_beginKept_36 : decode cX2_beginKept 36 = .ok (.aload_n 0, 1) := by decide +kernel
theorem dX2_beginKept_37 : decode cX2_beginKept 37 = .ok (.dup, 1) := by decide +kernel
theorem dX2_beginKept_38 : decode cX2_beginKept 38 = .ok (.getfield 18, 3) := by decide +kernel
theorem dX2_beginKept_41 : decode cX2_beginKept 41 = .ok (.aload_n 1, 1) := by decide +kernel
theorem dX2_beginKept_42 : decode cX2_beginKept 42 = .ok (.aload_n 0, 1) := by decide +kernel
theorem dX2_beginKept_43 : decode cX2_beginKept 43 = .ok (.getfield 39, 3) := by decide +kernel
theorem dX2_beginKept_46 : decode cX2_beginKept 46 = .ok (.invokevirtual 70, 3) := by decide +kernel
theorem dX2_beginKept_49 : decode cX2_beginKept 49 = .ok (.iconst 3, 1) := by decide +kernel
theorem dX2_beginKept_50 : decode cX2_beginKept 50 = .ok (.invokevirtual 76, 3) := by decide +kernel
theorem dX2_beginKept_53 : decode cX2_beginKept 53 = .ok (.isub, 1) := by decide +kernel
theorem dX2_beginKept_54 : decode cX2_beginKept 54 = .ok (.putfield 18, 3) := by decide +kernel
theorem dX2_beginKept_57 : decode cX2_beginKept 57 = .ok (.aload_n 0, 1) := by decide +kernel
theorem dX2_beginKept_58 : decode cX2_beginKept 58 = .ok (.iconst 1, 1) := by decide +kernel
theorem dX2_beginKept_59 : decode cX2_beginKept 59 = .ok (.putfield 21, 3) := by decide +kernel
theorem dX2_beginKept_62 : decode cX2_beginKept 62 = .ok (.aload_n 0, 1) := by decide +kernel
theorem dX2_beginKept_63 : decode cX2_beginKept 63 = .ok (.aload_n 0, 1) := by decide +kernel
theorem dX2_beginKept_64 : decode cX2_beginKept 64 = .ok (.getfield 39, 3) := by decide +kernel
theorem dX2_beginKept_67 : decode cX2_beginKept 67 = .ok (.putfield 27, 3) := by decide +kernel
theorem dX2_beginKept_70 : decode cX2_beginKept 70 = .ok (.aload_n 0, 1) := by decide +kernel
theorem dX2_beginKept_71 : decode cX2_beginKept 71 = .ok (.iconst 0, 1) := by decide +kernel
theorem dX2_beginKept_72 : decode cX2_beginKept 72 = .ok (.putfield 30, 3) := by decide +kernel
theorem dX2_beginKept_75 : decode cX2_beginKept 75 = .ok (.aload_n 0, 1) := by decide +kernel
theorem dX2_beginKept_76 : decode cX2_beginKept 76 = .ok (.iconst (-1), 1) := by decide +kernel
theorem dX2_beginKept_77 : decode cX2_beginKept 77 = .ok (.putfield 33, 3) := by decide +kernel
theorem dX2_beginKept_80 : decode cX2_beginKept 80 = .ok (.aload_n 0, 1) := by decide +kernel
theorem dX2_beginKept_81 : decode cX2_beginKept 81 = .ok (.iconst 1, 1) := by decide +kernel
theorem dX2_beginKept_82 : decode cX2_beginKept 82 = .ok (.putfield 48, 3) := by decide +kernel
theorem dX2_beginKept_85 : decode cX2_beginKept 85 = .ok (.aload_n 0, 1) := by decide +kernel
theorem dX2_beginKept_86 : decode cX2_beginKept 86 = .ok (.invokevirtual 64, 3) := by decide +kernel
theorem dX2_beginKept_89 : decode cX2_beginKept 89 = .ok (.return_, 1) := by decide +kernel
set_option maxRecDepth 20000 in
theorem ggX2_isFreeForKept_X5_at : GoodIn wsX2_isFreeForKept wsX5_at := goodIn_r _ [9, 10, 11, 34, 35, 36] (by decide +kernel) (by decide +kernel)
set_option maxRecDepth 20000 in
theorem gX2_isFreeForKept_X5_at : GoodIn wsX2_isFreeForKept (wsV RX2 70 RX5 yX5_at wsX5_at) := goodIn_app (goodIn_of _ (by decide +kernel)) ggX2_isFreeForKept_X5_at
set_option maxRecDepth 20000 in
theorem ggX2_isFreeForKept_X4_goesInto : GoodIn wsX2_isFreeForKept wsX4_goesInto := goodIn_r _ [16, 17, 37, 38, 39, 40, 41, 42, 43, 44] (by decide +kernel) (by decide +kernel)
set_option maxRecDepth 20000 in
theorem gX2_isFreeForKept_X4_goesInto : GoodIn wsX2_isFreeForKept (wsV RX2 86 RX4 yX4_goesInto wsX4_goesInto) := goodIn_app (goodIn_of _ (by decide +kernel)) ggX2_isFreeForKept_X4_goesInto
theorem dX2_isFreeForKept_0 : decode cX2_isFreeForKept 0 = .ok (.aload_n 0, 1) := by decide +kernel
theorem dX2_isFreeForKept_1 : decode cX2_isFreeForKept 1 = .ok (.getfield 21, 3) := by decide +kernel
theorem dX2_isFreeForKept_4 : decode cX2_isFreeForKept 4 = .ok (.ifCond .ne 5, 3) := by decide +kernel
theorem dX2_isFreeForKept_7 : decode cX2_isFreeForKept 7 = .ok (.iconst 1, 1) := by decide +kernel
theorem dX2_isFreeForKept_8 : decode cX2_isFreeForKept 8 = .ok (.ireturn, 1) := by decide +kernel
theorem dX2_isFreeForKept_9 : decode cX2_isFreeForKept 9 = .ok (.aload_n 0, 1) := by decide +kernel
theorem dX2_isFreeForKept_10 : decode cX2_isFreeForKept 10 = .ok (.getfield 33, 3) := by decide +kernel
theorem dX2_isFreeForKept_13 : decode cX2_isFreeForKept 13 = .ok (.iconst (-1), 1) := by decide +kernel
theorem dX2_isFreeForKept_14 : decode cX2_isFreeForKept 14 = .ok (.if_icmp .eq 16, 3) := by decide +kernel
theorem dX2_isFreeForKept_17 : decode cX2_isFreeForKept 17 = .ok (.aload_n 0, 1) := by decide +kernel
theorem dX2_isFreeForKept_18 : decode cX2_isFreeForKept 18 = .ok (.getfield 33, 3) := by decide +kernel
theorem dX2_isFreeForKept_21 : decode cX2_isFreeForKept 21 = .ok (.bipush 10, 2) := by decide +kernel
theorem dX2_isFreeForKept_23 : decode cX2_isFreeForKept 23 = .ok (.if_icmp .gt 7, 3) := by decide +kernel
theorem dX2_isFreeForKept_26 : decode cX2_isFreeForKept 26 = .ok (.iconst 1, 1) := by decide +kernel
theorem dX2_isFreeForKept_27 : decode cX2_isFreeForKept 27 = .ok (.goto 4, 3) := by decide +kernel
theorem dX2_isFreeForKept_30 : decode cX2_isFreeForKept 30 = .ok (.iconst 0, 1) := by decide +kernel
theorem dX2_isFreeForKept_31 : decode cX2_isFreeForKept 31 = .ok (.istore_n 2, 1) := by decide +kernel
theorem dX2_isFreeForKept_32 : decode cX2_isFreeForKept 32 = .ok (.aload_n 0, 1) := by decide +kernel
theorem dX2_isFreeForKept_33 : decode cX2_isFreeForKept 33 = .ok (.getfield 21, 3) := by decide +kernel
theorem dX2_isFreeForKept_36 : decode cX2_isFreeForKept 36 = .ok (.iconst 1, 1) := by decide +kernel
theorem dX2_isFreeForKept_37 : decode cX2_isFreeForKept 37 = .ok (.if_icmp .ne 29, 3) := by decide +kernel
theorem dX2_isFreeForKept_40 : decode cX2_isFreeForKept 40 = .ok (.iload_n 2, 1) := by decide +kernel
theorem dX2_isFreeForKept_41 : decode cX2_isFreeForKept 41 = .ok (.ifCond .eq 25, 3) := by decide +kernel
theorem dX2_isFreeForKept_44 : decode cX2_isFreeForKept 44 = .ok (.aload_n 1, 1) := by decide +kernel
theorem dX2_isFreeForKept_45 : decode cX2_isFreeForKept 45 = .ok (.aload_n 0, 1) := by decide +kernel
theorem dX2_isFreeForKept_46 : decode cX2_isFreeForKept 46 = .ok (.getfield 27, 3) := by decide +kernel
theorem dX2_isFreeForKept_49 : decode cX2_isFreeForKept 49 = .ok (.invokevirtual 70, 3) := by decide +kernel
theorem dX2_isFreeForKept_52 : decode cX2_isFreeForKept 52 = .ok (.aload_n 0, 1) := by decide +kernel
theorem dX2_isFreeForKept_53 : decode cX2_isFreeForKept 53 = .ok (.getfield 39, 3) := by decide +kernel
theorem dX2_isFreeForKept_56 : decode cX2_isFreeForKept 56 = .ok (.invokevirtual 86, 3) := by decide +kernel
theorem dX2_isFreeForKept_59 : decode cX2_isFreeForKept 59 = .ok (.ifCond .eq 7, 3) := by decide +kernel
theorem dX2_isFreeForKept_62 : decode cX2_isFreeForKept 62 = .ok (.iconst 1, 1) := by decide +kernel
theorem dX2_isFreeForKept_63 : decode cX2_isFreeForKept 63 = .ok (.goto 4, 3) := by decide +kernel
theorem dX2_isFreeForKept_66 : decode cX2_isFreeForKept 66 = .ok (.iconst 0, 1) := by decide +kernel
theorem dX2_isFreeForKept_67 : decode cX2_isFreeForKept 67 = .ok (.ireturn, 1) := by decide +kernel
theorem dX2_walk_0 : decode cX2_walk 0 = .ok (.aload_n 0, 1) := by decide +kernel
theorem dX2_walk_1 : decode cX2_walk 1 = .ok (.getfield 21, 3) := by decide +kernel
theorem dX2_walk_4 : decode cX2_walk 4 = .ok (.ifCond .ne 36, 3) := by decide +kernel
theorem dX2_walk_7 : decode cX2_walk 7 = .ok (.aload_n 0, 1) := by decide +kernel
theorem dX2_walk_8 : decode cX2_walk 8 = .ok (.getfield 45, 3) := by decide +kernel
theorem dX2_walk_11 : decode cX2_walk 11 = .ok (.iconst 1, 1) := by decide +kernel
theorem dX2_walk_12 : decode cX2_walk 12 = .ok (.if_icmp .ne 28, 3) := by decide +kernel
theorem dX2_walk_15 : decode cX2_walk 15 = .ok (.aload_n 0, 1) := by decide +kernel
theorem dX2_walk_16 : decode cX2_walk 16 = .ok (.dup, 1) := by decide +kernel
theorem dX2_walk_17 : decode cX2_walk 17 = .ok (.getfield 9, 3) := by decide +kernel
theorem dX2_walk_20 : decode cX2_walk 20 = .ok (.aload_n 0, 1) := by decide +kernel
theorem dX2_walk_21 : decode cX2_walk 21 = .ok (.getfield 58, 3) := by decide +kernel
theorem dX2_walk_24 : decode cX2_walk 24 = .ok (.ifCond .eq 7, 3) := by decide +kernel
theorem dX2_walk_27 : decode cX2_walk 27 = .ok (.iconst 4, 1) := by decide +kernel
theorem dX2_walk_28 : decode cX2_walk 28 = .ok (.goto 5, 3) := by decide +kernel
theorem dX2_walk_31 : decode cX2_walk 31 = .ok (.bipush (-4), 2) := by decide +kernel
theorem dX2_walk_33 : decode cX2_walk 33 = .ok (.iadd, 1) := by decide +kernel
theorem dX2_walk_34 : decode cX2_walk 34 = .ok (.putfield 9, 3) := by decide +kernel
theorem dX2_walk_37 : decode cX2_walk 37 = .ok (.goto 40, 3) := by decide +kernel
theorem dX2_walk_40 : decode cX2_walk 40 = .ok (.aload_n 0, 1) := by decide +kernel
theorem dX2_walk_41 : decode cX2_walk 41 = .ok (.getfield 21, 3) := by decide +kernel
theorem dX2_walk_44 : decode cX2_walk 44 = .ok (.ifCond .ne 33, 3) := by decide +kernel
theorem dX2_walk_47 : decode cX2_walk 47 = .ok (.aload_n 0, 1) := by decide +kernel
theorem dX2_walk_48 : decode cX2_walk 48 = .ok (.getfield 45, 3) := by decide +kernel
theorem dX2_walk_51 : decode cX2_walk 51 = .ok (.iconst 2, 1) := by decide +kernel
theorem dX2_walk_52 : decode cX2_walk 52 = .ok (.if_icmp .ne 25, 3) := by decide +kernel
theorem dX2_walk_55 : decode cX2_walk 55 = .ok (.aload_n 0, 1) := by decide +kernel
theorem dX2_walk_56 : decode cX2_walk 56 = .ok (.dup, 1) := by decide +kernel
theorem dX2_walk_57 : decode cX2_walk 57 = .ok (.getfield 9, 3) := by decide +kernel
theorem dX2_walk_60 : decode cX2_walk 60 = .ok (.aload_n 0, 1) := by decide +kernel
theorem dX2_walk_61 : decode cX2_walk 61 = .ok (.getfield 58, 3) := by decide +kernel
theorem dX2_walk_64 : decode cX2_walk 64 = .ok (.ifCond .eq 8, 3) := by decide +kernel
theorem dX2_walk_67 : decode cX2_walk 67 = .ok (.bipush (-3), 2) := by decide +kernel
theorem dX2_walk_69 : decode cX2_walk 69 = .ok (.goto 4, 3) := by decide +kernel
theorem dX2_walk_72 : decode cX2_walk 72 = .ok (.iconst 3, 1) := by decide +kernel
theorem dX2_walk_73 : decode cX2_walk 73 = .ok (.iadd, 1) := by decide +kernel
theorem dX2_walk_74 : decode cX2_walk 74 = .ok (.putfield 9, 3) := by decide +kernel
theorem dX2_walk_77 : decode cX2_walk 77 = .ok (.return_, 1) := by decide +kernel
theorem dX2_goBack_0 : decode cX2_goBack 0 = .ok (.aload_n 0, 1) := by decide +kernel
theorem dX2_goBack_1 : decode cX2_goBack 1 = .ok (.getfield 58, 3) := by decide +kernel
theorem dX2_goBack_4 : decode cX2_goBack 4 = .ok (.ifCond .eq 10, 3) := by decide +kernel
theorem dX2_goBack_7 : decode cX2_goBack 7 = .ok (.aload_n 0, 1) := by decide +kernel
theorem dX2_goBack_8 : decode cX2_goBack 8 = .ok (.getfield 9, 3) := by decide +kernel
theorem dX2_goBack_11 : decode cX2_goBack 11 = .ok (.goto 11, 3) := by decide +kernel
theorem dX2_goBack_14 : decode cX2_goBack 14 = .ok (.sipush 600, 3) := by decide +kernel
theorem dX2_goBack_17 : decode cX2_goBack 17 = .ok (.aload_n 0, 1) := by decide +kernel
theorem dX2_goBack_18 : decode cX2_goBack 18 = .ok (.getfield 9, 3) := by decide +kernel
theorem dX2_goBack_21 : decode cX2_goBack 21 = .ok (.isub, 1) := by decide +kernel
theorem dX2_goBack_22 : decode cX2_goBack 22 = .ok (.istore_n 2, 1) := by decide +kernel
theorem dX2_goBack_23 : decode cX2_goBack 23 = .ok (.iload_n 1, 1) := by decide +kernel
theorem dX2_goBack_24 : decode cX2_goBack 24 = .ok (.iload_n 2, 1) := by decide +kernel
theorem dX2_goBack_25 : decode cX2_goBack 25 = .ok (.if_icmp .ge 7, 3) := by decide +kernel
theorem dX2_goBack_28 : decode cX2_goBack 28 = .ok (.iload_n 1, 1) := by decide +kernel
theorem dX2_goBack_29 : decode cX2_goBack 29 = .ok (.goto 4, 3) := by decide +kernel
theorem dX2_goBack_32 : decode cX2_goBack 32 = .ok (.iload_n 2, 1) := by decide +kernel
theorem dX2_goBack_33 : decode cX2_goBack 33 = .ok (.istore_n 3, 1) := by decide +kernel
theorem dX2_goBack_34 : decode cX2_goBack 34 = .ok (.aload_n 0, 1) := by decide +kernel
theorem dX2_goBack_35 : decode cX2_goBack 35 = .ok (.dup, 1) := by decide +kernel
theorem dX2_goBack_36 : decode cX2_goBack 36 = .ok (.getfield 9, 3) := by decide +kernel
theorem dX2_goBack_39 : decode cX2_goBack 39 = .ok (.aload_n 0, 1) := by decide +kernel
theorem dX2_goBack_40 : decode cX2_goBack 40 = .ok (.getfield 58, 3) := by decide +kernel
theorem dX2_goBack_43 : decode cX2_goBack 43 = .ok (.ifCond .eq 8, 3) := by decide +kernel
theorem dX2_goBack_46 : decode cX2_goBack 46 = .ok (.iload_n 3, 1) := by decide +kernel
theorem dX2_goBack_47 : decode cX2_goBack 47 = .ok (.ineg, 1) := by decide +kernel
theorem dX2_goBack_48 : decode cX2_goBack 48 = .ok (.goto 4, 3) := by decide +kernel
theorem dX2_goBack_51 : decode cX2_goBack 51 = .ok (.iload_n 3, 1) := by decide +kernel
theorem dX2_goBack_52 : decode cX2_goBack 52 = .ok (.iadd, 1) := by decide +kernel
theorem dX2_goBack_53 : decode cX2_goBack 53 = .ok (.putfield 9, 3) := by decide +kernel
theorem dX2_goBack_56 : decode cX2_goBack 56 = .ok (.iload_n 1, 1) := by decide +kernel
theorem dX2_goBack_57 : decode cX2_goBack 57 = .ok (.iload_n 3, 1) := by decide +kernel
theorem dX2_goBack_58 : decode cX2_goBack 58 = .ok (.isub, 1) := by decide +kernel
theorem dX2_goBack_59 : decode cX2_goBack 59 = .ok (.ireturn, 1) := by decide +kernel
theorem dX2_rememberAheadOfHits_0 : decode cX2_rememberAheadOfHits 0 = .ok (.aload_n 0, 1) := by decide +kernel
theorem dX2_rememberAheadOfHits_1 : decode cX2_rememberAheadOfHits 1 = .ok (.aload_n 0, 1) := by decide +kernel
theorem dX2_rememberAheadOfHits_2 : decode cX2_rememberAheadOfHits 2 = .ok (.getfield 21, 3) := by decide +kernel
theorem dX2_rememberAheadOfHits_5 : decode cX2_rememberAheadOfHits 5 = .ok (.putfield 52, 3) := by decide +kernel
theorem dX2_rememberAheadOfHits_8 : decode cX2_rememberAheadOfHits 8 = .ok (.aload_n 0, 1) := by decide +kernel
theorem dX2_rememberAheadOfHits_9 : decode cX2_rememberAheadOfHits 9 = .ok (.aload_n 0, 1) := by decide +kernel
theorem dX2_rememberAheadOfHits_10 : decode cX2_rememberAheadOfHits 10 = .ok (.getfield 24, 3) := by decide +kernel
theorem dX2_rememberAheadOfHits_13 : decode cX2_rememberAheadOfHits 13 = .ok (.putfield 55, 3) := by decide +kernel
theorem dX2_rememberAheadOfHits_16 : decode cX2_rememberAheadOfHits 16 = .ok (.return_, 1) := by decide +kernel
theorem dX2_touch_0 : decode cX2_touch 0 = .ok (.aload_n 0, 1) := by decide +kernel
theorem dX2_touch_1 : decode cX2_touch 1 = .ok (.iconst 0, 1) := by decide +kernel
theorem dX2_touch_2 : decode cX2_touch 2 = .ok (.putfield 33, 3) := by decide +kernel
theorem dX2_touch_5 : decode cX2_touch 5 = .ok (.aload_n 0, 1) := by decide +kernel
theorem dX2_touch_6 : decode cX2_touch 6 = .ok (.aload_n 0, 1) := by decide +kernel
theorem dX2_touch_7 : decode cX2_touch 7 = .ok (.getfield 18, 3) := by decide +kernel
theorem dX2_touch_10 : decode cX2_touch 10 = .ok (.iload_n 1, 1) := by decide +kernel
theorem dX2_touch_11 : decode cX2_touch 11 = .ok (.iadd, 1) := by decide +kernel
theorem dX2_touch_12 : decode cX2_touch 12 = .ok (.bipush 100, 2) := by decide +kernel
theorem dX2_touch_14 : decode cX2_touch 14 = .ok (.if_icmp .le 8, 3) := by decide +kernel
theorem dX2_touch_17 : decode cX2_touch 17 = .ok (.bipush 100, 2) := by decide +kernel
theorem dX2_touch_19 : decode cX2_touch 19 = .ok (.goto 9, 3) := by decide +kernel
theorem dX2_touch_22 : decode cX2_touch 22 = .ok (.aload_n 0, 1) := by decide +kernel
theorem dX2_touch_23 : decode cX2_touch 23 = .ok (.getfield 18, 3) := by decide +kernel
theorem dX2_touch_26 : decode cX2_touch 26 = .ok (.iload_n 1, 1) := by decide +kernel
theorem dX2_touch_27 : decode cX2_touch 27 = .ok (.iadd, 1) := by decide +kernel
theorem dX2_touch_28 : decode cX2_touch 28 = .ok (.putfield 18, 3) := by decide +kernel
theorem dX2_touch_31 : decode cX2_touch 31 = .ok (.return_, 1) := by decide +kernel
set_option maxRecDepth 20000 in
theorem ggX2_blocks_X4_isBlockedWith : GoodIn wsX2_blocks wsX4_isBlockedWith := goodIn_r _ [7, 8, 25, 26, 27, 28, 29, 30, 31, 32] (by decide +kernel) (by decide +kernel)
set_option maxRecDepth 20000 in
theorem gX2_blocks_X4_isBlockedWith : GoodIn wsX2_blocks (wsV RX2 90 RX4 yX4_isBlockedWith wsX4_isBlockedWith) := goodIn_app (goodIn_of _ (by decide +kernel)) ggX2_blocks_X4_isBlockedWith
theorem dX2_blocks_0 : decode cX2_blocks 0 = .ok (.aload_n 0, 1) := by decide +kernel
theorem dX2_blocks_1 : decode cX2_blocks 1 = .ok (.getfield 52, 3) := by decide +kernel
theorem dX2_blocks_4 : decode cX2_blocks 4 = .ok (.ifCond .eq 11, 3) := by decide +kernel
theorem dX2_blocks_7 : decode cX2_blocks 7 = .ok (.aload_n 0, 1) := by decide +kernel
theorem dX2_blocks_8 : decode cX2_blocks 8 = .ok (.getfield 52, 3) := by decide +kernel
theorem dX2_blocks_11 : decode cX2_blocks 11 = .ok (.iconst 3, 1) := by decide +kernel
theorem dX2_blocks_12 : decode cX2_blocks 12 = .ok (.if_icmp .ne 18, 3) := by decide +kernel
theorem dX2_blocks_15 : decode cX2_blocks 15 = .ok (.aload_n 1, 1) := by decide +kernel
theorem dX2_blocks_16 : decode cX2_blocks 16 = .ok (.aload_n 0, 1) := by decide +kernel
theorem dX2_blocks_17 : decode cX2_blocks 17 = .ok (.getfield 45, 3) := by decide +kernel
theorem dX2_blocks_20 : decode cX2_blocks 20 = .ok (.invokevirtual 90, 3) := by decide +kernel
theorem dX2_blocks_23 : decode cX2_blocks 23 = .ok (.ifCond .eq 7, 3) := by decide +kernel
theorem dX2_blocks_26 : decode cX2_blocks 26 = .ok (.iconst 1, 1) := by decide +kernel
theorem dX2_blocks_27 : decode cX2_blocks 27 = .ok (.goto 4, 3) := by decide +kernel
theorem dX2_blocks_30 : decode cX2_blocks 30 = .ok (.iconst 0, 1) := by decide +kernel
theorem dX2_blocks_31 : decode cX2_blocks 31 = .ok (.ireturn, 1) := by decide +kernel
set_option maxRecDepth 20000 in
theorem ggX2_block_X4_trait : GoodIn wsX2_block wsX4_trait := goodIn_r _ [9, 10, 27, 28, 29, 30, 31, 32, 33, 34] (by decide +kernel) (by decide +kernel)
set_option maxRecDepth 20000 in
theorem gX2_block_X4_trait : GoodIn wsX2_block (wsV RX2 76 RX4 yX4_trait wsX4_trait) := goodIn_app (goodIn_of _ (by decide +kernel)) ggX2_block_X4_trait
theorem dX2_block_0 : decode cX2_block 0 = .ok (.aload_n 0, 1) := by decide +kernel
theorem dX2_block_1 : decode cX2_block 1 = .ok (.dup, 1) := by decide +kernel
theorem dX2_block_2 : decode cX2_block 2 = .ok (.getfield 15, 3) := by decide +kernel
theorem dX2_block_5 : decode cX2_block 5 = .ok (.aload_n 1, 1) := by decide +kernel
theorem dX2_block_6 : decode cX2_block 6 = .ok (.getfield 93, 3) := by decide +kernel
theorem dX2_block_9 : decode cX2_block 9 = .ok (.bipush 10, 2) := by decide +kernel
theorem dX2_block_11 : decode cX2_block 11 = .ok (.idiv, 1) := by decide +kernel
theorem dX2_block_12 : decode cX2_block 12 = .ok (.isub, 1) := by decide +kernel
theorem dX2_block_13 : decode cX2_block 13 = .ok (.putfield 15, 3) := by decide +kernel
theorem dX2_block_16 : decode cX2_block 16 = .ok (.aload_n 0, 1) := by decide +kernel
theorem dX2_block_17 : decode cX2_block 17 = .ok (.iconst 3, 1) := by decide +kernel
theorem dX2_block_18 : decode cX2_block 18 = .ok (.putfield 21, 3) := by decide +kernel
theorem dX2_block_21 : decode cX2_block 21 = .ok (.aload_n 0, 1) := by decide +kernel
theorem dX2_block_22 : decode cX2_block 22 = .ok (.aload_n 1, 1) := by decide +kernel
theorem dX2_block_23 : decode cX2_block 23 = .ok (.iconst 1, 1) := by decide +kernel
theorem dX2_block_24 : decode cX2_block 24 = .ok (.invokevirtual 76, 3) := by decide +kernel
theorem dX2_block_27 : decode cX2_block 27 = .ok (.putfield 36, 3) := by decide +kernel
theorem dX2_block_30 : decode cX2_block 30 = .ok (.return_, 1) := by decide +kernel
set_option maxRecDepth 20000 in
theorem ggX2_suffer_X4_trait : GoodIn wsX2_suffer wsX4_trait := goodIn_r _ [12, 13, 38, 39, 40, 41, 42, 43, 44, 45] (by decide +kernel) (by decide +kernel)
set_option maxRecDepth 20000 in
theorem gX2_suffer_X4_trait : GoodIn wsX2_suffer (wsV RX2 76 RX4 yX4_trait wsX4_trait) := goodIn_app (goodIn_of _ (by decide +kernel)) ggX2_suffer_X4_trait
set_option maxRecDepth 20000 in
theorem ggX2_suffer_X2_leaveMove : GoodIn wsX2_suffer wsX2_leaveMove := goodIn_r _ [18, 19, 20, 21, 22, 23, 24, 25, 26, 27, 28, 29, 30, 31, 32, 33, 34, 35, 36, 37] (by decide +kernel) (by decide +kernel)
set_option maxRecDepth 20000 in
theorem gX2_suffer_X2_leaveMove : GoodIn wsX2_suffer (wsV RX2 67 RX2 yX2_leaveMove wsX2_leaveMove) := goodIn_app (goodIn_of _ (by decide +kernel)) ggX2_suffer_X2_leaveMove
theorem dX2_suffer_0 : decode cX2_suffer 0 = .ok (.aload_n 0, 1) := by decide +kernel
theorem dX2_suffer_1 : decode cX2_suffer 1 = .ok (.getfield 52, 3) := by decide +kernel
theorem dX2_suffer_4 : decode cX2_suffer 4 = .ok (.iconst 1, 1) := by decide +kernel
theorem dX2_suffer_5 : decode cX2_suffer 5 = .ok (.if_icmp .ne 7, 3) := by decide +kernel
theorem dX2_suffer_8 : decode cX2_suffer 8 = .ok (.iconst 1, 1) := by decide +kernel
theorem dX2_suffer_9 : decode cX2_suffer 9 = .ok (.goto 4, 3) := by decide +kernel
theorem dX2_suffer_12 : decode cX2_suffer 12 = .ok (.iconst 0, 1) := by decide +kernel
theorem dX2_suffer_13 : decode cX2_suffer 13 = .ok (.istore_n 2, 1) := by decide +kernel
theorem dX2_suffer_14 : decode cX2_suffer 14 = .ok (.aload_n 0, 1) := by decide +kernel
theorem dX2_suffer_15 : decode cX2_suffer 15 = .ok (.aload_n 0, 1) := by decide +kernel
theorem dX2_suffer_16 : decode cX2_suffer 16 = .ok (.getfield 52, 3) := by decide +kernel
theorem dX2_suffer_19 : decode cX2_suffer 19 = .ok (.iconst 2, 1) := by decide +kernel
theorem dX2_suffer_20 : decode cX2_suffer 20 = .ok (.if_icmp .ne 12, 3) := by decide +kernel
theorem dX2_suffer_23 : decode cX2_suffer 23 = .ok (.aload_n 0, 1) := by decide +kernel
theorem dX2_suffer_24 : decode cX2_suffer 24 = .ok (.getfield 55, 3) := by decide +kernel
theorem dX2_suffer_27 : decode cX2_suffer 27 = .ok (.iconst 1, 1) := by decide +kernel
theorem dX2_suffer_28 : decode cX2_suffer 28 = .ok (.iadd, 1) := by decide +kernel
theorem dX2_suffer_29 : decode cX2_suffer 29 = .ok (.goto 4, 3) := by decide +kernel
theorem dX2_suffer_32 : decode cX2_suffer 32 = .ok (.iconst 1, 1) := by decide +kernel
theorem dX2_suffer_33 : decode cX2_suffer 33 = .ok (.putfield 24, 3) := by decide +kernel
theorem dX2_suffer_36 : decode cX2_suffer 36 = .ok (.aload_n 0, 1) := by decide +kernel
theorem dX2_suffer_37 : decode cX2_suffer 37 = .ok (.getfield 24, 3) := by decide +kernel
theorem dX2_suffer_40 : decode cX2_suffer 40 = .ok (.bipush 10, 2) := by decide +kernel
theorem dX2_suffer_42 : decode cX2_suffer 42 = .ok (.if_icmp .ge 13, 3) := by decide +kernel
theorem dX2_suffer_45 : decode cX2_suffer 45 = .ok (.bipush 11, 2) := by decide +kernel
theorem dX2_suffer_47 : decode cX2_suffer 47 = .ok (.aload_n 0, 1) := by decide +kernel
theorem dX2_suffer_48 : decode cX2_suffer 48 = .ok (.getfield 24, 3) := by decide +kernel
theorem dX2_suffer_51 : decode cX2_suffer 51 = .ok (.isub, 1) := by decide +kernel
theorem dX2_suffer_52 : decode cX2_suffer 52 = .ok (.goto 4, 3) := by decide +kernel
theorem dX2_suffer_55 : decode cX2_suffer 55 = .ok (.iconst 1, 1) := by decide +kernel
theorem dX2_suffer_56 : decode cX2_suffer 56 = .ok (.istore_n 3, 1) := by decide +kernel
theorem dX2_suffer_57 : decode cX2_suffer 57 = .ok (.aload_n 1, 1) := by decide +kernel
theorem dX2_suffer_58 : decode cX2_suffer 58 = .ok (.getfield 93, 3) := by decide +kernel
theorem dX2_suffer_61 : decode cX2_suffer 61 = .ok (.iload_n 3, 1) := by decide +kernel
theorem dX2_suffer_62 : decode cX2_suffer 62 = .ok (.imul, 1) := by decide +kernel
theorem dX2_suffer_63 : decode cX2_suffer 63 = .ok (.bipush 10, 2) := by decide +kernel
theorem dX2_suffer_65 : decode cX2_suffer 65 = .ok (.idiv, 1) := by decide +kernel
theorem dX2_suffer_66 : decode cX2_suffer 66 = .ok (.istore 4, 2) := by decide +kernel
theorem dX2_suffer_68 : decode cX2_suffer 68 = .ok (.aload_n 1, 1) := by decide +kernel
theorem dX2_suffer_69 : decode cX2_suffer 69 = .ok (.iconst 0, 1) := by decide +kernel
theorem dX2_suffer_70 : decode cX2_suffer 70 = .ok (.invokevirtual 76, 3) := by decide +kernel
theorem dX2_suffer_73 : decode cX2_suffer 73 = .ok (.iconst 2, 1) := by decide +kernel
theorem dX2_suffer_74 : decode cX2_suffer 74 = .ok (.aload_n 0, 1) := by decide +kernel
theorem dX2_suffer_75 : decode cX2_suffer 75 = .ok (.getfield 24, 3) := by decide +kernel
theorem dX2_suffer_78 : decode cX2_suffer 78 = .ok (.iconst 1, 1) := by decide +kernel
theorem dX2_suffer_79 : decode cX2_suffer 79 = .ok (.isub, 1) := by decide +kernel
theorem dX2_suffer_80 : decode cX2_suffer 80 = .ok (.imul, 1) := by decide +kernel
theorem dX2_suffer_81 : decode cX2_suffer 81 = .ok (.isub, 1) := by decide +kernel
theorem dX2_suffer_82 : decode cX2_suffer 82 = .ok (.istore 5, 2) := by decide +kernel
theorem dX2_suffer_84 : decode cX2_suffer 84 = .ok (.iload_n 2, 1) := by decide +kernel
theorem dX2_suffer_85 : decode cX2_suffer 85 = .ok (.ifCond .eq 15, 3) := by decide +kernel
theorem dX2_suffer_88 : decode cX2_suffer 88 = .ok (.iload 4, 2) := by decide +kernel
theorem dX2_suffer_90 : decode cX2_suffer 90 = .ok (.bipush 6, 2) := by decide +kernel
theorem dX2_suffer_92 : decode cX2_suffer 92 = .ok (.imul, 1) := by decide +kernel
theorem dX2_suffer_93 : decode cX2_suffer 93 = .ok (.iconst 5, 1) := by decide +kernel
theorem dX2_suffer_94 : decode cX2_suffer 94 = .ok (.idiv, 1) := by decide +kernel
theorem dX2_suffer_95 : decode cX2_suffer 95 = .ok (.istore 4, 2) := by decide +kernel
theorem dX2_suffer_97 : decode cX2_suffer 97 = .ok (.iinc 5 4, 3) := by decide +kernel
theorem dX2_suffer_100 : decode cX2_suffer 100 = .ok (.aload_n 0, 1) := by decide +kernel
theorem dX2_suffer_101 : decode cX2_suffer 101 = .ok (.dup, 1) := by decide +kernel
theorem dX2_suffer_102 : decode cX2_suffer 102 = .ok (.getfield 15, 3) := by decide +kernel
theorem dX2_suffer_105 : decode cX2_suffer 105 = .ok (.iload 4, 2) := by decide +kernel
theorem dX2_suffer_107 : decode cX2_suffer 107 = .ok (.isub, 1) := by decide +kernel
theorem dX2_suffer_108 : decode cX2_suffer 108 = .ok (.putfield 15, 3) := by decide +kernel
theorem dX2_suffer_111 : decode cX2_suffer 111 = .ok (.aload_n 0, 1) := by decide +kernel
theorem dX2_suffer_112 : decode cX2_suffer 112 = .ok (.invokevirtual 67, 3) := by decide +kernel
theorem dX2_suffer_115 : decode cX2_suffer 115 = .ok (.aload_n 0, 1) := by decide +kernel
theorem dX2_suffer_116 : decode cX2_suffer 116 = .ok (.iconst 2, 1) := by decide +kernel
theorem dX2_suffer_117 : decode cX2_suffer 117 = .ok (.putfield 21, 3) := by decide +kernel
theorem dX2_suffer_120 : decode cX2_suffer 120 = .ok (.aload_n 0, 1) := by decide +kernel
theorem dX2_suffer_121 : decode cX2_suffer 121 = .ok (.iload 5, 2) := by decide +kernel
theorem dX2_suffer_123 : decode cX2_suffer 123 = .ok (.ifCond .ge 7, 3) := by decide +kernel
theorem dX2_suffer_126 : decode cX2_suffer 126 = .ok (.iconst 0, 1) := by decide +kernel
theorem dX2_suffer_127 : decode cX2_suffer 127 = .ok (.goto 5, 3) := by decide +kernel
theorem dX2_suffer_130 : decode cX2_suffer 130 = .ok (.iload 5, 2) := by decide +kernel
theorem dX2_suffer_132 : decode cX2_suffer 132 = .ok (.putfield 36, 3) := by decide +kernel
theorem dX2_suffer_135 : decode cX2_suffer 135 = .ok (.return_, 1) := by decide +kernel
set_option maxRecDepth 20000 in
theorem ggX2_endFrame_X5_at : GoodIn wsX2_endFrame wsX5_at := goodIn_r _ [10, 11, 12, 57, 58, 59] (by decide +kernel) (by decide +kernel)
set_option maxRecDepth 20000 in
theorem gX2_endFrame_X5_at : GoodIn wsX2_endFrame (wsV RX2 70 RX5 yX5_at wsX5_at) := goodIn_app (goodIn_of _ (by decide +kernel)) ggX2_endFrame_X5_at
set_option maxRecDepth 20000 in
theorem ggX2_endFrame_X4_frames : GoodIn wsX2_endFrame wsX4_frames := goodIn_r _ [17, 18, 19, 20, 60, 61, 62, 63, 64, 65, 66, 67] (by decide +kernel) (by decide +kernel)
set_option maxRecDepth 20000 in
theorem gX2_endFrame_X4_frames : GoodIn wsX2_endFrame (wsV RX2 96 RX4 yX4_frames wsX4_frames) := goodIn_app (goodIn_of _ (by decide +kernel)) ggX2_endFrame_X4_frames
set_option maxRecDepth 20000 in
theorem ggX2_endFrame_X2_endFrameOfMove : GoodIn wsX2_endFrame wsX2_endFrameOfMove := goodIn_r _ [25, 26, 27, 28, 29, 30, 24, 31, 1, 3, 32, 33, 34, 35, 2, 41, 42, 43, 44, 45, 46, 47, 48, 49, 50, 51, 52, 53, 54, 55, 56] (by decide +kernel) (by decide +kernel)
set_option maxRecDepth 20000 in
theorem gX2_endFrame_X2_endFrameOfMove : GoodIn wsX2_endFrame (wsV RX2 100 RX2 yX2_endFrameOfMove wsX2_endFrameOfMove) := goodIn_app (goodIn_of _ (by decide +kernel)) ggX2_endFrame_X2_endFrameOfMove
set_option maxRecDepth 20000 in
theorem ggX2_endFrame_X2_stand : GoodIn wsX2_endFrame wsX2_stand := goodIn_r _ [31, 1, 3, 32, 33, 34, 24, 35, 2, 26, 27, 41, 42, 43, 44, 45, 46, 47, 48, 49, 50, 51, 52, 53, 54, 55, 56] (by decide +kernel) (by decide +kernel)
set_option maxRecDepth 20000 in
theorem gX2_endFrame_X2_stand : GoodIn wsX2_endFrame (wsV RX2 61 RX2 yX2_stand wsX2_stand) := goodIn_app (goodIn_of _ (by decide +kernel)) ggX2_endFrame_X2_stand
set_option maxRecDepth 20000 in
theorem ggX2_endFrame_X2_drop : GoodIn wsX2_endFrame wsX2_drop := goodIn_r _ [39, 40, 5, 41, 42, 43, 44, 45, 46, 47, 48, 49, 50, 51, 52, 53, 54, 55, 56] (by decide +kernel) (by decide +kernel)
set_option maxRecDepth 20000 in
theorem gX2_endFrame_X2_drop : GoodIn wsX2_endFrame (wsV RX2 64 RX2 yX2_drop wsX2_drop) := goodIn_app (goodIn_of _ (by decide +kernel)) ggX2_endFrame_X2_drop
theorem dX2_endFrame_0 : decode cX2_endFrame 0 = .ok (.aload_n 0, 1) := by decide +kernel
theorem dX2_endFrame_1 : decode cX2_endFrame 1 = .ok (.getfield 21, 3) := by decide +kernel
theorem dX2_endFrame_4 : decode cX2_endFrame 4 = .ok (.iconst 1, 1) := by decide +kernel
theorem dX2_endFrame_5 : decode cX2_endFrame 5 = .ok (.if_icmp .ne 21, 3) := by decide +kernel
theorem dX2_endFrame_8 : decode cX2_endFrame 8 = .ok (.aload_n 0, 1) := by decide +kernel
theorem dX2_endFrame_9 : decode cX2_endFrame 9 = .ok (.aload_n 1, 1) := by decide +kernel
theorem dX2_endFrame_10 : decode cX2_endFrame 10 = .ok (.aload_n 0, 1) := by decide +kernel
theorem dX2_endFrame_11 : decode cX2_endFrame 11 = .ok (.getfield 27, 3) := by decide +kernel
theorem dX2_endFrame_14 : decode cX2_endFrame 14 = .ok (.invokevirtual 70, 3) := by decide +kernel
theorem dX2_endFrame_17 : decode cX2_endFrame 17 = .ok (.invokevirtual 96, 3) := by decide +kernel
theorem dX2_endFrame_20 : decode cX2_endFrame 20 = .ok (.invokevirtual 100, 3) := by decide +kernel
theorem dX2_endFrame_23 : decode cX2_endFrame 23 = .ok (.goto 31, 3) := by decide +kernel
theorem dX2_endFrame_26 : decode cX2_endFrame 26 = .ok (.aload_n 0, 1) := by decide +kernel
theorem dX2_endFrame_27 : decode cX2_endFrame 27 = .ok (.getfield 21, 3) := by decide +kernel
theorem dX2_endFrame_30 : decode cX2_endFrame 30 = .ok (.ifCond .eq 24, 3) := by decide +kernel
theorem dX2_endFrame_33 : decode cX2_endFrame 33 = .ok (.aload_n 0, 1) := by decide +kernel
theorem dX2_endFrame_34 : decode cX2_endFrame 34 = .ok (.dup, 1) := by decide +kernel
theorem dX2_endFrame_35 : decode cX2_endFrame 35 = .ok (.getfield 36, 3) := by decide +kernel
theorem dX2_endFrame_38 : decode cX2_endFrame 38 = .ok (.iconst 1, 1) := by decide +kernel
theorem dX2_endFrame_39 : decode cX2_endFrame 39 = .ok (.isub, 1) := by decide +kernel
theorem dX2_endFrame_40 : decode cX2_endFrame 40 = .ok (.putfield 36, 3) := by decide +kernel
theorem dX2_endFrame_43 : decode cX2_endFrame 43 = .ok (.aload_n 0, 1) := by decide +kernel
theorem dX2_endFrame_44 : decode cX2_endFrame 44 = .ok (.getfield 36, 3) := by decide +kernel
theorem dX2_endFrame_47 : decode cX2_endFrame 47 = .ok (.ifCond .gt 7, 3) := by decide +kernel
theorem dX2_endFrame_50 : decode cX2_endFrame 50 = .ok (.aload_n 0, 1) := by decide +kernel
theorem dX2_endFrame_51 : decode cX2_endFrame 51 = .ok (.invokevirtual 61, 3) := by decide +kernel
theorem dX2_endFrame_54 : decode cX2_endFrame 54 = .ok (.aload_n 0, 1) := by decide +kernel
theorem dX2_endFrame_55 : decode cX2_endFrame 55 = .ok (.getfield 21, 3) := by decide +kernel
theorem dX2_endFrame_58 : decode cX2_endFrame 58 = .ok (.iconst 2, 1) := by decide +kernel
theorem dX2_endFrame_59 : decode cX2_endFrame 59 = .ok (.if_icmp .eq 8, 3) := by decide +kernel
theorem dX2_endFrame_62 : decode cX2_endFrame 62 = .ok (.aload_n 0, 1) := by decide +kernel
theorem dX2_endFrame_63 : decode cX2_endFrame 63 = .ok (.iconst 0, 1) := by decide +kernel
theorem dX2_endFrame_64 : decode cX2_endFrame 64 = .ok (.putfield 24, 3) := by decide +kernel
theorem dX2_endFrame_67 : decode cX2_endFrame 67 = .ok (.aload_n 0, 1) := by decide +kernel
theorem dX2_endFrame_68 : decode cX2_endFrame 68 = .ok (.dup, 1) := by decide +kernel
theorem dX2_endFrame_69 : decode cX2_endFrame 69 = .ok (.getfield 42, 3) := by decide +kernel
theorem dX2_endFrame_72 : decode cX2_endFrame 72 = .ok (.iconst 1, 1) := by decide +kernel
theorem dX2_endFrame_73 : decode cX2_endFrame 73 = .ok (.isub, 1) := by decide +kernel
theorem dX2_endFrame_74 : decode cX2_endFrame 74 = .ok (.putfield 42, 3) := by decide +kernel
theorem dX2_endFrame_77 : decode cX2_endFrame 77 = .ok (.aload_n 0, 1) := by decide +kernel
theorem dX2_endFrame_78 : decode cX2_endFrame 78 = .ok (.getfield 42, 3) := by decide +kernel
theorem dX2_endFrame_81 : decode cX2_endFrame 81 = .ok (.ifCond .gt 7, 3) := by decide +kernel
theorem dX2_endFrame_84 : decode cX2_endFrame 84 = .ok (.aload_n 0, 1) := by decide +kernel
theorem dX2_endFrame_85 : decode cX2_endFrame 85 = .ok (.invokevirtual 64, 3) := by decide +kernel
theorem dX2_endFrame_88 : decode cX2_endFrame 88 = .ok (.return_, 1) := by decide +kernel
set_option maxRecDepth 20000 in
theorem ggX2_endFrameOfMove_X2_stand : GoodIn wsX2_endFrameOfMove wsX2_stand := goodIn_r _ [7, 8, 9, 10, 11, 12, 6, 13, 14, 1, 2, 15, 16, 17, 18, 19, 20, 21, 22, 23, 24, 25, 26, 27, 28, 29, 30] (by decide +kernel) (by decide +kernel)
set_option maxRecDepth 20000 in
theorem gX2_endFrameOfMove_X2_stand : GoodIn wsX2_endFrameOfMove (wsV RX2 61 RX2 yX2_stand wsX2_stand) := goodIn_app (goodIn_of _ (by decide +kernel)) ggX2_endFrameOfMove_X2_stand
theorem dX2_endFrameOfMove_0 : decode cX2_endFrameOfMove 0 = .ok (.aload_n 0, 1) := by decide +kernel
theorem dX2_endFrameOfMove_1 : decode cX2_endFrameOfMove 1 = .ok (.dup, 1) := by decide +kernel
