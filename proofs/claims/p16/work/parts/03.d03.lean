theorem dX4_letGoInto_5 : decode cX4_letGoInto 5 = .ok (.bipush 6, 2) := by decide +kernel
theorem dX4_letGoInto_7 : decode cX4_letGoInto 7 = .ok (.if_icmp .ge 10, 3) := by decide +kernel
theorem dX4_letGoInto_10 : decode cX4_letGoInto 10 = .ok (.aload_n 0, 1) := by decide +kernel
theorem dX4_letGoInto_11 : decode cX4_letGoInto 11 = .ok (.getfield 34, 3) := by decide +kernel
theorem dX4_letGoInto_14 : decode cX4_letGoInto 14 = .ok (.iload_n 1, 1) := by decide +kernel
theorem dX4_letGoInto_15 : decode cX4_letGoInto 15 = .ok (.iload_n 2, 1) := by decide +kernel
theorem dX4_letGoInto_16 : decode cX4_letGoInto 16 = .ok (.bastore, 1) := by decide +kernel
theorem dX4_letGoInto_17 : decode cX4_letGoInto 17 = .ok (.return_, 1) := by decide +kernel
theorem dX4_frames_0 : decode cX4_frames 0 = .ok (.aload_n 0, 1) := by decide +kernel
theorem dX4_frames_1 : decode cX4_frames 1 = .ok (.getfield 9, 3) := by decide +kernel
theorem dX4_frames_4 : decode cX4_frames 4 = .ok (.aload_n 0, 1) := by decide +kernel
theorem dX4_frames_5 : decode cX4_frames 5 = .ok (.getfield 15, 3) := by decide +kernel
theorem dX4_frames_8 : decode cX4_frames 8 = .ok (.iadd, 1) := by decide +kernel
theorem dX4_frames_9 : decode cX4_frames 9 = .ok (.aload_n 0, 1) := by decide +kernel
theorem dX4_frames_10 : decode cX4_frames 10 = .ok (.getfield 18, 3) := by decide +kernel
theorem dX4_frames_13 : decode cX4_frames 13 = .ok (.iadd, 1) := by decide +kernel
theorem dX4_frames_14 : decode cX4_frames 14 = .ok (.ireturn, 1) := by decide +kernel
theorem dX4_isActiveIn_0 : decode cX4_isActiveIn 0 = .ok (.iload_n 1, 1) := by decide +kernel
theorem dX4_isActiveIn_1 : decode cX4_isActiveIn 1 = .ok (.aload_n 0, 1) := by decide +kernel
theorem dX4_isActiveIn_2 : decode cX4_isActiveIn 2 = .ok (.getfield 9, 3) := by decide +kernel
theorem dX4_isActiveIn_5 : decode cX4_isActiveIn 5 = .ok (.if_icmp .lt 20, 3) := by decide +kernel
theorem dX4_isActiveIn_8 : decode cX4_isActiveIn 8 = .ok (.iload_n 1, 1) := by decide +kernel
theorem dX4_isActiveIn_9 : decode cX4_isActiveIn 9 = .ok (.aload_n 0, 1) := by decide +kernel
theorem dX4_isActiveIn_10 : decode cX4_isActiveIn 10 = .ok (.getfield 9, 3) := by decide +kernel
theorem dX4_isActiveIn_13 : decode cX4_isActiveIn 13 = .ok (.aload_n 0, 1) := by decide +kernel
theorem dX4_isActiveIn_14 : decode cX4_isActiveIn 14 = .ok (.getfield 15, 3) := by decide +kernel
theorem dX4_isActiveIn_17 : decode cX4_isActiveIn 17 = .ok (.iadd, 1) := by decide +kernel
theorem dX4_isActiveIn_18 : decode cX4_isActiveIn 18 = .ok (.if_icmp .ge 7, 3) := by decide +kernel
theorem dX4_isActiveIn_21 : decode cX4_isActiveIn 21 = .ok (.iconst 1, 1) := by decide +kernel
theorem dX4_isActiveIn_22 : decode cX4_isActiveIn 22 = .ok (.goto 4, 3) := by decide +kernel
theorem dX4_isActiveIn_25 : decode cX4_isActiveIn 25 = .ok (.iconst 0, 1) := by decide +kernel
theorem dX4_isActiveIn_26 : decode cX4_isActiveIn 26 = .ok (.ireturn, 1) := by decide +kernel
theorem dX4_isBlockedWith_0 : decode cX4_isBlockedWith 0 = .ok (.iload_n 1, 1) := by decide +kernel
theorem dX4_isBlockedWith_1 : decode cX4_isBlockedWith 1 = .ok (.iconst 2, 1) := by decide +kernel
theorem dX4_isBlockedWith_2 : decode cX4_isBlockedWith 2 = .ok (.if_icmp .ne 22, 3) := by decide +kernel
theorem dX4_isBlockedWith_5 : decode cX4_isBlockedWith 5 = .ok (.aload_n 0, 1) := by decide +kernel
theorem dX4_isBlockedWith_6 : decode cX4_isBlockedWith 6 = .ok (.getfield 24, 3) := by decide +kernel
theorem dX4_isBlockedWith_9 : decode cX4_isBlockedWith 9 = .ok (.ifCond .eq 11, 3) := by decide +kernel
theorem dX4_isBlockedWith_12 : decode cX4_isBlockedWith 12 = .ok (.aload_n 0, 1) := by decide +kernel
theorem dX4_isBlockedWith_13 : decode cX4_isBlockedWith 13 = .ok (.getfield 24, 3) := by decide +kernel
theorem dX4_isBlockedWith_16 : decode cX4_isBlockedWith 16 = .ok (.iconst 2, 1) := by decide +kernel
theorem dX4_isBlockedWith_17 : decode cX4_isBlockedWith 17 = .ok (.if_icmp .ne 7, 3) := by decide +kernel
theorem dX4_isBlockedWith_20 : decode cX4_isBlockedWith 20 = .ok (.iconst 1, 1) := by decide +kernel
theorem dX4_isBlockedWith_21 : decode cX4_isBlockedWith 21 = .ok (.goto 4, 3) := by decide +kernel
theorem dX4_isBlockedWith_24 : decode cX4_isBlockedWith 24 = .ok (.iconst 0, 1) := by decide +kernel
theorem dX4_isBlockedWith_25 : decode cX4_isBlockedWith 25 = .ok (.istore_n 2, 1) := by decide +kernel
theorem dX4_isBlockedWith_26 : decode cX4_isBlockedWith 26 = .ok (.iload_n 1, 1) := by decide +kernel
theorem dX4_isBlockedWith_27 : decode cX4_isBlockedWith 27 = .ok (.iconst 4, 1) := by decide +kernel
theorem dX4_isBlockedWith_28 : decode cX4_isBlockedWith 28 = .ok (.if_icmp .ne 23, 3) := by decide +kernel
theorem dX4_isBlockedWith_31 : decode cX4_isBlockedWith 31 = .ok (.aload_n 0, 1) := by decide +kernel
theorem dX4_isBlockedWith_32 : decode cX4_isBlockedWith 32 = .ok (.getfield 24, 3) := by decide +kernel
theorem dX4_isBlockedWith_35 : decode cX4_isBlockedWith 35 = .ok (.iconst 1, 1) := by decide +kernel
theorem dX4_isBlockedWith_36 : decode cX4_isBlockedWith 36 = .ok (.if_icmp .eq 11, 3) := by decide +kernel
theorem dX4_isBlockedWith_39 : decode cX4_isBlockedWith 39 = .ok (.aload_n 0, 1) := by decide +kernel
theorem dX4_isBlockedWith_40 : decode cX4_isBlockedWith 40 = .ok (.getfield 24, 3) := by decide +kernel
theorem dX4_isBlockedWith_43 : decode cX4_isBlockedWith 43 = .ok (.iconst 2, 1) := by decide +kernel
theorem dX4_isBlockedWith_44 : decode cX4_isBlockedWith 44 = .ok (.if_icmp .ne 7, 3) := by decide +kernel
theorem dX4_isBlockedWith_47 : decode cX4_isBlockedWith 47 = .ok (.iconst 1, 1) := by decide +kernel
theorem dX4_isBlockedWith_48 : decode cX4_isBlockedWith 48 = .ok (.goto 4, 3) := by decide +kernel
theorem dX4_isBlockedWith_51 : decode cX4_isBlockedWith 51 = .ok (.iconst 0, 1) := by decide +kernel
theorem dX4_isBlockedWith_52 : decode cX4_isBlockedWith 52 = .ok (.istore_n 3, 1) := by decide +kernel
theorem dX4_isBlockedWith_53 : decode cX4_isBlockedWith 53 = .ok (.iload_n 2, 1) := by decide +kernel
theorem dX4_isBlockedWith_54 : decode cX4_isBlockedWith 54 = .ok (.ifCond .ne 7, 3) := by decide +kernel
theorem dX4_isBlockedWith_57 : decode cX4_isBlockedWith 57 = .ok (.iload_n 3, 1) := by decide +kernel
theorem dX4_isBlockedWith_58 : decode cX4_isBlockedWith 58 = .ok (.ifCond .eq 7, 3) := by decide +kernel
theorem dX4_isBlockedWith_61 : decode cX4_isBlockedWith 61 = .ok (.iconst 1, 1) := by decide +kernel
theorem dX4_isBlockedWith_62 : decode cX4_isBlockedWith 62 = .ok (.goto 4, 3) := by decide +kernel
theorem dX4_isBlockedWith_65 : decode cX4_isBlockedWith 65 = .ok (.iconst 0, 1) := by decide +kernel
theorem dX4_isBlockedWith_66 : decode cX4_isBlockedWith 66 = .ok (.ireturn, 1) := by decide +kernel
set_option maxRecDepth 20000 in
theorem ggX5_init_X4_init : GoodIn wsX5_init wsX4_init := goodIn_r _ [11, 12, 2, 3, 13, 14, 15, 16, 17, 18, 19, 20, 21, 22, 26, 27, 28, 29, 30, 31, 32, 33] (by decide +kernel) (by decide +kernel)
set_option maxRecDepth 20000 in
theorem gX5_init_X4_init_n21 : GoodIn wsX5_init (wsX4_init) := ggX5_init_X4_init
theorem dX5_init_0 : decode cX5_init 0 = .ok (.aload_n 0, 1) := by decide +kernel
theorem dX5_init_1 : decode cX5_init 1 = .ok (.invokespecial 3, 3) := by decide +kernel
theorem dX5_init_4 : decode cX5_init 4 = .ok (.aload_n 0, 1) := by decide +kernel
theorem dX5_init_5 : decode cX5_init 5 = .ok (.iconst 0, 1) := by decide +kernel
theorem dX5_init_6 : decode cX5_init 6 = .ok (.putfield 9, 3) := by decide +kernel
theorem dX5_init_9 : decode cX5_init 9 = .ok (.aload_n 0, 1) := by decide +kernel
theorem dX5_init_10 : decode cX5_init 10 = .ok (.bipush 6, 2) := by decide +kernel
theorem dX5_init_12 : decode cX5_init 12 = .ok (.anewarray 15, 3) := by decide +kernel
theorem dX5_init_15 : decode cX5_init 15 = .ok (.putfield 17, 3) := by decide +kernel
theorem dX5_init_18 : decode cX5_init 18 = .ok (.aload_n 0, 1) := by decide +kernel
theorem dX5_init_19 : decode cX5_init 19 = .ok (.new 15, 3) := by decide +kernel
theorem dX5_init_22 : decode cX5_init 22 = .ok (.dup, 1) := by decide +kernel
theorem dX5_init_23 : decode cX5_init 23 = .ok (.invokespecial 21, 3) := by decide +kernel
theorem dX5_init_26 : decode cX5_init 26 = .ok (.putfield 22, 3) := by decide +kernel
theorem dX5_init_29 : decode cX5_init 29 = .ok (.iconst 0, 1) := by decide +kernel
theorem dX5_init_30 : decode cX5_init 30 = .ok (.istore_n 1, 1) := by decide +kernel
theorem dX5_init_31 : decode cX5_init 31 = .ok (.iload_n 1, 1) := by decide +kernel
theorem dX5_init_32 : decode cX5_init 32 = .ok (.bipush 6, 2) := by decide +kernel
theorem dX5_init_34 : decode cX5_init 34 = .ok (.if_icmp .ge 22, 3) := by decide +kernel
theorem dX5_init_37 : decode cX5_init 37 = .ok (.aload_n 0, 1) := by decide +kernel
theorem dX5_init_38 : decode cX5_init 38 = .ok (.getfield 17, 3) := by decide +kernel
theorem dX5_init_41 : decode cX5_init 41 = .ok (.iload_n 1, 1) := by decide +kernel
theorem dX5_init_42 : decode cX5_init 42 = .ok (.new 15, 3) := by decide +kernel
theorem dX5_init_45 : decode cX5_init 45 = .ok (.dup, 1) := by decide +kernel
theorem dX5_init_46 : decode cX5_init 46 = .ok (.invokespecial 21, 3) := by decide +kernel
theorem dX5_init_49 : decode cX5_init 49 = .ok (.aastore, 1) := by decide +kernel
theorem dX5_init_50 : decode cX5_init 50 = .ok (.iinc 1 1, 3) := by decide +kernel
theorem dX5_init_53 : decode cX5_init 53 = .ok (.goto (-22), 3) := by decide +kernel
theorem dX5_init_56 : decode cX5_init 56 = .ok (.return_, 1) := by decide +kernel
theorem dX5_has_0 : decode cX5_has 0 = .ok (.iload_n 1, 1) := by decide +kernel
theorem dX5_has_1 : decode cX5_has 1 = .ok (.ifCond .lt 15, 3) := by decide +kernel
theorem dX5_has_4 : decode cX5_has 4 = .ok (.iload_n 1, 1) := by decide +kernel
theorem dX5_has_5 : decode cX5_has 5 = .ok (.aload_n 0, 1) := by decide +kernel
theorem dX5_has_6 : decode cX5_has 6 = .ok (.getfield 9, 3) := by decide +kernel
theorem dX5_has_9 : decode cX5_has 9 = .ok (.if_icmp .ge 7, 3) := by decide +kernel
theorem dX5_has_12 : decode cX5_has 12 = .ok (.iconst 1, 1) := by decide +kernel
theorem dX5_has_13 : decode cX5_has 13 = .ok (.goto 4, 3) := by decide +kernel
theorem dX5_has_16 : decode cX5_has 16 = .ok (.iconst 0, 1) := by decide +kernel
theorem dX5_has_17 : decode cX5_has 17 = .ok (.ireturn, 1) := by decide +kernel
theorem dX5_at_0 : decode cX5_at 0 = .ok (.iload_n 1, 1) := by decide +kernel
theorem dX5_at_1 : decode cX5_at 1 = .ok (.ifCond .lt 18, 3) := by decide +kernel
theorem dX5_at_4 : decode cX5_at 4 = .ok (.iload_n 1, 1) := by decide +kernel
theorem dX5_at_5 : decode cX5_at 5 = .ok (.bipush 6, 2) := by decide +kernel
theorem dX5_at_7 : decode cX5_at 7 = .ok (.if_icmp .ge 12, 3) := by decide +kernel
theorem dX5_at_10 : decode cX5_at 10 = .ok (.aload_n 0, 1) := by decide +kernel
theorem dX5_at_11 : decode cX5_at 11 = .ok (.getfield 17, 3) := by decide +kernel
theorem dX5_at_14 : decode cX5_at 14 = .ok (.iload_n 1, 1) := by decide +kernel
theorem dX5_at_15 : decode cX5_at 15 = .ok (.aaload, 1) := by decide +kernel
theorem dX5_at_16 : decode cX5_at 16 = .ok (.goto 7, 3) := by decide +kernel
theorem dX5_at_19 : decode cX5_at 19 = .ok (.aload_n 0, 1) := by decide +kernel
theorem dX5_at_20 : decode cX5_at 20 = .ok (.getfield 22, 3) := by decide +kernel
theorem dX5_at_23 : decode cX5_at 23 = .ok (.areturn, 1) := by decide +kernel
set_option maxRecDepth 20000 in
theorem ggX5_copy_X4_copy : GoodIn wsX5_copy wsX4_copy := goodIn_r _ [7, 8, 9, 10, 11, 12, 13, 14, 15, 16, 17, 18, 19, 23, 24, 25, 26, 27, 28, 29, 30] (by decide +kernel) (by decide +kernel)
set_option maxRecDepth 20000 in
theorem gX5_copy_X4_copy : GoodIn wsX5_copy (wsV RX5 26 RX4 yX4_copy wsX4_copy) := goodIn_app (goodIn_of _ (by decide +kernel)) ggX5_copy_X4_copy
theorem dX5_copy_0 : decode cX5_copy 0 = .ok (.aload_n 0, 1) := by decide +kernel
theorem dX5_copy_1 : decode cX5_copy 1 = .ok (.aload_n 1, 1) := by decide +kernel
theorem dX5_copy_2 : decode cX5_copy 2 = .ok (.getfield 9, 3) := by decide +kernel
theorem dX5_copy_5 : decode cX5_copy 5 = .ok (.putfield 9, 3) := by decide +kernel
theorem dX5_copy_8 : decode cX5_copy 8 = .ok (.iconst 0, 1) := by decide +kernel
theorem dX5_copy_9 : decode cX5_copy 9 = .ok (.istore_n 2, 1) := by decide +kernel
theorem dX5_copy_10 : decode cX5_copy 10 = .ok (.iload_n 2, 1) := by decide +kernel
theorem dX5_copy_11 : decode cX5_copy 11 = .ok (.bipush 6, 2) := by decide +kernel
theorem dX5_copy_13 : decode cX5_copy 13 = .ok (.if_icmp .ge 24, 3) := by decide +kernel
theorem dX5_copy_16 : decode cX5_copy 16 = .ok (.aload_n 0, 1) := by decide +kernel
theorem dX5_copy_17 : decode cX5_copy 17 = .ok (.getfield 17, 3) := by decide +kernel
theorem dX5_copy_20 : decode cX5_copy 20 = .ok (.iload_n 2, 1) := by decide +kernel
theorem dX5_copy_21 : decode cX5_copy 21 = .ok (.aaload, 1) := by decide +kernel
theorem dX5_copy_22 : decode cX5_copy 22 = .ok (.aload_n 1, 1) := by decide +kernel
theorem dX5_copy_23 : decode cX5_copy 23 = .ok (.getfield 17, 3) := by decide +kernel
theorem dX5_copy_26 : decode cX5_copy 26 = .ok (.iload_n 2, 1) := by decide +kernel
theorem dX5_copy_27 : decode cX5_copy 27 = .ok (.aaload, 1) := by decide +kernel
theorem dX5_copy_28 : decode cX5_copy 28 = .ok (.invokevirtual 26, 3) := by decide +kernel
theorem dX5_copy_31 : decode cX5_copy 31 = .ok (.iinc 2 1, 3) := by decide +kernel
theorem dX5_copy_34 : decode cX5_copy 34 = .ok (.goto (-24), 3) := by decide +kernel
theorem dX5_copy_37 : decode cX5_copy 37 = .ok (.return_, 1) := by decide +kernel
theorem dX6_init_0 : decode cX6_init 0 = .ok (.aload_n 0, 1) := by decide +kernel
theorem dX6_init_1 : decode cX6_init 1 = .ok (.invokespecial 3, 3) := by decide +kernel
theorem dX6_init_4 : decode cX6_init 4 = .ok (.aload_n 0, 1) := by decide +kernel
theorem dX6_init_5 : decode cX6_init 5 = .ok (.iconst 0, 1) := by decide +kernel
theorem dX6_init_6 : decode cX6_init 6 = .ok (.putfield 9, 3) := by decide +kernel
theorem dX6_init_9 : decode cX6_init 9 = .ok (.aload_n 0, 1) := by decide +kernel
theorem dX6_init_10 : decode cX6_init 10 = .ok (.iconst 0, 1) := by decide +kernel
theorem dX6_init_11 : decode cX6_init 11 = .ok (.putfield 15, 3) := by decide +kernel
theorem dX6_init_14 : decode cX6_init 14 = .ok (.aload_n 0, 1) := by decide +kernel
theorem dX6_init_15 : decode cX6_init 15 = .ok (.iconst 0, 1) := by decide +kernel
theorem dX6_init_16 : decode cX6_init 16 = .ok (.putfield 18, 3) := by decide +kernel
theorem dX6_init_19 : decode cX6_init 19 = .ok (.aload_n 0, 1) := by decide +kernel
theorem dX6_init_20 : decode cX6_init 20 = .ok (.iconst 0, 1) := by decide +kernel
theorem dX6_init_21 : decode cX6_init 21 = .ok (.putfield 21, 3) := by decide +kernel
theorem dX6_init_24 : decode cX6_init 24 = .ok (.aload_n 0, 1) := by decide +kernel
theorem dX6_init_25 : decode cX6_init 25 = .ok (.sipush 600, 3) := by decide +kernel
theorem dX6_init_28 : decode cX6_init 28 = .ok (.newarray .int, 2) := by decide +kernel
theorem dX6_init_30 : decode cX6_init 30 = .ok (.putfield 24, 3) := by decide +kernel
theorem dX6_init_33 : decode cX6_init 33 = .ok (.aload_n 0, 1) := by decide +kernel
theorem dX6_init_34 : decode cX6_init 34 = .ok (.sipush 600, 3) := by decide +kernel
theorem dX6_init_37 : decode cX6_init 37 = .ok (.newarray .int, 2) := by decide +kernel
theorem dX6_init_39 : decode cX6_init 39 = .ok (.putfield 28, 3) := by decide +kernel
theorem dX6_init_42 : decode cX6_init 42 = .ok (.return_, 1) := by decide +kernel
theorem dX6_clear_0 : decode cX6_clear 0 = .ok (.aload_n 0, 1) := by decide +kernel
theorem dX6_clear_1 : decode cX6_clear 1 = .ok (.iload_n 1, 1) := by decide +kernel
theorem dX6_clear_2 : decode cX6_clear 2 = .ok (.putfield 15, 3) := by decide +kernel
theorem dX6_clear_5 : decode cX6_clear 5 = .ok (.aload_n 0, 1) := by decide +kernel
theorem dX6_clear_6 : decode cX6_clear 6 = .ok (.iload_n 2, 1) := by decide +kernel
theorem dX6_clear_7 : decode cX6_clear 7 = .ok (.putfield 18, 3) := by decide +kernel
theorem dX6_clear_10 : decode cX6_clear 10 = .ok (.aload_n 0, 1) := by decide +kernel
theorem dX6_clear_11 : decode cX6_clear 11 = .ok (.iload_n 3, 1) := by decide +kernel
theorem dX6_clear_12 : decode cX6_clear 12 = .ok (.putfield 21, 3) := by decide +kernel
theorem dX6_clear_15 : decode cX6_clear 15 = .ok (.aload_n 0, 1) := by decide +kernel
theorem dX6_clear_16 : decode cX6_clear 16 = .ok (.iconst 0, 1) := by decide +kernel
theorem dX6_clear_17 : decode cX6_clear 17 = .ok (.putfield 9, 3) := by decide +kernel
theorem dX6_clear_20 : decode cX6_clear 20 = .ok (.return_, 1) := by decide +kernel
theorem dX6_add_0 : decode cX6_add 0 = .ok (.aload_n 0, 1) := by decide +kernel
theorem dX6_add_1 : decode cX6_add 1 = .ok (.getfield 9, 3) := by decide +kernel
theorem dX6_add_4 : decode cX6_add 4 = .ok (.sipush 600, 3) := by decide +kernel
theorem dX6_add_7 : decode cX6_add 7 = .ok (.if_icmp .ge 33, 3) := by decide +kernel
theorem dX6_add_10 : decode cX6_add 10 = .ok (.aload_n 0, 1) := by decide +kernel
theorem dX6_add_11 : decode cX6_add 11 = .ok (.getfield 24, 3) := by decide +kernel
theorem dX6_add_14 : decode cX6_add 14 = .ok (.aload_n 0, 1) := by decide +kernel
theorem dX6_add_15 : decode cX6_add 15 = .ok (.getfield 9, 3) := by decide +kernel
theorem dX6_add_18 : decode cX6_add 18 = .ok (.iload_n 1, 1) := by decide +kernel
theorem dX6_add_19 : decode cX6_add 19 = .ok (.iastore, 1) := by decide +kernel
theorem dX6_add_20 : decode cX6_add 20 = .ok (.aload_n 0, 1) := by decide +kernel
theorem dX6_add_21 : decode cX6_add 21 = .ok (.getfield 28, 3) := by decide +kernel
theorem dX6_add_24 : decode cX6_add 24 = .ok (.aload_n 0, 1) := by decide +kernel
theorem dX6_add_25 : decode cX6_add 25 = .ok (.getfield 9, 3) := by decide +kernel
theorem dX6_add_28 : decode cX6_add 28 = .ok (.iload_n 2, 1) := by decide +kernel
theorem dX6_add_29 : decode cX6_add 29 = .ok (.iastore, 1) := by decide +kernel
theorem dX6_add_30 : decode cX6_add 30 = .ok (.aload_n 0, 1) := by decide +kernel
theorem dX6_add_31 : decode cX6_add 31 = .ok (.dup, 1) := by decide +kernel
theorem dX6_add_32 : decode cX6_add 32 = .ok (.getfield 9, 3) := by decide +kernel
theorem dX6_add_35 : decode cX6_add 35 = .ok (.iconst 1, 1) := by decide +kernel
theorem dX6_add_36 : decode cX6_add 36 = .ok (.iadd, 1) := by decide +kernel
theorem dX6_add_37 : decode cX6_add 37 = .ok (.putfield 9, 3) := by decide +kernel
theorem dX6_add_40 : decode cX6_add 40 = .ok (.return_, 1) := by decide +kernel
set_option maxRecDepth 20000 in
theorem ggX6_prepare_X1_prepare : GoodIn wsX6_prepare wsX1_prepare := goodIn_r _ [8, 9, 10, 11, 12, 13, 14, 15, 16, 17, 18, 19, 20, 21, 22, 23, 24, 25, 26, 27, 28, 29, 30, 31, 32, 33, 34, 35, 36, 37, 38, 45, 46, 47, 48, 49, 50, 51, 52, 53, 54, 55, 56, 57, 58, 59, 60, 61, 62, 63] (by decide +kernel) (by decide +kernel)
set_option maxRecDepth 20000 in
theorem gX6_prepare_X1_prepare : GoodIn wsX6_prepare (wsV RX6 31 RX1 yX1_prepare wsX1_prepare) := goodIn_app (goodIn_of _ (by decide +kernel)) ggX6_prepare_X1_prepare
theorem dX6_prepare_0 : decode cX6_prepare 0 = .ok (.aload_n 1, 1) := by decide +kernel
theorem dX6_prepare_1 : decode cX6_prepare 1 = .ok (.aload_n 0, 1) := by decide +kernel
theorem dX6_prepare_2 : decode cX6_prepare 2 = .ok (.getfield 15, 3) := by decide +kernel
theorem dX6_prepare_5 : decode cX6_prepare 5 = .ok (.aload_n 0, 1) := by decide +kernel
theorem dX6_prepare_6 : decode cX6_prepare 6 = .ok (.getfield 18, 3) := by decide +kernel
theorem dX6_prepare_9 : decode cX6_prepare 9 = .ok (.aload_n 0, 1) := by decide +kernel
theorem dX6_prepare_10 : decode cX6_prepare 10 = .ok (.getfield 21, 3) := by decide +kernel
theorem dX6_prepare_13 : decode cX6_prepare 13 = .ok (.invokevirtual 31, 3) := by decide +kernel
theorem dX6_prepare_16 : decode cX6_prepare 16 = .ok (.return_, 1) := by decide +kernel
set_option maxRecDepth 20000 in
theorem ggX6_playInto_X6_prepare : GoodIn wsX6_playInto wsX6_prepare := goodIn_r _ [8, 9, 10, 11, 12, 13, 14, 15, 16, 17, 18, 19, 20, 21, 22, 23, 24, 25, 26, 27, 28, 29, 30, 31, 32, 33, 34, 35, 36, 37, 38, 39, 40, 41, 42, 43, 44, 45, 46, 179, 180, 181, 182, 183, 184, 185, 186, 187, 188, 189, 190, 191, 192, 193, 194, 195, 196, 197, 198, 199, 200, 201, 202, 203] (by decide +kernel) (by decide +kernel)
set_option maxRecDepth 20000 in
theorem gX6_playInto_X6_prepare : GoodIn wsX6_playInto (wsV RX6 37 RX6 yX6_prepare wsX6_prepare) := goodIn_app (goodIn_of _ (by decide +kernel)) ggX6_playInto_X6_prepare
set_option maxRecDepth 20000 in
theorem ggX6_playInto_X1_playFrame : GoodIn wsX6_playInto wsX1_playFrame := goodIn_r _ [50, 17, 18, 51, 52, 53, 54, 22, 55, 56, 57, 45, 46, 58, 59, 60, 61, 25, 32, 38, 39, 40, 62, 63, 64, 65, 66, 67, 68, 69, 70, 71, 72, 73, 74, 75, 76, 77, 78, 79, 80, 81, 82, 83, 41, 42, 43, 44, 84, 85, 86, 15, 87, 88, 89, 90, 91, 92, 93, 94, 95, 96, 97, 98, 99, 24, 100, 101, 102, 103, 104, 105, 106, 107, 108, 109, 110, 111, 112, 113, 114, 115, 116, 117, 118, 119, 120, 121, 122, 123, 124, 125, 126, 127, 128, 129, 130, 131, 132, 133, 134, 135, 136, 137, 138, 139, 140, 141, 142, 27, 143, 144, 145, 146, 147, 148, 149, 150, 151, 152, 153, 154, 155, 156, 157, 158, 159, 160, 26, 161, 33, 162, 163, 164, 165, 34, 35, 36, 37, 166, 167, 168, 169, 170, 171, 172, 173, 174, 175, 176, 177, 178, 28, 29, 30, 31, 185, 186, 187, 188, 189, 190, 191, 192, 193, 194, 195, 196, 197, 198, 199, 200, 201, 202, 203, 204, 205, 206, 207, 208, 209, 210, 211, 212, 213, 214] (by decide +kernel) (by decide +kernel)
set_option maxRecDepth 20000 in
theorem gX6_playInto_X1_playFrame : GoodIn wsX6_playInto (wsV RX6 40 RX1 yX1_playFrame wsX1_playFrame) := goodIn_app (goodIn_of _ (by decide +kernel)) ggX6_playInto_X1_playFrame
theorem dX6_playInto_0 : decode cX6_playInto 0 = .ok (.aload_n 0, 1) := by decide +kernel
theorem dX6_playInto_1 : decode cX6_playInto 1 = .ok (.aload_n 1, 1) := by decide +kernel
theorem dX6_playInto_2 : decode cX6_playInto 2 = .ok (.invokevirtual 37, 3) := by decide +kernel
theorem dX6_playInto_5 : decode cX6_playInto 5 = .ok (.iconst 0, 1) := by decide +kernel
theorem dX6_playInto_6 : decode cX6_playInto 6 = .ok (.istore_n 3, 1) := by decide +kernel
theorem dX6_playInto_7 : decode cX6_playInto 7 = .ok (.iload_n 3, 1) := by decide +kernel
theorem dX6_playInto_8 : decode cX6_playInto 8 = .ok (.iload_n 2, 1) := by decide +kernel
theorem dX6_playInto_9 : decode cX6_playInto 9 = .ok (.if_icmp .ge 40, 3) := by decide +kernel
theorem dX6_playInto_12 : decode cX6_playInto 12 = .ok (.iload_n 3, 1) := by decide +kernel
theorem dX6_playInto_13 : decode cX6_playInto 13 = .ok (.aload_n 0, 1) := by decide +kernel
theorem dX6_playInto_14 : decode cX6_playInto 14 = .ok (.getfield 9, 3) := by decide +kernel
theorem dX6_playInto_17 : decode cX6_playInto 17 = .ok (.if_icmp .ge 32, 3) := by decide +kernel
theorem dX6_playInto_20 : decode cX6_playInto 20 = .ok (.iload_n 3, 1) := by decide +kernel
theorem dX6_playInto_21 : decode cX6_playInto 21 = .ok (.sipush 600, 3) := by decide +kernel
theorem dX6_playInto_24 : decode cX6_playInto 24 = .ok (.if_icmp .ge 25, 3) := by decide +kernel
theorem dX6_playInto_27 : decode cX6_playInto 27 = .ok (.aload_n 1, 1) := by decide +kernel
theorem dX6_playInto_28 : decode cX6_playInto 28 = .ok (.aload_n 0, 1) := by decide +kernel
theorem dX6_playInto_29 : decode cX6_playInto 29 = .ok (.getfield 24, 3) := by decide +kernel
theorem dX6_playInto_32 : decode cX6_playInto 32 = .ok (.iload_n 3, 1) := by decide +kernel
theorem dX6_playInto_33 : decode cX6_playInto 33 = .ok (.iaload, 1) := by decide +kernel
theorem dX6_playInto_34 : decode cX6_playInto 34 = .ok (.aload_n 0, 1) := by decide +kernel
theorem dX6_playInto_35 : decode cX6_playInto 35 = .ok (.getfield 28, 3) := by decide +kernel
theorem dX6_playInto_38 : decode cX6_playInto 38 = .ok (.iload_n 3, 1) := by decide +kernel
theorem dX6_playInto_39 : decode cX6_playInto 39 = .ok (.iaload, 1) := by decide +kernel
theorem dX6_playInto_40 : decode cX6_playInto 40 = .ok (.invokevirtual 40, 3) := by decide +kernel
theorem dX6_playInto_43 : decode cX6_playInto 43 = .ok (.iinc 3 1, 3) := by decide +kernel
theorem dX6_playInto_46 : decode cX6_playInto 46 = .ok (.goto (-39), 3) := by decide +kernel
theorem dX6_playInto_49 : decode cX6_playInto 49 = .ok (.return_, 1) := by decide +kernel
set_option maxRecDepth 20000 in
theorem ggX7_init_X5_init : GoodIn wsX7_init wsX5_init := goodIn_r _ [29, 30, 2, 3, 31, 32, 33, 34, 35, 36, 37, 38, 39, 40, 41, 42, 43, 44, 45, 46, 47, 48, 49, 108, 109, 110, 138, 139, 140, 141, 142, 143, 144, 145] (by decide +kernel) (by decide +kernel)
set_option maxRecDepth 20000 in
theorem gX7_init_X5_init : GoodIn wsX7_init (wsX5_init) := ggX7_init_X5_init
set_option maxRecDepth 20000 in
theorem ggX7_init_X1_init : GoodIn wsX7_init wsX1_init := goodIn_r _ [52, 53, 2, 3, 54, 55, 56, 57, 58, 59, 60, 61, 62, 63, 64, 65, 66, 67, 68, 69, 70, 71, 72, 73, 74, 75, 76, 77, 78, 79, 146, 147, 148, 149, 150, 151, 152, 153, 154, 155, 156, 157, 158, 159, 160, 161, 119, 120, 121] (by decide +kernel) (by decide +kernel)
set_option maxRecDepth 20000 in
theorem gX7_init_X1_init : GoodIn wsX7_init (wsX1_init) := ggX7_init_X1_init
set_option maxRecDepth 20000 in
theorem ggX7_init_X6_init : GoodIn wsX7_init wsX6_init := goodIn_r _ [81, 82, 2, 3, 83, 84, 85, 86, 46, 87, 88, 122, 123, 124, 125, 126, 127] (by decide +kernel) (by decide +kernel)
set_option maxRecDepth 20000 in
theorem gX7_init_X6_init_n33 : GoodIn wsX7_init (wsX6_init) := ggX7_init_X6_init
set_option maxRecDepth 20000 in
theorem ggX7_init_X0_init : GoodIn wsX7_init wsX0_init := goodIn_r _ [90, 91, 2, 3, 92, 93, 94, 128, 129, 130] (by decide +kernel) (by decide +kernel)
set_option maxRecDepth 20000 in
theorem gX7_init_X0_init_n40 : GoodIn wsX7_init (wsX0_init) := ggX7_init_X0_init
set_option maxRecDepth 20000 in
theorem ggX7_init_X3_init : GoodIn wsX7_init wsX3_init := goodIn_r _ [97, 98, 2, 3, 99, 100, 101, 46, 102, 103, 104, 105, 10, 11, 106, 107, 51, 52, 53, 54, 55, 56, 57, 58, 59, 60, 61, 62, 63, 64, 65, 66, 67, 68, 69, 70, 71, 72, 73, 74, 75, 76, 77, 78, 79, 131, 132, 133, 134, 135, 136, 137, 119, 120, 121, 146, 147, 148, 149, 150, 151, 152, 153, 154, 155, 156, 157, 158, 159, 160, 161] (by decide +kernel) (by decide +kernel)
set_option maxRecDepth 20000 in
theorem gX7_init_X3_init : GoodIn wsX7_init (wsX3_init) := ggX7_init_X3_init
theorem dX7_init_0 : decode cX7_init 0 = .ok (.aload_n 0, 1) := by decide +kernel
theorem dX7_init_1 : decode cX7_init 1 = .ok (.invokespecial 1, 3) := by decide +kernel
theorem dX7_init_4 : decode cX7_init 4 = .ok (.aload_n 0, 1) := by decide +kernel
theorem dX7_init_5 : decode cX7_init 5 = .ok (.new 7, 3) := by decide +kernel
theorem dX7_init_8 : decode cX7_init 8 = .ok (.dup, 1) := by decide +kernel
theorem dX7_init_9 : decode cX7_init 9 = .ok (.invokespecial 9, 3) := by decide +kernel
theorem dX7_init_12 : decode cX7_init 12 = .ok (.putfield 10, 3) := by decide +kernel
theorem dX7_init_15 : decode cX7_init 15 = .ok (.aload_n 0, 1) := by decide +kernel
theorem dX7_init_16 : decode cX7_init 16 = .ok (.new 7, 3) := by decide +kernel
theorem dX7_init_19 : decode cX7_init 19 = .ok (.dup, 1) := by decide +kernel
theorem dX7_init_20 : decode cX7_init 20 = .ok (.invokespecial 9, 3) := by decide +kernel
theorem dX7_init_23 : decode cX7_init 23 = .ok (.putfield 16, 3) := by decide +kernel
theorem dX7_init_26 : decode cX7_init 26 = .ok (.aload_n 0, 1) := by decide +kernel
theorem dX7_init_27 : decode cX7_init 27 = .ok (.new 19, 3) := by decide +kernel
theorem dX7_init_30 : decode cX7_init 30 = .ok (.dup, 1) := by decide +kernel
theorem dX7_init_31 : decode cX7_init 31 = .ok (.aload_n 0, 1) := by decide +kernel
theorem dX7_init_32 : decode cX7_init 32 = .ok (.getfield 16, 3) := by decide +kernel
theorem dX7_init_35 : decode cX7_init 35 = .ok (.invokespecial 21, 3) := by decide +kernel
theorem dX7_init_38 : decode cX7_init 38 = .ok (.putfield 24, 3) := by decide +kernel
theorem dX7_init_41 : decode cX7_init 41 = .ok (.aload_n 0, 1) := by decide +kernel
theorem dX7_init_42 : decode cX7_init 42 = .ok (.new 19, 3) := by decide +kernel
theorem dX7_init_45 : decode cX7_init 45 = .ok (.dup, 1) := by decide +kernel
theorem dX7_init_46 : decode cX7_init 46 = .ok (.aload_n 0, 1) := by decide +kernel
theorem dX7_init_47 : decode cX7_init 47 = .ok (.getfield 16, 3) := by decide +kernel
theorem dX7_init_50 : decode cX7_init 50 = .ok (.invokespecial 21, 3) := by decide +kernel
theorem dX7_init_53 : decode cX7_init 53 = .ok (.putfield 28, 3) := by decide +kernel
theorem dX7_init_56 : decode cX7_init 56 = .ok (.aload_n 0, 1) := by decide +kernel
theorem dX7_init_57 : decode cX7_init 57 = .ok (.new 31, 3) := by decide +kernel
theorem dX7_init_60 : decode cX7_init 60 = .ok (.dup, 1) := by decide +kernel
theorem dX7_init_61 : decode cX7_init 61 = .ok (.invokespecial 33, 3) := by decide +kernel
theorem dX7_init_64 : decode cX7_init 64 = .ok (.putfield 34, 3) := by decide +kernel
theorem dX7_init_67 : decode cX7_init 67 = .ok (.aload_n 0, 1) := by decide +kernel
theorem dX7_init_68 : decode cX7_init 68 = .ok (.new 38, 3) := by decide +kernel
theorem dX7_init_71 : decode cX7_init 71 = .ok (.dup, 1) := by decide +kernel
theorem dX7_init_72 : decode cX7_init 72 = .ok (.invokespecial 40, 3) := by decide +kernel
theorem dX7_init_75 : decode cX7_init 75 = .ok (.putfield 41, 3) := by decide +kernel
theorem dX7_init_78 : decode cX7_init 78 = .ok (.aload_n 0, 1) := by decide +kernel
theorem dX7_init_79 : decode cX7_init 79 = .ok (.new 45, 3) := by decide +kernel
theorem dX7_init_82 : decode cX7_init 82 = .ok (.dup, 1) := by decide +kernel
theorem dX7_init_83 : decode cX7_init 83 = .ok (.aload_n 0, 1) := by decide +kernel
theorem dX7_init_84 : decode cX7_init 84 = .ok (.getfield 10, 3) := by decide +kernel
theorem dX7_init_87 : decode cX7_init 87 = .ok (.invokespecial 47, 3) := by decide +kernel
theorem dX7_init_90 : decode cX7_init 90 = .ok (.putfield 48, 3) := by decide +kernel
theorem dX7_init_93 : decode cX7_init 93 = .ok (.aload_n 0, 1) := by decide +kernel
theorem dX7_init_94 : decode cX7_init 94 = .ok (.iconst 0, 1) := by decide +kernel
theorem dX7_init_95 : decode cX7_init 95 = .ok (.putfield 52, 3) := by decide +kernel
theorem dX7_init_98 : decode cX7_init 98 = .ok (.return_, 1) := by decide +kernel
set_option maxRecDepth 20000 in
theorem ggX7_move_X7_needWithin : GoodIn wsX7_move wsX7_needWithin := goodIn_ca (goodIn_r _ [8, 9, 10] (by decide +kernel) (by decide +kernel)) (goodIn_sub (fun _ h => List.mem_cons_of_mem _ (List.mem_append_right _ h)) (by decide +kernel))
set_option maxRecDepth 20000 in
theorem gX7_move_X7_needWithin : GoodIn wsX7_move (va_wsS RX7 56 yX7_needWithin wsX7_needWithin) := goodIn_app (goodIn_of _ (by decide +kernel)) ggX7_move_X7_needWithin
set_option maxRecDepth 20000 in
theorem ggX7_move_X7_needNoRound : GoodIn wsX7_move wsX7_needNoRound := goodIn_ca (goodIn_r _ [14, 1, 2, 15, 39, 40, 41, 42, 43, 44, 45, 46] (by decide +kernel) (by decide +kernel)) (goodIn_sub (fun _ h => List.mem_cons_of_mem _ (List.mem_append_left _ (List.mem_append_right _ h))) (by decide +kernel))
set_option maxRecDepth 20000 in
theorem gX7_move_X7_needNoRound : GoodIn wsX7_move (wsV RX7 60 RX7 yX7_needNoRound wsX7_needNoRound) := goodIn_app (goodIn_of _ (by decide +kernel)) ggX7_move_X7_needNoRound
set_option maxRecDepth 20000 in
theorem ggX7_move_X5_at : GoodIn wsX7_move wsX5_at := goodIn_r _ [20, 21, 22, 47, 48, 49] (by decide +kernel) (by decide +kernel)
set_option maxRecDepth 20000 in
theorem gX7_move_X5_at : GoodIn wsX7_move (wsV RX7 74 RX5 yX5_at wsX5_at) := goodIn_app (goodIn_of _ (by decide +kernel)) ggX7_move_X5_at
set_option maxRecDepth 20000 in
theorem ggX7_move_X4_make : GoodIn wsX7_move wsX4_make := goodIn_r _ [27, 28, 29, 30, 31, 32, 33, 34, 35, 36, 26, 37, 38, 50, 51, 52, 53, 54, 55, 56, 57] (by decide +kernel) (by decide +kernel)
set_option maxRecDepth 20000 in
theorem gX7_move_X4_make : GoodIn wsX7_move (wsV RX7 78 RX4 yX4_make wsX4_make) := goodIn_app (goodIn_of _ (by decide +kernel)) ggX7_move_X4_make
theorem dX7_move_0 : decode cX7_move 0 = .ok (.iload_n 1, 1) := by decide +kernel
theorem dX7_move_1 : decode cX7_move 1 = .ok (.iconst 1, 1) := by decide +kernel
theorem dX7_move_2 : decode cX7_move 2 = .ok (.bipush 30, 2) := by decide +kernel
theorem dX7_move_4 : decode cX7_move 4 = .ok (.invokestatic 56, 3) := by decide +kernel
theorem dX7_move_7 : decode cX7_move 7 = .ok (.iload_n 2, 1) := by decide +kernel
theorem dX7_move_8 : decode cX7_move 8 = .ok (.iconst 1, 1) := by decide +kernel
theorem dX7_move_9 : decode cX7_move 9 = .ok (.bipush 10, 2) := by decide +kernel
theorem dX7_move_11 : decode cX7_move 11 = .ok (.invokestatic 56, 3) := by decide +kernel
theorem dX7_move_14 : decode cX7_move 14 = .ok (.iload_n 3, 1) := by decide +kernel
theorem dX7_move_15 : decode cX7_move 15 = .ok (.iconst 1, 1) := by decide +kernel
theorem dX7_move_16 : decode cX7_move 16 = .ok (.bipush 40, 2) := by decide +kernel
theorem dX7_move_18 : decode cX7_move 18 = .ok (.invokestatic 56, 3) := by decide +kernel
theorem dX7_move_21 : decode cX7_move 21 = .ok (.iload 4, 2) := by decide +kernel
theorem dX7_move_23 : decode cX7_move 23 = .ok (.iconst 1, 1) := by decide +kernel
theorem dX7_move_24 : decode cX7_move 24 = .ok (.sipush 150, 3) := by decide +kernel
theorem dX7_move_27 : decode cX7_move 27 = .ok (.invokestatic 56, 3) := by decide +kernel
theorem dX7_move_30 : decode cX7_move 30 = .ok (.iload 5, 2) := by decide +kernel
theorem dX7_move_32 : decode cX7_move 32 = .ok (.iconst 0, 1) := by decide +kernel
theorem dX7_move_33 : decode cX7_move 33 = .ok (.iconst 3, 1) := by decide +kernel
theorem dX7_move_34 : decode cX7_move 34 = .ok (.invokestatic 56, 3) := by decide +kernel
theorem dX7_move_37 : decode cX7_move 37 = .ok (.iload 6, 2) := by decide +kernel
theorem dX7_move_39 : decode cX7_move 39 = .ok (.iconst 1, 1) := by decide +kernel
theorem dX7_move_40 : decode cX7_move 40 = .ok (.sipush 200, 3) := by decide +kernel
theorem dX7_move_43 : decode cX7_move 43 = .ok (.invokestatic 56, 3) := by decide +kernel
theorem dX7_move_46 : decode cX7_move 46 = .ok (.aload_n 0, 1) := by decide +kernel
theorem dX7_move_47 : decode cX7_move 47 = .ok (.invokevirtual 60, 3) := by decide +kernel
theorem dX7_move_50 : decode cX7_move 50 = .ok (.aload_n 0, 1) := by decide +kernel
theorem dX7_move_51 : decode cX7_move 51 = .ok (.getfield 10, 3) := by decide +kernel
theorem dX7_move_54 : decode cX7_move 54 = .ok (.getfield 63, 3) := by decide +kernel
theorem dX7_move_57 : decode cX7_move 57 = .ok (.bipush 6, 2) := by decide +kernel
theorem dX7_move_59 : decode cX7_move 59 = .ok (.if_icmp .lt 13, 3) := by decide +kernel
theorem dX7_move_62 : decode cX7_move 62 = .ok (.new 67, 3) := by decide +kernel
theorem dX7_move_65 : decode cX7_move 65 = .ok (.dup, 1) := by decide +kernel
theorem dX7_move_66 : decode cX7_move 66 = .ok (.ldc 69, 2) := by decide +kernel
theorem dX7_move_68 : decode cX7_move 68 = .ok (.invokespecial 71, 3) := by decide +kernel
theorem dX7_move_71 : decode cX7_move 71 = .ok (.athrow, 1) := by decide +kernel
theorem dX7_move_72 : decode cX7_move 72 = .ok (.aload_n 0, 1) := by decide +kernel
theorem dX7_move_73 : decode cX7_move 73 = .ok (.getfield 10, 3) := by decide +kernel
theorem dX7_move_76 : decode cX7_move 76 = .ok (.getfield 63, 3) := by decide +kernel
theorem dX7_move_79 : decode cX7_move 79 = .ok (.istore 7, 2) := by decide +kernel
theorem dX7_move_81 : decode cX7_move 81 = .ok (.aload_n 0, 1) := by decide +kernel
theorem dX7_move_82 : decode cX7_move 82 = .ok (.getfield 10, 3) := by decide +kernel
theorem dX7_move_85 : decode cX7_move 85 = .ok (.iload 7, 2) := by decide +kernel
theorem dX7_move_87 : decode cX7_move 87 = .ok (.invokevirtual 74, 3) := by decide +kernel
theorem dX7_move_90 : decode cX7_move 90 = .ok (.iload_n 1, 1) := by decide +kernel
theorem dX7_move_91 : decode cX7_move 91 = .ok (.iload_n 2, 1) := by decide +kernel
theorem dX7_move_92 : decode cX7_move 92 = .ok (.iload_n 3, 1) := by decide +kernel
theorem dX7_move_93 : decode cX7_move 93 = .ok (.iload 4, 2) := by decide +kernel
theorem dX7_move_95 : decode cX7_move 95 = .ok (.iload 5, 2) := by decide +kernel
theorem dX7_move_97 : decode cX7_move 97 = .ok (.iload 6, 2) := by decide +kernel
theorem dX7_move_99 : decode cX7_move 99 = .ok (.invokevirtual 78, 3) := by decide +kernel
theorem dX7_move_102 : decode cX7_move 102 = .ok (.aload_n 0, 1) := by decide +kernel
theorem dX7_move_103 : decode cX7_move 103 = .ok (.getfield 10, 3) := by decide +kernel
theorem dX7_move_106 : decode cX7_move 106 = .ok (.iload 7, 2) := by decide +kernel
theorem dX7_move_108 : decode cX7_move 108 = .ok (.iconst 1, 1) := by decide +kernel
theorem dX7_move_109 : decode cX7_move 109 = .ok (.iadd, 1) := by decide +kernel
theorem dX7_move_110 : decode cX7_move 110 = .ok (.putfield 63, 3) := by decide +kernel
theorem dX7_move_113 : decode cX7_move 113 = .ok (.iload 7, 2) := by decide +kernel
theorem dX7_move_115 : decode cX7_move 115 = .ok (.ireturn, 1) := by decide +kernel
set_option maxRecDepth 20000 in
theorem ggX7_patch_X7_needMove : GoodIn wsX7_patch wsX7_needMove := goodIn_ca (goodIn_r _ [6, 7, 8, 1, 9, 10, 11, 12, 13, 14, 43, 44, 45, 46, 47, 48, 49, 50, 51, 52, 53] (by decide +kernel) (by decide +kernel)) (goodIn_sub (fun _ h => List.mem_cons_of_mem _ (List.mem_append_left _ (List.mem_append_left _ (List.mem_append_right _ h)))) (by decide +kernel))
set_option maxRecDepth 20000 in
theorem gX7_patch_X7_needMove : GoodIn wsX7_patch (wsV RX7 84 RX7 yX7_needMove wsX7_needMove) := goodIn_app (goodIn_of _ (by decide +kernel)) ggX7_patch_X7_needMove
set_option maxRecDepth 20000 in
theorem ggX7_patch_X7_needWithin : GoodIn wsX7_patch wsX7_needWithin := goodIn_ca (goodIn_r _ [17, 18, 19] (by decide +kernel) (by decide +kernel)) (goodIn_sub (fun _ h => List.mem_cons_of_mem _ (List.mem_append_left _ (List.mem_append_right _ h))) (by decide +kernel))
set_option maxRecDepth 20000 in
theorem gX7_patch_X7_needWithin : GoodIn wsX7_patch (va_wsS RX7 56 yX7_needWithin wsX7_needWithin) := goodIn_app (goodIn_of _ (by decide +kernel)) ggX7_patch_X7_needWithin
set_option maxRecDepth 20000 in
theorem ggX7_patch_X7_needNoRound : GoodIn wsX7_patch wsX7_needNoRound := goodIn_ca (goodIn_r _ [23, 24, 25, 26, 43, 44, 45, 46, 47, 48, 49, 50] (by decide +kernel) (by decide +kernel)) (goodIn_sub (fun _ h => List.mem_cons_of_mem _ (List.mem_append_right _ h)) (by decide +kernel))
set_option maxRecDepth 20000 in
theorem gX7_patch_X7_needNoRound : GoodIn wsX7_patch (wsV RX7 60 RX7 yX7_needNoRound wsX7_needNoRound) := goodIn_app (goodIn_of _ (by decide +kernel)) ggX7_patch_X7_needNoRound
set_option maxRecDepth 20000 in
theorem ggX7_patch_X5_at : GoodIn wsX7_patch wsX5_at := goodIn_r _ [30, 31, 32, 51, 52, 53] (by decide +kernel) (by decide +kernel)
set_option maxRecDepth 20000 in
theorem gX7_patch_X5_at : GoodIn wsX7_patch (wsV RX7 74 RX5 yX5_at wsX5_at) := goodIn_app (goodIn_of _ (by decide +kernel)) ggX7_patch_X5_at
set_option maxRecDepth 20000 in
theorem ggX7_patch_X4_trait : GoodIn wsX7_patch wsX4_trait := goodIn_r _ [37, 38, 54, 55, 56, 57, 58, 59, 60, 61] (by decide +kernel) (by decide +kernel)
set_option maxRecDepth 20000 in
theorem gX7_patch_X4_trait : GoodIn wsX7_patch (wsV RX7 88 RX4 yX4_trait wsX4_trait) := goodIn_app (goodIn_of _ (by decide +kernel)) ggX7_patch_X4_trait
set_option maxRecDepth 20000 in
theorem ggX7_patch_X4_setTrait : GoodIn wsX7_patch wsX4_setTrait := goodIn_r _ [42, 38, 54, 55, 56, 57, 58, 59, 60, 61] (by decide +kernel) (by decide +kernel)
set_option maxRecDepth 20000 in
theorem gX7_patch_X4_setTrait : GoodIn wsX7_patch (wsV RX7 92 RX4 yX4_setTrait wsX4_setTrait) := goodIn_app (goodIn_of _ (by decide +kernel)) ggX7_patch_X4_setTrait
theorem dX7_patch_0 : decode cX7_patch 0 = .ok (.aload_n 0, 1) := by decide +kernel
theorem dX7_patch_1 : decode cX7_patch 1 = .ok (.iload_n 1, 1) := by decide +kernel
theorem dX7_patch_2 : decode cX7_patch 2 = .ok (.invokevirtual 84, 3) := by decide +kernel
theorem dX7_patch_5 : decode cX7_patch 5 = .ok (.iload_n 2, 1) := by decide +kernel
theorem dX7_patch_6 : decode cX7_patch 6 = .ok (.iconst 0, 1) := by decide +kernel
theorem dX7_patch_7 : decode cX7_patch 7 = .ok (.iconst 4, 1) := by decide +kernel
theorem dX7_patch_8 : decode cX7_patch 8 = .ok (.invokestatic 56, 3) := by decide +kernel
theorem dX7_patch_11 : decode cX7_patch 11 = .ok (.iload_n 3, 1) := by decide +kernel
theorem dX7_patch_12 : decode cX7_patch 12 = .ok (.iconst 0, 1) := by decide +kernel
theorem dX7_patch_13 : decode cX7_patch 13 = .ok (.bipush 60, 2) := by decide +kernel
theorem dX7_patch_15 : decode cX7_patch 15 = .ok (.invokestatic 56, 3) := by decide +kernel
theorem dX7_patch_18 : decode cX7_patch 18 = .ok (.aload_n 0, 1) := by decide +kernel
theorem dX7_patch_19 : decode cX7_patch 19 = .ok (.invokevirtual 60, 3) := by decide +kernel
theorem dX7_patch_22 : decode cX7_patch 22 = .ok (.aload_n 0, 1) := by decide +kernel
theorem dX7_patch_23 : decode cX7_patch 23 = .ok (.getfield 10, 3) := by decide +kernel
theorem dX7_patch_26 : decode cX7_patch 26 = .ok (.iload_n 1, 1) := by decide +kernel
theorem dX7_patch_27 : decode cX7_patch 27 = .ok (.invokevirtual 74, 3) := by decide +kernel
theorem dX7_patch_30 : decode cX7_patch 30 = .ok (.iload_n 2, 1) := by decide +kernel
theorem dX7_patch_31 : decode cX7_patch 31 = .ok (.invokevirtual 88, 3) := by decide +kernel
theorem dX7_patch_34 : decode cX7_patch 34 = .ok (.istore 4, 2) := by decide +kernel
theorem dX7_patch_36 : decode cX7_patch 36 = .ok (.aload_n 0, 1) := by decide +kernel
theorem dX7_patch_37 : decode cX7_patch 37 = .ok (.getfield 10, 3) := by decide +kernel
theorem dX7_patch_40 : decode cX7_patch 40 = .ok (.iload_n 1, 1) := by decide +kernel
theorem dX7_patch_41 : decode cX7_patch 41 = .ok (.invokevirtual 74, 3) := by decide +kernel
theorem dX7_patch_44 : decode cX7_patch 44 = .ok (.iload_n 2, 1) := by decide +kernel
theorem dX7_patch_45 : decode cX7_patch 45 = .ok (.iload_n 3, 1) := by decide +kernel
theorem dX7_patch_46 : decode cX7_patch 46 = .ok (.invokevirtual 92, 3) := by decide +kernel
theorem dX7_patch_49 : decode cX7_patch 49 = .ok (.iload 4, 2) := by decide +kernel
theorem dX7_patch_51 : decode cX7_patch 51 = .ok (.ireturn, 1) := by decide +kernel
set_option maxRecDepth 20000 in
theorem ggX7_cancel_X7_needMove : GoodIn wsX7_cancel wsX7_needMove := goodIn_ca (goodIn_r _ [6, 7, 8, 1, 9, 10, 11, 12, 13, 14, 38, 39, 40, 41, 42, 43, 44, 45, 46, 47, 48] (by decide +kernel) (by decide +kernel)) (goodIn_sub (fun _ h => List.mem_cons_of_mem _ (List.mem_append_left _ (List.mem_append_right _ h))) (by decide +kernel))
set_option maxRecDepth 20000 in
theorem gX7_cancel_X7_needMove : GoodIn wsX7_cancel (wsV RX7 84 RX7 yX7_needMove wsX7_needMove) := goodIn_app (goodIn_of _ (by decide +kernel)) ggX7_cancel_X7_needMove
set_option maxRecDepth 20000 in
theorem ggX7_cancel_X7_needNoRound : GoodIn wsX7_cancel wsX7_needNoRound := goodIn_ca (goodIn_r _ [18, 19, 20, 21, 38, 39, 40, 41, 42, 43, 44, 45] (by decide +kernel) (by decide +kernel)) (goodIn_sub (fun _ h => List.mem_cons_of_mem _ (List.mem_append_right _ h)) (by decide +kernel))
set_option maxRecDepth 20000 in
theorem gX7_cancel_X7_needNoRound : GoodIn wsX7_cancel (wsV RX7 60 RX7 yX7_needNoRound wsX7_needNoRound) := goodIn_app (goodIn_of _ (by decide +kernel)) ggX7_cancel_X7_needNoRound
set_option maxRecDepth 20000 in
theorem ggX7_cancel_X5_at : GoodIn wsX7_cancel wsX5_at := goodIn_r _ [25, 26, 27, 46, 47, 48] (by decide +kernel) (by decide +kernel)
set_option maxRecDepth 20000 in
theorem gX7_cancel_X5_at : GoodIn wsX7_cancel (wsV RX7 74 RX5 yX5_at wsX5_at) := goodIn_app (goodIn_of _ (by decide +kernel)) ggX7_cancel_X5_at
set_option maxRecDepth 20000 in
theorem ggX7_cancel_X4_goesInto : GoodIn wsX7_cancel wsX4_goesInto := goodIn_r _ [32, 33, 49, 50, 51, 52, 53, 54, 55, 56] (by decide +kernel) (by decide +kernel)
set_option maxRecDepth 20000 in
theorem gX7_cancel_X4_goesInto : GoodIn wsX7_cancel (wsV RX7 96 RX4 yX4_goesInto wsX4_goesInto) := goodIn_app (goodIn_of _ (by decide +kernel)) ggX7_cancel_X4_goesInto
set_option maxRecDepth 20000 in
theorem ggX7_cancel_X4_letGoInto : GoodIn wsX7_cancel wsX4_letGoInto := goodIn_r _ [37, 33, 49, 50, 51, 52, 53, 54, 55, 56] (by decide +kernel) (by decide +kernel)
set_option maxRecDepth 20000 in
theorem gX7_cancel_X4_letGoInto : GoodIn wsX7_cancel (wsV RX7 100 RX4 yX4_letGoInto wsX4_letGoInto) := goodIn_app (goodIn_of _ (by decide +kernel)) ggX7_cancel_X4_letGoInto
theorem dX7_cancel_0 : decode cX7_cancel 0 = .ok (.aload_n 0, 1) := by decide +kernel
theorem dX7_cancel_1 : decode cX7_cancel 1 = .ok (.iload_n 1, 1) := by decide +kernel
theorem dX7_cancel_2 : decode cX7_cancel 2 = .ok (.invokevirtual 84, 3) := by decide +kernel
theorem dX7_cancel_5 : decode cX7_cancel 5 = .ok (.aload_n 0, 1) := by decide +kernel
theorem dX7_cancel_6 : decode cX7_cancel 6 = .ok (.iload_n 2, 1) := by decide +kernel
theorem dX7_cancel_7 : decode cX7_cancel 7 = .ok (.invokevirtual 84, 3) := by decide +kernel
theorem dX7_cancel_10 : decode cX7_cancel 10 = .ok (.aload_n 0, 1) := by decide +kernel
theorem dX7_cancel_11 : decode cX7_cancel 11 = .ok (.invokevirtual 60, 3) := by decide +kernel
theorem dX7_cancel_14 : decode cX7_cancel 14 = .ok (.aload_n 0, 1) := by decide +kernel
theorem dX7_cancel_15 : decode cX7_cancel 15 = .ok (.getfield 10, 3) := by decide +kernel
theorem dX7_cancel_18 : decode cX7_cancel 18 = .ok (.iload_n 1, 1) := by decide +kernel
theorem dX7_cancel_19 : decode cX7_cancel 19 = .ok (.invokevirtual 74, 3) := by decide +kernel
theorem dX7_cancel_22 : decode cX7_cancel 22 = .ok (.iload_n 2, 1) := by decide +kernel
theorem dX7_cancel_23 : decode cX7_cancel 23 = .ok (.invokevirtual 96, 3) := by decide +kernel
theorem dX7_cancel_26 : decode cX7_cancel 26 = .ok (.istore 4, 2) := by decide +kernel
theorem dX7_cancel_28 : decode cX7_cancel 28 = .ok (.aload_n 0, 1) := by decide +kernel
theorem dX7_cancel_29 : decode cX7_cancel 29 = .ok (.getfield 10, 3) := by decide +kernel
theorem dX7_cancel_32 : decode cX7_cancel 32 = .ok (.iload_n 1, 1) := by decide +kernel
theorem dX7_cancel_33 : decode cX7_cancel 33 = .ok (.invokevirtual 74, 3) := by decide +kernel
theorem dX7_cancel_36 : decode cX7_cancel 36 = .ok (.iload_n 2, 1) := by decide +kernel
theorem dX7_cancel_37 : decode cX7_cancel 37 = .ok (.iload_n 3, 1) := by decide +kernel
theorem dX7_cancel_38 : decode cX7_cancel 38 = .ok (.invokevirtual 100, 3) := by decide +kernel
theorem dX7_cancel_41 : decode cX7_cancel 41 = .ok (.iload 4, 2) := by decide +kernel
theorem dX7_cancel_43 : decode cX7_cancel 43 = .ok (.ireturn, 1) := by decide +kernel
set_option maxRecDepth 20000 in
theorem ggX7_begin_X7_needWithin : GoodIn wsX7_begin wsX7_needWithin := goodIn_ca (goodIn_r _ [16, 1, 2] (by decide +kernel) (by decide +kernel)) (goodIn_sub (fun _ h => List.mem_cons_of_mem _ (List.mem_append_left _ (List.mem_append_right _ h))) (by decide +kernel))
set_option maxRecDepth 20000 in
theorem gX7_begin_X7_needWithin : GoodIn wsX7_begin (va_wsS RX7 56 yX7_needWithin wsX7_needWithin) := goodIn_app (goodIn_of _ (by decide +kernel)) ggX7_begin_X7_needWithin
set_option maxRecDepth 20000 in
theorem ggX7_begin_X7_needNoRound : GoodIn wsX7_begin wsX7_needNoRound := goodIn_ca (goodIn_r _ [20, 21, 22, 12, 107, 108, 109, 110, 111, 112, 113, 114] (by decide +kernel) (by decide +kernel)) (goodIn_sub (fun _ h => List.mem_cons_of_mem _ (List.mem_append_right _ h)) (by decide +kernel))
set_option maxRecDepth 20000 in
theorem gX7_begin_X7_needNoRound : GoodIn wsX7_begin (wsV RX7 60 RX7 yX7_needNoRound wsX7_needNoRound) := goodIn_app (goodIn_of _ (by decide +kernel)) ggX7_begin_X7_needNoRound
set_option maxRecDepth 20000 in
theorem ggX7_begin_X0_wonBy : GoodIn wsX7_begin wsX0_wonBy := goodIn_r _ [27, 28, 29, 115, 116, 117] (by decide +kernel) (by decide +kernel)
set_option maxRecDepth 20000 in
theorem gX7_begin_X0_wonBy : GoodIn wsX7_begin (wsV RX7 112 RX0 yX0_wonBy wsX0_wonBy) := goodIn_app (goodIn_of _ (by decide +kernel)) ggX7_begin_X0_wonBy
set_option maxRecDepth 20000 in
theorem ggX7_begin_X0_clear : GoodIn wsX7_begin wsX0_clear := goodIn_r _ [33, 34, 28, 29, 115, 116, 117] (by decide +kernel) (by decide +kernel)
set_option maxRecDepth 20000 in
theorem gX7_begin_X0_clear : GoodIn wsX7_begin (wsV RX7 116 RX0 yX0_clear wsX0_clear) := goodIn_app (goodIn_of _ (by decide +kernel)) ggX7_begin_X0_clear
set_option maxRecDepth 20000 in
theorem ggX7_begin_X5_copy : GoodIn wsX7_begin wsX5_copy := goodIn_r _ [39, 40, 41, 42, 43, 44, 45, 46, 47, 48, 49, 50, 51, 52, 53, 54, 55, 56, 57, 58, 137, 138, 139, 140, 141, 142, 143, 144, 145, 146, 147] (by decide +kernel) (by decide +kernel)
set_option maxRecDepth 20000 in
theorem gX7_begin_X5_copy : GoodIn wsX7_begin (wsV RX7 119 RX5 yX5_copy wsX5_copy) := goodIn_app (goodIn_of _ (by decide +kernel)) ggX7_begin_X5_copy
set_option maxRecDepth 20000 in
theorem ggX7_begin_X6_clear : GoodIn wsX7_begin wsX6_clear := goodIn_r _ [63, 64, 65, 66, 67, 148, 149, 150, 151, 152, 153] (by decide +kernel) (by decide +kernel)
set_option maxRecDepth 20000 in
theorem gX7_begin_X6_clear : GoodIn wsX7_begin (wsV RX7 134 RX6 yX6_clear wsX6_clear) := goodIn_app (goodIn_of _ (by decide +kernel)) ggX7_begin_X6_clear
set_option maxRecDepth 20000 in
theorem ggX7_begin_X6_prepare : GoodIn wsX7_begin wsX6_prepare := goodIn_r _ [71, 64, 65, 66, 72, 73, 74, 75, 76, 77, 78, 79, 80, 81, 82, 83, 84, 85, 86, 87, 88, 89, 90, 91, 92, 93, 94, 95, 96, 97, 98, 99, 100, 101, 102, 103, 104, 105, 106, 148, 149, 150, 151, 152, 153, 118, 119, 120, 121, 122, 123, 124, 125, 126, 127, 128, 129, 130, 131, 132, 133, 134, 135, 136] (by decide +kernel) (by decide +kernel)
set_option maxRecDepth 20000 in
theorem gX7_begin_X6_prepare : GoodIn wsX7_begin (wsV RX7 136 RX6 yX6_prepare wsX6_prepare) := goodIn_app (goodIn_of _ (by decide +kernel)) ggX7_begin_X6_prepare
theorem dX7_begin_0 : decode cX7_begin 0 = .ok (.iload_n 1, 1) := by decide +kernel
theorem dX7_begin_1 : decode cX7_begin 1 = .ok (.bipush 20, 2) := by decide +kernel
theorem dX7_begin_3 : decode cX7_begin 3 = .ok (.sipush 300, 3) := by decide +kernel
theorem dX7_begin_6 : decode cX7_begin 6 = .ok (.invokestatic 56, 3) := by decide +kernel
theorem dX7_begin_9 : decode cX7_begin 9 = .ok (.iload_n 1, 1) := by decide +kernel
theorem dX7_begin_10 : decode cX7_begin 10 = .ok (.iconst 2, 1) := by decide +kernel
theorem dX7_begin_11 : decode cX7_begin 11 = .ok (.irem, 1) := by decide +kernel
theorem dX7_begin_12 : decode cX7_begin 12 = .ok (.ifCond .eq 13, 3) := by decide +kernel
theorem dX7_begin_15 : decode cX7_begin 15 = .ok (.new 104, 3) := by decide +kernel
theorem dX7_begin_18 : decode cX7_begin 18 = .ok (.dup, 1) := by decide +kernel
theorem dX7_begin_19 : decode cX7_begin 19 = .ok (.ldc 106, 2) := by decide +kernel
theorem dX7_begin_21 : decode cX7_begin 21 = .ok (.invokespecial 108, 3) := by decide +kernel
theorem dX7_begin_24 : decode cX7_begin 24 = .ok (.athrow, 1) := by decide +kernel
theorem dX7_begin_25 : decode cX7_begin 25 = .ok (.aload_n 0, 1) := by decide +kernel
theorem dX7_begin_26 : decode cX7_begin 26 = .ok (.invokevirtual 60, 3) := by decide +kernel
theorem dX7_begin_29 : decode cX7_begin 29 = .ok (.aload_n 0, 1) := by decide +kernel
theorem dX7_begin_30 : decode cX7_begin 30 = .ok (.getfield 41, 3) := by decide +kernel
theorem dX7_begin_33 : decode cX7_begin 33 = .ok (.getfield 109, 3) := by decide +kernel
theorem dX7_begin_36 : decode cX7_begin 36 = .ok (.ifCond .eq 14, 3) := by decide +kernel
theorem dX7_begin_39 : decode cX7_begin 39 = .ok (.aload_n 0, 1) := by decide +kernel
theorem dX7_begin_40 : decode cX7_begin 40 = .ok (.getfield 41, 3) := by decide +kernel
theorem dX7_begin_43 : decode cX7_begin 43 = .ok (.invokevirtual 112, 3) := by decide +kernel
theorem dX7_begin_46 : decode cX7_begin 46 = .ok (.iconst (-1), 1) := by decide +kernel
theorem dX7_begin_47 : decode cX7_begin 47 = .ok (.if_icmp .eq 7, 3) := by decide +kernel
theorem dX7_begin_50 : decode cX7_begin 50 = .ok (.iconst 1, 1) := by decide +kernel
theorem dX7_begin_51 : decode cX7_begin 51 = .ok (.goto 4, 3) := by decide +kernel
theorem dX7_begin_54 : decode cX7_begin 54 = .ok (.iconst 0, 1) := by decide +kernel
theorem dX7_begin_55 : decode cX7_begin 55 = .ok (.istore_n 2, 1) := by decide +kernel
theorem dX7_begin_56 : decode cX7_begin 56 = .ok (.iload_n 2, 1) := by decide +kernel
theorem dX7_begin_57 : decode cX7_begin 57 = .ok (.ifCond .eq 10, 3) := by decide +kernel
theorem dX7_begin_60 : decode cX7_begin 60 = .ok (.aload_n 0, 1) := by decide +kernel
theorem dX7_begin_61 : decode cX7_begin 61 = .ok (.getfield 41, 3) := by decide +kernel
theorem dX7_begin_64 : decode cX7_begin 64 = .ok (.invokevirtual 116, 3) := by decide +kernel
theorem dX7_begin_67 : decode cX7_begin 67 = .ok (.aload_n 0, 1) := by decide +kernel
theorem dX7_begin_68 : decode cX7_begin 68 = .ok (.getfield 16, 3) := by decide +kernel
theorem dX7_begin_71 : decode cX7_begin 71 = .ok (.aload_n 0, 1) := by decide +kernel
theorem dX7_begin_72 : decode cX7_begin 72 = .ok (.getfield 10, 3) := by decide +kernel
theorem dX7_begin_75 : decode cX7_begin 75 = .ok (.invokevirtual 119, 3) := by decide +kernel
theorem dX7_begin_78 : decode cX7_begin 78 = .ok (.aload_n 0, 1) := by decide +kernel
