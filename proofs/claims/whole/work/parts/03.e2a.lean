theorem dX8_load_26 : decode cX8_load 26 = .ok (.return_, 1) := by decide +kernel
theorem dX8_store_0 : decode cX8_store 0 = .ok (.iconst 0, 1) := by decide +kernel
theorem dX8_store_1 : decode cX8_store 1 = .ok (.istore_n 1, 1) := by decide +kernel
theorem dX8_store_2 : decode cX8_store 2 = .ok (.iload_n 1, 1) := by decide +kernel
theorem dX8_store_3 : decode cX8_store 3 = .ok (.bipush 22, 2) := by decide +kernel
theorem dX8_store_5 : decode cX8_store 5 = .ok (.if_icmp .ge 21, 3) := by decide +kernel
theorem dX8_store_8 : decode cX8_store 8 = .ok (.aload_n 0, 1) := by decide +kernel
theorem dX8_store_9 : decode cX8_store 9 = .ok (.getfield 16, 3) := by decide +kernel
theorem dX8_store_12 : decode cX8_store 12 = .ok (.iload_n 1, 1) := by decide +kernel
theorem dX8_store_13 : decode cX8_store 13 = .ok (.aload_n 0, 1) := by decide +kernel
theorem dX8_store_14 : decode cX8_store 14 = .ok (.getfield 13, 3) := by decide +kernel
theorem dX8_store_17 : decode cX8_store 17 = .ok (.iload_n 1, 1) := by decide +kernel
theorem dX8_store_18 : decode cX8_store 18 = .ok (.iaload, 1) := by decide +kernel
theorem dX8_store_19 : decode cX8_store 19 = .ok (.iastore, 1) := by decide +kernel
theorem dX8_store_20 : decode cX8_store 20 = .ok (.iinc 1 1, 3) := by decide +kernel
theorem dX8_store_23 : decode cX8_store 23 = .ok (.goto (-21), 3) := by decide +kernel
theorem dX8_store_26 : decode cX8_store 26 = .ok (.iconst 0, 1) := by decide +kernel
theorem dX8_store_27 : decode cX8_store 27 = .ok (.istore_n 1, 1) := by decide +kernel
theorem dX8_store_28 : decode cX8_store 28 = .ok (.iload_n 1, 1) := by decide +kernel
theorem dX8_store_29 : decode cX8_store 29 = .ok (.bipush 7, 2) := by decide +kernel
theorem dX8_store_31 : decode cX8_store 31 = .ok (.if_icmp .ge 55, 3) := by decide +kernel
theorem dX8_store_34 : decode cX8_store 34 = .ok (.aload_n 0, 1) := by decide +kernel
theorem dX8_store_35 : decode cX8_store 35 = .ok (.getfield 22, 3) := by decide +kernel
theorem dX8_store_38 : decode cX8_store 38 = .ok (.bipush 14, 2) := by decide +kernel
theorem dX8_store_40 : decode cX8_store 40 = .ok (.aload_n 0, 1) := by decide +kernel
theorem dX8_store_41 : decode cX8_store 41 = .ok (.getfield 28, 3) := by decide +kernel
theorem dX8_store_44 : decode cX8_store 44 = .ok (.imul, 1) := by decide +kernel
theorem dX8_store_45 : decode cX8_store 45 = .ok (.iload_n 1, 1) := by decide +kernel
theorem dX8_store_46 : decode cX8_store 46 = .ok (.iadd, 1) := by decide +kernel
theorem dX8_store_47 : decode cX8_store 47 = .ok (.aload_n 0, 1) := by decide +kernel
theorem dX8_store_48 : decode cX8_store 48 = .ok (.getfield 13, 3) := by decide +kernel
theorem dX8_store_51 : decode cX8_store 51 = .ok (.iload_n 1, 1) := by decide +kernel
theorem dX8_store_52 : decode cX8_store 52 = .ok (.iaload, 1) := by decide +kernel
theorem dX8_store_53 : decode cX8_store 53 = .ok (.iastore, 1) := by decide +kernel
theorem dX8_store_54 : decode cX8_store 54 = .ok (.aload_n 0, 1) := by decide +kernel
theorem dX8_store_55 : decode cX8_store 55 = .ok (.getfield 22, 3) := by decide +kernel
theorem dX8_store_58 : decode cX8_store 58 = .ok (.bipush 14, 2) := by decide +kernel
theorem dX8_store_60 : decode cX8_store 60 = .ok (.aload_n 0, 1) := by decide +kernel
theorem dX8_store_61 : decode cX8_store 61 = .ok (.getfield 28, 3) := by decide +kernel
theorem dX8_store_64 : decode cX8_store 64 = .ok (.imul, 1) := by decide +kernel
theorem dX8_store_65 : decode cX8_store 65 = .ok (.bipush 7, 2) := by decide +kernel
theorem dX8_store_67 : decode cX8_store 67 = .ok (.iadd, 1) := by decide +kernel
theorem dX8_store_68 : decode cX8_store 68 = .ok (.iload_n 1, 1) := by decide +kernel
theorem dX8_store_69 : decode cX8_store 69 = .ok (.iadd, 1) := by decide +kernel
theorem dX8_store_70 : decode cX8_store 70 = .ok (.aload_n 0, 1) := by decide +kernel
theorem dX8_store_71 : decode cX8_store 71 = .ok (.getfield 13, 3) := by decide +kernel
theorem dX8_store_74 : decode cX8_store 74 = .ok (.bipush 11, 2) := by decide +kernel
theorem dX8_store_76 : decode cX8_store 76 = .ok (.iload_n 1, 1) := by decide +kernel
theorem dX8_store_77 : decode cX8_store 77 = .ok (.iadd, 1) := by decide +kernel
theorem dX8_store_78 : decode cX8_store 78 = .ok (.iaload, 1) := by decide +kernel
theorem dX8_store_79 : decode cX8_store 79 = .ok (.iastore, 1) := by decide +kernel
theorem dX8_store_80 : decode cX8_store 80 = .ok (.iinc 1 1, 3) := by decide +kernel
theorem dX8_store_83 : decode cX8_store 83 = .ok (.goto (-55), 3) := by decide +kernel
theorem dX8_store_86 : decode cX8_store 86 = .ok (.return_, 1) := by decide +kernel
set_option maxRecDepth 20000 in
theorem ggX8_begin_X8_in : GoodIn wsX8_begin wsX8_in := goodIn_r _ [10] (by decide +kernel) (by decide +kernel)
set_option maxRecDepth 20000 in
theorem gX8_begin_X8_in : GoodIn wsX8_begin (va_wsS RX8 47 yX8_in wsX8_in) := goodIn_app (goodIn_of _ (by decide +kernel)) ggX8_begin_X8_in
set_option maxRecDepth 20000 in
theorem ggX8_begin_X8_isFine : GoodIn wsX8_begin wsX8_isFine := goodIn_r _ [14, 15, 26, 27, 28, 29, 30, 31, 32, 33, 34, 35, 36, 37, 38, 39, 40, 41, 42] (by decide +kernel) (by decide +kernel)
set_option maxRecDepth 20000 in
theorem gX8_begin_X8_isFine : GoodIn wsX8_begin (wsV RX8 55 RX8 yX8_isFine wsX8_isFine) := goodIn_app (goodIn_of _ (by decide +kernel)) ggX8_begin_X8_isFine
set_option maxRecDepth 20000 in
theorem ggX8_begin_X8_lay : GoodIn wsX8_begin wsX8_lay := goodIn_r _ [19, 20, 26, 27, 28, 29, 30, 31, 32, 33, 34, 35, 36, 37, 38, 39, 40, 41, 42] (by decide +kernel) (by decide +kernel)
set_option maxRecDepth 20000 in
theorem gX8_begin_X8_lay : GoodIn wsX8_begin (wsV RX8 99 RX8 yX8_lay wsX8_lay) := goodIn_app (goodIn_of _ (by decide +kernel)) ggX8_begin_X8_lay
set_option maxRecDepth 20000 in
theorem ggX8_begin_X8_store : GoodIn wsX8_begin wsX8_store := goodIn_r _ [24, 5, 20, 25, 6, 26, 27, 28, 29, 30, 31, 32, 33, 34, 35, 36, 37, 38, 39, 40, 41, 42] (by decide +kernel) (by decide +kernel)
set_option maxRecDepth 20000 in
theorem gX8_begin_X8_store : GoodIn wsX8_begin (wsV RX8 103 RX8 yX8_store wsX8_store) := goodIn_app (goodIn_of _ (by decide +kernel)) ggX8_begin_X8_store
theorem dX8_begin_0 : decode cX8_begin 0 = .ok (.aload_n 0, 1) := by decide +kernel
theorem dX8_begin_1 : decode cX8_begin 1 = .ok (.iload_n 1, 1) := by decide +kernel
theorem dX8_begin_2 : decode cX8_begin 2 = .ok (.bipush 20, 2) := by decide +kernel
theorem dX8_begin_4 : decode cX8_begin 4 = .ok (.sipush 300, 3) := by decide +kernel
theorem dX8_begin_7 : decode cX8_begin 7 = .ok (.invokestatic 47, 3) := by decide +kernel
theorem dX8_begin_10 : decode cX8_begin 10 = .ok (.ifCond .eq 9, 3) := by decide +kernel
theorem dX8_begin_13 : decode cX8_begin 13 = .ok (.iload_n 1, 1) := by decide +kernel
theorem dX8_begin_14 : decode cX8_begin 14 = .ok (.iconst 2, 1) := by decide +kernel
theorem dX8_begin_15 : decode cX8_begin 15 = .ok (.irem, 1) := by decide +kernel
theorem dX8_begin_16 : decode cX8_begin 16 = .ok (.ifCond .eq 7, 3) := by decide +kernel
theorem dX8_begin_19 : decode cX8_begin 19 = .ok (.iconst 1, 1) := by decide +kernel
theorem dX8_begin_20 : decode cX8_begin 20 = .ok (.goto 15, 3) := by decide +kernel
theorem dX8_begin_23 : decode cX8_begin 23 = .ok (.aload_n 0, 1) := by decide +kernel
theorem dX8_begin_24 : decode cX8_begin 24 = .ok (.getfield 51, 3) := by decide +kernel
theorem dX8_begin_27 : decode cX8_begin 27 = .ok (.ifCond .eq 7, 3) := by decide +kernel
theorem dX8_begin_30 : decode cX8_begin 30 = .ok (.iconst 2, 1) := by decide +kernel
theorem dX8_begin_31 : decode cX8_begin 31 = .ok (.goto 4, 3) := by decide +kernel
theorem dX8_begin_34 : decode cX8_begin 34 = .ok (.iconst 0, 1) := by decide +kernel
theorem dX8_begin_35 : decode cX8_begin 35 = .ok (.invokevirtual 55, 3) := by decide +kernel
theorem dX8_begin_38 : decode cX8_begin 38 = .ok (.ifCond .ne 5, 3) := by decide +kernel
theorem dX8_begin_41 : decode cX8_begin 41 = .ok (.iconst 0, 1) := by decide +kernel
theorem dX8_begin_42 : decode cX8_begin 42 = .ok (.ireturn, 1) := by decide +kernel
theorem dX8_begin_43 : decode cX8_begin 43 = .ok (.aload_n 0, 1) := by decide +kernel
theorem dX8_begin_44 : decode cX8_begin 44 = .ok (.getfield 96, 3) := by decide +kernel
theorem dX8_begin_47 : decode cX8_begin 47 = .ok (.ifCond .eq 11, 3) := by decide +kernel
theorem dX8_begin_50 : decode cX8_begin 50 = .ok (.aload_n 0, 1) := by decide +kernel
theorem dX8_begin_51 : decode cX8_begin 51 = .ok (.getfield 32, 3) := by decide +kernel
theorem dX8_begin_54 : decode cX8_begin 54 = .ok (.iconst (-1), 1) := by decide +kernel
theorem dX8_begin_55 : decode cX8_begin 55 = .ok (.if_icmp .eq 42, 3) := by decide +kernel
theorem dX8_begin_58 : decode cX8_begin 58 = .ok (.aload_n 0, 1) := by decide +kernel
theorem dX8_begin_59 : decode cX8_begin 59 = .ok (.iconst 0, 1) := by decide +kernel
theorem dX8_begin_60 : decode cX8_begin 60 = .ok (.putfield 96, 3) := by decide +kernel
theorem dX8_begin_63 : decode cX8_begin 63 = .ok (.aload_n 0, 1) := by decide +kernel
theorem dX8_begin_64 : decode cX8_begin 64 = .ok (.iconst (-1), 1) := by decide +kernel
theorem dX8_begin_65 : decode cX8_begin 65 = .ok (.putfield 32, 3) := by decide +kernel
