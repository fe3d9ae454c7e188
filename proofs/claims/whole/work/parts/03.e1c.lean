theorem dX8_frame_0 : decode cX8_frame 0 = .ok (.aload_n 0, 1) := by decide +kernel
theorem dX8_frame_1 : decode cX8_frame 1 = .ok (.iconst 0, 1) := by decide +kernel
theorem dX8_frame_2 : decode cX8_frame 2 = .ok (.iload_n 1, 1) := by decide +kernel
theorem dX8_frame_3 : decode cX8_frame 3 = .ok (.invokevirtual 76, 3) := by decide +kernel
theorem dX8_frame_6 : decode cX8_frame 6 = .ok (.aload_n 0, 1) := by decide +kernel
theorem dX8_frame_7 : decode cX8_frame 7 = .ok (.bipush 11, 2) := by decide +kernel
theorem dX8_frame_9 : decode cX8_frame 9 = .ok (.iload_n 2, 1) := by decide +kernel
theorem dX8_frame_10 : decode cX8_frame 10 = .ok (.invokevirtual 76, 3) := by decide +kernel
theorem dX8_frame_13 : decode cX8_frame 13 = .ok (.aload_n 0, 1) := by decide +kernel
theorem dX8_frame_14 : decode cX8_frame 14 = .ok (.aload_n 0, 1) := by decide +kernel
theorem dX8_frame_15 : decode cX8_frame 15 = .ok (.iconst 0, 1) := by decide +kernel
theorem dX8_frame_16 : decode cX8_frame 16 = .ok (.invokevirtual 80, 3) := by decide +kernel
theorem dX8_frame_19 : decode cX8_frame 19 = .ok (.putfield 83, 3) := by decide +kernel
theorem dX8_frame_22 : decode cX8_frame 22 = .ok (.aload_n 0, 1) := by decide +kernel
theorem dX8_frame_23 : decode cX8_frame 23 = .ok (.bipush 11, 2) := by decide +kernel
theorem dX8_frame_25 : decode cX8_frame 25 = .ok (.invokevirtual 80, 3) := by decide +kernel
theorem dX8_frame_28 : decode cX8_frame 28 = .ok (.pop, 1) := by decide +kernel
theorem dX8_frame_29 : decode cX8_frame 29 = .ok (.aload_n 0, 1) := by decide +kernel
theorem dX8_frame_30 : decode cX8_frame 30 = .ok (.iload_n 1, 1) := by decide +kernel
theorem dX8_frame_31 : decode cX8_frame 31 = .ok (.iload_n 2, 1) := by decide +kernel
theorem dX8_frame_32 : decode cX8_frame 32 = .ok (.invokevirtual 86, 3) := by decide +kernel
theorem dX8_frame_35 : decode cX8_frame 35 = .ok (.aload_n 0, 1) := by decide +kernel
theorem dX8_frame_36 : decode cX8_frame 36 = .ok (.iload_n 1, 1) := by decide +kernel
theorem dX8_frame_37 : decode cX8_frame 37 = .ok (.iload_n 2, 1) := by decide +kernel
theorem dX8_frame_38 : decode cX8_frame 38 = .ok (.invokevirtual 89, 3) := by decide +kernel
theorem dX8_frame_41 : decode cX8_frame 41 = .ok (.aload_n 0, 1) := by decide +kernel
theorem dX8_frame_42 : decode cX8_frame 42 = .ok (.iconst 0, 1) := by decide +kernel
theorem dX8_frame_43 : decode cX8_frame 43 = .ok (.invokevirtual 92, 3) := by decide +kernel
theorem dX8_frame_46 : decode cX8_frame 46 = .ok (.aload_n 0, 1) := by decide +kernel
theorem dX8_frame_47 : decode cX8_frame 47 = .ok (.bipush 11, 2) := by decide +kernel
theorem dX8_frame_49 : decode cX8_frame 49 = .ok (.invokevirtual 92, 3) := by decide +kernel
theorem dX8_frame_52 : decode cX8_frame 52 = .ok (.return_, 1) := by decide +kernel
theorem dX8_lay_0 : decode cX8_lay 0 = .ok (.iconst 0, 1) := by decide +kernel
theorem dX8_lay_1 : decode cX8_lay 1 = .ok (.istore 5, 2) := by decide +kernel
theorem dX8_lay_3 : decode cX8_lay 3 = .ok (.iload 5, 2) := by decide +kernel
theorem dX8_lay_5 : decode cX8_lay 5 = .ok (.bipush 11, 2) := by decide +kernel
theorem dX8_lay_7 : decode cX8_lay 7 = .ok (.if_icmp .gt 119, 3) := by decide +kernel
theorem dX8_lay_10 : decode cX8_lay 10 = .ok (.iconst 0, 1) := by decide +kernel
theorem dX8_lay_11 : decode cX8_lay 11 = .ok (.istore 6, 2) := by decide +kernel
theorem dX8_lay_13 : decode cX8_lay 13 = .ok (.iload 6, 2) := by decide +kernel
theorem dX8_lay_15 : decode cX8_lay 15 = .ok (.bipush 11, 2) := by decide +kernel
theorem dX8_lay_17 : decode cX8_lay 17 = .ok (.if_icmp .ge 20, 3) := by decide +kernel
theorem dX8_lay_20 : decode cX8_lay 20 = .ok (.aload_n 0, 1) := by decide +kernel
theorem dX8_lay_21 : decode cX8_lay 21 = .ok (.getfield 13, 3) := by decide +kernel
theorem dX8_lay_24 : decode cX8_lay 24 = .ok (.iload 5, 2) := by decide +kernel
theorem dX8_lay_26 : decode cX8_lay 26 = .ok (.iload 6, 2) := by decide +kernel
theorem dX8_lay_28 : decode cX8_lay 28 = .ok (.iadd, 1) := by decide +kernel
theorem dX8_lay_29 : decode cX8_lay 29 = .ok (.iconst 0, 1) := by decide +kernel
theorem dX8_lay_30 : decode cX8_lay 30 = .ok (.iastore, 1) := by decide +kernel
theorem dX8_lay_31 : decode cX8_lay 31 = .ok (.iinc 6 1, 3) := by decide +kernel
theorem dX8_lay_34 : decode cX8_lay 34 = .ok (.goto (-21), 3) := by decide +kernel
theorem dX8_lay_37 : decode cX8_lay 37 = .ok (.aload_n 0, 1) := by decide +kernel
theorem dX8_lay_38 : decode cX8_lay 38 = .ok (.getfield 13, 3) := by decide +kernel
theorem dX8_lay_41 : decode cX8_lay 41 = .ok (.iload 5, 2) := by decide +kernel
theorem dX8_lay_43 : decode cX8_lay 43 = .ok (.iconst 0, 1) := by decide +kernel
theorem dX8_lay_44 : decode cX8_lay 44 = .ok (.iadd, 1) := by decide +kernel
theorem dX8_lay_45 : decode cX8_lay 45 = .ok (.iload 5, 2) := by decide +kernel
theorem dX8_lay_47 : decode cX8_lay 47 = .ok (.ifCond .ne 7, 3) := by decide +kernel
theorem dX8_lay_50 : decode cX8_lay 50 = .ok (.iload_n 1, 1) := by decide +kernel
theorem dX8_lay_51 : decode cX8_lay 51 = .ok (.goto 4, 3) := by decide +kernel
theorem dX8_lay_54 : decode cX8_lay 54 = .ok (.iload_n 2, 1) := by decide +kernel
theorem dX8_lay_55 : decode cX8_lay 55 = .ok (.iastore, 1) := by decide +kernel
theorem dX8_lay_56 : decode cX8_lay 56 = .ok (.aload_n 0, 1) := by decide +kernel
theorem dX8_lay_57 : decode cX8_lay 57 = .ok (.getfield 13, 3) := by decide +kernel
theorem dX8_lay_60 : decode cX8_lay 60 = .ok (.iload 5, 2) := by decide +kernel
theorem dX8_lay_62 : decode cX8_lay 62 = .ok (.iconst 1, 1) := by decide +kernel
theorem dX8_lay_63 : decode cX8_lay 63 = .ok (.iadd, 1) := by decide +kernel
theorem dX8_lay_64 : decode cX8_lay 64 = .ok (.sipush 1000, 3) := by decide +kernel
theorem dX8_lay_67 : decode cX8_lay 67 = .ok (.iastore, 1) := by decide +kernel
theorem dX8_lay_68 : decode cX8_lay 68 = .ok (.aload_n 0, 1) := by decide +kernel
theorem dX8_lay_69 : decode cX8_lay 69 = .ok (.getfield 13, 3) := by decide +kernel
theorem dX8_lay_72 : decode cX8_lay 72 = .ok (.iload 5, 2) := by decide +kernel
theorem dX8_lay_74 : decode cX8_lay 74 = .ok (.iconst 2, 1) := by decide +kernel
theorem dX8_lay_75 : decode cX8_lay 75 = .ok (.iadd, 1) := by decide +kernel
theorem dX8_lay_76 : decode cX8_lay 76 = .ok (.iload 5, 2) := by decide +kernel
theorem dX8_lay_78 : decode cX8_lay 78 = .ok (.ifCond .ne 7, 3) := by decide +kernel
theorem dX8_lay_81 : decode cX8_lay 81 = .ok (.iload_n 3, 1) := by decide +kernel
theorem dX8_lay_82 : decode cX8_lay 82 = .ok (.goto 5, 3) := by decide +kernel
theorem dX8_lay_85 : decode cX8_lay 85 = .ok (.iload 4, 2) := by decide +kernel
theorem dX8_lay_87 : decode cX8_lay 87 = .ok (.iastore, 1) := by decide +kernel
theorem dX8_lay_88 : decode cX8_lay 88 = .ok (.aload_n 0, 1) := by decide +kernel
theorem dX8_lay_89 : decode cX8_lay 89 = .ok (.getfield 13, 3) := by decide +kernel
theorem dX8_lay_92 : decode cX8_lay 92 = .ok (.iload 5, 2) := by decide +kernel
theorem dX8_lay_94 : decode cX8_lay 94 = .ok (.iconst 4, 1) := by decide +kernel
theorem dX8_lay_95 : decode cX8_lay 95 = .ok (.iadd, 1) := by decide +kernel
theorem dX8_lay_96 : decode cX8_lay 96 = .ok (.iconst (-1), 1) := by decide +kernel
theorem dX8_lay_97 : decode cX8_lay 97 = .ok (.iastore, 1) := by decide +kernel
theorem dX8_lay_98 : decode cX8_lay 98 = .ok (.aload_n 0, 1) := by decide +kernel
theorem dX8_lay_99 : decode cX8_lay 99 = .ok (.getfield 13, 3) := by decide +kernel
theorem dX8_lay_102 : decode cX8_lay 102 = .ok (.iload 5, 2) := by decide +kernel
theorem dX8_lay_104 : decode cX8_lay 104 = .ok (.bipush 7, 2) := by decide +kernel
theorem dX8_lay_106 : decode cX8_lay 106 = .ok (.iadd, 1) := by decide +kernel
theorem dX8_lay_107 : decode cX8_lay 107 = .ok (.iconst (-1), 1) := by decide +kernel
theorem dX8_lay_108 : decode cX8_lay 108 = .ok (.iastore, 1) := by decide +kernel
theorem dX8_lay_109 : decode cX8_lay 109 = .ok (.aload_n 0, 1) := by decide +kernel
theorem dX8_lay_110 : decode cX8_lay 110 = .ok (.getfield 13, 3) := by decide +kernel
theorem dX8_lay_113 : decode cX8_lay 113 = .ok (.iload 5, 2) := by decide +kernel
theorem dX8_lay_115 : decode cX8_lay 115 = .ok (.bipush 9, 2) := by decide +kernel
theorem dX8_lay_117 : decode cX8_lay 117 = .ok (.iadd, 1) := by decide +kernel
theorem dX8_lay_118 : decode cX8_lay 118 = .ok (.iconst (-1), 1) := by decide +kernel
theorem dX8_lay_119 : decode cX8_lay 119 = .ok (.iastore, 1) := by decide +kernel
theorem dX8_lay_120 : decode cX8_lay 120 = .ok (.iinc 5 11, 3) := by decide +kernel
theorem dX8_lay_123 : decode cX8_lay 123 = .ok (.goto (-120), 3) := by decide +kernel
theorem dX8_lay_126 : decode cX8_lay 126 = .ok (.return_, 1) := by decide +kernel
theorem dX8_load_0 : decode cX8_load 0 = .ok (.iconst 0, 1) := by decide +kernel
