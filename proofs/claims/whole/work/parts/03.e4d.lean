theorem dX8_most_33 : decode cX8_most 33 = .ok (.goto 4, 3) := by decide +kernel
theorem dX8_most_36 : decode cX8_most 36 = .ok (.iconst 2, 1) := by decide +kernel
theorem dX8_most_37 : decode cX8_most 37 = .ok (.invokevirtual 55, 3) := by decide +kernel
theorem dX8_most_40 : decode cX8_most 40 = .ok (.ifCond .ne 5, 3) := by decide +kernel
theorem dX8_most_43 : decode cX8_most 43 = .ok (.iconst 0, 1) := by decide +kernel
theorem dX8_most_44 : decode cX8_most 44 = .ok (.ireturn, 1) := by decide +kernel
theorem dX8_most_45 : decode cX8_most 45 = .ok (.aload_n 0, 1) := by decide +kernel
theorem dX8_most_46 : decode cX8_most 46 = .ok (.iload_n 1, 1) := by decide +kernel
theorem dX8_most_47 : decode cX8_most 47 = .ok (.iload_n 2, 1) := by decide +kernel
theorem dX8_most_48 : decode cX8_most 48 = .ok (.iload_n 3, 1) := by decide +kernel
theorem dX8_most_49 : decode cX8_most 49 = .ok (.invokevirtual 144, 3) := by decide +kernel
theorem dX8_most_52 : decode cX8_most 52 = .ok (.aload_n 0, 1) := by decide +kernel
theorem dX8_most_53 : decode cX8_most 53 = .ok (.getfield 128, 3) := by decide +kernel
theorem dX8_most_56 : decode cX8_most 56 = .ok (.ireturn, 1) := by decide +kernel
set_option maxRecDepth 20000 in
theorem ggX8_mostAt_X8_isMove : GoodIn wsX8_mostAt wsX8_isMove := goodIn_r _ [7, 8, 9, 10, 6, 11, 87, 88, 89, 90, 91, 92, 93, 94, 95, 96, 97, 98, 99, 100, 101, 102, 103] rfl (by decide +kernel)
