theorem dX1_reachHouses_17 : decode cX1_reachHouses 17 = .ok (.ifCond .le 38, 3) := by decide +kernel
theorem dX1_reachHouses_20 : decode cX1_reachHouses 20 = .ok (.aload_n 0, 1) := by decide +kernel
theorem dX1_reachHouses_21 : decode cX1_reachHouses 21 = .ok (.getfield 63, 3) := by decide +kernel
theorem dX1_reachHouses_24 : decode cX1_reachHouses 24 = .ok (.iload_n 1, 1) := by decide +kernel
theorem dX1_reachHouses_25 : decode cX1_reachHouses 25 = .ok (.iaload, 1) := by decide +kernel
theorem dX1_reachHouses_26 : decode cX1_reachHouses 26 = .ok (.iconst (-1), 1) := by decide +kernel
theorem dX1_reachHouses_27 : decode cX1_reachHouses 27 = .ok (.if_icmp .ne 28, 3) := by decide +kernel
theorem dX1_reachHouses_30 : decode cX1_reachHouses 30 = .ok (.aload_n 0, 1) := by decide +kernel
theorem dX1_reachHouses_31 : decode cX1_reachHouses 31 = .ok (.getfield 45, 3) := by decide +kernel
theorem dX1_reachHouses_34 : decode cX1_reachHouses 34 = .ok (.iload_n 1, 1) := by decide +kernel
theorem dX1_reachHouses_35 : decode cX1_reachHouses 35 = .ok (.iaload, 1) := by decide +kernel
theorem dX1_reachHouses_36 : decode cX1_reachHouses 36 = .ok (.aload_n 0, 1) := by decide +kernel
theorem dX1_reachHouses_37 : decode cX1_reachHouses 37 = .ok (.getfield 60, 3) := by decide +kernel
theorem dX1_reachHouses_40 : decode cX1_reachHouses 40 = .ok (.iload_n 1, 1) := by decide +kernel
theorem dX1_reachHouses_41 : decode cX1_reachHouses 41 = .ok (.iaload, 1) := by decide +kernel
theorem dX1_reachHouses_42 : decode cX1_reachHouses 42 = .ok (.if_icmp .lt 13, 3) := by decide +kernel
theorem dX1_reachHouses_45 : decode cX1_reachHouses 45 = .ok (.aload_n 0, 1) := by decide +kernel
theorem dX1_reachHouses_46 : decode cX1_reachHouses 46 = .ok (.getfield 63, 3) := by decide +kernel
theorem dX1_reachHouses_49 : decode cX1_reachHouses 49 = .ok (.iload_n 1, 1) := by decide +kernel
theorem dX1_reachHouses_50 : decode cX1_reachHouses 50 = .ok (.aload_n 0, 1) := by decide +kernel
theorem dX1_reachHouses_51 : decode cX1_reachHouses 51 = .ok (.getfield 74, 3) := by decide +kernel
theorem dX1_reachHouses_54 : decode cX1_reachHouses 54 = .ok (.iastore, 1) := by decide +kernel
theorem dX1_reachHouses_55 : decode cX1_reachHouses 55 = .ok (.iinc 1 1, 3) := by decide +kernel
theorem dX1_reachHouses_58 : decode cX1_reachHouses 58 = .ok (.goto (-56), 3) := by decide +kernel
theorem dX1_reachHouses_61 : decode cX1_reachHouses 61 = .ok (.return_, 1) := by decide +kernel
theorem dX1_passSeason_0 : decode cX1_passSeason 0 = .ok (.iconst 0, 1) := by decide +kernel
theorem dX1_passSeason_1 : decode cX1_passSeason 1 = .ok (.istore_n 1, 1) := by decide +kernel
theorem dX1_passSeason_2 : decode cX1_passSeason 2 = .ok (.iload_n 1, 1) := by decide +kernel
theorem dX1_passSeason_3 : decode cX1_passSeason 3 = .ok (.aload_n 0, 1) := by decide +kernel
theorem dX1_passSeason_4 : decode cX1_passSeason 4 = .ok (.getfield 45, 3) := by decide +kernel
theorem dX1_passSeason_7 : decode cX1_passSeason 7 = .ok (.arraylength, 1) := by decide +kernel
theorem dX1_passSeason_8 : decode cX1_passSeason 8 = .ok (.if_icmp .ge 74, 3) := by decide +kernel
theorem dX1_passSeason_11 : decode cX1_passSeason 11 = .ok (.aload_n 0, 1) := by decide +kernel
theorem dX1_passSeason_12 : decode cX1_passSeason 12 = .ok (.getfield 51, 3) := by decide +kernel
theorem dX1_passSeason_15 : decode cX1_passSeason 15 = .ok (.iload_n 1, 1) := by decide +kernel
theorem dX1_passSeason_16 : decode cX1_passSeason 16 = .ok (.iaload, 1) := by decide +kernel
theorem dX1_passSeason_17 : decode cX1_passSeason 17 = .ok (.ifCond .le 47, 3) := by decide +kernel
theorem dX1_passSeason_20 : decode cX1_passSeason 20 = .ok (.aload_n 0, 1) := by decide +kernel
theorem dX1_passSeason_21 : decode cX1_passSeason 21 = .ok (.getfield 51, 3) := by decide +kernel
theorem dX1_passSeason_24 : decode cX1_passSeason 24 = .ok (.iload_n 1, 1) := by decide +kernel
theorem dX1_passSeason_25 : decode cX1_passSeason 25 = .ok (.iaload, 1) := by decide +kernel
theorem dX1_passSeason_26 : decode cX1_passSeason 26 = .ok (.aload_n 0, 1) := by decide +kernel
theorem dX1_passSeason_27 : decode cX1_passSeason 27 = .ok (.getfield 45, 3) := by decide +kernel
theorem dX1_passSeason_30 : decode cX1_passSeason 30 = .ok (.iload_n 1, 1) := by decide +kernel
theorem dX1_passSeason_31 : decode cX1_passSeason 31 = .ok (.iaload, 1) := by decide +kernel
theorem dX1_passSeason_32 : decode cX1_passSeason 32 = .ok (.aload_n 0, 1) := by decide +kernel
theorem dX1_passSeason_33 : decode cX1_passSeason 33 = .ok (.getfield 48, 3) := by decide +kernel
theorem dX1_passSeason_36 : decode cX1_passSeason 36 = .ok (.iload_n 1, 1) := by decide +kernel
theorem dX1_passSeason_37 : decode cX1_passSeason 37 = .ok (.iaload, 1) := by decide +kernel
theorem dX1_passSeason_38 : decode cX1_passSeason 38 = .ok (.isub, 1) := by decide +kernel
theorem dX1_passSeason_39 : decode cX1_passSeason 39 = .ok (.invokestatic 182, 3) := by decide +kernel
theorem dX1_passSeason_42 : decode cX1_passSeason 42 = .ok (.iadd, 1) := by decide +kernel
theorem dX1_passSeason_43 : decode cX1_passSeason 43 = .ok (.aload_n 0, 1) := by decide +kernel
theorem dX1_passSeason_44 : decode cX1_passSeason 44 = .ok (.getfield 57, 3) := by decide +kernel
theorem dX1_passSeason_47 : decode cX1_passSeason 47 = .ok (.iload_n 1, 1) := by decide +kernel
theorem dX1_passSeason_48 : decode cX1_passSeason 48 = .ok (.iaload, 1) := by decide +kernel
theorem dX1_passSeason_49 : decode cX1_passSeason 49 = .ok (.isub, 1) := by decide +kernel
theorem dX1_passSeason_50 : decode cX1_passSeason 50 = .ok (.istore_n 2, 1) := by decide +kernel
theorem dX1_passSeason_51 : decode cX1_passSeason 51 = .ok (.aload_n 0, 1) := by decide +kernel
theorem dX1_passSeason_52 : decode cX1_passSeason 52 = .ok (.getfield 51, 3) := by decide +kernel
theorem dX1_passSeason_55 : decode cX1_passSeason 55 = .ok (.iload_n 1, 1) := by decide +kernel
theorem dX1_passSeason_56 : decode cX1_passSeason 56 = .ok (.iload_n 2, 1) := by decide +kernel
theorem dX1_passSeason_57 : decode cX1_passSeason 57 = .ok (.iconst 0, 1) := by decide +kernel
theorem dX1_passSeason_58 : decode cX1_passSeason 58 = .ok (.bipush 100, 2) := by decide +kernel
theorem dX1_passSeason_60 : decode cX1_passSeason 60 = .ok (.invokestatic 185, 3) := by decide +kernel
theorem dX1_passSeason_63 : decode cX1_passSeason 63 = .ok (.iastore, 1) := by decide +kernel
theorem dX1_passSeason_64 : decode cX1_passSeason 64 = .ok (.aload_n 0, 1) := by decide +kernel
theorem dX1_passSeason_65 : decode cX1_passSeason 65 = .ok (.getfield 48, 3) := by decide +kernel
theorem dX1_passSeason_68 : decode cX1_passSeason 68 = .ok (.iload_n 1, 1) := by decide +kernel
theorem dX1_passSeason_69 : decode cX1_passSeason 69 = .ok (.aload_n 0, 1) := by decide +kernel
theorem dX1_passSeason_70 : decode cX1_passSeason 70 = .ok (.getfield 45, 3) := by decide +kernel
theorem dX1_passSeason_73 : decode cX1_passSeason 73 = .ok (.iload_n 1, 1) := by decide +kernel
theorem dX1_passSeason_74 : decode cX1_passSeason 74 = .ok (.iaload, 1) := by decide +kernel
theorem dX1_passSeason_75 : decode cX1_passSeason 75 = .ok (.iastore, 1) := by decide +kernel
theorem dX1_passSeason_76 : decode cX1_passSeason 76 = .ok (.iinc 1 1, 3) := by decide +kernel
theorem dX1_passSeason_79 : decode cX1_passSeason 79 = .ok (.goto (-77), 3) := by decide +kernel
theorem dX1_passSeason_82 : decode cX1_passSeason 82 = .ok (.return_, 1) := by decide +kernel
theorem dX1_growth_0 : decode cX1_growth 0 = .ok (.iload_n 0, 1) := by decide +kernel
theorem dX1_growth_1 : decode cX1_growth 1 = .ok (.bipush (-2), 2) := by decide +kernel
theorem dX1_growth_3 : decode cX1_growth 3 = .ok (.if_icmp .ge 6, 3) := by decide +kernel
theorem dX1_growth_6 : decode cX1_growth 6 = .ok (.bipush (-20), 2) := by decide +kernel
theorem dX1_growth_8 : decode cX1_growth 8 = .ok (.ireturn, 1) := by decide +kernel
theorem dX1_growth_9 : decode cX1_growth 9 = .ok (.iload_n 0, 1) := by decide +kernel
theorem dX1_growth_10 : decode cX1_growth 10 = .ok (.ifCond .ge 6, 3) := by decide +kernel
theorem dX1_growth_13 : decode cX1_growth 13 = .ok (.bipush (-5), 2) := by decide +kernel
theorem dX1_growth_15 : decode cX1_growth 15 = .ok (.ireturn, 1) := by decide +kernel
theorem dX1_growth_16 : decode cX1_growth 16 = .ok (.iload_n 0, 1) := by decide +kernel
theorem dX1_growth_17 : decode cX1_growth 17 = .ok (.ifCond .ne 5, 3) := by decide +kernel
theorem dX1_growth_20 : decode cX1_growth 20 = .ok (.iconst 1, 1) := by decide +kernel
theorem dX1_growth_21 : decode cX1_growth 21 = .ok (.ireturn, 1) := by decide +kernel
theorem dX1_growth_22 : decode cX1_growth 22 = .ok (.iload_n 0, 1) := by decide +kernel
theorem dX1_growth_23 : decode cX1_growth 23 = .ok (.iconst 3, 1) := by decide +kernel
theorem dX1_growth_24 : decode cX1_growth 24 = .ok (.if_icmp .gt 6, 3) := by decide +kernel
theorem dX1_growth_27 : decode cX1_growth 27 = .ok (.bipush 6, 2) := by decide +kernel
theorem dX1_growth_29 : decode cX1_growth 29 = .ok (.ireturn, 1) := by decide +kernel
theorem dX1_growth_30 : decode cX1_growth 30 = .ok (.iload_n 0, 1) := by decide +kernel
theorem dX1_growth_31 : decode cX1_growth 31 = .ok (.bipush 6, 2) := by decide +kernel
theorem dX1_growth_33 : decode cX1_growth 33 = .ok (.if_icmp .gt 7, 3) := by decide +kernel
theorem dX1_growth_36 : decode cX1_growth 36 = .ok (.iconst 2, 1) := by decide +kernel
theorem dX1_growth_37 : decode cX1_growth 37 = .ok (.goto 5, 3) := by decide +kernel
theorem dX1_growth_40 : decode cX1_growth 40 = .ok (.bipush (-30), 2) := by decide +kernel
theorem dX1_growth_42 : decode cX1_growth 42 = .ok (.ireturn, 1) := by decide +kernel
