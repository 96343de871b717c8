theorem dX8_grown_38 : decode cX8_grown 38 = .ok (.iload_n 0, 1) := by decide +kernel
theorem dX8_grown_39 : decode cX8_grown 39 = .ok (.bipush 6, 2) := by decide +kernel
theorem dX8_grown_41 : decode cX8_grown 41 = .ok (.if_icmp .gt 7, 3) := by decide +kernel
theorem dX8_grown_44 : decode cX8_grown 44 = .ok (.iconst 2, 1) := by decide +kernel
theorem dX8_grown_45 : decode cX8_grown 45 = .ok (.goto 5, 3) := by decide +kernel
theorem dX8_grown_48 : decode cX8_grown 48 = .ok (.bipush (-30), 2) := by decide +kernel
theorem dX8_grown_50 : decode cX8_grown 50 = .ok (.ireturn, 1) := by decide +kernel
theorem dX8_season_0 : decode cX8_season 0 = .ok (.iconst 0, 1) := by decide +kernel
theorem dX8_season_1 : decode cX8_season 1 = .ok (.istore_n 1, 1) := by decide +kernel
theorem dX8_season_2 : decode cX8_season 2 = .ok (.iload_n 1, 1) := by decide +kernel
theorem dX8_season_3 : decode cX8_season 3 = .ok (.aload_n 0, 1) := by decide +kernel
theorem dX8_season_4 : decode cX8_season 4 = .ok (.getfield 103, 3) := by decide +kernel
theorem dX8_season_7 : decode cX8_season 7 = .ok (.if_icmp .ge 87, 3) := by decide +kernel
theorem dX8_season_10 : decode cX8_season 10 = .ok (.aload_n 0, 1) := by decide +kernel
theorem dX8_season_11 : decode cX8_season 11 = .ok (.getfield 16, 3) := by decide +kernel
theorem dX8_season_14 : decode cX8_season 14 = .ok (.iload_n 1, 1) := by decide +kernel
theorem dX8_season_15 : decode cX8_season 15 = .ok (.iaload, 1) := by decide +kernel
theorem dX8_season_16 : decode cX8_season 16 = .ok (.ifCond .le 60, 3) := by decide +kernel
theorem dX8_season_19 : decode cX8_season 19 = .ok (.aload_n 0, 1) := by decide +kernel
theorem dX8_season_20 : decode cX8_season 20 = .ok (.getfield 16, 3) := by decide +kernel
theorem dX8_season_23 : decode cX8_season 23 = .ok (.iload_n 1, 1) := by decide +kernel
theorem dX8_season_24 : decode cX8_season 24 = .ok (.iaload, 1) := by decide +kernel
theorem dX8_season_25 : decode cX8_season 25 = .ok (.aload_n 0, 1) := by decide +kernel
theorem dX8_season_26 : decode cX8_season 26 = .ok (.getfield 7, 3) := by decide +kernel
theorem dX8_season_29 : decode cX8_season 29 = .ok (.iload_n 1, 1) := by decide +kernel
theorem dX8_season_30 : decode cX8_season 30 = .ok (.iaload, 1) := by decide +kernel
theorem dX8_season_31 : decode cX8_season 31 = .ok (.aload_n 0, 1) := by decide +kernel
theorem dX8_season_32 : decode cX8_season 32 = .ok (.getfield 13, 3) := by decide +kernel
theorem dX8_season_35 : decode cX8_season 35 = .ok (.iload_n 1, 1) := by decide +kernel
theorem dX8_season_36 : decode cX8_season 36 = .ok (.iaload, 1) := by decide +kernel
theorem dX8_season_37 : decode cX8_season 37 = .ok (.isub, 1) := by decide +kernel
theorem dX8_season_38 : decode cX8_season 38 = .ok (.invokestatic 224, 3) := by decide +kernel
theorem dX8_season_41 : decode cX8_season 41 = .ok (.iadd, 1) := by decide +kernel
theorem dX8_season_42 : decode cX8_season 42 = .ok (.aload_n 0, 1) := by decide +kernel
theorem dX8_season_43 : decode cX8_season 43 = .ok (.getfield 22, 3) := by decide +kernel
theorem dX8_season_46 : decode cX8_season 46 = .ok (.iload_n 1, 1) := by decide +kernel
theorem dX8_season_47 : decode cX8_season 47 = .ok (.iaload, 1) := by decide +kernel
theorem dX8_season_48 : decode cX8_season 48 = .ok (.isub, 1) := by decide +kernel
theorem dX8_season_49 : decode cX8_season 49 = .ok (.istore_n 2, 1) := by decide +kernel
theorem dX8_season_50 : decode cX8_season 50 = .ok (.aload_n 0, 1) := by decide +kernel
theorem dX8_season_51 : decode cX8_season 51 = .ok (.getfield 16, 3) := by decide +kernel
theorem dX8_season_54 : decode cX8_season 54 = .ok (.iload_n 1, 1) := by decide +kernel
theorem dX8_season_55 : decode cX8_season 55 = .ok (.iload_n 2, 1) := by decide +kernel
theorem dX8_season_56 : decode cX8_season 56 = .ok (.ifCond .ge 7, 3) := by decide +kernel
theorem dX8_season_59 : decode cX8_season 59 = .ok (.iconst 0, 1) := by decide +kernel
theorem dX8_season_60 : decode cX8_season 60 = .ok (.goto 15, 3) := by decide +kernel
theorem dX8_season_63 : decode cX8_season 63 = .ok (.iload_n 2, 1) := by decide +kernel
theorem dX8_season_64 : decode cX8_season 64 = .ok (.bipush 100, 2) := by decide +kernel
theorem dX8_season_66 : decode cX8_season 66 = .ok (.if_icmp .le 8, 3) := by decide +kernel
theorem dX8_season_69 : decode cX8_season 69 = .ok (.bipush 100, 2) := by decide +kernel
theorem dX8_season_71 : decode cX8_season 71 = .ok (.goto 4, 3) := by decide +kernel
theorem dX8_season_74 : decode cX8_season 74 = .ok (.iload_n 2, 1) := by decide +kernel
theorem dX8_season_75 : decode cX8_season 75 = .ok (.iastore, 1) := by decide +kernel
theorem dX8_season_76 : decode cX8_season 76 = .ok (.aload_n 0, 1) := by decide +kernel
theorem dX8_season_77 : decode cX8_season 77 = .ok (.getfield 13, 3) := by decide +kernel
theorem dX8_season_80 : decode cX8_season 80 = .ok (.iload_n 1, 1) := by decide +kernel
theorem dX8_season_81 : decode cX8_season 81 = .ok (.aload_n 0, 1) := by decide +kernel
theorem dX8_season_82 : decode cX8_season 82 = .ok (.getfield 7, 3) := by decide +kernel
theorem dX8_season_85 : decode cX8_season 85 = .ok (.iload_n 1, 1) := by decide +kernel
theorem dX8_season_86 : decode cX8_season 86 = .ok (.iaload, 1) := by decide +kernel
theorem dX8_season_87 : decode cX8_season 87 = .ok (.iastore, 1) := by decide +kernel
theorem dX8_season_88 : decode cX8_season 88 = .ok (.iinc 1 1, 3) := by decide +kernel
theorem dX8_season_91 : decode cX8_season 91 = .ok (.goto (-89), 3) := by decide +kernel
theorem dX8_season_94 : decode cX8_season 94 = .ok (.return_, 1) := by decide +kernel
theorem dX8_goes_0 : decode cX8_goes 0 = .ok (.aload_n 0, 1) := by decide +kernel
theorem dX8_goes_1 : decode cX8_goes 1 = .ok (.invokevirtual 227, 3) := by decide +kernel
theorem dX8_goes_4 : decode cX8_goes 4 = .ok (.istore_n 1, 1) := by decide +kernel
theorem dX8_goes_5 : decode cX8_goes 5 = .ok (.iconst 0, 1) := by decide +kernel
theorem dX8_goes_6 : decode cX8_goes 6 = .ok (.istore_n 2, 1) := by decide +kernel
theorem dX8_goes_7 : decode cX8_goes 7 = .ok (.iload_n 2, 1) := by decide +kernel
theorem dX8_goes_8 : decode cX8_goes 8 = .ok (.aload_n 0, 1) := by decide +kernel
theorem dX8_goes_9 : decode cX8_goes 9 = .ok (.getfield 31, 3) := by decide +kernel
theorem dX8_goes_12 : decode cX8_goes 12 = .ok (.iconst 4, 1) := by decide +kernel
theorem dX8_goes_13 : decode cX8_goes 13 = .ok (.iaload, 1) := by decide +kernel
theorem dX8_goes_14 : decode cX8_goes 14 = .ok (.if_icmp .ge 52, 3) := by decide +kernel
theorem dX8_goes_17 : decode cX8_goes 17 = .ok (.iload_n 1, 1) := by decide +kernel
theorem dX8_goes_18 : decode cX8_goes 18 = .ok (.ifCond .ne 48, 3) := by decide +kernel
theorem dX8_goes_21 : decode cX8_goes 21 = .ok (.aload_n 0, 1) := by decide +kernel
theorem dX8_goes_22 : decode cX8_goes 22 = .ok (.aload_n 0, 1) := by decide +kernel
theorem dX8_goes_23 : decode cX8_goes 23 = .ok (.getfield 100, 3) := by decide +kernel
theorem dX8_goes_26 : decode cX8_goes 26 = .ok (.invokevirtual 216, 3) := by decide +kernel
theorem dX8_goes_29 : decode cX8_goes 29 = .ok (.aload_n 0, 1) := by decide +kernel
theorem dX8_goes_30 : decode cX8_goes 30 = .ok (.getfield 97, 3) := by decide +kernel
theorem dX8_goes_33 : decode cX8_goes 33 = .ok (.imul, 1) := by decide +kernel
theorem dX8_goes_34 : decode cX8_goes 34 = .ok (.istore_n 3, 1) := by decide +kernel
theorem dX8_goes_35 : decode cX8_goes 35 = .ok (.aload_n 0, 1) := by decide +kernel
theorem dX8_goes_36 : decode cX8_goes 36 = .ok (.getfield 7, 3) := by decide +kernel
theorem dX8_goes_39 : decode cX8_goes 39 = .ok (.iload_n 3, 1) := by decide +kernel
theorem dX8_goes_40 : decode cX8_goes 40 = .ok (.dup2, 1) := by decide +kernel
theorem dX8_goes_41 : decode cX8_goes 41 = .ok (.iaload, 1) := by decide +kernel
theorem dX8_goes_42 : decode cX8_goes 42 = .ok (.iconst 1, 1) := by decide +kernel
theorem dX8_goes_43 : decode cX8_goes 43 = .ok (.iadd, 1) := by decide +kernel
theorem dX8_goes_44 : decode cX8_goes 44 = .ok (.iastore, 1) := by decide +kernel
theorem dX8_goes_45 : decode cX8_goes 45 = .ok (.aload_n 0, 1) := by decide +kernel
theorem dX8_goes_46 : decode cX8_goes 46 = .ok (.dup, 1) := by decide +kernel
theorem dX8_goes_47 : decode cX8_goes 47 = .ok (.getfield 124, 3) := by decide +kernel
theorem dX8_goes_50 : decode cX8_goes 50 = .ok (.iconst 1, 1) := by decide +kernel
theorem dX8_goes_51 : decode cX8_goes 51 = .ok (.iadd, 1) := by decide +kernel
theorem dX8_goes_52 : decode cX8_goes 52 = .ok (.putfield 124, 3) := by decide +kernel
theorem dX8_goes_55 : decode cX8_goes 55 = .ok (.aload_n 0, 1) := by decide +kernel
theorem dX8_goes_56 : decode cX8_goes 56 = .ok (.iload_n 3, 1) := by decide +kernel
theorem dX8_goes_57 : decode cX8_goes 57 = .ok (.invokevirtual 156, 3) := by decide +kernel
theorem dX8_goes_60 : decode cX8_goes 60 = .ok (.iinc 2 1, 3) := by decide +kernel
theorem dX8_goes_63 : decode cX8_goes 63 = .ok (.goto (-56), 3) := by decide +kernel
theorem dX8_goes_66 : decode cX8_goes 66 = .ok (.iconst 0, 1) := by decide +kernel
theorem dX8_goes_67 : decode cX8_goes 67 = .ok (.istore_n 2, 1) := by decide +kernel
theorem dX8_goes_68 : decode cX8_goes 68 = .ok (.iload_n 2, 1) := by decide +kernel
theorem dX8_goes_69 : decode cX8_goes 69 = .ok (.aload_n 0, 1) := by decide +kernel
theorem dX8_goes_70 : decode cX8_goes 70 = .ok (.getfield 103, 3) := by decide +kernel
theorem dX8_goes_73 : decode cX8_goes 73 = .ok (.if_icmp .ge 19, 3) := by decide +kernel
theorem dX8_goes_76 : decode cX8_goes 76 = .ok (.iload_n 1, 1) := by decide +kernel
theorem dX8_goes_77 : decode cX8_goes 77 = .ok (.iconst 4, 1) := by decide +kernel
theorem dX8_goes_78 : decode cX8_goes 78 = .ok (.if_icmp .eq 14, 3) := by decide +kernel
theorem dX8_goes_81 : decode cX8_goes 81 = .ok (.aload_n 0, 1) := by decide +kernel
theorem dX8_goes_82 : decode cX8_goes 82 = .ok (.iload_n 1, 1) := by decide +kernel
theorem dX8_goes_83 : decode cX8_goes 83 = .ok (.invokevirtual 231, 3) := by decide +kernel
theorem dX8_goes_86 : decode cX8_goes 86 = .ok (.iinc 2 1, 3) := by decide +kernel
theorem dX8_goes_89 : decode cX8_goes 89 = .ok (.goto (-21), 3) := by decide +kernel
theorem dX8_goes_92 : decode cX8_goes 92 = .ok (.aload_n 0, 1) := by decide +kernel
theorem dX8_goes_93 : decode cX8_goes 93 = .ok (.invokevirtual 234, 3) := by decide +kernel
theorem dX8_goes_96 : decode cX8_goes 96 = .ok (.aload_n 0, 1) := by decide +kernel
theorem dX8_goes_97 : decode cX8_goes 97 = .ok (.dup, 1) := by decide +kernel
theorem dX8_goes_98 : decode cX8_goes 98 = .ok (.getfield 115, 3) := by decide +kernel
theorem dX8_goes_101 : decode cX8_goes 101 = .ok (.iconst 1, 1) := by decide +kernel
theorem dX8_goes_102 : decode cX8_goes 102 = .ok (.iadd, 1) := by decide +kernel
theorem dX8_goes_103 : decode cX8_goes 103 = .ok (.putfield 115, 3) := by decide +kernel
theorem dX8_goes_106 : decode cX8_goes 106 = .ok (.iconst 0, 1) := by decide +kernel
theorem dX8_goes_107 : decode cX8_goes 107 = .ok (.istore_n 2, 1) := by decide +kernel
theorem dX8_goes_108 : decode cX8_goes 108 = .ok (.iload_n 2, 1) := by decide +kernel
theorem dX8_goes_109 : decode cX8_goes 109 = .ok (.aload_n 0, 1) := by decide +kernel
theorem dX8_goes_110 : decode cX8_goes 110 = .ok (.getfield 103, 3) := by decide +kernel
theorem dX8_goes_113 : decode cX8_goes 113 = .ok (.if_icmp .ge 61, 3) := by decide +kernel
theorem dX8_goes_116 : decode cX8_goes 116 = .ok (.aload_n 0, 1) := by decide +kernel
theorem dX8_goes_117 : decode cX8_goes 117 = .ok (.getfield 28, 3) := by decide +kernel
theorem dX8_goes_120 : decode cX8_goes 120 = .ok (.iload_n 2, 1) := by decide +kernel
theorem dX8_goes_121 : decode cX8_goes 121 = .ok (.aload_n 0, 1) := by decide +kernel
theorem dX8_goes_122 : decode cX8_goes 122 = .ok (.getfield 25, 3) := by decide +kernel
theorem dX8_goes_125 : decode cX8_goes 125 = .ok (.iload_n 2, 1) := by decide +kernel
theorem dX8_goes_126 : decode cX8_goes 126 = .ok (.iaload, 1) := by decide +kernel
theorem dX8_goes_127 : decode cX8_goes 127 = .ok (.ifCond .le 34, 3) := by decide +kernel
theorem dX8_goes_130 : decode cX8_goes 130 = .ok (.aload_n 0, 1) := by decide +kernel
theorem dX8_goes_131 : decode cX8_goes 131 = .ok (.getfield 7, 3) := by decide +kernel
theorem dX8_goes_134 : decode cX8_goes 134 = .ok (.iload_n 2, 1) := by decide +kernel
theorem dX8_goes_135 : decode cX8_goes 135 = .ok (.iaload, 1) := by decide +kernel
theorem dX8_goes_136 : decode cX8_goes 136 = .ok (.aload_n 0, 1) := by decide +kernel
theorem dX8_goes_137 : decode cX8_goes 137 = .ok (.getfield 25, 3) := by decide +kernel
theorem dX8_goes_140 : decode cX8_goes 140 = .ok (.iload_n 2, 1) := by decide +kernel
theorem dX8_goes_141 : decode cX8_goes 141 = .ok (.iaload, 1) := by decide +kernel
theorem dX8_goes_142 : decode cX8_goes 142 = .ok (.if_icmp .lt 19, 3) := by decide +kernel
theorem dX8_goes_145 : decode cX8_goes 145 = .ok (.aload_n 0, 1) := by decide +kernel
theorem dX8_goes_146 : decode cX8_goes 146 = .ok (.getfield 28, 3) := by decide +kernel
theorem dX8_goes_149 : decode cX8_goes 149 = .ok (.iload_n 2, 1) := by decide +kernel
theorem dX8_goes_150 : decode cX8_goes 150 = .ok (.iaload, 1) := by decide +kernel
theorem dX8_goes_151 : decode cX8_goes 151 = .ok (.ifCond .ge 10, 3) := by decide +kernel
theorem dX8_goes_154 : decode cX8_goes 154 = .ok (.aload_n 0, 1) := by decide +kernel
theorem dX8_goes_155 : decode cX8_goes 155 = .ok (.getfield 115, 3) := by decide +kernel
theorem dX8_goes_158 : decode cX8_goes 158 = .ok (.goto 9, 3) := by decide +kernel
theorem dX8_goes_161 : decode cX8_goes 161 = .ok (.aload_n 0, 1) := by decide +kernel
theorem dX8_goes_162 : decode cX8_goes 162 = .ok (.getfield 28, 3) := by decide +kernel
theorem dX8_goes_165 : decode cX8_goes 165 = .ok (.iload_n 2, 1) := by decide +kernel
theorem dX8_goes_166 : decode cX8_goes 166 = .ok (.iaload, 1) := by decide +kernel
theorem dX8_goes_167 : decode cX8_goes 167 = .ok (.iastore, 1) := by decide +kernel
theorem dX8_goes_168 : decode cX8_goes 168 = .ok (.iinc 2 1, 3) := by decide +kernel
theorem dX8_goes_171 : decode cX8_goes 171 = .ok (.goto (-63), 3) := by decide +kernel
theorem dX8_goes_174 : decode cX8_goes 174 = .ok (.aload_n 0, 1) := by decide +kernel
theorem dX8_goes_175 : decode cX8_goes 175 = .ok (.getfield 115, 3) := by decide +kernel
theorem dX8_goes_178 : decode cX8_goes 178 = .ok (.bipush 30, 2) := by decide +kernel
theorem dX8_goes_180 : decode cX8_goes 180 = .ok (.irem, 1) := by decide +kernel
theorem dX8_goes_181 : decode cX8_goes 181 = .ok (.ifCond .ne 7, 3) := by decide +kernel
theorem dX8_goes_184 : decode cX8_goes 184 = .ok (.aload_n 0, 1) := by decide +kernel
theorem dX8_goes_185 : decode cX8_goes 185 = .ok (.invokevirtual 237, 3) := by decide +kernel
theorem dX8_goes_188 : decode cX8_goes 188 = .ok (.return_, 1) := by decide +kernel
theorem dX8_days_0 : decode cX8_days 0 = .ok (.iload_n 1, 1) := by decide +kernel
theorem dX8_days_1 : decode cX8_days 1 = .ok (.iconst 1, 1) := by decide +kernel
theorem dX8_days_2 : decode cX8_days 2 = .ok (.bipush 60, 2) := by decide +kernel
theorem dX8_days_4 : decode cX8_days 4 = .ok (.invokestatic 110, 3) := by decide +kernel
theorem dX8_days_7 : decode cX8_days 7 = .ok (.ifCond .eq 15, 3) := by decide +kernel
theorem dX8_days_10 : decode cX8_days 10 = .ok (.aload_n 0, 1) := by decide +kernel
theorem dX8_days_11 : decode cX8_days 11 = .ok (.getfield 115, 3) := by decide +kernel
theorem dX8_days_14 : decode cX8_days 14 = .ok (.iload_n 1, 1) := by decide +kernel
theorem dX8_days_15 : decode cX8_days 15 = .ok (.iadd, 1) := by decide +kernel
theorem dX8_days_16 : decode cX8_days 16 = .ok (.sipush 3000, 3) := by decide +kernel
theorem dX8_days_19 : decode cX8_days 19 = .ok (.if_icmp .le 5, 3) := by decide +kernel
theorem dX8_days_22 : decode cX8_days 22 = .ok (.iconst (-1), 1) := by decide +kernel
theorem dX8_days_23 : decode cX8_days 23 = .ok (.ireturn, 1) := by decide +kernel
theorem dX8_days_24 : decode cX8_days 24 = .ok (.iconst 0, 1) := by decide +kernel
theorem dX8_days_25 : decode cX8_days 25 = .ok (.istore_n 2, 1) := by decide +kernel
theorem dX8_days_26 : decode cX8_days 26 = .ok (.iload_n 2, 1) := by decide +kernel
theorem dX8_days_27 : decode cX8_days 27 = .ok (.iload_n 1, 1) := by decide +kernel
theorem dX8_days_28 : decode cX8_days 28 = .ok (.if_icmp .ge 13, 3) := by decide +kernel
theorem dX8_days_31 : decode cX8_days 31 = .ok (.aload_n 0, 1) := by decide +kernel
theorem dX8_days_32 : decode cX8_days 32 = .ok (.invokevirtual 240, 3) := by decide +kernel
theorem dX8_days_35 : decode cX8_days 35 = .ok (.iinc 2 1, 3) := by decide +kernel
theorem dX8_days_38 : decode cX8_days 38 = .ok (.goto (-12), 3) := by decide +kernel
theorem dX8_days_41 : decode cX8_days 41 = .ok (.aload_n 0, 1) := by decide +kernel
theorem dX8_days_42 : decode cX8_days 42 = .ok (.getfield 115, 3) := by decide +kernel
theorem dX8_days_45 : decode cX8_days 45 = .ok (.ireturn, 1) := by decide +kernel
theorem dX8_storm_0 : decode cX8_storm 0 = .ok (.iload_n 1, 1) := by decide +kernel
theorem dX8_storm_1 : decode cX8_storm 1 = .ok (.iconst 1, 1) := by decide +kernel
theorem dX8_storm_2 : decode cX8_storm 2 = .ok (.sipush 999, 3) := by decide +kernel
theorem dX8_storm_5 : decode cX8_storm 5 = .ok (.invokestatic 110, 3) := by decide +kernel
theorem dX8_storm_8 : decode cX8_storm 8 = .ok (.ifCond .ne 5, 3) := by decide +kernel
theorem dX8_storm_11 : decode cX8_storm 11 = .ok (.iconst (-1), 1) := by decide +kernel
theorem dX8_storm_12 : decode cX8_storm 12 = .ok (.ireturn, 1) := by decide +kernel
theorem dX8_storm_13 : decode cX8_storm 13 = .ok (.iconst 0, 1) := by decide +kernel
theorem dX8_storm_14 : decode cX8_storm 14 = .ok (.istore_n 2, 1) := by decide +kernel
theorem dX8_storm_15 : decode cX8_storm 15 = .ok (.iconst 0, 1) := by decide +kernel
theorem dX8_storm_16 : decode cX8_storm 16 = .ok (.istore_n 3, 1) := by decide +kernel
theorem dX8_storm_17 : decode cX8_storm 17 = .ok (.iload_n 3, 1) := by decide +kernel
theorem dX8_storm_18 : decode cX8_storm 18 = .ok (.aload_n 0, 1) := by decide +kernel
theorem dX8_storm_19 : decode cX8_storm 19 = .ok (.getfield 100, 3) := by decide +kernel
theorem dX8_storm_22 : decode cX8_storm 22 = .ok (.if_icmp .ge 91, 3) := by decide +kernel
theorem dX8_storm_25 : decode cX8_storm 25 = .ok (.iload_n 1, 1) := by decide +kernel
theorem dX8_storm_26 : decode cX8_storm 26 = .ok (.istore 4, 2) := by decide +kernel
theorem dX8_storm_28 : decode cX8_storm 28 = .ok (.iconst 0, 1) := by decide +kernel
theorem dX8_storm_29 : decode cX8_storm 29 = .ok (.istore 5, 2) := by decide +kernel
theorem dX8_storm_31 : decode cX8_storm 31 = .ok (.iload 5, 2) := by decide +kernel
theorem dX8_storm_33 : decode cX8_storm 33 = .ok (.aload_n 0, 1) := by decide +kernel
theorem dX8_storm_34 : decode cX8_storm 34 = .ok (.getfield 97, 3) := by decide +kernel
theorem dX8_storm_37 : decode cX8_storm 37 = .ok (.if_icmp .ge 70, 3) := by decide +kernel
theorem dX8_storm_40 : decode cX8_storm 40 = .ok (.iload_n 3, 1) := by decide +kernel
theorem dX8_storm_41 : decode cX8_storm 41 = .ok (.aload_n 0, 1) := by decide +kernel
theorem dX8_storm_42 : decode cX8_storm 42 = .ok (.getfield 97, 3) := by decide +kernel
theorem dX8_storm_45 : decode cX8_storm 45 = .ok (.imul, 1) := by decide +kernel
theorem dX8_storm_46 : decode cX8_storm 46 = .ok (.iload 5, 2) := by decide +kernel
theorem dX8_storm_48 : decode cX8_storm 48 = .ok (.iadd, 1) := by decide +kernel
theorem dX8_storm_49 : decode cX8_storm 49 = .ok (.istore 6, 2) := by decide +kernel
theorem dX8_storm_51 : decode cX8_storm 51 = .ok (.aload_n 0, 1) := by decide +kernel
theorem dX8_storm_52 : decode cX8_storm 52 = .ok (.getfield 7, 3) := by decide +kernel
theorem dX8_storm_55 : decode cX8_storm 55 = .ok (.iload 6, 2) := by decide +kernel
theorem dX8_storm_57 : decode cX8_storm 57 = .ok (.iaload, 1) := by decide +kernel
theorem dX8_storm_58 : decode cX8_storm 58 = .ok (.iload 4, 2) := by decide +kernel
theorem dX8_storm_60 : decode cX8_storm 60 = .ok (.if_icmp .ge 13, 3) := by decide +kernel
theorem dX8_storm_63 : decode cX8_storm 63 = .ok (.aload_n 0, 1) := by decide +kernel
theorem dX8_storm_64 : decode cX8_storm 64 = .ok (.getfield 7, 3) := by decide +kernel
theorem dX8_storm_67 : decode cX8_storm 67 = .ok (.iload 6, 2) := by decide +kernel
theorem dX8_storm_69 : decode cX8_storm 69 = .ok (.iaload, 1) := by decide +kernel
theorem dX8_storm_70 : decode cX8_storm 70 = .ok (.goto 5, 3) := by decide +kernel
theorem dX8_storm_73 : decode cX8_storm 73 = .ok (.iload 4, 2) := by decide +kernel
theorem dX8_storm_75 : decode cX8_storm 75 = .ok (.istore 7, 2) := by decide +kernel
theorem dX8_storm_77 : decode cX8_storm 77 = .ok (.aload_n 0, 1) := by decide +kernel
theorem dX8_storm_78 : decode cX8_storm 78 = .ok (.getfield 7, 3) := by decide +kernel
theorem dX8_storm_81 : decode cX8_storm 81 = .ok (.iload 6, 2) := by decide +kernel
theorem dX8_storm_83 : decode cX8_storm 83 = .ok (.dup2, 1) := by decide +kernel
theorem dX8_storm_84 : decode cX8_storm 84 = .ok (.iaload, 1) := by decide +kernel
theorem dX8_storm_85 : decode cX8_storm 85 = .ok (.iload 7, 2) := by decide +kernel
theorem dX8_storm_87 : decode cX8_storm 87 = .ok (.isub, 1) := by decide +kernel
theorem dX8_storm_88 : decode cX8_storm 88 = .ok (.iastore, 1) := by decide +kernel
theorem dX8_storm_89 : decode cX8_storm 89 = .ok (.iload 4, 2) := by decide +kernel
theorem dX8_storm_91 : decode cX8_storm 91 = .ok (.iload 7, 2) := by decide +kernel
theorem dX8_storm_93 : decode cX8_storm 93 = .ok (.isub, 1) := by decide +kernel
theorem dX8_storm_94 : decode cX8_storm 94 = .ok (.istore 4, 2) := by decide +kernel
theorem dX8_storm_96 : decode cX8_storm 96 = .ok (.iload_n 2, 1) := by decide +kernel
theorem dX8_storm_97 : decode cX8_storm 97 = .ok (.iload 7, 2) := by decide +kernel
theorem dX8_storm_99 : decode cX8_storm 99 = .ok (.iadd, 1) := by decide +kernel
theorem dX8_storm_100 : decode cX8_storm 100 = .ok (.istore_n 2, 1) := by decide +kernel
theorem dX8_storm_101 : decode cX8_storm 101 = .ok (.iinc 5 1, 3) := by decide +kernel
theorem dX8_storm_104 : decode cX8_storm 104 = .ok (.goto (-73), 3) := by decide +kernel
theorem dX8_storm_107 : decode cX8_storm 107 = .ok (.iinc 3 1, 3) := by decide +kernel
theorem dX8_storm_110 : decode cX8_storm 110 = .ok (.goto (-93), 3) := by decide +kernel
theorem dX8_storm_113 : decode cX8_storm 113 = .ok (.aload_n 0, 1) := by decide +kernel
theorem dX8_storm_114 : decode cX8_storm 114 = .ok (.dup, 1) := by decide +kernel
theorem dX8_storm_115 : decode cX8_storm 115 = .ok (.getfield 118, 3) := by decide +kernel
theorem dX8_storm_118 : decode cX8_storm 118 = .ok (.iload_n 2, 1) := by decide +kernel
theorem dX8_storm_119 : decode cX8_storm 119 = .ok (.iadd, 1) := by decide +kernel
theorem dX8_storm_120 : decode cX8_storm 120 = .ok (.putfield 118, 3) := by decide +kernel
theorem dX8_storm_123 : decode cX8_storm 123 = .ok (.aload_n 0, 1) := by decide +kernel
theorem dX8_storm_124 : decode cX8_storm 124 = .ok (.invokevirtual 159, 3) := by decide +kernel
theorem dX8_storm_127 : decode cX8_storm 127 = .ok (.iload_n 2, 1) := by decide +kernel
theorem dX8_storm_128 : decode cX8_storm 128 = .ok (.ireturn, 1) := by decide +kernel
theorem dX8_cell_0 : decode cX8_cell 0 = .ok (.aload_n 0, 1) := by decide +kernel
theorem dX8_cell_1 : decode cX8_cell 1 = .ok (.iload_n 1, 1) := by decide +kernel
theorem dX8_cell_2 : decode cX8_cell 2 = .ok (.invokevirtual 153, 3) := by decide +kernel
theorem dX8_cell_5 : decode cX8_cell 5 = .ok (.ifCond .ne 5, 3) := by decide +kernel
theorem dX8_cell_8 : decode cX8_cell 8 = .ok (.iconst (-1), 1) := by decide +kernel
theorem dX8_cell_9 : decode cX8_cell 9 = .ok (.ireturn, 1) := by decide +kernel
theorem dX8_cell_10 : decode cX8_cell 10 = .ok (.iload_n 2, 1) := by decide +kernel
theorem dX8_cell_11 : decode cX8_cell 11 = .ok (.tableswitch 113 0 9 #[53, 60, 67, 74, 81, 88, 95, 95, 95, 95], 53) := by decide +kernel
theorem dX8_cell_64 : decode cX8_cell 64 = .ok (.aload_n 0, 1) := by decide +kernel
theorem dX8_cell_65 : decode cX8_cell 65 = .ok (.getfield 7, 3) := by decide +kernel
theorem dX8_cell_68 : decode cX8_cell 68 = .ok (.iload_n 1, 1) := by decide +kernel
theorem dX8_cell_69 : decode cX8_cell 69 = .ok (.iaload, 1) := by decide +kernel
theorem dX8_cell_70 : decode cX8_cell 70 = .ok (.ireturn, 1) := by decide +kernel
theorem dX8_cell_71 : decode cX8_cell 71 = .ok (.aload_n 0, 1) := by decide +kernel
theorem dX8_cell_72 : decode cX8_cell 72 = .ok (.getfield 16, 3) := by decide +kernel
theorem dX8_cell_75 : decode cX8_cell 75 = .ok (.iload_n 1, 1) := by decide +kernel
theorem dX8_cell_76 : decode cX8_cell 76 = .ok (.iaload, 1) := by decide +kernel
theorem dX8_cell_77 : decode cX8_cell 77 = .ok (.ireturn, 1) := by decide +kernel
theorem dX8_cell_78 : decode cX8_cell 78 = .ok (.aload_n 0, 1) := by decide +kernel
theorem dX8_cell_79 : decode cX8_cell 79 = .ok (.getfield 19, 3) := by decide +kernel
theorem dX8_cell_82 : decode cX8_cell 82 = .ok (.iload_n 1, 1) := by decide +kernel
theorem dX8_cell_83 : decode cX8_cell 83 = .ok (.iaload, 1) := by decide +kernel
theorem dX8_cell_84 : decode cX8_cell 84 = .ok (.ireturn, 1) := by decide +kernel
theorem dX8_cell_85 : decode cX8_cell 85 = .ok (.aload_n 0, 1) := by decide +kernel
theorem dX8_cell_86 : decode cX8_cell 86 = .ok (.getfield 22, 3) := by decide +kernel
theorem dX8_cell_89 : decode cX8_cell 89 = .ok (.iload_n 1, 1) := by decide +kernel
theorem dX8_cell_90 : decode cX8_cell 90 = .ok (.iaload, 1) := by decide +kernel
theorem dX8_cell_91 : decode cX8_cell 91 = .ok (.ireturn, 1) := by decide +kernel
theorem dX8_cell_92 : decode cX8_cell 92 = .ok (.aload_n 0, 1) := by decide +kernel
theorem dX8_cell_93 : decode cX8_cell 93 = .ok (.getfield 25, 3) := by decide +kernel
theorem dX8_cell_96 : decode cX8_cell 96 = .ok (.iload_n 1, 1) := by decide +kernel
theorem dX8_cell_97 : decode cX8_cell 97 = .ok (.iaload, 1) := by decide +kernel
theorem dX8_cell_98 : decode cX8_cell 98 = .ok (.ireturn, 1) := by decide +kernel
theorem dX8_cell_99 : decode cX8_cell 99 = .ok (.aload_n 0, 1) := by decide +kernel
theorem dX8_cell_100 : decode cX8_cell 100 = .ok (.getfield 28, 3) := by decide +kernel
theorem dX8_cell_103 : decode cX8_cell 103 = .ok (.iload_n 1, 1) := by decide +kernel
theorem dX8_cell_104 : decode cX8_cell 104 = .ok (.iaload, 1) := by decide +kernel
theorem dX8_cell_105 : decode cX8_cell 105 = .ok (.ireturn, 1) := by decide +kernel
theorem dX8_cell_106 : decode cX8_cell 106 = .ok (.aload_n 0, 1) := by decide +kernel
theorem dX8_cell_107 : decode cX8_cell 107 = .ok (.iload_n 1, 1) := by decide +kernel
theorem dX8_cell_108 : decode cX8_cell 108 = .ok (.iload_n 2, 1) := by decide +kernel
theorem dX8_cell_109 : decode cX8_cell 109 = .ok (.bipush 6, 2) := by decide +kernel
theorem dX8_cell_111 : decode cX8_cell 111 = .ok (.isub, 1) := by decide +kernel
theorem dX8_cell_112 : decode cX8_cell 112 = .ok (.invokevirtual 220, 3) := by decide +kernel
theorem dX8_cell_115 : decode cX8_cell 115 = .ok (.ifCond .eq 7, 3) := by decide +kernel
theorem dX8_cell_118 : decode cX8_cell 118 = .ok (.iconst 1, 1) := by decide +kernel
theorem dX8_cell_119 : decode cX8_cell 119 = .ok (.goto 4, 3) := by decide +kernel
theorem dX8_cell_122 : decode cX8_cell 122 = .ok (.iconst 0, 1) := by decide +kernel
theorem dX8_cell_123 : decode cX8_cell 123 = .ok (.ireturn, 1) := by decide +kernel
theorem dX8_cell_124 : decode cX8_cell 124 = .ok (.iconst (-1), 1) := by decide +kernel
theorem dX8_cell_125 : decode cX8_cell 125 = .ok (.ireturn, 1) := by decide +kernel
theorem dX8_work_0 : decode cX8_work 0 = .ok (.iload_n 1, 1) := by decide +kernel
theorem dX8_work_1 : decode cX8_work 1 = .ok (.iconst 0, 1) := by decide +kernel
theorem dX8_work_2 : decode cX8_work 2 = .ok (.iconst 2, 1) := by decide +kernel
theorem dX8_work_3 : decode cX8_work 3 = .ok (.invokestatic 110, 3) := by decide +kernel
theorem dX8_work_6 : decode cX8_work 6 = .ok (.ifCond .eq 41, 3) := by decide +kernel
theorem dX8_work_9 : decode cX8_work 9 = .ok (.aload_n 0, 1) := by decide +kernel
theorem dX8_work_10 : decode cX8_work 10 = .ok (.iload_n 2, 1) := by decide +kernel
theorem dX8_work_11 : decode cX8_work 11 = .ok (.invokevirtual 153, 3) := by decide +kernel
theorem dX8_work_14 : decode cX8_work 14 = .ok (.ifCond .eq 33, 3) := by decide +kernel
theorem dX8_work_17 : decode cX8_work 17 = .ok (.iload_n 3, 1) := by decide +kernel
theorem dX8_work_18 : decode cX8_work 18 = .ok (.iconst 1, 1) := by decide +kernel
theorem dX8_work_19 : decode cX8_work 19 = .ok (.bipush 99, 2) := by decide +kernel
theorem dX8_work_21 : decode cX8_work 21 = .ok (.invokestatic 110, 3) := by decide +kernel
theorem dX8_work_24 : decode cX8_work 24 = .ok (.ifCond .eq 23, 3) := by decide +kernel
theorem dX8_work_27 : decode cX8_work 27 = .ok (.iload 4, 2) := by decide +kernel
theorem dX8_work_29 : decode cX8_work 29 = .ok (.iconst 0, 1) := by decide +kernel
theorem dX8_work_30 : decode cX8_work 30 = .ok (.sipush 999, 3) := by decide +kernel
theorem dX8_work_33 : decode cX8_work 33 = .ok (.invokestatic 110, 3) := by decide +kernel
theorem dX8_work_36 : decode cX8_work 36 = .ok (.ifCond .eq 11, 3) := by decide +kernel
theorem dX8_work_39 : decode cX8_work 39 = .ok (.aload_n 0, 1) := by decide +kernel
theorem dX8_work_40 : decode cX8_work 40 = .ok (.getfield 243, 3) := by decide +kernel
theorem dX8_work_43 : decode cX8_work 43 = .ok (.iconst 4, 1) := by decide +kernel
theorem dX8_work_44 : decode cX8_work 44 = .ok (.if_icmp .ne 5, 3) := by decide +kernel
theorem dX8_work_47 : decode cX8_work 47 = .ok (.iconst (-1), 1) := by decide +kernel
theorem dX8_work_48 : decode cX8_work 48 = .ok (.ireturn, 1) := by decide +kernel
theorem dX8_work_49 : decode cX8_work 49 = .ok (.aload_n 0, 1) := by decide +kernel
theorem dX8_work_50 : decode cX8_work 50 = .ok (.getfield 60, 3) := by decide +kernel
theorem dX8_work_53 : decode cX8_work 53 = .ok (.aload_n 0, 1) := by decide +kernel
theorem dX8_work_54 : decode cX8_work 54 = .ok (.getfield 243, 3) := by decide +kernel
theorem dX8_work_57 : decode cX8_work 57 = .ok (.iload_n 1, 1) := by decide +kernel
theorem dX8_work_58 : decode cX8_work 58 = .ok (.iastore, 1) := by decide +kernel
theorem dX8_work_59 : decode cX8_work 59 = .ok (.aload_n 0, 1) := by decide +kernel
theorem dX8_work_60 : decode cX8_work 60 = .ok (.getfield 63, 3) := by decide +kernel
theorem dX8_work_63 : decode cX8_work 63 = .ok (.aload_n 0, 1) := by decide +kernel
theorem dX8_work_64 : decode cX8_work 64 = .ok (.getfield 243, 3) := by decide +kernel
theorem dX8_work_67 : decode cX8_work 67 = .ok (.iload_n 2, 1) := by decide +kernel
theorem dX8_work_68 : decode cX8_work 68 = .ok (.iastore, 1) := by decide +kernel
theorem dX8_work_69 : decode cX8_work 69 = .ok (.aload_n 0, 1) := by decide +kernel
theorem dX8_work_70 : decode cX8_work 70 = .ok (.getfield 66, 3) := by decide +kernel
theorem dX8_work_73 : decode cX8_work 73 = .ok (.aload_n 0, 1) := by decide +kernel
theorem dX8_work_74 : decode cX8_work 74 = .ok (.getfield 243, 3) := by decide +kernel
theorem dX8_work_77 : decode cX8_work 77 = .ok (.iload_n 3, 1) := by decide +kernel
theorem dX8_work_78 : decode cX8_work 78 = .ok (.iastore, 1) := by decide +kernel
theorem dX8_work_79 : decode cX8_work 79 = .ok (.aload_n 0, 1) := by decide +kernel
theorem dX8_work_80 : decode cX8_work 80 = .ok (.getfield 69, 3) := by decide +kernel
theorem dX8_work_83 : decode cX8_work 83 = .ok (.aload_n 0, 1) := by decide +kernel
theorem dX8_work_84 : decode cX8_work 84 = .ok (.getfield 243, 3) := by decide +kernel
theorem dX8_work_87 : decode cX8_work 87 = .ok (.iload 4, 2) := by decide +kernel
theorem dX8_work_89 : decode cX8_work 89 = .ok (.iastore, 1) := by decide +kernel
theorem dX8_work_90 : decode cX8_work 90 = .ok (.aload_n 0, 1) := by decide +kernel
theorem dX8_work_91 : decode cX8_work 91 = .ok (.dup, 1) := by decide +kernel
theorem dX8_work_92 : decode cX8_work 92 = .ok (.getfield 243, 3) := by decide +kernel
theorem dX8_work_95 : decode cX8_work 95 = .ok (.iconst 1, 1) := by decide +kernel
theorem dX8_work_96 : decode cX8_work 96 = .ok (.iadd, 1) := by decide +kernel
theorem dX8_work_97 : decode cX8_work 97 = .ok (.putfield 243, 3) := by decide +kernel
theorem dX8_work_100 : decode cX8_work 100 = .ok (.aload_n 0, 1) := by decide +kernel
theorem dX8_work_101 : decode cX8_work 101 = .ok (.getfield 243, 3) := by decide +kernel
theorem dX8_work_104 : decode cX8_work 104 = .ok (.iconst 1, 1) := by decide +kernel
theorem dX8_work_105 : decode cX8_work 105 = .ok (.isub, 1) := by decide +kernel
theorem dX8_work_106 : decode cX8_work 106 = .ok (.ireturn, 1) := by decide +kernel
theorem dX8_drop_0 : decode cX8_drop 0 = .ok (.aload_n 0, 1) := by decide +kernel
theorem dX8_drop_1 : decode cX8_drop 1 = .ok (.getfield 243, 3) := by decide +kernel
theorem dX8_drop_4 : decode cX8_drop 4 = .ok (.istore_n 1, 1) := by decide +kernel
theorem dX8_drop_5 : decode cX8_drop 5 = .ok (.aload_n 0, 1) := by decide +kernel
theorem dX8_drop_6 : decode cX8_drop 6 = .ok (.iconst 0, 1) := by decide +kernel
theorem dX8_drop_7 : decode cX8_drop 7 = .ok (.putfield 243, 3) := by decide +kernel
theorem dX8_drop_10 : decode cX8_drop 10 = .ok (.iload_n 1, 1) := by decide +kernel
theorem dX8_drop_11 : decode cX8_drop 11 = .ok (.ireturn, 1) := by decide +kernel
theorem dX8_does_0 : decode cX8_does 0 = .ok (.aload_n 0, 1) := by decide +kernel
theorem dX8_does_1 : decode cX8_does 1 = .ok (.getfield 63, 3) := by decide +kernel
theorem dX8_does_4 : decode cX8_does 4 = .ok (.iload_n 1, 1) := by decide +kernel
theorem dX8_does_5 : decode cX8_does 5 = .ok (.iaload, 1) := by decide +kernel
theorem dX8_does_6 : decode cX8_does 6 = .ok (.istore_n 2, 1) := by decide +kernel
theorem dX8_does_7 : decode cX8_does 7 = .ok (.aload_n 0, 1) := by decide +kernel
theorem dX8_does_8 : decode cX8_does 8 = .ok (.getfield 60, 3) := by decide +kernel
theorem dX8_does_11 : decode cX8_does 11 = .ok (.iload_n 1, 1) := by decide +kernel
theorem dX8_does_12 : decode cX8_does 12 = .ok (.iaload, 1) := by decide +kernel
theorem dX8_does_13 : decode cX8_does 13 = .ok (.ifCond .ne 18, 3) := by decide +kernel
theorem dX8_does_16 : decode cX8_does 16 = .ok (.aload_n 0, 1) := by decide +kernel
theorem dX8_does_17 : decode cX8_does 17 = .ok (.getfield 19, 3) := by decide +kernel
theorem dX8_does_20 : decode cX8_does 20 = .ok (.iload_n 2, 1) := by decide +kernel
theorem dX8_does_21 : decode cX8_does 21 = .ok (.aload_n 0, 1) := by decide +kernel
theorem dX8_does_22 : decode cX8_does 22 = .ok (.getfield 66, 3) := by decide +kernel
theorem dX8_does_25 : decode cX8_does 25 = .ok (.iload_n 1, 1) := by decide +kernel
theorem dX8_does_26 : decode cX8_does 26 = .ok (.iaload, 1) := by decide +kernel
theorem dX8_does_27 : decode cX8_does 27 = .ok (.iastore, 1) := by decide +kernel
theorem dX8_does_28 : decode cX8_does 28 = .ok (.goto 71, 3) := by decide +kernel
theorem dX8_does_31 : decode cX8_does 31 = .ok (.aload_n 0, 1) := by decide +kernel
theorem dX8_does_32 : decode cX8_does 32 = .ok (.getfield 60, 3) := by decide +kernel
theorem dX8_does_35 : decode cX8_does 35 = .ok (.iload_n 1, 1) := by decide +kernel
theorem dX8_does_36 : decode cX8_does 36 = .ok (.iaload, 1) := by decide +kernel
theorem dX8_does_37 : decode cX8_does 37 = .ok (.iconst 1, 1) := by decide +kernel
theorem dX8_does_38 : decode cX8_does 38 = .ok (.if_icmp .ne 18, 3) := by decide +kernel
theorem dX8_does_41 : decode cX8_does 41 = .ok (.aload_n 0, 1) := by decide +kernel
theorem dX8_does_42 : decode cX8_does 42 = .ok (.getfield 16, 3) := by decide +kernel
theorem dX8_does_45 : decode cX8_does 45 = .ok (.iload_n 2, 1) := by decide +kernel
theorem dX8_does_46 : decode cX8_does 46 = .ok (.aload_n 0, 1) := by decide +kernel
theorem dX8_does_47 : decode cX8_does 47 = .ok (.getfield 66, 3) := by decide +kernel
theorem dX8_does_50 : decode cX8_does 50 = .ok (.iload_n 1, 1) := by decide +kernel
theorem dX8_does_51 : decode cX8_does 51 = .ok (.iaload, 1) := by decide +kernel
theorem dX8_does_52 : decode cX8_does 52 = .ok (.iastore, 1) := by decide +kernel
theorem dX8_does_53 : decode cX8_does 53 = .ok (.goto 46, 3) := by decide +kernel
theorem dX8_does_56 : decode cX8_does 56 = .ok (.aload_n 0, 1) := by decide +kernel
theorem dX8_does_57 : decode cX8_does 57 = .ok (.getfield 7, 3) := by decide +kernel
theorem dX8_does_60 : decode cX8_does 60 = .ok (.iload_n 2, 1) := by decide +kernel
theorem dX8_does_61 : decode cX8_does 61 = .ok (.aload_n 0, 1) := by decide +kernel
theorem dX8_does_62 : decode cX8_does 62 = .ok (.getfield 7, 3) := by decide +kernel
theorem dX8_does_65 : decode cX8_does 65 = .ok (.iload_n 2, 1) := by decide +kernel
theorem dX8_does_66 : decode cX8_does 66 = .ok (.iaload, 1) := by decide +kernel
theorem dX8_does_67 : decode cX8_does 67 = .ok (.aload_n 0, 1) := by decide +kernel
theorem dX8_does_68 : decode cX8_does 68 = .ok (.getfield 66, 3) := by decide +kernel
theorem dX8_does_71 : decode cX8_does 71 = .ok (.iload_n 1, 1) := by decide +kernel
theorem dX8_does_72 : decode cX8_does 72 = .ok (.iaload, 1) := by decide +kernel
theorem dX8_does_73 : decode cX8_does 73 = .ok (.if_icmp .ge 7, 3) := by decide +kernel
theorem dX8_does_76 : decode cX8_does 76 = .ok (.iconst 0, 1) := by decide +kernel
theorem dX8_does_77 : decode cX8_does 77 = .ok (.goto 16, 3) := by decide +kernel
theorem dX8_does_80 : decode cX8_does 80 = .ok (.aload_n 0, 1) := by decide +kernel
theorem dX8_does_81 : decode cX8_does 81 = .ok (.getfield 7, 3) := by decide +kernel
theorem dX8_does_84 : decode cX8_does 84 = .ok (.iload_n 2, 1) := by decide +kernel
theorem dX8_does_85 : decode cX8_does 85 = .ok (.iaload, 1) := by decide +kernel
theorem dX8_does_86 : decode cX8_does 86 = .ok (.aload_n 0, 1) := by decide +kernel
theorem dX8_does_87 : decode cX8_does 87 = .ok (.getfield 66, 3) := by decide +kernel
theorem dX8_does_90 : decode cX8_does 90 = .ok (.iload_n 1, 1) := by decide +kernel
theorem dX8_does_91 : decode cX8_does 91 = .ok (.iaload, 1) := by decide +kernel
theorem dX8_does_92 : decode cX8_does 92 = .ok (.isub, 1) := by decide +kernel
theorem dX8_does_93 : decode cX8_does 93 = .ok (.iastore, 1) := by decide +kernel
theorem dX8_does_94 : decode cX8_does 94 = .ok (.aload_n 0, 1) := by decide +kernel
theorem dX8_does_95 : decode cX8_does 95 = .ok (.iload_n 2, 1) := by decide +kernel
theorem dX8_does_96 : decode cX8_does 96 = .ok (.invokevirtual 156, 3) := by decide +kernel
theorem dX8_does_99 : decode cX8_does 99 = .ok (.return_, 1) := by decide +kernel
theorem dX8_seeks_0 : decode cX8_seeks 0 = .ok (.iload_n 1, 1) := by decide +kernel
theorem dX8_seeks_1 : decode cX8_seeks 1 = .ok (.iconst 0, 1) := by decide +kernel
theorem dX8_seeks_2 : decode cX8_seeks 2 = .ok (.sipush 9999, 3) := by decide +kernel
theorem dX8_seeks_5 : decode cX8_seeks 5 = .ok (.invokestatic 110, 3) := by decide +kernel
theorem dX8_seeks_8 : decode cX8_seeks 8 = .ok (.ifCond .eq 25, 3) := by decide +kernel
theorem dX8_seeks_11 : decode cX8_seeks 11 = .ok (.iload_n 2, 1) := by decide +kernel
theorem dX8_seeks_12 : decode cX8_seeks 12 = .ok (.iconst 1, 1) := by decide +kernel
theorem dX8_seeks_13 : decode cX8_seeks 13 = .ok (.bipush 60, 2) := by decide +kernel
theorem dX8_seeks_15 : decode cX8_seeks 15 = .ok (.invokestatic 110, 3) := by decide +kernel
theorem dX8_seeks_18 : decode cX8_seeks 18 = .ok (.ifCond .eq 15, 3) := by decide +kernel
theorem dX8_seeks_21 : decode cX8_seeks 21 = .ok (.aload_n 0, 1) := by decide +kernel
theorem dX8_seeks_22 : decode cX8_seeks 22 = .ok (.getfield 115, 3) := by decide +kernel
theorem dX8_seeks_25 : decode cX8_seeks 25 = .ok (.iload_n 2, 1) := by decide +kernel
theorem dX8_seeks_26 : decode cX8_seeks 26 = .ok (.iadd, 1) := by decide +kernel
theorem dX8_seeks_27 : decode cX8_seeks 27 = .ok (.sipush 3000, 3) := by decide +kernel
theorem dX8_seeks_30 : decode cX8_seeks 30 = .ok (.if_icmp .le 5, 3) := by decide +kernel
theorem dX8_seeks_33 : decode cX8_seeks 33 = .ok (.iconst 0, 1) := by decide +kernel
theorem dX8_seeks_34 : decode cX8_seeks 34 = .ok (.ireturn, 1) := by decide +kernel
theorem dX8_seeks_35 : decode cX8_seeks 35 = .ok (.aload_n 0, 1) := by decide +kernel
theorem dX8_seeks_36 : decode cX8_seeks 36 = .ok (.iconst 0, 1) := by decide +kernel
theorem dX8_seeks_37 : decode cX8_seeks 37 = .ok (.invokevirtual 106, 3) := by decide +kernel
theorem dX8_seeks_40 : decode cX8_seeks 40 = .ok (.iconst 0, 1) := by decide +kernel
theorem dX8_seeks_41 : decode cX8_seeks 41 = .ok (.istore_n 3, 1) := by decide +kernel
theorem dX8_seeks_42 : decode cX8_seeks 42 = .ok (.aload_n 0, 1) := by decide +kernel
theorem dX8_seeks_43 : decode cX8_seeks 43 = .ok (.iconst (-1), 1) := by decide +kernel
theorem dX8_seeks_44 : decode cX8_seeks 44 = .ok (.putfield 246, 3) := by decide +kernel
theorem dX8_seeks_47 : decode cX8_seeks 47 = .ok (.iconst 0, 1) := by decide +kernel
theorem dX8_seeks_48 : decode cX8_seeks 48 = .ok (.istore 4, 2) := by decide +kernel
theorem dX8_seeks_50 : decode cX8_seeks 50 = .ok (.iload 4, 2) := by decide +kernel
theorem dX8_seeks_52 : decode cX8_seeks 52 = .ok (.iconst 1, 1) := by decide +kernel
theorem dX8_seeks_53 : decode cX8_seeks 53 = .ok (.aload_n 0, 1) := by decide +kernel
theorem dX8_seeks_54 : decode cX8_seeks 54 = .ok (.getfield 243, 3) := by decide +kernel
theorem dX8_seeks_57 : decode cX8_seeks 57 = .ok (.ishl, 1) := by decide +kernel
theorem dX8_seeks_58 : decode cX8_seeks 58 = .ok (.if_icmp .ge 218, 3) := by decide +kernel
theorem dX8_seeks_61 : decode cX8_seeks 61 = .ok (.iconst 0, 1) := by decide +kernel
theorem dX8_seeks_62 : decode cX8_seeks 62 = .ok (.istore 5, 2) := by decide +kernel
theorem dX8_seeks_64 : decode cX8_seeks 64 = .ok (.iconst 0, 1) := by decide +kernel
theorem dX8_seeks_65 : decode cX8_seeks 65 = .ok (.istore 6, 2) := by decide +kernel
theorem dX8_seeks_67 : decode cX8_seeks 67 = .ok (.iload 6, 2) := by decide +kernel
theorem dX8_seeks_69 : decode cX8_seeks 69 = .ok (.aload_n 0, 1) := by decide +kernel
theorem dX8_seeks_70 : decode cX8_seeks 70 = .ok (.getfield 243, 3) := by decide +kernel
theorem dX8_seeks_73 : decode cX8_seeks 73 = .ok (.if_icmp .ge 36, 3) := by decide +kernel
theorem dX8_seeks_76 : decode cX8_seeks 76 = .ok (.iload 5, 2) := by decide +kernel
theorem dX8_seeks_78 : decode cX8_seeks 78 = .ok (.iload 4, 2) := by decide +kernel
theorem dX8_seeks_80 : decode cX8_seeks 80 = .ok (.iload 6, 2) := by decide +kernel
theorem dX8_seeks_82 : decode cX8_seeks 82 = .ok (.ishr, 1) := by decide +kernel
theorem dX8_seeks_83 : decode cX8_seeks 83 = .ok (.iconst 1, 1) := by decide +kernel
theorem dX8_seeks_84 : decode cX8_seeks 84 = .ok (.iand, 1) := by decide +kernel
theorem dX8_seeks_85 : decode cX8_seeks 85 = .ok (.iconst 1, 1) := by decide +kernel
theorem dX8_seeks_86 : decode cX8_seeks 86 = .ok (.if_icmp .ne 13, 3) := by decide +kernel
theorem dX8_seeks_89 : decode cX8_seeks 89 = .ok (.aload_n 0, 1) := by decide +kernel
theorem dX8_seeks_90 : decode cX8_seeks 90 = .ok (.getfield 69, 3) := by decide +kernel
theorem dX8_seeks_93 : decode cX8_seeks 93 = .ok (.iload 6, 2) := by decide +kernel
theorem dX8_seeks_95 : decode cX8_seeks 95 = .ok (.iaload, 1) := by decide +kernel
theorem dX8_seeks_96 : decode cX8_seeks 96 = .ok (.goto 4, 3) := by decide +kernel
theorem dX8_seeks_99 : decode cX8_seeks 99 = .ok (.iconst 0, 1) := by decide +kernel
theorem dX8_seeks_100 : decode cX8_seeks 100 = .ok (.iadd, 1) := by decide +kernel
theorem dX8_seeks_101 : decode cX8_seeks 101 = .ok (.istore 5, 2) := by decide +kernel
theorem dX8_seeks_103 : decode cX8_seeks 103 = .ok (.iinc 6 1, 3) := by decide +kernel
theorem dX8_seeks_106 : decode cX8_seeks 106 = .ok (.goto (-39), 3) := by decide +kernel
theorem dX8_seeks_109 : decode cX8_seeks 109 = .ok (.iload 5, 2) := by decide +kernel
theorem dX8_seeks_111 : decode cX8_seeks 111 = .ok (.iload_n 1, 1) := by decide +kernel
theorem dX8_seeks_112 : decode cX8_seeks 112 = .ok (.if_icmp .le 6, 3) := by decide +kernel
theorem dX8_seeks_115 : decode cX8_seeks 115 = .ok (.goto 155, 3) := by decide +kernel
theorem dX8_seeks_118 : decode cX8_seeks 118 = .ok (.iconst 0, 1) := by decide +kernel
theorem dX8_seeks_119 : decode cX8_seeks 119 = .ok (.istore 6, 2) := by decide +kernel
theorem dX8_seeks_121 : decode cX8_seeks 121 = .ok (.iload 6, 2) := by decide +kernel
theorem dX8_seeks_123 : decode cX8_seeks 123 = .ok (.aload_n 0, 1) := by decide +kernel
theorem dX8_seeks_124 : decode cX8_seeks 124 = .ok (.getfield 243, 3) := by decide +kernel
theorem dX8_seeks_127 : decode cX8_seeks 127 = .ok (.if_icmp .ge 26, 3) := by decide +kernel
theorem dX8_seeks_130 : decode cX8_seeks 130 = .ok (.iload 4, 2) := by decide +kernel
theorem dX8_seeks_132 : decode cX8_seeks 132 = .ok (.iload 6, 2) := by decide +kernel
theorem dX8_seeks_134 : decode cX8_seeks 134 = .ok (.ishr, 1) := by decide +kernel
theorem dX8_seeks_135 : decode cX8_seeks 135 = .ok (.iconst 1, 1) := by decide +kernel
theorem dX8_seeks_136 : decode cX8_seeks 136 = .ok (.iand, 1) := by decide +kernel
theorem dX8_seeks_137 : decode cX8_seeks 137 = .ok (.iconst 1, 1) := by decide +kernel
theorem dX8_seeks_138 : decode cX8_seeks 138 = .ok (.if_icmp .ne 9, 3) := by decide +kernel
theorem dX8_seeks_141 : decode cX8_seeks 141 = .ok (.aload_n 0, 1) := by decide +kernel
theorem dX8_seeks_142 : decode cX8_seeks 142 = .ok (.iload 6, 2) := by decide +kernel
theorem dX8_seeks_144 : decode cX8_seeks 144 = .ok (.invokevirtual 249, 3) := by decide +kernel
theorem dX8_seeks_147 : decode cX8_seeks 147 = .ok (.iinc 6 1, 3) := by decide +kernel
theorem dX8_seeks_150 : decode cX8_seeks 150 = .ok (.goto (-29), 3) := by decide +kernel
theorem dX8_seeks_153 : decode cX8_seeks 153 = .ok (.iconst 0, 1) := by decide +kernel
theorem dX8_seeks_154 : decode cX8_seeks 154 = .ok (.istore 6, 2) := by decide +kernel
theorem dX8_seeks_156 : decode cX8_seeks 156 = .ok (.iload 6, 2) := by decide +kernel
theorem dX8_seeks_158 : decode cX8_seeks 158 = .ok (.iload_n 2, 1) := by decide +kernel
theorem dX8_seeks_159 : decode cX8_seeks 159 = .ok (.if_icmp .ge 13, 3) := by decide +kernel
theorem dX8_seeks_162 : decode cX8_seeks 162 = .ok (.aload_n 0, 1) := by decide +kernel
theorem dX8_seeks_163 : decode cX8_seeks 163 = .ok (.invokevirtual 240, 3) := by decide +kernel
theorem dX8_seeks_166 : decode cX8_seeks 166 = .ok (.iinc 6 1, 3) := by decide +kernel
theorem dX8_seeks_169 : decode cX8_seeks 169 = .ok (.goto (-13), 3) := by decide +kernel
theorem dX8_seeks_172 : decode cX8_seeks 172 = .ok (.iconst 0, 1) := by decide +kernel
theorem dX8_seeks_173 : decode cX8_seeks 173 = .ok (.istore 6, 2) := by decide +kernel
theorem dX8_seeks_175 : decode cX8_seeks 175 = .ok (.iconst 0, 1) := by decide +kernel
theorem dX8_seeks_176 : decode cX8_seeks 176 = .ok (.istore 7, 2) := by decide +kernel
theorem dX8_seeks_178 : decode cX8_seeks 178 = .ok (.iload 7, 2) := by decide +kernel
theorem dX8_seeks_180 : decode cX8_seeks 180 = .ok (.aload_n 0, 1) := by decide +kernel
theorem dX8_seeks_181 : decode cX8_seeks 181 = .ok (.getfield 103, 3) := by decide +kernel
theorem dX8_seeks_184 : decode cX8_seeks 184 = .ok (.if_icmp .ge 35, 3) := by decide +kernel
theorem dX8_seeks_187 : decode cX8_seeks 187 = .ok (.iload 6, 2) := by decide +kernel
theorem dX8_seeks_189 : decode cX8_seeks 189 = .ok (.aload_n 0, 1) := by decide +kernel
theorem dX8_seeks_190 : decode cX8_seeks 190 = .ok (.getfield 25, 3) := by decide +kernel
theorem dX8_seeks_193 : decode cX8_seeks 193 = .ok (.iload 7, 2) := by decide +kernel
theorem dX8_seeks_195 : decode cX8_seeks 195 = .ok (.iaload, 1) := by decide +kernel
theorem dX8_seeks_196 : decode cX8_seeks 196 = .ok (.ifCond .le 13, 3) := by decide +kernel
theorem dX8_seeks_199 : decode cX8_seeks 199 = .ok (.aload_n 0, 1) := by decide +kernel
theorem dX8_seeks_200 : decode cX8_seeks 200 = .ok (.getfield 7, 3) := by decide +kernel
theorem dX8_seeks_203 : decode cX8_seeks 203 = .ok (.iload 7, 2) := by decide +kernel
theorem dX8_seeks_205 : decode cX8_seeks 205 = .ok (.iaload, 1) := by decide +kernel
theorem dX8_seeks_206 : decode cX8_seeks 206 = .ok (.goto 4, 3) := by decide +kernel
theorem dX8_seeks_209 : decode cX8_seeks 209 = .ok (.iconst 0, 1) := by decide +kernel
theorem dX8_seeks_210 : decode cX8_seeks 210 = .ok (.iadd, 1) := by decide +kernel
theorem dX8_seeks_211 : decode cX8_seeks 211 = .ok (.istore 6, 2) := by decide +kernel
theorem dX8_seeks_213 : decode cX8_seeks 213 = .ok (.iinc 7 1, 3) := by decide +kernel
theorem dX8_seeks_216 : decode cX8_seeks 216 = .ok (.goto (-38), 3) := by decide +kernel
theorem dX8_seeks_219 : decode cX8_seeks 219 = .ok (.aload_n 0, 1) := by decide +kernel
theorem dX8_seeks_220 : decode cX8_seeks 220 = .ok (.getfield 246, 3) := by decide +kernel
theorem dX8_seeks_223 : decode cX8_seeks 223 = .ok (.ifCond .lt 27, 3) := by decide +kernel
theorem dX8_seeks_226 : decode cX8_seeks 226 = .ok (.iload 6, 2) := by decide +kernel
theorem dX8_seeks_228 : decode cX8_seeks 228 = .ok (.aload_n 0, 1) := by decide +kernel
theorem dX8_seeks_229 : decode cX8_seeks 229 = .ok (.getfield 246, 3) := by decide +kernel
theorem dX8_seeks_232 : decode cX8_seeks 232 = .ok (.if_icmp .lt 18, 3) := by decide +kernel
theorem dX8_seeks_235 : decode cX8_seeks 235 = .ok (.iload 6, 2) := by decide +kernel
theorem dX8_seeks_237 : decode cX8_seeks 237 = .ok (.aload_n 0, 1) := by decide +kernel
theorem dX8_seeks_238 : decode cX8_seeks 238 = .ok (.getfield 246, 3) := by decide +kernel
theorem dX8_seeks_241 : decode cX8_seeks 241 = .ok (.if_icmp .ne 24, 3) := by decide +kernel
theorem dX8_seeks_244 : decode cX8_seeks 244 = .ok (.iload 5, 2) := by decide +kernel
theorem dX8_seeks_246 : decode cX8_seeks 246 = .ok (.iload_n 3, 1) := by decide +kernel
theorem dX8_seeks_247 : decode cX8_seeks 247 = .ok (.if_icmp .ge 18, 3) := by decide +kernel
theorem dX8_seeks_250 : decode cX8_seeks 250 = .ok (.aload_n 0, 1) := by decide +kernel
theorem dX8_seeks_251 : decode cX8_seeks 251 = .ok (.iload 6, 2) := by decide +kernel
theorem dX8_seeks_253 : decode cX8_seeks 253 = .ok (.putfield 246, 3) := by decide +kernel
theorem dX8_seeks_256 : decode cX8_seeks 256 = .ok (.iload 5, 2) := by decide +kernel
theorem dX8_seeks_258 : decode cX8_seeks 258 = .ok (.istore_n 3, 1) := by decide +kernel
theorem dX8_seeks_259 : decode cX8_seeks 259 = .ok (.aload_n 0, 1) := by decide +kernel
theorem dX8_seeks_260 : decode cX8_seeks 260 = .ok (.iload 4, 2) := by decide +kernel
theorem dX8_seeks_262 : decode cX8_seeks 262 = .ok (.putfield 252, 3) := by decide +kernel
theorem dX8_seeks_265 : decode cX8_seeks 265 = .ok (.aload_n 0, 1) := by decide +kernel
theorem dX8_seeks_266 : decode cX8_seeks 266 = .ok (.iconst 0, 1) := by decide +kernel
theorem dX8_seeks_267 : decode cX8_seeks 267 = .ok (.invokevirtual 255, 3) := by decide +kernel
theorem dX8_seeks_270 : decode cX8_seeks 270 = .ok (.iinc 4 1, 3) := by decide +kernel
theorem dX8_seeks_273 : decode cX8_seeks 273 = .ok (.goto (-223), 3) := by decide +kernel
theorem dX8_seeks_276 : decode cX8_seeks 276 = .ok (.iconst 1, 1) := by decide +kernel
theorem dX8_seeks_277 : decode cX8_seeks 277 = .ok (.ireturn, 1) := by decide +kernel
theorem dX8_best_0 : decode cX8_best 0 = .ok (.aload_n 0, 1) := by decide +kernel
theorem dX8_best_1 : decode cX8_best 1 = .ok (.iload_n 1, 1) := by decide +kernel
theorem dX8_best_2 : decode cX8_best 2 = .ok (.iload_n 2, 1) := by decide +kernel
theorem dX8_best_3 : decode cX8_best 3 = .ok (.invokevirtual 258, 3) := by decide +kernel
theorem dX8_best_6 : decode cX8_best 6 = .ok (.ifCond .eq 10, 3) := by decide +kernel
theorem dX8_best_9 : decode cX8_best 9 = .ok (.aload_n 0, 1) := by decide +kernel
theorem dX8_best_10 : decode cX8_best 10 = .ok (.getfield 246, 3) := by decide +kernel
theorem dX8_best_13 : decode cX8_best 13 = .ok (.goto 4, 3) := by decide +kernel
theorem dX8_best_16 : decode cX8_best 16 = .ok (.iconst (-1), 1) := by decide +kernel
theorem dX8_best_17 : decode cX8_best 17 = .ok (.ireturn, 1) := by decide +kernel
theorem dX8_bestSet_0 : decode cX8_bestSet 0 = .ok (.aload_n 0, 1) := by decide +kernel
theorem dX8_bestSet_1 : decode cX8_bestSet 1 = .ok (.iload_n 1, 1) := by decide +kernel
theorem dX8_bestSet_2 : decode cX8_bestSet 2 = .ok (.iload_n 2, 1) := by decide +kernel
theorem dX8_bestSet_3 : decode cX8_bestSet 3 = .ok (.invokevirtual 258, 3) := by decide +kernel
theorem dX8_bestSet_6 : decode cX8_bestSet 6 = .ok (.ifCond .eq 10, 3) := by decide +kernel
theorem dX8_bestSet_9 : decode cX8_bestSet 9 = .ok (.aload_n 0, 1) := by decide +kernel
theorem dX8_bestSet_10 : decode cX8_bestSet 10 = .ok (.getfield 252, 3) := by decide +kernel
theorem dX8_bestSet_13 : decode cX8_bestSet 13 = .ok (.goto 4, 3) := by decide +kernel
theorem dX8_bestSet_16 : decode cX8_bestSet 16 = .ok (.iconst (-1), 1) := by decide +kernel
theorem dX8_bestSet_17 : decode cX8_bestSet 17 = .ok (.ireturn, 1) := by decide +kernel
theorem dX8_mark_0 : decode cX8_mark 0 = .ok (.aload_n 0, 1) := by decide +kernel
theorem dX8_mark_1 : decode cX8_mark 1 = .ok (.iconst 1, 1) := by decide +kernel
theorem dX8_mark_2 : decode cX8_mark 2 = .ok (.invokevirtual 106, 3) := by decide +kernel
theorem dX8_mark_5 : decode cX8_mark 5 = .ok (.aload_n 0, 1) := by decide +kernel
theorem dX8_mark_6 : decode cX8_mark 6 = .ok (.iconst 0, 1) := by decide +kernel
theorem dX8_mark_7 : decode cX8_mark 7 = .ok (.putfield 261, 3) := by decide +kernel
theorem dX8_mark_10 : decode cX8_mark 10 = .ok (.return_, 1) := by decide +kernel
theorem dX8_flight_0 : decode cX8_flight 0 = .ok (.aload_n 0, 1) := by decide +kernel
theorem dX8_flight_1 : decode cX8_flight 1 = .ok (.iload_n 1, 1) := by decide +kernel
theorem dX8_flight_2 : decode cX8_flight 2 = .ok (.invokevirtual 153, 3) := by decide +kernel
theorem dX8_flight_5 : decode cX8_flight 5 = .ok (.ifCond .eq 33, 3) := by decide +kernel
theorem dX8_flight_8 : decode cX8_flight 8 = .ok (.iload_n 2, 1) := by decide +kernel
theorem dX8_flight_9 : decode cX8_flight 9 = .ok (.iconst 0, 1) := by decide +kernel
theorem dX8_flight_10 : decode cX8_flight 10 = .ok (.sipush 9999, 3) := by decide +kernel
theorem dX8_flight_13 : decode cX8_flight 13 = .ok (.invokestatic 110, 3) := by decide +kernel
theorem dX8_flight_16 : decode cX8_flight 16 = .ok (.ifCond .eq 22, 3) := by decide +kernel
theorem dX8_flight_19 : decode cX8_flight 19 = .ok (.iload_n 3, 1) := by decide +kernel
theorem dX8_flight_20 : decode cX8_flight 20 = .ok (.iconst 0, 1) := by decide +kernel
theorem dX8_flight_21 : decode cX8_flight 21 = .ok (.bipush 9, 2) := by decide +kernel
theorem dX8_flight_23 : decode cX8_flight 23 = .ok (.invokestatic 110, 3) := by decide +kernel
theorem dX8_flight_26 : decode cX8_flight 26 = .ok (.ifCond .eq 12, 3) := by decide +kernel
theorem dX8_flight_29 : decode cX8_flight 29 = .ok (.aload_n 0, 1) := by decide +kernel
theorem dX8_flight_30 : decode cX8_flight 30 = .ok (.getfield 261, 3) := by decide +kernel
theorem dX8_flight_33 : decode cX8_flight 33 = .ok (.bipush 20, 2) := by decide +kernel
theorem dX8_flight_35 : decode cX8_flight 35 = .ok (.if_icmp .ne 5, 3) := by decide +kernel
theorem dX8_flight_38 : decode cX8_flight 38 = .ok (.iconst (-1), 1) := by decide +kernel
theorem dX8_flight_39 : decode cX8_flight 39 = .ok (.ireturn, 1) := by decide +kernel
theorem dX8_flight_40 : decode cX8_flight 40 = .ok (.aload_n 0, 1) := by decide +kernel
theorem dX8_flight_41 : decode cX8_flight 41 = .ok (.getfield 72, 3) := by decide +kernel
theorem dX8_flight_44 : decode cX8_flight 44 = .ok (.aload_n 0, 1) := by decide +kernel
theorem dX8_flight_45 : decode cX8_flight 45 = .ok (.getfield 261, 3) := by decide +kernel
theorem dX8_flight_48 : decode cX8_flight 48 = .ok (.iload_n 1, 1) := by decide +kernel
theorem dX8_flight_49 : decode cX8_flight 49 = .ok (.iastore, 1) := by decide +kernel
theorem dX8_flight_50 : decode cX8_flight 50 = .ok (.aload_n 0, 1) := by decide +kernel
theorem dX8_flight_51 : decode cX8_flight 51 = .ok (.getfield 75, 3) := by decide +kernel
theorem dX8_flight_54 : decode cX8_flight 54 = .ok (.aload_n 0, 1) := by decide +kernel
theorem dX8_flight_55 : decode cX8_flight 55 = .ok (.getfield 261, 3) := by decide +kernel
theorem dX8_flight_58 : decode cX8_flight 58 = .ok (.iload_n 2, 1) := by decide +kernel
theorem dX8_flight_59 : decode cX8_flight 59 = .ok (.iastore, 1) := by decide +kernel
theorem dX8_flight_60 : decode cX8_flight 60 = .ok (.aload_n 0, 1) := by decide +kernel
theorem dX8_flight_61 : decode cX8_flight 61 = .ok (.getfield 78, 3) := by decide +kernel
theorem dX8_flight_64 : decode cX8_flight 64 = .ok (.aload_n 0, 1) := by decide +kernel
theorem dX8_flight_65 : decode cX8_flight 65 = .ok (.getfield 261, 3) := by decide +kernel
theorem dX8_flight_68 : decode cX8_flight 68 = .ok (.iload_n 3, 1) := by decide +kernel
theorem dX8_flight_69 : decode cX8_flight 69 = .ok (.iastore, 1) := by decide +kernel
theorem dX8_flight_70 : decode cX8_flight 70 = .ok (.aload_n 0, 1) := by decide +kernel
theorem dX8_flight_71 : decode cX8_flight 71 = .ok (.dup, 1) := by decide +kernel
theorem dX8_flight_72 : decode cX8_flight 72 = .ok (.getfield 261, 3) := by decide +kernel
theorem dX8_flight_75 : decode cX8_flight 75 = .ok (.iconst 1, 1) := by decide +kernel
theorem dX8_flight_76 : decode cX8_flight 76 = .ok (.iadd, 1) := by decide +kernel
theorem dX8_flight_77 : decode cX8_flight 77 = .ok (.putfield 261, 3) := by decide +kernel
theorem dX8_flight_80 : decode cX8_flight 80 = .ok (.aload_n 0, 1) := by decide +kernel
theorem dX8_flight_81 : decode cX8_flight 81 = .ok (.getfield 261, 3) := by decide +kernel
theorem dX8_flight_84 : decode cX8_flight 84 = .ok (.ireturn, 1) := by decide +kernel
theorem dX8_areSeen_0 : decode cX8_areSeen 0 = .ok (.iconst 1, 1) := by decide +kernel
theorem dX8_areSeen_1 : decode cX8_areSeen 1 = .ok (.istore_n 1, 1) := by decide +kernel
theorem dX8_areSeen_2 : decode cX8_areSeen 2 = .ok (.iconst 0, 1) := by decide +kernel
theorem dX8_areSeen_3 : decode cX8_areSeen 3 = .ok (.istore_n 2, 1) := by decide +kernel
theorem dX8_areSeen_4 : decode cX8_areSeen 4 = .ok (.iload_n 2, 1) := by decide +kernel
theorem dX8_areSeen_5 : decode cX8_areSeen 5 = .ok (.aload_n 0, 1) := by decide +kernel
theorem dX8_areSeen_6 : decode cX8_areSeen 6 = .ok (.getfield 261, 3) := by decide +kernel
theorem dX8_areSeen_9 : decode cX8_areSeen 9 = .ok (.if_icmp .ge 62, 3) := by decide +kernel
theorem dX8_areSeen_12 : decode cX8_areSeen 12 = .ok (.iload_n 1, 1) := by decide +kernel
theorem dX8_areSeen_13 : decode cX8_areSeen 13 = .ok (.ifCond .eq 50, 3) := by decide +kernel
theorem dX8_areSeen_16 : decode cX8_areSeen 16 = .ok (.aload_n 0, 1) := by decide +kernel
theorem dX8_areSeen_17 : decode cX8_areSeen 17 = .ok (.getfield 7, 3) := by decide +kernel
theorem dX8_areSeen_20 : decode cX8_areSeen 20 = .ok (.aload_n 0, 1) := by decide +kernel
theorem dX8_areSeen_21 : decode cX8_areSeen 21 = .ok (.getfield 72, 3) := by decide +kernel
theorem dX8_areSeen_24 : decode cX8_areSeen 24 = .ok (.iload_n 2, 1) := by decide +kernel
theorem dX8_areSeen_25 : decode cX8_areSeen 25 = .ok (.iaload, 1) := by decide +kernel
theorem dX8_areSeen_26 : decode cX8_areSeen 26 = .ok (.iaload, 1) := by decide +kernel
theorem dX8_areSeen_27 : decode cX8_areSeen 27 = .ok (.aload_n 0, 1) := by decide +kernel
theorem dX8_areSeen_28 : decode cX8_areSeen 28 = .ok (.getfield 75, 3) := by decide +kernel
theorem dX8_areSeen_31 : decode cX8_areSeen 31 = .ok (.iload_n 2, 1) := by decide +kernel
theorem dX8_areSeen_32 : decode cX8_areSeen 32 = .ok (.iaload, 1) := by decide +kernel
theorem dX8_areSeen_33 : decode cX8_areSeen 33 = .ok (.aload_n 0, 1) := by decide +kernel
theorem dX8_areSeen_34 : decode cX8_areSeen 34 = .ok (.getfield 78, 3) := by decide +kernel
theorem dX8_areSeen_37 : decode cX8_areSeen 37 = .ok (.iload_n 2, 1) := by decide +kernel
theorem dX8_areSeen_38 : decode cX8_areSeen 38 = .ok (.iaload, 1) := by decide +kernel
theorem dX8_areSeen_39 : decode cX8_areSeen 39 = .ok (.isub, 1) := by decide +kernel
theorem dX8_areSeen_40 : decode cX8_areSeen 40 = .ok (.aload_n 0, 1) := by decide +kernel
theorem dX8_areSeen_41 : decode cX8_areSeen 41 = .ok (.getfield 75, 3) := by decide +kernel
theorem dX8_areSeen_44 : decode cX8_areSeen 44 = .ok (.iload_n 2, 1) := by decide +kernel
theorem dX8_areSeen_45 : decode cX8_areSeen 45 = .ok (.iaload, 1) := by decide +kernel
theorem dX8_areSeen_46 : decode cX8_areSeen 46 = .ok (.aload_n 0, 1) := by decide +kernel
theorem dX8_areSeen_47 : decode cX8_areSeen 47 = .ok (.getfield 78, 3) := by decide +kernel
theorem dX8_areSeen_50 : decode cX8_areSeen 50 = .ok (.iload_n 2, 1) := by decide +kernel
theorem dX8_areSeen_51 : decode cX8_areSeen 51 = .ok (.iaload, 1) := by decide +kernel
theorem dX8_areSeen_52 : decode cX8_areSeen 52 = .ok (.iadd, 1) := by decide +kernel
theorem dX8_areSeen_53 : decode cX8_areSeen 53 = .ok (.invokestatic 110, 3) := by decide +kernel
theorem dX8_areSeen_56 : decode cX8_areSeen 56 = .ok (.ifCond .eq 7, 3) := by decide +kernel
theorem dX8_areSeen_59 : decode cX8_areSeen 59 = .ok (.iconst 1, 1) := by decide +kernel
theorem dX8_areSeen_60 : decode cX8_areSeen 60 = .ok (.goto 4, 3) := by decide +kernel
theorem dX8_areSeen_63 : decode cX8_areSeen 63 = .ok (.iconst 0, 1) := by decide +kernel
theorem dX8_areSeen_64 : decode cX8_areSeen 64 = .ok (.istore_n 1, 1) := by decide +kernel
theorem dX8_areSeen_65 : decode cX8_areSeen 65 = .ok (.iinc 2 1, 3) := by decide +kernel
theorem dX8_areSeen_68 : decode cX8_areSeen 68 = .ok (.goto (-64), 3) := by decide +kernel
theorem dX8_areSeen_71 : decode cX8_areSeen 71 = .ok (.iload_n 1, 1) := by decide +kernel
theorem dX8_areSeen_72 : decode cX8_areSeen 72 = .ok (.ireturn, 1) := by decide +kernel
theorem dX8_fits_0 : decode cX8_fits 0 = .ok (.iload_n 1, 1) := by decide +kernel
theorem dX8_fits_1 : decode cX8_fits 1 = .ok (.iconst 1, 1) := by decide +kernel
theorem dX8_fits_2 : decode cX8_fits 2 = .ok (.bipush 60, 2) := by decide +kernel
theorem dX8_fits_4 : decode cX8_fits 4 = .ok (.invokestatic 110, 3) := by decide +kernel
theorem dX8_fits_7 : decode cX8_fits 7 = .ok (.ifCond .eq 18, 3) := by decide +kernel
theorem dX8_fits_10 : decode cX8_fits 10 = .ok (.aload_n 0, 1) := by decide +kernel
theorem dX8_fits_11 : decode cX8_fits 11 = .ok (.getfield 87, 3) := by decide +kernel
theorem dX8_fits_14 : decode cX8_fits 14 = .ok (.bipush 9, 2) := by decide +kernel
theorem dX8_fits_16 : decode cX8_fits 16 = .ok (.iaload, 1) := by decide +kernel
theorem dX8_fits_17 : decode cX8_fits 17 = .ok (.iload_n 1, 1) := by decide +kernel
theorem dX8_fits_18 : decode cX8_fits 18 = .ok (.iadd, 1) := by decide +kernel
theorem dX8_fits_19 : decode cX8_fits 19 = .ok (.sipush 3000, 3) := by decide +kernel
theorem dX8_fits_22 : decode cX8_fits 22 = .ok (.if_icmp .le 5, 3) := by decide +kernel
theorem dX8_fits_25 : decode cX8_fits 25 = .ok (.iconst (-1), 1) := by decide +kernel
theorem dX8_fits_26 : decode cX8_fits 26 = .ok (.ireturn, 1) := by decide +kernel
theorem dX8_fits_27 : decode cX8_fits 27 = .ok (.aload_n 0, 1) := by decide +kernel
theorem dX8_fits_28 : decode cX8_fits 28 = .ok (.iconst 0, 1) := by decide +kernel
theorem dX8_fits_29 : decode cX8_fits 29 = .ok (.invokevirtual 106, 3) := by decide +kernel
theorem dX8_fits_32 : decode cX8_fits 32 = .ok (.iconst 0, 1) := by decide +kernel
theorem dX8_fits_33 : decode cX8_fits 33 = .ok (.istore_n 2, 1) := by decide +kernel
theorem dX8_fits_34 : decode cX8_fits 34 = .ok (.iconst 1, 1) := by decide +kernel
theorem dX8_fits_35 : decode cX8_fits 35 = .ok (.istore_n 3, 1) := by decide +kernel
theorem dX8_fits_36 : decode cX8_fits 36 = .ok (.iload_n 3, 1) := by decide +kernel
theorem dX8_fits_37 : decode cX8_fits 37 = .ok (.bipush 6, 2) := by decide +kernel
theorem dX8_fits_39 : decode cX8_fits 39 = .ok (.if_icmp .ge 57, 3) := by decide +kernel
theorem dX8_fits_42 : decode cX8_fits 42 = .ok (.aload_n 0, 1) := by decide +kernel
theorem dX8_fits_43 : decode cX8_fits 43 = .ok (.iconst 1, 1) := by decide +kernel
theorem dX8_fits_44 : decode cX8_fits 44 = .ok (.invokevirtual 255, 3) := by decide +kernel
theorem dX8_fits_47 : decode cX8_fits 47 = .ok (.aload_n 0, 1) := by decide +kernel
theorem dX8_fits_48 : decode cX8_fits 48 = .ok (.getfield 31, 3) := by decide +kernel
theorem dX8_fits_51 : decode cX8_fits 51 = .ok (.iconst 0, 1) := by decide +kernel
theorem dX8_fits_52 : decode cX8_fits 52 = .ok (.iload_n 3, 1) := by decide +kernel
theorem dX8_fits_53 : decode cX8_fits 53 = .ok (.iastore, 1) := by decide +kernel
theorem dX8_fits_54 : decode cX8_fits 54 = .ok (.iconst 0, 1) := by decide +kernel
theorem dX8_fits_55 : decode cX8_fits 55 = .ok (.istore 4, 2) := by decide +kernel
theorem dX8_fits_57 : decode cX8_fits 57 = .ok (.iload 4, 2) := by decide +kernel
theorem dX8_fits_59 : decode cX8_fits 59 = .ok (.iload_n 1, 1) := by decide +kernel
theorem dX8_fits_60 : decode cX8_fits 60 = .ok (.if_icmp .ge 13, 3) := by decide +kernel
theorem dX8_fits_63 : decode cX8_fits 63 = .ok (.aload_n 0, 1) := by decide +kernel
theorem dX8_fits_64 : decode cX8_fits 64 = .ok (.invokevirtual 240, 3) := by decide +kernel
theorem dX8_fits_67 : decode cX8_fits 67 = .ok (.iinc 4 1, 3) := by decide +kernel
theorem dX8_fits_70 : decode cX8_fits 70 = .ok (.goto (-13), 3) := by decide +kernel
theorem dX8_fits_73 : decode cX8_fits 73 = .ok (.iload_n 2, 1) := by decide +kernel
theorem dX8_fits_74 : decode cX8_fits 74 = .ok (.aload_n 0, 1) := by decide +kernel
theorem dX8_fits_75 : decode cX8_fits 75 = .ok (.invokevirtual 264, 3) := by decide +kernel
theorem dX8_fits_78 : decode cX8_fits 78 = .ok (.ifCond .eq 9, 3) := by decide +kernel
theorem dX8_fits_81 : decode cX8_fits 81 = .ok (.iconst 1, 1) := by decide +kernel
theorem dX8_fits_82 : decode cX8_fits 82 = .ok (.iload_n 3, 1) := by decide +kernel
theorem dX8_fits_83 : decode cX8_fits 83 = .ok (.ishl, 1) := by decide +kernel
theorem dX8_fits_84 : decode cX8_fits 84 = .ok (.goto 4, 3) := by decide +kernel
theorem dX8_fits_87 : decode cX8_fits 87 = .ok (.iconst 0, 1) := by decide +kernel
theorem dX8_fits_88 : decode cX8_fits 88 = .ok (.ior, 1) := by decide +kernel
theorem dX8_fits_89 : decode cX8_fits 89 = .ok (.istore_n 2, 1) := by decide +kernel
theorem dX8_fits_90 : decode cX8_fits 90 = .ok (.iinc 3 1, 3) := by decide +kernel
theorem dX8_fits_93 : decode cX8_fits 93 = .ok (.goto (-57), 3) := by decide +kernel
theorem dX8_fits_96 : decode cX8_fits 96 = .ok (.aload_n 0, 1) := by decide +kernel
theorem dX8_fits_97 : decode cX8_fits 97 = .ok (.iconst 0, 1) := by decide +kernel
theorem dX8_fits_98 : decode cX8_fits 98 = .ok (.invokevirtual 255, 3) := by decide +kernel
theorem dX8_fits_101 : decode cX8_fits 101 = .ok (.iload_n 2, 1) := by decide +kernel
theorem dX8_fits_102 : decode cX8_fits 102 = .ok (.ireturn, 1) := by decide +kernel
theorem dX8_about_0 : decode cX8_about 0 = .ok (.iload_n 1, 1) := by decide +kernel
theorem dX8_about_1 : decode cX8_about 1 = .ok (.bipush 20, 2) := by decide +kernel
theorem dX8_about_3 : decode cX8_about 3 = .ok (.bipush 24, 2) := by decide +kernel
theorem dX8_about_5 : decode cX8_about 5 = .ok (.invokestatic 110, 3) := by decide +kernel
theorem dX8_about_8 : decode cX8_about 8 = .ok (.ifCond .eq 13, 3) := by decide +kernel
theorem dX8_about_11 : decode cX8_about 11 = .ok (.aload_n 0, 1) := by decide +kernel
theorem dX8_about_12 : decode cX8_about 12 = .ok (.getfield 31, 3) := by decide +kernel
theorem dX8_about_15 : decode cX8_about 15 = .ok (.iload_n 1, 1) := by decide +kernel
theorem dX8_about_16 : decode cX8_about 16 = .ok (.bipush 20, 2) := by decide +kernel
theorem dX8_about_18 : decode cX8_about 18 = .ok (.isub, 1) := by decide +kernel
theorem dX8_about_19 : decode cX8_about 19 = .ok (.iaload, 1) := by decide +kernel
theorem dX8_about_20 : decode cX8_about 20 = .ok (.ireturn, 1) := by decide +kernel
theorem dX8_about_21 : decode cX8_about 21 = .ok (.iconst 0, 1) := by decide +kernel
theorem dX8_about_22 : decode cX8_about 22 = .ok (.istore_n 2, 1) := by decide +kernel
theorem dX8_about_23 : decode cX8_about 23 = .ok (.iconst 0, 1) := by decide +kernel
theorem dX8_about_24 : decode cX8_about 24 = .ok (.istore_n 3, 1) := by decide +kernel
theorem dX8_about_25 : decode cX8_about 25 = .ok (.iload_n 3, 1) := by decide +kernel
theorem dX8_about_26 : decode cX8_about 26 = .ok (.aload_n 0, 1) := by decide +kernel
theorem dX8_about_27 : decode cX8_about 27 = .ok (.getfield 103, 3) := by decide +kernel
theorem dX8_about_30 : decode cX8_about 30 = .ok (.if_icmp .ge 18, 3) := by decide +kernel
theorem dX8_about_33 : decode cX8_about 33 = .ok (.iload_n 2, 1) := by decide +kernel
theorem dX8_about_34 : decode cX8_about 34 = .ok (.aload_n 0, 1) := by decide +kernel
theorem dX8_about_35 : decode cX8_about 35 = .ok (.getfield 7, 3) := by decide +kernel
theorem dX8_about_38 : decode cX8_about 38 = .ok (.iload_n 3, 1) := by decide +kernel
theorem dX8_about_39 : decode cX8_about 39 = .ok (.iaload, 1) := by decide +kernel
theorem dX8_about_40 : decode cX8_about 40 = .ok (.iadd, 1) := by decide +kernel
theorem dX8_about_41 : decode cX8_about 41 = .ok (.istore_n 2, 1) := by decide +kernel
theorem dX8_about_42 : decode cX8_about 42 = .ok (.iinc 3 1, 3) := by decide +kernel
theorem dX8_about_45 : decode cX8_about 45 = .ok (.goto (-20), 3) := by decide +kernel
theorem dX8_about_48 : decode cX8_about 48 = .ok (.iload_n 1, 1) := by decide +kernel
theorem dX8_about_49 : decode cX8_about 49 = .ok (.tableswitch 132 0 12 #[67, 72, 77, 82, 84, 89, 94, 99, 104, 109, 114, 119, 124], 67) := by decide +kernel
theorem dX8_about_116 : decode cX8_about 116 = .ok (.aload_n 0, 1) := by decide +kernel
theorem dX8_about_117 : decode cX8_about 117 = .ok (.getfield 115, 3) := by decide +kernel
theorem dX8_about_120 : decode cX8_about 120 = .ok (.ireturn, 1) := by decide +kernel
theorem dX8_about_121 : decode cX8_about 121 = .ok (.aload_n 0, 1) := by decide +kernel
theorem dX8_about_122 : decode cX8_about 122 = .ok (.getfield 97, 3) := by decide +kernel
theorem dX8_about_125 : decode cX8_about 125 = .ok (.ireturn, 1) := by decide +kernel
theorem dX8_about_126 : decode cX8_about 126 = .ok (.aload_n 0, 1) := by decide +kernel
theorem dX8_about_127 : decode cX8_about 127 = .ok (.getfield 100, 3) := by decide +kernel
theorem dX8_about_130 : decode cX8_about 130 = .ok (.ireturn, 1) := by decide +kernel
theorem dX8_about_131 : decode cX8_about 131 = .ok (.iload_n 2, 1) := by decide +kernel
theorem dX8_about_132 : decode cX8_about 132 = .ok (.ireturn, 1) := by decide +kernel
theorem dX8_about_133 : decode cX8_about 133 = .ok (.aload_n 0, 1) := by decide +kernel
theorem dX8_about_134 : decode cX8_about 134 = .ok (.getfield 118, 3) := by decide +kernel
theorem dX8_about_137 : decode cX8_about 137 = .ok (.ireturn, 1) := by decide +kernel
theorem dX8_about_138 : decode cX8_about 138 = .ok (.aload_n 0, 1) := by decide +kernel
theorem dX8_about_139 : decode cX8_about 139 = .ok (.getfield 121, 3) := by decide +kernel
theorem dX8_about_142 : decode cX8_about 142 = .ok (.ireturn, 1) := by decide +kernel
theorem dX8_about_143 : decode cX8_about 143 = .ok (.aload_n 0, 1) := by decide +kernel
theorem dX8_about_144 : decode cX8_about 144 = .ok (.getfield 124, 3) := by decide +kernel
theorem dX8_about_147 : decode cX8_about 147 = .ok (.ireturn, 1) := by decide +kernel
theorem dX8_about_148 : decode cX8_about 148 = .ok (.aload_n 0, 1) := by decide +kernel
theorem dX8_about_149 : decode cX8_about 149 = .ok (.getfield 133, 3) := by decide +kernel
theorem dX8_about_152 : decode cX8_about 152 = .ok (.ireturn, 1) := by decide +kernel
theorem dX8_about_153 : decode cX8_about 153 = .ok (.aload_n 0, 1) := by decide +kernel
theorem dX8_about_154 : decode cX8_about 154 = .ok (.invokevirtual 227, 3) := by decide +kernel
theorem dX8_about_157 : decode cX8_about 157 = .ok (.ireturn, 1) := by decide +kernel
theorem dX8_about_158 : decode cX8_about 158 = .ok (.aload_n 0, 1) := by decide +kernel
theorem dX8_about_159 : decode cX8_about 159 = .ok (.getfield 162, 3) := by decide +kernel
theorem dX8_about_162 : decode cX8_about 162 = .ok (.ireturn, 1) := by decide +kernel
theorem dX8_about_163 : decode cX8_about 163 = .ok (.aload_n 0, 1) := by decide +kernel
theorem dX8_about_164 : decode cX8_about 164 = .ok (.getfield 243, 3) := by decide +kernel
theorem dX8_about_167 : decode cX8_about 167 = .ok (.ireturn, 1) := by decide +kernel
theorem dX8_about_168 : decode cX8_about 168 = .ok (.aload_n 0, 1) := by decide +kernel
theorem dX8_about_169 : decode cX8_about 169 = .ok (.getfield 261, 3) := by decide +kernel
theorem dX8_about_172 : decode cX8_about 172 = .ok (.ireturn, 1) := by decide +kernel
theorem dX8_about_173 : decode cX8_about 173 = .ok (.aload_n 0, 1) := by decide +kernel
theorem dX8_about_174 : decode cX8_about 174 = .ok (.getfield 87, 3) := by decide +kernel
theorem dX8_about_177 : decode cX8_about 177 = .ok (.bipush 9, 2) := by decide +kernel
theorem dX8_about_179 : decode cX8_about 179 = .ok (.iaload, 1) := by decide +kernel
theorem dX8_about_180 : decode cX8_about 180 = .ok (.ireturn, 1) := by decide +kernel
theorem dX8_about_181 : decode cX8_about 181 = .ok (.iconst (-1), 1) := by decide +kernel
theorem dX8_about_182 : decode cX8_about 182 = .ok (.ireturn, 1) := by decide +kernel
