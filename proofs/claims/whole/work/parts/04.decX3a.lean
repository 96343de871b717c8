theorem dX3_init_0 : decode cX3_init 0 = .ok (.aload_n 0, 1) := by decide +kernel
theorem dX3_init_1 : decode cX3_init 1 = .ok (.invokespecial 3, 3) := by decide +kernel
theorem dX3_init_4 : decode cX3_init 4 = .ok (.aload_n 0, 1) := by decide +kernel
theorem dX3_init_5 : decode cX3_init 5 = .ok (.iload_n 1, 1) := by decide +kernel
theorem dX3_init_6 : decode cX3_init 6 = .ok (.putfield 9, 3) := by decide +kernel
theorem dX3_init_9 : decode cX3_init 9 = .ok (.aload_n 0, 1) := by decide +kernel
theorem dX3_init_10 : decode cX3_init 10 = .ok (.iload_n 2, 1) := by decide +kernel
theorem dX3_init_11 : decode cX3_init 11 = .ok (.putfield 15, 3) := by decide +kernel
theorem dX3_init_14 : decode cX3_init 14 = .ok (.aload_n 0, 1) := by decide +kernel
theorem dX3_init_15 : decode cX3_init 15 = .ok (.iload_n 1, 1) := by decide +kernel
theorem dX3_init_16 : decode cX3_init 16 = .ok (.iload_n 2, 1) := by decide +kernel
theorem dX3_init_17 : decode cX3_init 17 = .ok (.imul, 1) := by decide +kernel
theorem dX3_init_18 : decode cX3_init 18 = .ok (.putfield 18, 3) := by decide +kernel
theorem dX3_init_21 : decode cX3_init 21 = .ok (.aload_n 0, 1) := by decide +kernel
theorem dX3_init_22 : decode cX3_init 22 = .ok (.aload_n 0, 1) := by decide +kernel
theorem dX3_init_23 : decode cX3_init 23 = .ok (.getfield 18, 3) := by decide +kernel
theorem dX3_init_26 : decode cX3_init 26 = .ok (.iconst 4, 1) := by decide +kernel
theorem dX3_init_27 : decode cX3_init 27 = .ok (.imul, 1) := by decide +kernel
theorem dX3_init_28 : decode cX3_init 28 = .ok (.newarray .int, 2) := by decide +kernel
theorem dX3_init_30 : decode cX3_init 30 = .ok (.putfield 21, 3) := by decide +kernel
theorem dX3_init_33 : decode cX3_init 33 = .ok (.iconst 0, 1) := by decide +kernel
theorem dX3_init_34 : decode cX3_init 34 = .ok (.istore_n 3, 1) := by decide +kernel
theorem dX3_init_35 : decode cX3_init 35 = .ok (.iload_n 3, 1) := by decide +kernel
theorem dX3_init_36 : decode cX3_init 36 = .ok (.iload_n 2, 1) := by decide +kernel
theorem dX3_init_37 : decode cX3_init 37 = .ok (.if_icmp .ge 148, 3) := by decide +kernel
theorem dX3_init_40 : decode cX3_init 40 = .ok (.iload_n 3, 1) := by decide +kernel
theorem dX3_init_41 : decode cX3_init 41 = .ok (.iconst 1, 1) := by decide +kernel
theorem dX3_init_42 : decode cX3_init 42 = .ok (.iadd, 1) := by decide +kernel
theorem dX3_init_43 : decode cX3_init 43 = .ok (.iload_n 2, 1) := by decide +kernel
theorem dX3_init_44 : decode cX3_init 44 = .ok (.if_icmp .ge 9, 3) := by decide +kernel
theorem dX3_init_47 : decode cX3_init 47 = .ok (.iload_n 3, 1) := by decide +kernel
theorem dX3_init_48 : decode cX3_init 48 = .ok (.iconst 1, 1) := by decide +kernel
theorem dX3_init_49 : decode cX3_init 49 = .ok (.iadd, 1) := by decide +kernel
theorem dX3_init_50 : decode cX3_init 50 = .ok (.goto 4, 3) := by decide +kernel
theorem dX3_init_53 : decode cX3_init 53 = .ok (.iconst 0, 1) := by decide +kernel
theorem dX3_init_54 : decode cX3_init 54 = .ok (.istore 4, 2) := by decide +kernel
theorem dX3_init_56 : decode cX3_init 56 = .ok (.iload_n 3, 1) := by decide +kernel
theorem dX3_init_57 : decode cX3_init 57 = .ok (.ifCond .le 9, 3) := by decide +kernel
theorem dX3_init_60 : decode cX3_init 60 = .ok (.iload_n 3, 1) := by decide +kernel
theorem dX3_init_61 : decode cX3_init 61 = .ok (.iconst 1, 1) := by decide +kernel
theorem dX3_init_62 : decode cX3_init 62 = .ok (.isub, 1) := by decide +kernel
theorem dX3_init_63 : decode cX3_init 63 = .ok (.goto 6, 3) := by decide +kernel
theorem dX3_init_66 : decode cX3_init 66 = .ok (.iload_n 2, 1) := by decide +kernel
theorem dX3_init_67 : decode cX3_init 67 = .ok (.iconst 1, 1) := by decide +kernel
theorem dX3_init_68 : decode cX3_init 68 = .ok (.isub, 1) := by decide +kernel
theorem dX3_init_69 : decode cX3_init 69 = .ok (.istore 5, 2) := by decide +kernel
theorem dX3_init_71 : decode cX3_init 71 = .ok (.iconst 0, 1) := by decide +kernel
theorem dX3_init_72 : decode cX3_init 72 = .ok (.istore 6, 2) := by decide +kernel
theorem dX3_init_74 : decode cX3_init 74 = .ok (.iload 6, 2) := by decide +kernel
theorem dX3_init_76 : decode cX3_init 76 = .ok (.iload_n 1, 1) := by decide +kernel
theorem dX3_init_77 : decode cX3_init 77 = .ok (.if_icmp .ge 102, 3) := by decide +kernel
theorem dX3_init_80 : decode cX3_init 80 = .ok (.iload_n 3, 1) := by decide +kernel
theorem dX3_init_81 : decode cX3_init 81 = .ok (.iload_n 1, 1) := by decide +kernel
theorem dX3_init_82 : decode cX3_init 82 = .ok (.imul, 1) := by decide +kernel
theorem dX3_init_83 : decode cX3_init 83 = .ok (.iload 6, 2) := by decide +kernel
theorem dX3_init_85 : decode cX3_init 85 = .ok (.iadd, 1) := by decide +kernel
theorem dX3_init_86 : decode cX3_init 86 = .ok (.istore 7, 2) := by decide +kernel
theorem dX3_init_88 : decode cX3_init 88 = .ok (.aload_n 0, 1) := by decide +kernel
theorem dX3_init_89 : decode cX3_init 89 = .ok (.getfield 21, 3) := by decide +kernel
theorem dX3_init_92 : decode cX3_init 92 = .ok (.iload 7, 2) := by decide +kernel
theorem dX3_init_94 : decode cX3_init 94 = .ok (.iconst 4, 1) := by decide +kernel
theorem dX3_init_95 : decode cX3_init 95 = .ok (.imul, 1) := by decide +kernel
theorem dX3_init_96 : decode cX3_init 96 = .ok (.iload 6, 2) := by decide +kernel
theorem dX3_init_98 : decode cX3_init 98 = .ok (.iconst 1, 1) := by decide +kernel
theorem dX3_init_99 : decode cX3_init 99 = .ok (.iadd, 1) := by decide +kernel
theorem dX3_init_100 : decode cX3_init 100 = .ok (.iload_n 1, 1) := by decide +kernel
theorem dX3_init_101 : decode cX3_init 101 = .ok (.if_icmp .ge 10, 3) := by decide +kernel
theorem dX3_init_104 : decode cX3_init 104 = .ok (.iload 7, 2) := by decide +kernel
theorem dX3_init_106 : decode cX3_init 106 = .ok (.iconst 1, 1) := by decide +kernel
theorem dX3_init_107 : decode cX3_init 107 = .ok (.iadd, 1) := by decide +kernel
theorem dX3_init_108 : decode cX3_init 108 = .ok (.goto 4, 3) := by decide +kernel
theorem dX3_init_111 : decode cX3_init 111 = .ok (.iconst (-1), 1) := by decide +kernel
theorem dX3_init_112 : decode cX3_init 112 = .ok (.iastore, 1) := by decide +kernel
theorem dX3_init_113 : decode cX3_init 113 = .ok (.aload_n 0, 1) := by decide +kernel
theorem dX3_init_114 : decode cX3_init 114 = .ok (.getfield 21, 3) := by decide +kernel
theorem dX3_init_117 : decode cX3_init 117 = .ok (.iload 7, 2) := by decide +kernel
theorem dX3_init_119 : decode cX3_init 119 = .ok (.iconst 4, 1) := by decide +kernel
theorem dX3_init_120 : decode cX3_init 120 = .ok (.imul, 1) := by decide +kernel
theorem dX3_init_121 : decode cX3_init 121 = .ok (.iconst 1, 1) := by decide +kernel
theorem dX3_init_122 : decode cX3_init 122 = .ok (.iadd, 1) := by decide +kernel
theorem dX3_init_123 : decode cX3_init 123 = .ok (.iload 6, 2) := by decide +kernel
theorem dX3_init_125 : decode cX3_init 125 = .ok (.ifCond .le 10, 3) := by decide +kernel
theorem dX3_init_128 : decode cX3_init 128 = .ok (.iload 7, 2) := by decide +kernel
theorem dX3_init_130 : decode cX3_init 130 = .ok (.iconst 1, 1) := by decide +kernel
theorem dX3_init_131 : decode cX3_init 131 = .ok (.isub, 1) := by decide +kernel
theorem dX3_init_132 : decode cX3_init 132 = .ok (.goto 4, 3) := by decide +kernel
theorem dX3_init_135 : decode cX3_init 135 = .ok (.iconst (-1), 1) := by decide +kernel
theorem dX3_init_136 : decode cX3_init 136 = .ok (.iastore, 1) := by decide +kernel
theorem dX3_init_137 : decode cX3_init 137 = .ok (.aload_n 0, 1) := by decide +kernel
theorem dX3_init_138 : decode cX3_init 138 = .ok (.getfield 21, 3) := by decide +kernel
theorem dX3_init_141 : decode cX3_init 141 = .ok (.iload 7, 2) := by decide +kernel
theorem dX3_init_143 : decode cX3_init 143 = .ok (.iconst 4, 1) := by decide +kernel
theorem dX3_init_144 : decode cX3_init 144 = .ok (.imul, 1) := by decide +kernel
theorem dX3_init_145 : decode cX3_init 145 = .ok (.iconst 2, 1) := by decide +kernel
theorem dX3_init_146 : decode cX3_init 146 = .ok (.iadd, 1) := by decide +kernel
theorem dX3_init_147 : decode cX3_init 147 = .ok (.iload 4, 2) := by decide +kernel
theorem dX3_init_149 : decode cX3_init 149 = .ok (.iload_n 1, 1) := by decide +kernel
theorem dX3_init_150 : decode cX3_init 150 = .ok (.imul, 1) := by decide +kernel
theorem dX3_init_151 : decode cX3_init 151 = .ok (.iload 6, 2) := by decide +kernel
theorem dX3_init_153 : decode cX3_init 153 = .ok (.iadd, 1) := by decide +kernel
theorem dX3_init_154 : decode cX3_init 154 = .ok (.iastore, 1) := by decide +kernel
theorem dX3_init_155 : decode cX3_init 155 = .ok (.aload_n 0, 1) := by decide +kernel
theorem dX3_init_156 : decode cX3_init 156 = .ok (.getfield 21, 3) := by decide +kernel
theorem dX3_init_159 : decode cX3_init 159 = .ok (.iload 7, 2) := by decide +kernel
theorem dX3_init_161 : decode cX3_init 161 = .ok (.iconst 4, 1) := by decide +kernel
theorem dX3_init_162 : decode cX3_init 162 = .ok (.imul, 1) := by decide +kernel
theorem dX3_init_163 : decode cX3_init 163 = .ok (.iconst 3, 1) := by decide +kernel
theorem dX3_init_164 : decode cX3_init 164 = .ok (.iadd, 1) := by decide +kernel
theorem dX3_init_165 : decode cX3_init 165 = .ok (.iload 5, 2) := by decide +kernel
theorem dX3_init_167 : decode cX3_init 167 = .ok (.iload_n 1, 1) := by decide +kernel
theorem dX3_init_168 : decode cX3_init 168 = .ok (.imul, 1) := by decide +kernel
theorem dX3_init_169 : decode cX3_init 169 = .ok (.iload 6, 2) := by decide +kernel
theorem dX3_init_171 : decode cX3_init 171 = .ok (.iadd, 1) := by decide +kernel
theorem dX3_init_172 : decode cX3_init 172 = .ok (.iastore, 1) := by decide +kernel
theorem dX3_init_173 : decode cX3_init 173 = .ok (.iinc 6 1, 3) := by decide +kernel
theorem dX3_init_176 : decode cX3_init 176 = .ok (.goto (-102), 3) := by decide +kernel
theorem dX3_init_179 : decode cX3_init 179 = .ok (.iinc 3 1, 3) := by decide +kernel
theorem dX3_init_182 : decode cX3_init 182 = .ok (.goto (-147), 3) := by decide +kernel
theorem dX3_init_185 : decode cX3_init 185 = .ok (.return_, 1) := by decide +kernel
theorem dX3_has_0 : decode cX3_has 0 = .ok (.iload_n 1, 1) := by decide +kernel
theorem dX3_has_1 : decode cX3_has 1 = .ok (.ifCond .lt 15, 3) := by decide +kernel
theorem dX3_has_4 : decode cX3_has 4 = .ok (.iload_n 1, 1) := by decide +kernel
theorem dX3_has_5 : decode cX3_has 5 = .ok (.aload_n 0, 1) := by decide +kernel
theorem dX3_has_6 : decode cX3_has 6 = .ok (.getfield 18, 3) := by decide +kernel
theorem dX3_has_9 : decode cX3_has 9 = .ok (.if_icmp .ge 7, 3) := by decide +kernel
theorem dX3_has_12 : decode cX3_has 12 = .ok (.iconst 1, 1) := by decide +kernel
theorem dX3_has_13 : decode cX3_has 13 = .ok (.goto 4, 3) := by decide +kernel
theorem dX3_has_16 : decode cX3_has 16 = .ok (.iconst 0, 1) := by decide +kernel
theorem dX3_has_17 : decode cX3_has 17 = .ok (.ireturn, 1) := by decide +kernel
theorem dX3_beside_0 : decode cX3_beside 0 = .ok (.iload_n 1, 1) := by decide +kernel
theorem dX3_beside_1 : decode cX3_beside 1 = .ok (.iconst 4, 1) := by decide +kernel
theorem dX3_beside_2 : decode cX3_beside 2 = .ok (.imul, 1) := by decide +kernel
theorem dX3_beside_3 : decode cX3_beside 3 = .ok (.iload_n 2, 1) := by decide +kernel
theorem dX3_beside_4 : decode cX3_beside 4 = .ok (.iadd, 1) := by decide +kernel
theorem dX3_beside_5 : decode cX3_beside 5 = .ok (.istore_n 3, 1) := by decide +kernel
theorem dX3_beside_6 : decode cX3_beside 6 = .ok (.iload_n 1, 1) := by decide +kernel
theorem dX3_beside_7 : decode cX3_beside 7 = .ok (.ifCond .lt 25, 3) := by decide +kernel
theorem dX3_beside_10 : decode cX3_beside 10 = .ok (.iload_n 3, 1) := by decide +kernel
theorem dX3_beside_11 : decode cX3_beside 11 = .ok (.ifCond .lt 21, 3) := by decide +kernel
theorem dX3_beside_14 : decode cX3_beside 14 = .ok (.iload_n 3, 1) := by decide +kernel
theorem dX3_beside_15 : decode cX3_beside 15 = .ok (.aload_n 0, 1) := by decide +kernel
theorem dX3_beside_16 : decode cX3_beside 16 = .ok (.getfield 21, 3) := by decide +kernel
theorem dX3_beside_19 : decode cX3_beside 19 = .ok (.arraylength, 1) := by decide +kernel
theorem dX3_beside_20 : decode cX3_beside 20 = .ok (.if_icmp .ge 12, 3) := by decide +kernel
theorem dX3_beside_23 : decode cX3_beside 23 = .ok (.aload_n 0, 1) := by decide +kernel
theorem dX3_beside_24 : decode cX3_beside 24 = .ok (.getfield 21, 3) := by decide +kernel
theorem dX3_beside_27 : decode cX3_beside 27 = .ok (.iload_n 3, 1) := by decide +kernel
theorem dX3_beside_28 : decode cX3_beside 28 = .ok (.iaload, 1) := by decide +kernel
theorem dX3_beside_29 : decode cX3_beside 29 = .ok (.goto 4, 3) := by decide +kernel
theorem dX3_beside_32 : decode cX3_beside 32 = .ok (.iconst (-1), 1) := by decide +kernel
theorem dX3_beside_33 : decode cX3_beside 33 = .ok (.ireturn, 1) := by decide +kernel
