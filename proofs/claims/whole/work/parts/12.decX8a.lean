theorem dX8_init_0 : decode cX8_init 0 = .ok (.aload_n 0, 1) := by decide +kernel
theorem dX8_init_1 : decode cX8_init 1 = .ok (.invokespecial 1, 3) := by decide +kernel
theorem dX8_init_4 : decode cX8_init 4 = .ok (.aload_n 0, 1) := by decide +kernel
theorem dX8_init_5 : decode cX8_init 5 = .ok (.sipush 160, 3) := by decide +kernel
theorem dX8_init_8 : decode cX8_init 8 = .ok (.newarray .int, 2) := by decide +kernel
theorem dX8_init_10 : decode cX8_init 10 = .ok (.putfield 7, 3) := by decide +kernel
theorem dX8_init_13 : decode cX8_init 13 = .ok (.aload_n 0, 1) := by decide +kernel
theorem dX8_init_14 : decode cX8_init 14 = .ok (.sipush 160, 3) := by decide +kernel
theorem dX8_init_17 : decode cX8_init 17 = .ok (.newarray .int, 2) := by decide +kernel
theorem dX8_init_19 : decode cX8_init 19 = .ok (.putfield 13, 3) := by decide +kernel
theorem dX8_init_22 : decode cX8_init 22 = .ok (.aload_n 0, 1) := by decide +kernel
theorem dX8_init_23 : decode cX8_init 23 = .ok (.sipush 160, 3) := by decide +kernel
theorem dX8_init_26 : decode cX8_init 26 = .ok (.newarray .int, 2) := by decide +kernel
theorem dX8_init_28 : decode cX8_init 28 = .ok (.putfield 16, 3) := by decide +kernel
theorem dX8_init_31 : decode cX8_init 31 = .ok (.aload_n 0, 1) := by decide +kernel
theorem dX8_init_32 : decode cX8_init 32 = .ok (.sipush 160, 3) := by decide +kernel
theorem dX8_init_35 : decode cX8_init 35 = .ok (.newarray .int, 2) := by decide +kernel
theorem dX8_init_37 : decode cX8_init 37 = .ok (.putfield 19, 3) := by decide +kernel
theorem dX8_init_40 : decode cX8_init 40 = .ok (.aload_n 0, 1) := by decide +kernel
theorem dX8_init_41 : decode cX8_init 41 = .ok (.sipush 160, 3) := by decide +kernel
theorem dX8_init_44 : decode cX8_init 44 = .ok (.newarray .int, 2) := by decide +kernel
theorem dX8_init_46 : decode cX8_init 46 = .ok (.putfield 22, 3) := by decide +kernel
theorem dX8_init_49 : decode cX8_init 49 = .ok (.aload_n 0, 1) := by decide +kernel
theorem dX8_init_50 : decode cX8_init 50 = .ok (.sipush 160, 3) := by decide +kernel
theorem dX8_init_53 : decode cX8_init 53 = .ok (.newarray .int, 2) := by decide +kernel
theorem dX8_init_55 : decode cX8_init 55 = .ok (.putfield 25, 3) := by decide +kernel
theorem dX8_init_58 : decode cX8_init 58 = .ok (.aload_n 0, 1) := by decide +kernel
theorem dX8_init_59 : decode cX8_init 59 = .ok (.sipush 160, 3) := by decide +kernel
theorem dX8_init_62 : decode cX8_init 62 = .ok (.newarray .int, 2) := by decide +kernel
theorem dX8_init_64 : decode cX8_init 64 = .ok (.putfield 28, 3) := by decide +kernel
theorem dX8_init_67 : decode cX8_init 67 = .ok (.aload_n 0, 1) := by decide +kernel
theorem dX8_init_68 : decode cX8_init 68 = .ok (.iconst 5, 1) := by decide +kernel
theorem dX8_init_69 : decode cX8_init 69 = .ok (.newarray .int, 2) := by decide +kernel
theorem dX8_init_71 : decode cX8_init 71 = .ok (.dup, 1) := by decide +kernel
theorem dX8_init_72 : decode cX8_init 72 = .ok (.iconst 0, 1) := by decide +kernel
theorem dX8_init_73 : decode cX8_init 73 = .ok (.iconst 2, 1) := by decide +kernel
theorem dX8_init_74 : decode cX8_init 74 = .ok (.iastore, 1) := by decide +kernel
theorem dX8_init_75 : decode cX8_init 75 = .ok (.dup, 1) := by decide +kernel
theorem dX8_init_76 : decode cX8_init 76 = .ok (.iconst 1, 1) := by decide +kernel
theorem dX8_init_77 : decode cX8_init 77 = .ok (.bipush 60, 2) := by decide +kernel
theorem dX8_init_79 : decode cX8_init 79 = .ok (.iastore, 1) := by decide +kernel
theorem dX8_init_80 : decode cX8_init 80 = .ok (.dup, 1) := by decide +kernel
theorem dX8_init_81 : decode cX8_init 81 = .ok (.iconst 2, 1) := by decide +kernel
theorem dX8_init_82 : decode cX8_init 82 = .ok (.bipush 40, 2) := by decide +kernel
theorem dX8_init_84 : decode cX8_init 84 = .ok (.iastore, 1) := by decide +kernel
theorem dX8_init_85 : decode cX8_init 85 = .ok (.dup, 1) := by decide +kernel
theorem dX8_init_86 : decode cX8_init 86 = .ok (.iconst 3, 1) := by decide +kernel
theorem dX8_init_87 : decode cX8_init 87 = .ok (.iconst 2, 1) := by decide +kernel
theorem dX8_init_88 : decode cX8_init 88 = .ok (.iastore, 1) := by decide +kernel
theorem dX8_init_89 : decode cX8_init 89 = .ok (.dup, 1) := by decide +kernel
theorem dX8_init_90 : decode cX8_init 90 = .ok (.iconst 4, 1) := by decide +kernel
theorem dX8_init_91 : decode cX8_init 91 = .ok (.iconst 2, 1) := by decide +kernel
theorem dX8_init_92 : decode cX8_init 92 = .ok (.iastore, 1) := by decide +kernel
theorem dX8_init_93 : decode cX8_init 93 = .ok (.putfield 31, 3) := by decide +kernel
theorem dX8_init_96 : decode cX8_init 96 = .ok (.aload_n 0, 1) := by decide +kernel
theorem dX8_init_97 : decode cX8_init 97 = .ok (.iconst 1, 1) := by decide +kernel
theorem dX8_init_98 : decode cX8_init 98 = .ok (.putfield 34, 3) := by decide +kernel
theorem dX8_init_101 : decode cX8_init 101 = .ok (.aload_n 0, 1) := by decide +kernel
theorem dX8_init_102 : decode cX8_init 102 = .ok (.bipush 20, 2) := by decide +kernel
theorem dX8_init_104 : decode cX8_init 104 = .ok (.newarray .int, 2) := by decide +kernel
theorem dX8_init_106 : decode cX8_init 106 = .ok (.putfield 38, 3) := by decide +kernel
theorem dX8_init_109 : decode cX8_init 109 = .ok (.aload_n 0, 1) := by decide +kernel
theorem dX8_init_110 : decode cX8_init 110 = .ok (.bipush 20, 2) := by decide +kernel
theorem dX8_init_112 : decode cX8_init 112 = .ok (.newarray .int, 2) := by decide +kernel
theorem dX8_init_114 : decode cX8_init 114 = .ok (.putfield 41, 3) := by decide +kernel
theorem dX8_init_117 : decode cX8_init 117 = .ok (.aload_n 0, 1) := by decide +kernel
theorem dX8_init_118 : decode cX8_init 118 = .ok (.sipush 200, 3) := by decide +kernel
theorem dX8_init_121 : decode cX8_init 121 = .ok (.newarray .byte, 2) := by decide +kernel
theorem dX8_init_123 : decode cX8_init 123 = .ok (.putfield 44, 3) := by decide +kernel
theorem dX8_init_126 : decode cX8_init 126 = .ok (.aload_n 0, 1) := by decide +kernel
theorem dX8_init_127 : decode cX8_init 127 = .ok (.iconst (-1), 1) := by decide +kernel
theorem dX8_init_128 : decode cX8_init 128 = .ok (.putfield 48, 3) := by decide +kernel
theorem dX8_init_131 : decode cX8_init 131 = .ok (.aload_n 0, 1) := by decide +kernel
theorem dX8_init_132 : decode cX8_init 132 = .ok (.iconst (-1), 1) := by decide +kernel
theorem dX8_init_133 : decode cX8_init 133 = .ok (.putfield 51, 3) := by decide +kernel
theorem dX8_init_136 : decode cX8_init 136 = .ok (.aload_n 0, 1) := by decide +kernel
theorem dX8_init_137 : decode cX8_init 137 = .ok (.bipush 20, 2) := by decide +kernel
theorem dX8_init_139 : decode cX8_init 139 = .ok (.newarray .int, 2) := by decide +kernel
theorem dX8_init_141 : decode cX8_init 141 = .ok (.putfield 54, 3) := by decide +kernel
theorem dX8_init_144 : decode cX8_init 144 = .ok (.aload_n 0, 1) := by decide +kernel
theorem dX8_init_145 : decode cX8_init 145 = .ok (.bipush 20, 2) := by decide +kernel
theorem dX8_init_147 : decode cX8_init 147 = .ok (.newarray .int, 2) := by decide +kernel
theorem dX8_init_149 : decode cX8_init 149 = .ok (.putfield 57, 3) := by decide +kernel
theorem dX8_init_152 : decode cX8_init 152 = .ok (.aload_n 0, 1) := by decide +kernel
theorem dX8_init_153 : decode cX8_init 153 = .ok (.iconst 4, 1) := by decide +kernel
theorem dX8_init_154 : decode cX8_init 154 = .ok (.newarray .int, 2) := by decide +kernel
theorem dX8_init_156 : decode cX8_init 156 = .ok (.putfield 60, 3) := by decide +kernel
theorem dX8_init_159 : decode cX8_init 159 = .ok (.aload_n 0, 1) := by decide +kernel
theorem dX8_init_160 : decode cX8_init 160 = .ok (.iconst 4, 1) := by decide +kernel
theorem dX8_init_161 : decode cX8_init 161 = .ok (.newarray .int, 2) := by decide +kernel
theorem dX8_init_163 : decode cX8_init 163 = .ok (.putfield 63, 3) := by decide +kernel
theorem dX8_init_166 : decode cX8_init 166 = .ok (.aload_n 0, 1) := by decide +kernel
theorem dX8_init_167 : decode cX8_init 167 = .ok (.iconst 4, 1) := by decide +kernel
theorem dX8_init_168 : decode cX8_init 168 = .ok (.newarray .int, 2) := by decide +kernel
theorem dX8_init_170 : decode cX8_init 170 = .ok (.putfield 66, 3) := by decide +kernel
theorem dX8_init_173 : decode cX8_init 173 = .ok (.aload_n 0, 1) := by decide +kernel
theorem dX8_init_174 : decode cX8_init 174 = .ok (.iconst 4, 1) := by decide +kernel
theorem dX8_init_175 : decode cX8_init 175 = .ok (.newarray .int, 2) := by decide +kernel
theorem dX8_init_177 : decode cX8_init 177 = .ok (.putfield 69, 3) := by decide +kernel
theorem dX8_init_180 : decode cX8_init 180 = .ok (.aload_n 0, 1) := by decide +kernel
theorem dX8_init_181 : decode cX8_init 181 = .ok (.bipush 20, 2) := by decide +kernel
theorem dX8_init_183 : decode cX8_init 183 = .ok (.newarray .int, 2) := by decide +kernel
theorem dX8_init_185 : decode cX8_init 185 = .ok (.putfield 72, 3) := by decide +kernel
theorem dX8_init_188 : decode cX8_init 188 = .ok (.aload_n 0, 1) := by decide +kernel
theorem dX8_init_189 : decode cX8_init 189 = .ok (.bipush 20, 2) := by decide +kernel
theorem dX8_init_191 : decode cX8_init 191 = .ok (.newarray .int, 2) := by decide +kernel
theorem dX8_init_193 : decode cX8_init 193 = .ok (.putfield 75, 3) := by decide +kernel
theorem dX8_init_196 : decode cX8_init 196 = .ok (.aload_n 0, 1) := by decide +kernel
theorem dX8_init_197 : decode cX8_init 197 = .ok (.bipush 20, 2) := by decide +kernel
theorem dX8_init_199 : decode cX8_init 199 = .ok (.newarray .int, 2) := by decide +kernel
theorem dX8_init_201 : decode cX8_init 201 = .ok (.putfield 78, 3) := by decide +kernel
theorem dX8_init_204 : decode cX8_init 204 = .ok (.aload_n 0, 1) := by decide +kernel
theorem dX8_init_205 : decode cX8_init 205 = .ok (.sipush 2240, 3) := by decide +kernel
theorem dX8_init_208 : decode cX8_init 208 = .ok (.newarray .int, 2) := by decide +kernel
theorem dX8_init_210 : decode cX8_init 210 = .ok (.putfield 81, 3) := by decide +kernel
theorem dX8_init_213 : decode cX8_init 213 = .ok (.aload_n 0, 1) := by decide +kernel
theorem dX8_init_214 : decode cX8_init 214 = .ok (.bipush 10, 2) := by decide +kernel
theorem dX8_init_216 : decode cX8_init 216 = .ok (.newarray .int, 2) := by decide +kernel
theorem dX8_init_218 : decode cX8_init 218 = .ok (.putfield 84, 3) := by decide +kernel
theorem dX8_init_221 : decode cX8_init 221 = .ok (.aload_n 0, 1) := by decide +kernel
theorem dX8_init_222 : decode cX8_init 222 = .ok (.bipush 16, 2) := by decide +kernel
theorem dX8_init_224 : decode cX8_init 224 = .ok (.newarray .int, 2) := by decide +kernel
theorem dX8_init_226 : decode cX8_init 226 = .ok (.putfield 87, 3) := by decide +kernel
theorem dX8_init_229 : decode cX8_init 229 = .ok (.aload_n 0, 1) := by decide +kernel
theorem dX8_init_230 : decode cX8_init 230 = .ok (.bipush 80, 2) := by decide +kernel
theorem dX8_init_232 : decode cX8_init 232 = .ok (.newarray .int, 2) := by decide +kernel
theorem dX8_init_234 : decode cX8_init 234 = .ok (.putfield 90, 3) := by decide +kernel
theorem dX8_init_237 : decode cX8_init 237 = .ok (.aload_n 0, 1) := by decide +kernel
theorem dX8_init_238 : decode cX8_init 238 = .ok (.sipush 160, 3) := by decide +kernel
theorem dX8_init_241 : decode cX8_init 241 = .ok (.newarray .boolean, 2) := by decide +kernel
theorem dX8_init_243 : decode cX8_init 243 = .ok (.putfield 93, 3) := by decide +kernel
theorem dX8_init_246 : decode cX8_init 246 = .ok (.aload_n 0, 1) := by decide +kernel
theorem dX8_init_247 : decode cX8_init 247 = .ok (.iload_n 1, 1) := by decide +kernel
theorem dX8_init_248 : decode cX8_init 248 = .ok (.iconst 4, 1) := by decide +kernel
theorem dX8_init_249 : decode cX8_init 249 = .ok (.if_icmp .ge 7, 3) := by decide +kernel
theorem dX8_init_252 : decode cX8_init 252 = .ok (.iconst 4, 1) := by decide +kernel
theorem dX8_init_253 : decode cX8_init 253 = .ok (.goto 15, 3) := by decide +kernel
theorem dX8_init_256 : decode cX8_init 256 = .ok (.iload_n 1, 1) := by decide +kernel
theorem dX8_init_257 : decode cX8_init 257 = .ok (.bipush 16, 2) := by decide +kernel
theorem dX8_init_259 : decode cX8_init 259 = .ok (.if_icmp .le 8, 3) := by decide +kernel
theorem dX8_init_262 : decode cX8_init 262 = .ok (.bipush 16, 2) := by decide +kernel
theorem dX8_init_264 : decode cX8_init 264 = .ok (.goto 4, 3) := by decide +kernel
theorem dX8_init_267 : decode cX8_init 267 = .ok (.iload_n 1, 1) := by decide +kernel
theorem dX8_init_268 : decode cX8_init 268 = .ok (.putfield 97, 3) := by decide +kernel
theorem dX8_init_271 : decode cX8_init 271 = .ok (.aload_n 0, 1) := by decide +kernel
theorem dX8_init_272 : decode cX8_init 272 = .ok (.iload_n 2, 1) := by decide +kernel
theorem dX8_init_273 : decode cX8_init 273 = .ok (.iconst 2, 1) := by decide +kernel
theorem dX8_init_274 : decode cX8_init 274 = .ok (.if_icmp .ge 7, 3) := by decide +kernel
theorem dX8_init_277 : decode cX8_init 277 = .ok (.iconst 2, 1) := by decide +kernel
theorem dX8_init_278 : decode cX8_init 278 = .ok (.goto 15, 3) := by decide +kernel
theorem dX8_init_281 : decode cX8_init 281 = .ok (.iload_n 2, 1) := by decide +kernel
theorem dX8_init_282 : decode cX8_init 282 = .ok (.bipush 10, 2) := by decide +kernel
theorem dX8_init_284 : decode cX8_init 284 = .ok (.if_icmp .le 8, 3) := by decide +kernel
theorem dX8_init_287 : decode cX8_init 287 = .ok (.bipush 10, 2) := by decide +kernel
theorem dX8_init_289 : decode cX8_init 289 = .ok (.goto 4, 3) := by decide +kernel
theorem dX8_init_292 : decode cX8_init 292 = .ok (.iload_n 2, 1) := by decide +kernel
theorem dX8_init_293 : decode cX8_init 293 = .ok (.putfield 100, 3) := by decide +kernel
theorem dX8_init_296 : decode cX8_init 296 = .ok (.aload_n 0, 1) := by decide +kernel
theorem dX8_init_297 : decode cX8_init 297 = .ok (.aload_n 0, 1) := by decide +kernel
theorem dX8_init_298 : decode cX8_init 298 = .ok (.getfield 97, 3) := by decide +kernel
theorem dX8_init_301 : decode cX8_init 301 = .ok (.aload_n 0, 1) := by decide +kernel
theorem dX8_init_302 : decode cX8_init 302 = .ok (.getfield 100, 3) := by decide +kernel
theorem dX8_init_305 : decode cX8_init 305 = .ok (.imul, 1) := by decide +kernel
theorem dX8_init_306 : decode cX8_init 306 = .ok (.putfield 103, 3) := by decide +kernel
theorem dX8_init_309 : decode cX8_init 309 = .ok (.iconst 0, 1) := by decide +kernel
theorem dX8_init_310 : decode cX8_init 310 = .ok (.istore_n 3, 1) := by decide +kernel
theorem dX8_init_311 : decode cX8_init 311 = .ok (.iload_n 3, 1) := by decide +kernel
theorem dX8_init_312 : decode cX8_init 312 = .ok (.sipush 160, 3) := by decide +kernel
theorem dX8_init_315 : decode cX8_init 315 = .ok (.if_icmp .ge 16, 3) := by decide +kernel
theorem dX8_init_318 : decode cX8_init 318 = .ok (.aload_n 0, 1) := by decide +kernel
theorem dX8_init_319 : decode cX8_init 319 = .ok (.getfield 28, 3) := by decide +kernel
theorem dX8_init_322 : decode cX8_init 322 = .ok (.iload_n 3, 1) := by decide +kernel
theorem dX8_init_323 : decode cX8_init 323 = .ok (.iconst (-1), 1) := by decide +kernel
theorem dX8_init_324 : decode cX8_init 324 = .ok (.iastore, 1) := by decide +kernel
theorem dX8_init_325 : decode cX8_init 325 = .ok (.iinc 3 1, 3) := by decide +kernel
theorem dX8_init_328 : decode cX8_init 328 = .ok (.goto (-17), 3) := by decide +kernel
theorem dX8_init_331 : decode cX8_init 331 = .ok (.aload_n 0, 1) := by decide +kernel
theorem dX8_init_332 : decode cX8_init 332 = .ok (.iconst 1, 1) := by decide +kernel
theorem dX8_init_333 : decode cX8_init 333 = .ok (.invokevirtual 106, 3) := by decide +kernel
theorem dX8_init_336 : decode cX8_init 336 = .ok (.return_, 1) := by decide +kernel
theorem dX8_in_0 : decode cX8_in 0 = .ok (.iload_n 0, 1) := by decide +kernel
theorem dX8_in_1 : decode cX8_in 1 = .ok (.iload_n 1, 1) := by decide +kernel
theorem dX8_in_2 : decode cX8_in 2 = .ok (.if_icmp .lt 12, 3) := by decide +kernel
theorem dX8_in_5 : decode cX8_in 5 = .ok (.iload_n 0, 1) := by decide +kernel
theorem dX8_in_6 : decode cX8_in 6 = .ok (.iload_n 2, 1) := by decide +kernel
theorem dX8_in_7 : decode cX8_in 7 = .ok (.if_icmp .gt 7, 3) := by decide +kernel
theorem dX8_in_10 : decode cX8_in 10 = .ok (.iconst 1, 1) := by decide +kernel
theorem dX8_in_11 : decode cX8_in 11 = .ok (.goto 4, 3) := by decide +kernel
theorem dX8_in_14 : decode cX8_in 14 = .ok (.iconst 0, 1) := by decide +kernel
theorem dX8_in_15 : decode cX8_in 15 = .ok (.ireturn, 1) := by decide +kernel
theorem dX8_isCell_0 : decode cX8_isCell 0 = .ok (.iload_n 1, 1) := by decide +kernel
theorem dX8_isCell_1 : decode cX8_isCell 1 = .ok (.iconst 0, 1) := by decide +kernel
theorem dX8_isCell_2 : decode cX8_isCell 2 = .ok (.aload_n 0, 1) := by decide +kernel
theorem dX8_isCell_3 : decode cX8_isCell 3 = .ok (.getfield 103, 3) := by decide +kernel
theorem dX8_isCell_6 : decode cX8_isCell 6 = .ok (.iconst 1, 1) := by decide +kernel
theorem dX8_isCell_7 : decode cX8_isCell 7 = .ok (.isub, 1) := by decide +kernel
theorem dX8_isCell_8 : decode cX8_isCell 8 = .ok (.invokestatic 110, 3) := by decide +kernel
theorem dX8_isCell_11 : decode cX8_isCell 11 = .ok (.ireturn, 1) := by decide +kernel
theorem dX8_draw_0 : decode cX8_draw 0 = .ok (.aload_n 0, 1) := by decide +kernel
theorem dX8_draw_1 : decode cX8_draw 1 = .ok (.aload_n 0, 1) := by decide +kernel
theorem dX8_draw_2 : decode cX8_draw 2 = .ok (.getfield 34, 3) := by decide +kernel
theorem dX8_draw_5 : decode cX8_draw 5 = .ok (.ldc 114, 2) := by decide +kernel
theorem dX8_draw_7 : decode cX8_draw 7 = .ok (.imul, 1) := by decide +kernel
theorem dX8_draw_8 : decode cX8_draw 8 = .ok (.sipush 12345, 3) := by decide +kernel
theorem dX8_draw_11 : decode cX8_draw 11 = .ok (.iadd, 1) := by decide +kernel
theorem dX8_draw_12 : decode cX8_draw 12 = .ok (.putfield 34, 3) := by decide +kernel
theorem dX8_draw_15 : decode cX8_draw 15 = .ok (.aload_n 0, 1) := by decide +kernel
theorem dX8_draw_16 : decode cX8_draw 16 = .ok (.getfield 34, 3) := by decide +kernel
theorem dX8_draw_19 : decode cX8_draw 19 = .ok (.bipush 16, 2) := by decide +kernel
theorem dX8_draw_21 : decode cX8_draw 21 = .ok (.iushr, 1) := by decide +kernel
theorem dX8_draw_22 : decode cX8_draw 22 = .ok (.iload_n 1, 1) := by decide +kernel
theorem dX8_draw_23 : decode cX8_draw 23 = .ok (.irem, 1) := by decide +kernel
theorem dX8_draw_24 : decode cX8_draw 24 = .ok (.ireturn, 1) := by decide +kernel
theorem dX8_keeps_0 : decode cX8_keeps 0 = .ok (.iconst 0, 1) := by decide +kernel
theorem dX8_keeps_1 : decode cX8_keeps 1 = .ok (.istore_n 2, 1) := by decide +kernel
theorem dX8_keeps_2 : decode cX8_keeps 2 = .ok (.iload_n 2, 1) := by decide +kernel
theorem dX8_keeps_3 : decode cX8_keeps 3 = .ok (.sipush 160, 3) := by decide +kernel
theorem dX8_keeps_6 : decode cX8_keeps 6 = .ok (.if_icmp .ge 125, 3) := by decide +kernel
theorem dX8_keeps_9 : decode cX8_keeps 9 = .ok (.sipush 1120, 3) := by decide +kernel
theorem dX8_keeps_12 : decode cX8_keeps 12 = .ok (.iload_n 1, 1) := by decide +kernel
theorem dX8_keeps_13 : decode cX8_keeps 13 = .ok (.imul, 1) := by decide +kernel
theorem dX8_keeps_14 : decode cX8_keeps 14 = .ok (.iload_n 2, 1) := by decide +kernel
theorem dX8_keeps_15 : decode cX8_keeps 15 = .ok (.iadd, 1) := by decide +kernel
theorem dX8_keeps_16 : decode cX8_keeps 16 = .ok (.istore_n 3, 1) := by decide +kernel
theorem dX8_keeps_17 : decode cX8_keeps 17 = .ok (.aload_n 0, 1) := by decide +kernel
theorem dX8_keeps_18 : decode cX8_keeps 18 = .ok (.getfield 81, 3) := by decide +kernel
theorem dX8_keeps_21 : decode cX8_keeps 21 = .ok (.iload_n 3, 1) := by decide +kernel
theorem dX8_keeps_22 : decode cX8_keeps 22 = .ok (.aload_n 0, 1) := by decide +kernel
theorem dX8_keeps_23 : decode cX8_keeps 23 = .ok (.getfield 7, 3) := by decide +kernel
theorem dX8_keeps_26 : decode cX8_keeps 26 = .ok (.iload_n 2, 1) := by decide +kernel
theorem dX8_keeps_27 : decode cX8_keeps 27 = .ok (.iaload, 1) := by decide +kernel
theorem dX8_keeps_28 : decode cX8_keeps 28 = .ok (.iastore, 1) := by decide +kernel
theorem dX8_keeps_29 : decode cX8_keeps 29 = .ok (.aload_n 0, 1) := by decide +kernel
theorem dX8_keeps_30 : decode cX8_keeps 30 = .ok (.getfield 81, 3) := by decide +kernel
theorem dX8_keeps_33 : decode cX8_keeps 33 = .ok (.iload_n 3, 1) := by decide +kernel
theorem dX8_keeps_34 : decode cX8_keeps 34 = .ok (.sipush 160, 3) := by decide +kernel
theorem dX8_keeps_37 : decode cX8_keeps 37 = .ok (.iadd, 1) := by decide +kernel
theorem dX8_keeps_38 : decode cX8_keeps 38 = .ok (.aload_n 0, 1) := by decide +kernel
theorem dX8_keeps_39 : decode cX8_keeps 39 = .ok (.getfield 13, 3) := by decide +kernel
theorem dX8_keeps_42 : decode cX8_keeps 42 = .ok (.iload_n 2, 1) := by decide +kernel
theorem dX8_keeps_43 : decode cX8_keeps 43 = .ok (.iaload, 1) := by decide +kernel
theorem dX8_keeps_44 : decode cX8_keeps 44 = .ok (.iastore, 1) := by decide +kernel
theorem dX8_keeps_45 : decode cX8_keeps 45 = .ok (.aload_n 0, 1) := by decide +kernel
theorem dX8_keeps_46 : decode cX8_keeps 46 = .ok (.getfield 81, 3) := by decide +kernel
theorem dX8_keeps_49 : decode cX8_keeps 49 = .ok (.iload_n 3, 1) := by decide +kernel
theorem dX8_keeps_50 : decode cX8_keeps 50 = .ok (.sipush 320, 3) := by decide +kernel
theorem dX8_keeps_53 : decode cX8_keeps 53 = .ok (.iadd, 1) := by decide +kernel
theorem dX8_keeps_54 : decode cX8_keeps 54 = .ok (.aload_n 0, 1) := by decide +kernel
theorem dX8_keeps_55 : decode cX8_keeps 55 = .ok (.getfield 16, 3) := by decide +kernel
theorem dX8_keeps_58 : decode cX8_keeps 58 = .ok (.iload_n 2, 1) := by decide +kernel
theorem dX8_keeps_59 : decode cX8_keeps 59 = .ok (.iaload, 1) := by decide +kernel
theorem dX8_keeps_60 : decode cX8_keeps 60 = .ok (.iastore, 1) := by decide +kernel
theorem dX8_keeps_61 : decode cX8_keeps 61 = .ok (.aload_n 0, 1) := by decide +kernel
theorem dX8_keeps_62 : decode cX8_keeps 62 = .ok (.getfield 81, 3) := by decide +kernel
theorem dX8_keeps_65 : decode cX8_keeps 65 = .ok (.iload_n 3, 1) := by decide +kernel
theorem dX8_keeps_66 : decode cX8_keeps 66 = .ok (.sipush 480, 3) := by decide +kernel
theorem dX8_keeps_69 : decode cX8_keeps 69 = .ok (.iadd, 1) := by decide +kernel
theorem dX8_keeps_70 : decode cX8_keeps 70 = .ok (.aload_n 0, 1) := by decide +kernel
theorem dX8_keeps_71 : decode cX8_keeps 71 = .ok (.getfield 19, 3) := by decide +kernel
theorem dX8_keeps_74 : decode cX8_keeps 74 = .ok (.iload_n 2, 1) := by decide +kernel
theorem dX8_keeps_75 : decode cX8_keeps 75 = .ok (.iaload, 1) := by decide +kernel
theorem dX8_keeps_76 : decode cX8_keeps 76 = .ok (.iastore, 1) := by decide +kernel
theorem dX8_keeps_77 : decode cX8_keeps 77 = .ok (.aload_n 0, 1) := by decide +kernel
theorem dX8_keeps_78 : decode cX8_keeps 78 = .ok (.getfield 81, 3) := by decide +kernel
theorem dX8_keeps_81 : decode cX8_keeps 81 = .ok (.iload_n 3, 1) := by decide +kernel
theorem dX8_keeps_82 : decode cX8_keeps 82 = .ok (.sipush 640, 3) := by decide +kernel
theorem dX8_keeps_85 : decode cX8_keeps 85 = .ok (.iadd, 1) := by decide +kernel
theorem dX8_keeps_86 : decode cX8_keeps 86 = .ok (.aload_n 0, 1) := by decide +kernel
theorem dX8_keeps_87 : decode cX8_keeps 87 = .ok (.getfield 22, 3) := by decide +kernel
theorem dX8_keeps_90 : decode cX8_keeps 90 = .ok (.iload_n 2, 1) := by decide +kernel
theorem dX8_keeps_91 : decode cX8_keeps 91 = .ok (.iaload, 1) := by decide +kernel
theorem dX8_keeps_92 : decode cX8_keeps 92 = .ok (.iastore, 1) := by decide +kernel
theorem dX8_keeps_93 : decode cX8_keeps 93 = .ok (.aload_n 0, 1) := by decide +kernel
theorem dX8_keeps_94 : decode cX8_keeps 94 = .ok (.getfield 81, 3) := by decide +kernel
theorem dX8_keeps_97 : decode cX8_keeps 97 = .ok (.iload_n 3, 1) := by decide +kernel
theorem dX8_keeps_98 : decode cX8_keeps 98 = .ok (.sipush 800, 3) := by decide +kernel
theorem dX8_keeps_101 : decode cX8_keeps 101 = .ok (.iadd, 1) := by decide +kernel
theorem dX8_keeps_102 : decode cX8_keeps 102 = .ok (.aload_n 0, 1) := by decide +kernel
theorem dX8_keeps_103 : decode cX8_keeps 103 = .ok (.getfield 25, 3) := by decide +kernel
theorem dX8_keeps_106 : decode cX8_keeps 106 = .ok (.iload_n 2, 1) := by decide +kernel
theorem dX8_keeps_107 : decode cX8_keeps 107 = .ok (.iaload, 1) := by decide +kernel
theorem dX8_keeps_108 : decode cX8_keeps 108 = .ok (.iastore, 1) := by decide +kernel
theorem dX8_keeps_109 : decode cX8_keeps 109 = .ok (.aload_n 0, 1) := by decide +kernel
theorem dX8_keeps_110 : decode cX8_keeps 110 = .ok (.getfield 81, 3) := by decide +kernel
theorem dX8_keeps_113 : decode cX8_keeps 113 = .ok (.iload_n 3, 1) := by decide +kernel
theorem dX8_keeps_114 : decode cX8_keeps 114 = .ok (.sipush 960, 3) := by decide +kernel
theorem dX8_keeps_117 : decode cX8_keeps 117 = .ok (.iadd, 1) := by decide +kernel
theorem dX8_keeps_118 : decode cX8_keeps 118 = .ok (.aload_n 0, 1) := by decide +kernel
theorem dX8_keeps_119 : decode cX8_keeps 119 = .ok (.getfield 28, 3) := by decide +kernel
theorem dX8_keeps_122 : decode cX8_keeps 122 = .ok (.iload_n 2, 1) := by decide +kernel
theorem dX8_keeps_123 : decode cX8_keeps 123 = .ok (.iaload, 1) := by decide +kernel
theorem dX8_keeps_124 : decode cX8_keeps 124 = .ok (.iastore, 1) := by decide +kernel
theorem dX8_keeps_125 : decode cX8_keeps 125 = .ok (.iinc 2 1, 3) := by decide +kernel
theorem dX8_keeps_128 : decode cX8_keeps 128 = .ok (.goto (-126), 3) := by decide +kernel
theorem dX8_keeps_131 : decode cX8_keeps 131 = .ok (.iconst 0, 1) := by decide +kernel
theorem dX8_keeps_132 : decode cX8_keeps 132 = .ok (.istore_n 2, 1) := by decide +kernel
theorem dX8_keeps_133 : decode cX8_keeps 133 = .ok (.iload_n 2, 1) := by decide +kernel
theorem dX8_keeps_134 : decode cX8_keeps 134 = .ok (.iconst 5, 1) := by decide +kernel
theorem dX8_keeps_135 : decode cX8_keeps 135 = .ok (.if_icmp .ge 25, 3) := by decide +kernel
theorem dX8_keeps_138 : decode cX8_keeps 138 = .ok (.aload_n 0, 1) := by decide +kernel
theorem dX8_keeps_139 : decode cX8_keeps 139 = .ok (.getfield 84, 3) := by decide +kernel
theorem dX8_keeps_142 : decode cX8_keeps 142 = .ok (.iconst 5, 1) := by decide +kernel
theorem dX8_keeps_143 : decode cX8_keeps 143 = .ok (.iload_n 1, 1) := by decide +kernel
theorem dX8_keeps_144 : decode cX8_keeps 144 = .ok (.imul, 1) := by decide +kernel
theorem dX8_keeps_145 : decode cX8_keeps 145 = .ok (.iload_n 2, 1) := by decide +kernel
theorem dX8_keeps_146 : decode cX8_keeps 146 = .ok (.iadd, 1) := by decide +kernel
theorem dX8_keeps_147 : decode cX8_keeps 147 = .ok (.aload_n 0, 1) := by decide +kernel
theorem dX8_keeps_148 : decode cX8_keeps 148 = .ok (.getfield 31, 3) := by decide +kernel
theorem dX8_keeps_151 : decode cX8_keeps 151 = .ok (.iload_n 2, 1) := by decide +kernel
theorem dX8_keeps_152 : decode cX8_keeps 152 = .ok (.iaload, 1) := by decide +kernel
theorem dX8_keeps_153 : decode cX8_keeps 153 = .ok (.iastore, 1) := by decide +kernel
theorem dX8_keeps_154 : decode cX8_keeps 154 = .ok (.iinc 2 1, 3) := by decide +kernel
theorem dX8_keeps_157 : decode cX8_keeps 157 = .ok (.goto (-24), 3) := by decide +kernel
theorem dX8_keeps_160 : decode cX8_keeps 160 = .ok (.aload_n 0, 1) := by decide +kernel
theorem dX8_keeps_161 : decode cX8_keeps 161 = .ok (.getfield 87, 3) := by decide +kernel
theorem dX8_keeps_164 : decode cX8_keeps 164 = .ok (.bipush 8, 2) := by decide +kernel
theorem dX8_keeps_166 : decode cX8_keeps 166 = .ok (.iload_n 1, 1) := by decide +kernel
theorem dX8_keeps_167 : decode cX8_keeps 167 = .ok (.imul, 1) := by decide +kernel
theorem dX8_keeps_168 : decode cX8_keeps 168 = .ok (.aload_n 0, 1) := by decide +kernel
theorem dX8_keeps_169 : decode cX8_keeps 169 = .ok (.getfield 34, 3) := by decide +kernel
theorem dX8_keeps_172 : decode cX8_keeps 172 = .ok (.iastore, 1) := by decide +kernel
theorem dX8_keeps_173 : decode cX8_keeps 173 = .ok (.aload_n 0, 1) := by decide +kernel
theorem dX8_keeps_174 : decode cX8_keeps 174 = .ok (.getfield 87, 3) := by decide +kernel
theorem dX8_keeps_177 : decode cX8_keeps 177 = .ok (.bipush 8, 2) := by decide +kernel
theorem dX8_keeps_179 : decode cX8_keeps 179 = .ok (.iload_n 1, 1) := by decide +kernel
theorem dX8_keeps_180 : decode cX8_keeps 180 = .ok (.imul, 1) := by decide +kernel
theorem dX8_keeps_181 : decode cX8_keeps 181 = .ok (.iconst 1, 1) := by decide +kernel
theorem dX8_keeps_182 : decode cX8_keeps 182 = .ok (.iadd, 1) := by decide +kernel
theorem dX8_keeps_183 : decode cX8_keeps 183 = .ok (.aload_n 0, 1) := by decide +kernel
theorem dX8_keeps_184 : decode cX8_keeps 184 = .ok (.getfield 115, 3) := by decide +kernel
theorem dX8_keeps_187 : decode cX8_keeps 187 = .ok (.iastore, 1) := by decide +kernel
theorem dX8_keeps_188 : decode cX8_keeps 188 = .ok (.aload_n 0, 1) := by decide +kernel
theorem dX8_keeps_189 : decode cX8_keeps 189 = .ok (.getfield 87, 3) := by decide +kernel
theorem dX8_keeps_192 : decode cX8_keeps 192 = .ok (.bipush 8, 2) := by decide +kernel
theorem dX8_keeps_194 : decode cX8_keeps 194 = .ok (.iload_n 1, 1) := by decide +kernel
theorem dX8_keeps_195 : decode cX8_keeps 195 = .ok (.imul, 1) := by decide +kernel
theorem dX8_keeps_196 : decode cX8_keeps 196 = .ok (.iconst 2, 1) := by decide +kernel
theorem dX8_keeps_197 : decode cX8_keeps 197 = .ok (.iadd, 1) := by decide +kernel
theorem dX8_keeps_198 : decode cX8_keeps 198 = .ok (.aload_n 0, 1) := by decide +kernel
theorem dX8_keeps_199 : decode cX8_keeps 199 = .ok (.getfield 118, 3) := by decide +kernel
theorem dX8_keeps_202 : decode cX8_keeps 202 = .ok (.iastore, 1) := by decide +kernel
theorem dX8_keeps_203 : decode cX8_keeps 203 = .ok (.aload_n 0, 1) := by decide +kernel
theorem dX8_keeps_204 : decode cX8_keeps 204 = .ok (.getfield 87, 3) := by decide +kernel
theorem dX8_keeps_207 : decode cX8_keeps 207 = .ok (.bipush 8, 2) := by decide +kernel
theorem dX8_keeps_209 : decode cX8_keeps 209 = .ok (.iload_n 1, 1) := by decide +kernel
theorem dX8_keeps_210 : decode cX8_keeps 210 = .ok (.imul, 1) := by decide +kernel
theorem dX8_keeps_211 : decode cX8_keeps 211 = .ok (.iconst 3, 1) := by decide +kernel
theorem dX8_keeps_212 : decode cX8_keeps 212 = .ok (.iadd, 1) := by decide +kernel
theorem dX8_keeps_213 : decode cX8_keeps 213 = .ok (.aload_n 0, 1) := by decide +kernel
theorem dX8_keeps_214 : decode cX8_keeps 214 = .ok (.getfield 121, 3) := by decide +kernel
theorem dX8_keeps_217 : decode cX8_keeps 217 = .ok (.iastore, 1) := by decide +kernel
theorem dX8_keeps_218 : decode cX8_keeps 218 = .ok (.aload_n 0, 1) := by decide +kernel
theorem dX8_keeps_219 : decode cX8_keeps 219 = .ok (.getfield 87, 3) := by decide +kernel
theorem dX8_keeps_222 : decode cX8_keeps 222 = .ok (.bipush 8, 2) := by decide +kernel
theorem dX8_keeps_224 : decode cX8_keeps 224 = .ok (.iload_n 1, 1) := by decide +kernel
theorem dX8_keeps_225 : decode cX8_keeps 225 = .ok (.imul, 1) := by decide +kernel
theorem dX8_keeps_226 : decode cX8_keeps 226 = .ok (.iconst 4, 1) := by decide +kernel
theorem dX8_keeps_227 : decode cX8_keeps 227 = .ok (.iadd, 1) := by decide +kernel
theorem dX8_keeps_228 : decode cX8_keeps 228 = .ok (.aload_n 0, 1) := by decide +kernel
theorem dX8_keeps_229 : decode cX8_keeps 229 = .ok (.getfield 124, 3) := by decide +kernel
theorem dX8_keeps_232 : decode cX8_keeps 232 = .ok (.iastore, 1) := by decide +kernel
theorem dX8_keeps_233 : decode cX8_keeps 233 = .ok (.aload_n 0, 1) := by decide +kernel
theorem dX8_keeps_234 : decode cX8_keeps 234 = .ok (.getfield 87, 3) := by decide +kernel
theorem dX8_keeps_237 : decode cX8_keeps 237 = .ok (.bipush 8, 2) := by decide +kernel
theorem dX8_keeps_239 : decode cX8_keeps 239 = .ok (.iload_n 1, 1) := by decide +kernel
theorem dX8_keeps_240 : decode cX8_keeps 240 = .ok (.imul, 1) := by decide +kernel
theorem dX8_keeps_241 : decode cX8_keeps 241 = .ok (.iconst 5, 1) := by decide +kernel
theorem dX8_keeps_242 : decode cX8_keeps 242 = .ok (.iadd, 1) := by decide +kernel
theorem dX8_keeps_243 : decode cX8_keeps 243 = .ok (.aload_n 0, 1) := by decide +kernel
theorem dX8_keeps_244 : decode cX8_keeps 244 = .ok (.getfield 127, 3) := by decide +kernel
theorem dX8_keeps_247 : decode cX8_keeps 247 = .ok (.iastore, 1) := by decide +kernel
theorem dX8_keeps_248 : decode cX8_keeps 248 = .ok (.aload_n 0, 1) := by decide +kernel
theorem dX8_keeps_249 : decode cX8_keeps 249 = .ok (.getfield 87, 3) := by decide +kernel
theorem dX8_keeps_252 : decode cX8_keeps 252 = .ok (.bipush 8, 2) := by decide +kernel
theorem dX8_keeps_254 : decode cX8_keeps 254 = .ok (.iload_n 1, 1) := by decide +kernel
theorem dX8_keeps_255 : decode cX8_keeps 255 = .ok (.imul, 1) := by decide +kernel
theorem dX8_keeps_256 : decode cX8_keeps 256 = .ok (.bipush 6, 2) := by decide +kernel
theorem dX8_keeps_258 : decode cX8_keeps 258 = .ok (.iadd, 1) := by decide +kernel
theorem dX8_keeps_259 : decode cX8_keeps 259 = .ok (.aload_n 0, 1) := by decide +kernel
theorem dX8_keeps_260 : decode cX8_keeps 260 = .ok (.getfield 130, 3) := by decide +kernel
theorem dX8_keeps_263 : decode cX8_keeps 263 = .ok (.iastore, 1) := by decide +kernel
theorem dX8_keeps_264 : decode cX8_keeps 264 = .ok (.aload_n 0, 1) := by decide +kernel
theorem dX8_keeps_265 : decode cX8_keeps 265 = .ok (.getfield 87, 3) := by decide +kernel
theorem dX8_keeps_268 : decode cX8_keeps 268 = .ok (.bipush 8, 2) := by decide +kernel
theorem dX8_keeps_270 : decode cX8_keeps 270 = .ok (.iload_n 1, 1) := by decide +kernel
theorem dX8_keeps_271 : decode cX8_keeps 271 = .ok (.imul, 1) := by decide +kernel
theorem dX8_keeps_272 : decode cX8_keeps 272 = .ok (.bipush 7, 2) := by decide +kernel
theorem dX8_keeps_274 : decode cX8_keeps 274 = .ok (.iadd, 1) := by decide +kernel
theorem dX8_keeps_275 : decode cX8_keeps 275 = .ok (.aload_n 0, 1) := by decide +kernel
theorem dX8_keeps_276 : decode cX8_keeps 276 = .ok (.getfield 133, 3) := by decide +kernel
theorem dX8_keeps_279 : decode cX8_keeps 279 = .ok (.iastore, 1) := by decide +kernel
theorem dX8_keeps_280 : decode cX8_keeps 280 = .ok (.iconst 0, 1) := by decide +kernel
theorem dX8_keeps_281 : decode cX8_keeps 281 = .ok (.istore_n 2, 1) := by decide +kernel
theorem dX8_keeps_282 : decode cX8_keeps 282 = .ok (.iload_n 2, 1) := by decide +kernel
theorem dX8_keeps_283 : decode cX8_keeps 283 = .ok (.bipush 20, 2) := by decide +kernel
theorem dX8_keeps_285 : decode cX8_keeps 285 = .ok (.if_icmp .ge 46, 3) := by decide +kernel
theorem dX8_keeps_288 : decode cX8_keeps 288 = .ok (.aload_n 0, 1) := by decide +kernel
theorem dX8_keeps_289 : decode cX8_keeps 289 = .ok (.getfield 90, 3) := by decide +kernel
theorem dX8_keeps_292 : decode cX8_keeps 292 = .ok (.bipush 40, 2) := by decide +kernel
theorem dX8_keeps_294 : decode cX8_keeps 294 = .ok (.iload_n 1, 1) := by decide +kernel
theorem dX8_keeps_295 : decode cX8_keeps 295 = .ok (.imul, 1) := by decide +kernel
theorem dX8_keeps_296 : decode cX8_keeps 296 = .ok (.iload_n 2, 1) := by decide +kernel
theorem dX8_keeps_297 : decode cX8_keeps 297 = .ok (.iadd, 1) := by decide +kernel
theorem dX8_keeps_298 : decode cX8_keeps 298 = .ok (.aload_n 0, 1) := by decide +kernel
theorem dX8_keeps_299 : decode cX8_keeps 299 = .ok (.getfield 38, 3) := by decide +kernel
theorem dX8_keeps_302 : decode cX8_keeps 302 = .ok (.iload_n 2, 1) := by decide +kernel
theorem dX8_keeps_303 : decode cX8_keeps 303 = .ok (.iaload, 1) := by decide +kernel
theorem dX8_keeps_304 : decode cX8_keeps 304 = .ok (.iastore, 1) := by decide +kernel
theorem dX8_keeps_305 : decode cX8_keeps 305 = .ok (.aload_n 0, 1) := by decide +kernel
theorem dX8_keeps_306 : decode cX8_keeps 306 = .ok (.getfield 90, 3) := by decide +kernel
theorem dX8_keeps_309 : decode cX8_keeps 309 = .ok (.bipush 40, 2) := by decide +kernel
theorem dX8_keeps_311 : decode cX8_keeps 311 = .ok (.iload_n 1, 1) := by decide +kernel
theorem dX8_keeps_312 : decode cX8_keeps 312 = .ok (.imul, 1) := by decide +kernel
theorem dX8_keeps_313 : decode cX8_keeps 313 = .ok (.bipush 20, 2) := by decide +kernel
theorem dX8_keeps_315 : decode cX8_keeps 315 = .ok (.iadd, 1) := by decide +kernel
theorem dX8_keeps_316 : decode cX8_keeps 316 = .ok (.iload_n 2, 1) := by decide +kernel
theorem dX8_keeps_317 : decode cX8_keeps 317 = .ok (.iadd, 1) := by decide +kernel
theorem dX8_keeps_318 : decode cX8_keeps 318 = .ok (.aload_n 0, 1) := by decide +kernel
theorem dX8_keeps_319 : decode cX8_keeps 319 = .ok (.getfield 41, 3) := by decide +kernel
theorem dX8_keeps_322 : decode cX8_keeps 322 = .ok (.iload_n 2, 1) := by decide +kernel
theorem dX8_keeps_323 : decode cX8_keeps 323 = .ok (.iaload, 1) := by decide +kernel
theorem dX8_keeps_324 : decode cX8_keeps 324 = .ok (.iastore, 1) := by decide +kernel
theorem dX8_keeps_325 : decode cX8_keeps 325 = .ok (.iinc 2 1, 3) := by decide +kernel
theorem dX8_keeps_328 : decode cX8_keeps 328 = .ok (.goto (-46), 3) := by decide +kernel
theorem dX8_keeps_331 : decode cX8_keeps 331 = .ok (.return_, 1) := by decide +kernel
theorem dX8_comesBack_0 : decode cX8_comesBack 0 = .ok (.iconst 0, 1) := by decide +kernel
theorem dX8_comesBack_1 : decode cX8_comesBack 1 = .ok (.istore_n 2, 1) := by decide +kernel
theorem dX8_comesBack_2 : decode cX8_comesBack 2 = .ok (.iload_n 2, 1) := by decide +kernel
theorem dX8_comesBack_3 : decode cX8_comesBack 3 = .ok (.sipush 160, 3) := by decide +kernel
theorem dX8_comesBack_6 : decode cX8_comesBack 6 = .ok (.if_icmp .ge 125, 3) := by decide +kernel
theorem dX8_comesBack_9 : decode cX8_comesBack 9 = .ok (.sipush 1120, 3) := by decide +kernel
theorem dX8_comesBack_12 : decode cX8_comesBack 12 = .ok (.iload_n 1, 1) := by decide +kernel
theorem dX8_comesBack_13 : decode cX8_comesBack 13 = .ok (.imul, 1) := by decide +kernel
theorem dX8_comesBack_14 : decode cX8_comesBack 14 = .ok (.iload_n 2, 1) := by decide +kernel
theorem dX8_comesBack_15 : decode cX8_comesBack 15 = .ok (.iadd, 1) := by decide +kernel
theorem dX8_comesBack_16 : decode cX8_comesBack 16 = .ok (.istore_n 3, 1) := by decide +kernel
theorem dX8_comesBack_17 : decode cX8_comesBack 17 = .ok (.aload_n 0, 1) := by decide +kernel
theorem dX8_comesBack_18 : decode cX8_comesBack 18 = .ok (.getfield 7, 3) := by decide +kernel
theorem dX8_comesBack_21 : decode cX8_comesBack 21 = .ok (.iload_n 2, 1) := by decide +kernel
theorem dX8_comesBack_22 : decode cX8_comesBack 22 = .ok (.aload_n 0, 1) := by decide +kernel
theorem dX8_comesBack_23 : decode cX8_comesBack 23 = .ok (.getfield 81, 3) := by decide +kernel
theorem dX8_comesBack_26 : decode cX8_comesBack 26 = .ok (.iload_n 3, 1) := by decide +kernel
theorem dX8_comesBack_27 : decode cX8_comesBack 27 = .ok (.iaload, 1) := by decide +kernel
theorem dX8_comesBack_28 : decode cX8_comesBack 28 = .ok (.iastore, 1) := by decide +kernel
theorem dX8_comesBack_29 : decode cX8_comesBack 29 = .ok (.aload_n 0, 1) := by decide +kernel
theorem dX8_comesBack_30 : decode cX8_comesBack 30 = .ok (.getfield 13, 3) := by decide +kernel
theorem dX8_comesBack_33 : decode cX8_comesBack 33 = .ok (.iload_n 2, 1) := by decide +kernel
theorem dX8_comesBack_34 : decode cX8_comesBack 34 = .ok (.aload_n 0, 1) := by decide +kernel
theorem dX8_comesBack_35 : decode cX8_comesBack 35 = .ok (.getfield 81, 3) := by decide +kernel
theorem dX8_comesBack_38 : decode cX8_comesBack 38 = .ok (.iload_n 3, 1) := by decide +kernel
theorem dX8_comesBack_39 : decode cX8_comesBack 39 = .ok (.sipush 160, 3) := by decide +kernel
theorem dX8_comesBack_42 : decode cX8_comesBack 42 = .ok (.iadd, 1) := by decide +kernel
theorem dX8_comesBack_43 : decode cX8_comesBack 43 = .ok (.iaload, 1) := by decide +kernel
theorem dX8_comesBack_44 : decode cX8_comesBack 44 = .ok (.iastore, 1) := by decide +kernel
theorem dX8_comesBack_45 : decode cX8_comesBack 45 = .ok (.aload_n 0, 1) := by decide +kernel
theorem dX8_comesBack_46 : decode cX8_comesBack 46 = .ok (.getfield 16, 3) := by decide +kernel
theorem dX8_comesBack_49 : decode cX8_comesBack 49 = .ok (.iload_n 2, 1) := by decide +kernel
theorem dX8_comesBack_50 : decode cX8_comesBack 50 = .ok (.aload_n 0, 1) := by decide +kernel
theorem dX8_comesBack_51 : decode cX8_comesBack 51 = .ok (.getfield 81, 3) := by decide +kernel
theorem dX8_comesBack_54 : decode cX8_comesBack 54 = .ok (.iload_n 3, 1) := by decide +kernel
theorem dX8_comesBack_55 : decode cX8_comesBack 55 = .ok (.sipush 320, 3) := by decide +kernel
theorem dX8_comesBack_58 : decode cX8_comesBack 58 = .ok (.iadd, 1) := by decide +kernel
theorem dX8_comesBack_59 : decode cX8_comesBack 59 = .ok (.iaload, 1) := by decide +kernel
theorem dX8_comesBack_60 : decode cX8_comesBack 60 = .ok (.iastore, 1) := by decide +kernel
theorem dX8_comesBack_61 : decode cX8_comesBack 61 = .ok (.aload_n 0, 1) := by decide +kernel
theorem dX8_comesBack_62 : decode cX8_comesBack 62 = .ok (.getfield 19, 3) := by decide +kernel
theorem dX8_comesBack_65 : decode cX8_comesBack 65 = .ok (.iload_n 2, 1) := by decide +kernel
theorem dX8_comesBack_66 : decode cX8_comesBack 66 = .ok (.aload_n 0, 1) := by decide +kernel
theorem dX8_comesBack_67 : decode cX8_comesBack 67 = .ok (.getfield 81, 3) := by decide +kernel
theorem dX8_comesBack_70 : decode cX8_comesBack 70 = .ok (.iload_n 3, 1) := by decide +kernel
theorem dX8_comesBack_71 : decode cX8_comesBack 71 = .ok (.sipush 480, 3) := by decide +kernel
theorem dX8_comesBack_74 : decode cX8_comesBack 74 = .ok (.iadd, 1) := by decide +kernel
theorem dX8_comesBack_75 : decode cX8_comesBack 75 = .ok (.iaload, 1) := by decide +kernel
theorem dX8_comesBack_76 : decode cX8_comesBack 76 = .ok (.iastore, 1) := by decide +kernel
theorem dX8_comesBack_77 : decode cX8_comesBack 77 = .ok (.aload_n 0, 1) := by decide +kernel
theorem dX8_comesBack_78 : decode cX8_comesBack 78 = .ok (.getfield 22, 3) := by decide +kernel
theorem dX8_comesBack_81 : decode cX8_comesBack 81 = .ok (.iload_n 2, 1) := by decide +kernel
theorem dX8_comesBack_82 : decode cX8_comesBack 82 = .ok (.aload_n 0, 1) := by decide +kernel
theorem dX8_comesBack_83 : decode cX8_comesBack 83 = .ok (.getfield 81, 3) := by decide +kernel
theorem dX8_comesBack_86 : decode cX8_comesBack 86 = .ok (.iload_n 3, 1) := by decide +kernel
theorem dX8_comesBack_87 : decode cX8_comesBack 87 = .ok (.sipush 640, 3) := by decide +kernel
theorem dX8_comesBack_90 : decode cX8_comesBack 90 = .ok (.iadd, 1) := by decide +kernel
theorem dX8_comesBack_91 : decode cX8_comesBack 91 = .ok (.iaload, 1) := by decide +kernel
theorem dX8_comesBack_92 : decode cX8_comesBack 92 = .ok (.iastore, 1) := by decide +kernel
theorem dX8_comesBack_93 : decode cX8_comesBack 93 = .ok (.aload_n 0, 1) := by decide +kernel
theorem dX8_comesBack_94 : decode cX8_comesBack 94 = .ok (.getfield 25, 3) := by decide +kernel
theorem dX8_comesBack_97 : decode cX8_comesBack 97 = .ok (.iload_n 2, 1) := by decide +kernel
theorem dX8_comesBack_98 : decode cX8_comesBack 98 = .ok (.aload_n 0, 1) := by decide +kernel
theorem dX8_comesBack_99 : decode cX8_comesBack 99 = .ok (.getfield 81, 3) := by decide +kernel
theorem dX8_comesBack_102 : decode cX8_comesBack 102 = .ok (.iload_n 3, 1) := by decide +kernel
theorem dX8_comesBack_103 : decode cX8_comesBack 103 = .ok (.sipush 800, 3) := by decide +kernel
theorem dX8_comesBack_106 : decode cX8_comesBack 106 = .ok (.iadd, 1) := by decide +kernel
theorem dX8_comesBack_107 : decode cX8_comesBack 107 = .ok (.iaload, 1) := by decide +kernel
theorem dX8_comesBack_108 : decode cX8_comesBack 108 = .ok (.iastore, 1) := by decide +kernel
theorem dX8_comesBack_109 : decode cX8_comesBack 109 = .ok (.aload_n 0, 1) := by decide +kernel
theorem dX8_comesBack_110 : decode cX8_comesBack 110 = .ok (.getfield 28, 3) := by decide +kernel
theorem dX8_comesBack_113 : decode cX8_comesBack 113 = .ok (.iload_n 2, 1) := by decide +kernel
theorem dX8_comesBack_114 : decode cX8_comesBack 114 = .ok (.aload_n 0, 1) := by decide +kernel
theorem dX8_comesBack_115 : decode cX8_comesBack 115 = .ok (.getfield 81, 3) := by decide +kernel
theorem dX8_comesBack_118 : decode cX8_comesBack 118 = .ok (.iload_n 3, 1) := by decide +kernel
theorem dX8_comesBack_119 : decode cX8_comesBack 119 = .ok (.sipush 960, 3) := by decide +kernel
theorem dX8_comesBack_122 : decode cX8_comesBack 122 = .ok (.iadd, 1) := by decide +kernel
theorem dX8_comesBack_123 : decode cX8_comesBack 123 = .ok (.iaload, 1) := by decide +kernel
theorem dX8_comesBack_124 : decode cX8_comesBack 124 = .ok (.iastore, 1) := by decide +kernel
theorem dX8_comesBack_125 : decode cX8_comesBack 125 = .ok (.iinc 2 1, 3) := by decide +kernel
theorem dX8_comesBack_128 : decode cX8_comesBack 128 = .ok (.goto (-126), 3) := by decide +kernel
theorem dX8_comesBack_131 : decode cX8_comesBack 131 = .ok (.iconst 0, 1) := by decide +kernel
theorem dX8_comesBack_132 : decode cX8_comesBack 132 = .ok (.istore_n 2, 1) := by decide +kernel
theorem dX8_comesBack_133 : decode cX8_comesBack 133 = .ok (.iload_n 2, 1) := by decide +kernel
theorem dX8_comesBack_134 : decode cX8_comesBack 134 = .ok (.iconst 5, 1) := by decide +kernel
theorem dX8_comesBack_135 : decode cX8_comesBack 135 = .ok (.if_icmp .ge 25, 3) := by decide +kernel
theorem dX8_comesBack_138 : decode cX8_comesBack 138 = .ok (.aload_n 0, 1) := by decide +kernel
theorem dX8_comesBack_139 : decode cX8_comesBack 139 = .ok (.getfield 31, 3) := by decide +kernel
theorem dX8_comesBack_142 : decode cX8_comesBack 142 = .ok (.iload_n 2, 1) := by decide +kernel
theorem dX8_comesBack_143 : decode cX8_comesBack 143 = .ok (.aload_n 0, 1) := by decide +kernel
theorem dX8_comesBack_144 : decode cX8_comesBack 144 = .ok (.getfield 84, 3) := by decide +kernel
theorem dX8_comesBack_147 : decode cX8_comesBack 147 = .ok (.iconst 5, 1) := by decide +kernel
theorem dX8_comesBack_148 : decode cX8_comesBack 148 = .ok (.iload_n 1, 1) := by decide +kernel
theorem dX8_comesBack_149 : decode cX8_comesBack 149 = .ok (.imul, 1) := by decide +kernel
theorem dX8_comesBack_150 : decode cX8_comesBack 150 = .ok (.iload_n 2, 1) := by decide +kernel
theorem dX8_comesBack_151 : decode cX8_comesBack 151 = .ok (.iadd, 1) := by decide +kernel
theorem dX8_comesBack_152 : decode cX8_comesBack 152 = .ok (.iaload, 1) := by decide +kernel
theorem dX8_comesBack_153 : decode cX8_comesBack 153 = .ok (.iastore, 1) := by decide +kernel
theorem dX8_comesBack_154 : decode cX8_comesBack 154 = .ok (.iinc 2 1, 3) := by decide +kernel
theorem dX8_comesBack_157 : decode cX8_comesBack 157 = .ok (.goto (-24), 3) := by decide +kernel
theorem dX8_comesBack_160 : decode cX8_comesBack 160 = .ok (.aload_n 0, 1) := by decide +kernel
theorem dX8_comesBack_161 : decode cX8_comesBack 161 = .ok (.aload_n 0, 1) := by decide +kernel
theorem dX8_comesBack_162 : decode cX8_comesBack 162 = .ok (.getfield 87, 3) := by decide +kernel
theorem dX8_comesBack_165 : decode cX8_comesBack 165 = .ok (.bipush 8, 2) := by decide +kernel
theorem dX8_comesBack_167 : decode cX8_comesBack 167 = .ok (.iload_n 1, 1) := by decide +kernel
theorem dX8_comesBack_168 : decode cX8_comesBack 168 = .ok (.imul, 1) := by decide +kernel
theorem dX8_comesBack_169 : decode cX8_comesBack 169 = .ok (.iaload, 1) := by decide +kernel
theorem dX8_comesBack_170 : decode cX8_comesBack 170 = .ok (.putfield 34, 3) := by decide +kernel
theorem dX8_comesBack_173 : decode cX8_comesBack 173 = .ok (.aload_n 0, 1) := by decide +kernel
theorem dX8_comesBack_174 : decode cX8_comesBack 174 = .ok (.aload_n 0, 1) := by decide +kernel
theorem dX8_comesBack_175 : decode cX8_comesBack 175 = .ok (.getfield 87, 3) := by decide +kernel
theorem dX8_comesBack_178 : decode cX8_comesBack 178 = .ok (.bipush 8, 2) := by decide +kernel
theorem dX8_comesBack_180 : decode cX8_comesBack 180 = .ok (.iload_n 1, 1) := by decide +kernel
theorem dX8_comesBack_181 : decode cX8_comesBack 181 = .ok (.imul, 1) := by decide +kernel
theorem dX8_comesBack_182 : decode cX8_comesBack 182 = .ok (.iconst 1, 1) := by decide +kernel
theorem dX8_comesBack_183 : decode cX8_comesBack 183 = .ok (.iadd, 1) := by decide +kernel
theorem dX8_comesBack_184 : decode cX8_comesBack 184 = .ok (.iaload, 1) := by decide +kernel
theorem dX8_comesBack_185 : decode cX8_comesBack 185 = .ok (.putfield 115, 3) := by decide +kernel
theorem dX8_comesBack_188 : decode cX8_comesBack 188 = .ok (.aload_n 0, 1) := by decide +kernel
theorem dX8_comesBack_189 : decode cX8_comesBack 189 = .ok (.aload_n 0, 1) := by decide +kernel
theorem dX8_comesBack_190 : decode cX8_comesBack 190 = .ok (.getfield 87, 3) := by decide +kernel
theorem dX8_comesBack_193 : decode cX8_comesBack 193 = .ok (.bipush 8, 2) := by decide +kernel
theorem dX8_comesBack_195 : decode cX8_comesBack 195 = .ok (.iload_n 1, 1) := by decide +kernel
theorem dX8_comesBack_196 : decode cX8_comesBack 196 = .ok (.imul, 1) := by decide +kernel
theorem dX8_comesBack_197 : decode cX8_comesBack 197 = .ok (.iconst 2, 1) := by decide +kernel
theorem dX8_comesBack_198 : decode cX8_comesBack 198 = .ok (.iadd, 1) := by decide +kernel
theorem dX8_comesBack_199 : decode cX8_comesBack 199 = .ok (.iaload, 1) := by decide +kernel
theorem dX8_comesBack_200 : decode cX8_comesBack 200 = .ok (.putfield 118, 3) := by decide +kernel
theorem dX8_comesBack_203 : decode cX8_comesBack 203 = .ok (.aload_n 0, 1) := by decide +kernel
theorem dX8_comesBack_204 : decode cX8_comesBack 204 = .ok (.aload_n 0, 1) := by decide +kernel
theorem dX8_comesBack_205 : decode cX8_comesBack 205 = .ok (.getfield 87, 3) := by decide +kernel
theorem dX8_comesBack_208 : decode cX8_comesBack 208 = .ok (.bipush 8, 2) := by decide +kernel
theorem dX8_comesBack_210 : decode cX8_comesBack 210 = .ok (.iload_n 1, 1) := by decide +kernel
theorem dX8_comesBack_211 : decode cX8_comesBack 211 = .ok (.imul, 1) := by decide +kernel
theorem dX8_comesBack_212 : decode cX8_comesBack 212 = .ok (.iconst 3, 1) := by decide +kernel
theorem dX8_comesBack_213 : decode cX8_comesBack 213 = .ok (.iadd, 1) := by decide +kernel
theorem dX8_comesBack_214 : decode cX8_comesBack 214 = .ok (.iaload, 1) := by decide +kernel
theorem dX8_comesBack_215 : decode cX8_comesBack 215 = .ok (.putfield 121, 3) := by decide +kernel
theorem dX8_comesBack_218 : decode cX8_comesBack 218 = .ok (.aload_n 0, 1) := by decide +kernel
theorem dX8_comesBack_219 : decode cX8_comesBack 219 = .ok (.aload_n 0, 1) := by decide +kernel
theorem dX8_comesBack_220 : decode cX8_comesBack 220 = .ok (.getfield 87, 3) := by decide +kernel
theorem dX8_comesBack_223 : decode cX8_comesBack 223 = .ok (.bipush 8, 2) := by decide +kernel
theorem dX8_comesBack_225 : decode cX8_comesBack 225 = .ok (.iload_n 1, 1) := by decide +kernel
theorem dX8_comesBack_226 : decode cX8_comesBack 226 = .ok (.imul, 1) := by decide +kernel
theorem dX8_comesBack_227 : decode cX8_comesBack 227 = .ok (.iconst 4, 1) := by decide +kernel
theorem dX8_comesBack_228 : decode cX8_comesBack 228 = .ok (.iadd, 1) := by decide +kernel
theorem dX8_comesBack_229 : decode cX8_comesBack 229 = .ok (.iaload, 1) := by decide +kernel
theorem dX8_comesBack_230 : decode cX8_comesBack 230 = .ok (.putfield 124, 3) := by decide +kernel
theorem dX8_comesBack_233 : decode cX8_comesBack 233 = .ok (.aload_n 0, 1) := by decide +kernel
theorem dX8_comesBack_234 : decode cX8_comesBack 234 = .ok (.aload_n 0, 1) := by decide +kernel
theorem dX8_comesBack_235 : decode cX8_comesBack 235 = .ok (.getfield 87, 3) := by decide +kernel
theorem dX8_comesBack_238 : decode cX8_comesBack 238 = .ok (.bipush 8, 2) := by decide +kernel
theorem dX8_comesBack_240 : decode cX8_comesBack 240 = .ok (.iload_n 1, 1) := by decide +kernel
theorem dX8_comesBack_241 : decode cX8_comesBack 241 = .ok (.imul, 1) := by decide +kernel
theorem dX8_comesBack_242 : decode cX8_comesBack 242 = .ok (.iconst 5, 1) := by decide +kernel
theorem dX8_comesBack_243 : decode cX8_comesBack 243 = .ok (.iadd, 1) := by decide +kernel
theorem dX8_comesBack_244 : decode cX8_comesBack 244 = .ok (.iaload, 1) := by decide +kernel
theorem dX8_comesBack_245 : decode cX8_comesBack 245 = .ok (.putfield 127, 3) := by decide +kernel
theorem dX8_comesBack_248 : decode cX8_comesBack 248 = .ok (.aload_n 0, 1) := by decide +kernel
theorem dX8_comesBack_249 : decode cX8_comesBack 249 = .ok (.aload_n 0, 1) := by decide +kernel
theorem dX8_comesBack_250 : decode cX8_comesBack 250 = .ok (.getfield 87, 3) := by decide +kernel
theorem dX8_comesBack_253 : decode cX8_comesBack 253 = .ok (.bipush 8, 2) := by decide +kernel
theorem dX8_comesBack_255 : decode cX8_comesBack 255 = .ok (.iload_n 1, 1) := by decide +kernel
theorem dX8_comesBack_256 : decode cX8_comesBack 256 = .ok (.imul, 1) := by decide +kernel
theorem dX8_comesBack_257 : decode cX8_comesBack 257 = .ok (.bipush 6, 2) := by decide +kernel
theorem dX8_comesBack_259 : decode cX8_comesBack 259 = .ok (.iadd, 1) := by decide +kernel
theorem dX8_comesBack_260 : decode cX8_comesBack 260 = .ok (.iaload, 1) := by decide +kernel
theorem dX8_comesBack_261 : decode cX8_comesBack 261 = .ok (.putfield 130, 3) := by decide +kernel
theorem dX8_comesBack_264 : decode cX8_comesBack 264 = .ok (.aload_n 0, 1) := by decide +kernel
theorem dX8_comesBack_265 : decode cX8_comesBack 265 = .ok (.aload_n 0, 1) := by decide +kernel
theorem dX8_comesBack_266 : decode cX8_comesBack 266 = .ok (.getfield 87, 3) := by decide +kernel
theorem dX8_comesBack_269 : decode cX8_comesBack 269 = .ok (.bipush 8, 2) := by decide +kernel
theorem dX8_comesBack_271 : decode cX8_comesBack 271 = .ok (.iload_n 1, 1) := by decide +kernel
theorem dX8_comesBack_272 : decode cX8_comesBack 272 = .ok (.imul, 1) := by decide +kernel
theorem dX8_comesBack_273 : decode cX8_comesBack 273 = .ok (.bipush 7, 2) := by decide +kernel
theorem dX8_comesBack_275 : decode cX8_comesBack 275 = .ok (.iadd, 1) := by decide +kernel
theorem dX8_comesBack_276 : decode cX8_comesBack 276 = .ok (.iaload, 1) := by decide +kernel
theorem dX8_comesBack_277 : decode cX8_comesBack 277 = .ok (.putfield 133, 3) := by decide +kernel
theorem dX8_comesBack_280 : decode cX8_comesBack 280 = .ok (.iconst 0, 1) := by decide +kernel
theorem dX8_comesBack_281 : decode cX8_comesBack 281 = .ok (.istore_n 2, 1) := by decide +kernel
theorem dX8_comesBack_282 : decode cX8_comesBack 282 = .ok (.iload_n 2, 1) := by decide +kernel
theorem dX8_comesBack_283 : decode cX8_comesBack 283 = .ok (.bipush 20, 2) := by decide +kernel
theorem dX8_comesBack_285 : decode cX8_comesBack 285 = .ok (.if_icmp .ge 46, 3) := by decide +kernel
theorem dX8_comesBack_288 : decode cX8_comesBack 288 = .ok (.aload_n 0, 1) := by decide +kernel
theorem dX8_comesBack_289 : decode cX8_comesBack 289 = .ok (.getfield 38, 3) := by decide +kernel
theorem dX8_comesBack_292 : decode cX8_comesBack 292 = .ok (.iload_n 2, 1) := by decide +kernel
theorem dX8_comesBack_293 : decode cX8_comesBack 293 = .ok (.aload_n 0, 1) := by decide +kernel
theorem dX8_comesBack_294 : decode cX8_comesBack 294 = .ok (.getfield 90, 3) := by decide +kernel
theorem dX8_comesBack_297 : decode cX8_comesBack 297 = .ok (.bipush 40, 2) := by decide +kernel
theorem dX8_comesBack_299 : decode cX8_comesBack 299 = .ok (.iload_n 1, 1) := by decide +kernel
theorem dX8_comesBack_300 : decode cX8_comesBack 300 = .ok (.imul, 1) := by decide +kernel
theorem dX8_comesBack_301 : decode cX8_comesBack 301 = .ok (.iload_n 2, 1) := by decide +kernel
theorem dX8_comesBack_302 : decode cX8_comesBack 302 = .ok (.iadd, 1) := by decide +kernel
theorem dX8_comesBack_303 : decode cX8_comesBack 303 = .ok (.iaload, 1) := by decide +kernel
theorem dX8_comesBack_304 : decode cX8_comesBack 304 = .ok (.iastore, 1) := by decide +kernel
theorem dX8_comesBack_305 : decode cX8_comesBack 305 = .ok (.aload_n 0, 1) := by decide +kernel
theorem dX8_comesBack_306 : decode cX8_comesBack 306 = .ok (.getfield 41, 3) := by decide +kernel
theorem dX8_comesBack_309 : decode cX8_comesBack 309 = .ok (.iload_n 2, 1) := by decide +kernel
theorem dX8_comesBack_310 : decode cX8_comesBack 310 = .ok (.aload_n 0, 1) := by decide +kernel
theorem dX8_comesBack_311 : decode cX8_comesBack 311 = .ok (.getfield 90, 3) := by decide +kernel
theorem dX8_comesBack_314 : decode cX8_comesBack 314 = .ok (.bipush 40, 2) := by decide +kernel
theorem dX8_comesBack_316 : decode cX8_comesBack 316 = .ok (.iload_n 1, 1) := by decide +kernel
theorem dX8_comesBack_317 : decode cX8_comesBack 317 = .ok (.imul, 1) := by decide +kernel
theorem dX8_comesBack_318 : decode cX8_comesBack 318 = .ok (.bipush 20, 2) := by decide +kernel
theorem dX8_comesBack_320 : decode cX8_comesBack 320 = .ok (.iadd, 1) := by decide +kernel
theorem dX8_comesBack_321 : decode cX8_comesBack 321 = .ok (.iload_n 2, 1) := by decide +kernel
theorem dX8_comesBack_322 : decode cX8_comesBack 322 = .ok (.iadd, 1) := by decide +kernel
theorem dX8_comesBack_323 : decode cX8_comesBack 323 = .ok (.iaload, 1) := by decide +kernel
theorem dX8_comesBack_324 : decode cX8_comesBack 324 = .ok (.iastore, 1) := by decide +kernel
theorem dX8_comesBack_325 : decode cX8_comesBack 325 = .ok (.iinc 2 1, 3) := by decide +kernel
theorem dX8_comesBack_328 : decode cX8_comesBack 328 = .ok (.goto (-46), 3) := by decide +kernel
theorem dX8_comesBack_331 : decode cX8_comesBack 331 = .ok (.return_, 1) := by decide +kernel
theorem dX8_near_0 : decode cX8_near 0 = .ok (.iload_n 1, 1) := by decide +kernel
theorem dX8_near_1 : decode cX8_near 1 = .ok (.aload_n 0, 1) := by decide +kernel
theorem dX8_near_2 : decode cX8_near 2 = .ok (.getfield 97, 3) := by decide +kernel
theorem dX8_near_5 : decode cX8_near 5 = .ok (.irem, 1) := by decide +kernel
theorem dX8_near_6 : decode cX8_near 6 = .ok (.istore_n 3, 1) := by decide +kernel
theorem dX8_near_7 : decode cX8_near 7 = .ok (.iload_n 1, 1) := by decide +kernel
theorem dX8_near_8 : decode cX8_near 8 = .ok (.aload_n 0, 1) := by decide +kernel
theorem dX8_near_9 : decode cX8_near 9 = .ok (.getfield 97, 3) := by decide +kernel
theorem dX8_near_12 : decode cX8_near 12 = .ok (.idiv, 1) := by decide +kernel
theorem dX8_near_13 : decode cX8_near 13 = .ok (.istore 4, 2) := by decide +kernel
theorem dX8_near_15 : decode cX8_near 15 = .ok (.iload_n 2, 1) := by decide +kernel
theorem dX8_near_16 : decode cX8_near 16 = .ok (.tableswitch 75 0 2 #[28, 46, 58], 28) := by decide +kernel
theorem dX8_near_44 : decode cX8_near 44 = .ok (.iload_n 3, 1) := by decide +kernel
theorem dX8_near_45 : decode cX8_near 45 = .ok (.iconst 1, 1) := by decide +kernel
theorem dX8_near_46 : decode cX8_near 46 = .ok (.iadd, 1) := by decide +kernel
theorem dX8_near_47 : decode cX8_near 47 = .ok (.aload_n 0, 1) := by decide +kernel
theorem dX8_near_48 : decode cX8_near 48 = .ok (.getfield 97, 3) := by decide +kernel
theorem dX8_near_51 : decode cX8_near 51 = .ok (.if_icmp .ge 9, 3) := by decide +kernel
theorem dX8_near_54 : decode cX8_near 54 = .ok (.iload_n 1, 1) := by decide +kernel
theorem dX8_near_55 : decode cX8_near 55 = .ok (.iconst 1, 1) := by decide +kernel
theorem dX8_near_56 : decode cX8_near 56 = .ok (.iadd, 1) := by decide +kernel
theorem dX8_near_57 : decode cX8_near 57 = .ok (.goto 4, 3) := by decide +kernel
theorem dX8_near_60 : decode cX8_near 60 = .ok (.iconst (-1), 1) := by decide +kernel
theorem dX8_near_61 : decode cX8_near 61 = .ok (.ireturn, 1) := by decide +kernel
theorem dX8_near_62 : decode cX8_near 62 = .ok (.iload_n 3, 1) := by decide +kernel
theorem dX8_near_63 : decode cX8_near 63 = .ok (.ifCond .le 9, 3) := by decide +kernel
theorem dX8_near_66 : decode cX8_near 66 = .ok (.iload_n 1, 1) := by decide +kernel
theorem dX8_near_67 : decode cX8_near 67 = .ok (.iconst 1, 1) := by decide +kernel
theorem dX8_near_68 : decode cX8_near 68 = .ok (.isub, 1) := by decide +kernel
theorem dX8_near_69 : decode cX8_near 69 = .ok (.goto 4, 3) := by decide +kernel
theorem dX8_near_72 : decode cX8_near 72 = .ok (.iconst (-1), 1) := by decide +kernel
theorem dX8_near_73 : decode cX8_near 73 = .ok (.ireturn, 1) := by decide +kernel
theorem dX8_near_74 : decode cX8_near 74 = .ok (.iload 4, 2) := by decide +kernel
theorem dX8_near_76 : decode cX8_near 76 = .ok (.iconst 1, 1) := by decide +kernel
theorem dX8_near_77 : decode cX8_near 77 = .ok (.iadd, 1) := by decide +kernel
theorem dX8_near_78 : decode cX8_near 78 = .ok (.aload_n 0, 1) := by decide +kernel
theorem dX8_near_79 : decode cX8_near 79 = .ok (.getfield 100, 3) := by decide +kernel
theorem dX8_near_82 : decode cX8_near 82 = .ok (.irem, 1) := by decide +kernel
theorem dX8_near_83 : decode cX8_near 83 = .ok (.aload_n 0, 1) := by decide +kernel
theorem dX8_near_84 : decode cX8_near 84 = .ok (.getfield 97, 3) := by decide +kernel
theorem dX8_near_87 : decode cX8_near 87 = .ok (.imul, 1) := by decide +kernel
theorem dX8_near_88 : decode cX8_near 88 = .ok (.iload_n 3, 1) := by decide +kernel
theorem dX8_near_89 : decode cX8_near 89 = .ok (.iadd, 1) := by decide +kernel
theorem dX8_near_90 : decode cX8_near 90 = .ok (.ireturn, 1) := by decide +kernel
theorem dX8_near_91 : decode cX8_near 91 = .ok (.iload 4, 2) := by decide +kernel
theorem dX8_near_93 : decode cX8_near 93 = .ok (.aload_n 0, 1) := by decide +kernel
theorem dX8_near_94 : decode cX8_near 94 = .ok (.getfield 100, 3) := by decide +kernel
theorem dX8_near_97 : decode cX8_near 97 = .ok (.iadd, 1) := by decide +kernel
theorem dX8_near_98 : decode cX8_near 98 = .ok (.iconst 1, 1) := by decide +kernel
theorem dX8_near_99 : decode cX8_near 99 = .ok (.isub, 1) := by decide +kernel
theorem dX8_near_100 : decode cX8_near 100 = .ok (.aload_n 0, 1) := by decide +kernel
theorem dX8_near_101 : decode cX8_near 101 = .ok (.getfield 100, 3) := by decide +kernel
theorem dX8_near_104 : decode cX8_near 104 = .ok (.irem, 1) := by decide +kernel
theorem dX8_near_105 : decode cX8_near 105 = .ok (.aload_n 0, 1) := by decide +kernel
theorem dX8_near_106 : decode cX8_near 106 = .ok (.getfield 97, 3) := by decide +kernel
theorem dX8_near_109 : decode cX8_near 109 = .ok (.imul, 1) := by decide +kernel
theorem dX8_near_110 : decode cX8_near 110 = .ok (.iload_n 3, 1) := by decide +kernel
theorem dX8_near_111 : decode cX8_near 111 = .ok (.iadd, 1) := by decide +kernel
theorem dX8_near_112 : decode cX8_near 112 = .ok (.ireturn, 1) := by decide +kernel
theorem dX8_isSteep_0 : decode cX8_isSteep 0 = .ok (.iconst 0, 1) := by decide +kernel
theorem dX8_isSteep_1 : decode cX8_isSteep 1 = .ok (.istore_n 2, 1) := by decide +kernel
theorem dX8_isSteep_2 : decode cX8_isSteep 2 = .ok (.iconst 0, 1) := by decide +kernel
theorem dX8_isSteep_3 : decode cX8_isSteep 3 = .ok (.istore_n 3, 1) := by decide +kernel
theorem dX8_isSteep_4 : decode cX8_isSteep 4 = .ok (.iload_n 3, 1) := by decide +kernel
theorem dX8_isSteep_5 : decode cX8_isSteep 5 = .ok (.iconst 4, 1) := by decide +kernel
theorem dX8_isSteep_6 : decode cX8_isSteep 6 = .ok (.if_icmp .ge 55, 3) := by decide +kernel
theorem dX8_isSteep_9 : decode cX8_isSteep 9 = .ok (.aload_n 0, 1) := by decide +kernel
theorem dX8_isSteep_10 : decode cX8_isSteep 10 = .ok (.iload_n 1, 1) := by decide +kernel
theorem dX8_isSteep_11 : decode cX8_isSteep 11 = .ok (.iload_n 3, 1) := by decide +kernel
theorem dX8_isSteep_12 : decode cX8_isSteep 12 = .ok (.invokevirtual 136, 3) := by decide +kernel
theorem dX8_isSteep_15 : decode cX8_isSteep 15 = .ok (.istore 4, 2) := by decide +kernel
theorem dX8_isSteep_17 : decode cX8_isSteep 17 = .ok (.iload_n 2, 1) := by decide +kernel
theorem dX8_isSteep_18 : decode cX8_isSteep 18 = .ok (.ifCond .ne 31, 3) := by decide +kernel
theorem dX8_isSteep_21 : decode cX8_isSteep 21 = .ok (.iload 4, 2) := by decide +kernel
theorem dX8_isSteep_23 : decode cX8_isSteep 23 = .ok (.ifCond .lt 30, 3) := by decide +kernel
theorem dX8_isSteep_26 : decode cX8_isSteep 26 = .ok (.aload_n 0, 1) := by decide +kernel
theorem dX8_isSteep_27 : decode cX8_isSteep 27 = .ok (.getfield 7, 3) := by decide +kernel
theorem dX8_isSteep_30 : decode cX8_isSteep 30 = .ok (.iload_n 1, 1) := by decide +kernel
theorem dX8_isSteep_31 : decode cX8_isSteep 31 = .ok (.iaload, 1) := by decide +kernel
theorem dX8_isSteep_32 : decode cX8_isSteep 32 = .ok (.aload_n 0, 1) := by decide +kernel
theorem dX8_isSteep_33 : decode cX8_isSteep 33 = .ok (.getfield 7, 3) := by decide +kernel
theorem dX8_isSteep_36 : decode cX8_isSteep 36 = .ok (.iload 4, 2) := by decide +kernel
theorem dX8_isSteep_38 : decode cX8_isSteep 38 = .ok (.iaload, 1) := by decide +kernel
theorem dX8_isSteep_39 : decode cX8_isSteep 39 = .ok (.isub, 1) := by decide +kernel
theorem dX8_isSteep_40 : decode cX8_isSteep 40 = .ok (.aload_n 0, 1) := by decide +kernel
theorem dX8_isSteep_41 : decode cX8_isSteep 41 = .ok (.getfield 31, 3) := by decide +kernel
theorem dX8_isSteep_44 : decode cX8_isSteep 44 = .ok (.iconst 3, 1) := by decide +kernel
theorem dX8_isSteep_45 : decode cX8_isSteep 45 = .ok (.iaload, 1) := by decide +kernel
theorem dX8_isSteep_46 : decode cX8_isSteep 46 = .ok (.if_icmp .le 7, 3) := by decide +kernel
theorem dX8_isSteep_49 : decode cX8_isSteep 49 = .ok (.iconst 1, 1) := by decide +kernel
theorem dX8_isSteep_50 : decode cX8_isSteep 50 = .ok (.goto 4, 3) := by decide +kernel
theorem dX8_isSteep_53 : decode cX8_isSteep 53 = .ok (.iconst 0, 1) := by decide +kernel
theorem dX8_isSteep_54 : decode cX8_isSteep 54 = .ok (.istore_n 2, 1) := by decide +kernel
theorem dX8_isSteep_55 : decode cX8_isSteep 55 = .ok (.iinc 3 1, 3) := by decide +kernel
theorem dX8_isSteep_58 : decode cX8_isSteep 58 = .ok (.goto (-54), 3) := by decide +kernel
theorem dX8_isSteep_61 : decode cX8_isSteep 61 = .ok (.iload_n 2, 1) := by decide +kernel
theorem dX8_isSteep_62 : decode cX8_isSteep 62 = .ok (.ireturn, 1) := by decide +kernel
theorem dX8_touches_0 : decode cX8_touches 0 = .ok (.aload_n 0, 1) := by decide +kernel
theorem dX8_touches_1 : decode cX8_touches 1 = .ok (.getfield 93, 3) := by decide +kernel
theorem dX8_touches_4 : decode cX8_touches 4 = .ok (.iload_n 1, 1) := by decide +kernel
theorem dX8_touches_5 : decode cX8_touches 5 = .ok (.iconst 1, 1) := by decide +kernel
theorem dX8_touches_6 : decode cX8_touches 6 = .ok (.bastore, 1) := by decide +kernel
theorem dX8_touches_7 : decode cX8_touches 7 = .ok (.aload_n 0, 1) := by decide +kernel
theorem dX8_touches_8 : decode cX8_touches 8 = .ok (.iload_n 1, 1) := by decide +kernel
theorem dX8_touches_9 : decode cX8_touches 9 = .ok (.aload_n 0, 1) := by decide +kernel
theorem dX8_touches_10 : decode cX8_touches 10 = .ok (.getfield 140, 3) := by decide +kernel
theorem dX8_touches_13 : decode cX8_touches 13 = .ok (.if_icmp .ge 7, 3) := by decide +kernel
theorem dX8_touches_16 : decode cX8_touches 16 = .ok (.iload_n 1, 1) := by decide +kernel
theorem dX8_touches_17 : decode cX8_touches 17 = .ok (.goto 7, 3) := by decide +kernel
theorem dX8_touches_20 : decode cX8_touches 20 = .ok (.aload_n 0, 1) := by decide +kernel
theorem dX8_touches_21 : decode cX8_touches 21 = .ok (.getfield 140, 3) := by decide +kernel
theorem dX8_touches_24 : decode cX8_touches 24 = .ok (.putfield 140, 3) := by decide +kernel
theorem dX8_touches_27 : decode cX8_touches 27 = .ok (.iconst 0, 1) := by decide +kernel
theorem dX8_touches_28 : decode cX8_touches 28 = .ok (.istore_n 2, 1) := by decide +kernel
theorem dX8_touches_29 : decode cX8_touches 29 = .ok (.iload_n 2, 1) := by decide +kernel
theorem dX8_touches_30 : decode cX8_touches 30 = .ok (.iconst 4, 1) := by decide +kernel
theorem dX8_touches_31 : decode cX8_touches 31 = .ok (.if_icmp .ge 47, 3) := by decide +kernel
theorem dX8_touches_34 : decode cX8_touches 34 = .ok (.aload_n 0, 1) := by decide +kernel
theorem dX8_touches_35 : decode cX8_touches 35 = .ok (.iload_n 1, 1) := by decide +kernel
theorem dX8_touches_36 : decode cX8_touches 36 = .ok (.iload_n 2, 1) := by decide +kernel
theorem dX8_touches_37 : decode cX8_touches 37 = .ok (.invokevirtual 136, 3) := by decide +kernel
theorem dX8_touches_40 : decode cX8_touches 40 = .ok (.istore_n 3, 1) := by decide +kernel
theorem dX8_touches_41 : decode cX8_touches 41 = .ok (.iload_n 3, 1) := by decide +kernel
theorem dX8_touches_42 : decode cX8_touches 42 = .ok (.ifCond .lt 30, 3) := by decide +kernel
theorem dX8_touches_45 : decode cX8_touches 45 = .ok (.aload_n 0, 1) := by decide +kernel
theorem dX8_touches_46 : decode cX8_touches 46 = .ok (.getfield 93, 3) := by decide +kernel
theorem dX8_touches_49 : decode cX8_touches 49 = .ok (.iload_n 3, 1) := by decide +kernel
theorem dX8_touches_50 : decode cX8_touches 50 = .ok (.iconst 1, 1) := by decide +kernel
theorem dX8_touches_51 : decode cX8_touches 51 = .ok (.bastore, 1) := by decide +kernel
theorem dX8_touches_52 : decode cX8_touches 52 = .ok (.aload_n 0, 1) := by decide +kernel
theorem dX8_touches_53 : decode cX8_touches 53 = .ok (.iload_n 3, 1) := by decide +kernel
theorem dX8_touches_54 : decode cX8_touches 54 = .ok (.aload_n 0, 1) := by decide +kernel
theorem dX8_touches_55 : decode cX8_touches 55 = .ok (.getfield 140, 3) := by decide +kernel
theorem dX8_touches_58 : decode cX8_touches 58 = .ok (.if_icmp .ge 7, 3) := by decide +kernel
theorem dX8_touches_61 : decode cX8_touches 61 = .ok (.iload_n 3, 1) := by decide +kernel
theorem dX8_touches_62 : decode cX8_touches 62 = .ok (.goto 7, 3) := by decide +kernel
theorem dX8_touches_65 : decode cX8_touches 65 = .ok (.aload_n 0, 1) := by decide +kernel
theorem dX8_touches_66 : decode cX8_touches 66 = .ok (.getfield 140, 3) := by decide +kernel
theorem dX8_touches_69 : decode cX8_touches 69 = .ok (.putfield 140, 3) := by decide +kernel
theorem dX8_touches_72 : decode cX8_touches 72 = .ok (.iinc 2 1, 3) := by decide +kernel
theorem dX8_touches_75 : decode cX8_touches 75 = .ok (.goto (-46), 3) := by decide +kernel
theorem dX8_touches_78 : decode cX8_touches 78 = .ok (.return_, 1) := by decide +kernel
theorem dX8_settles_0 : decode cX8_settles 0 = .ok (.aload_n 0, 1) := by decide +kernel
theorem dX8_settles_1 : decode cX8_settles 1 = .ok (.getfield 140, 3) := by decide +kernel
theorem dX8_settles_4 : decode cX8_settles 4 = .ok (.aload_n 0, 1) := by decide +kernel
theorem dX8_settles_5 : decode cX8_settles 5 = .ok (.getfield 103, 3) := by decide +kernel
theorem dX8_settles_8 : decode cX8_settles 8 = .ok (.if_icmp .ge 133, 3) := by decide +kernel
theorem dX8_settles_11 : decode cX8_settles 11 = .ok (.aload_n 0, 1) := by decide +kernel
theorem dX8_settles_12 : decode cX8_settles 12 = .ok (.getfield 140, 3) := by decide +kernel
theorem dX8_settles_15 : decode cX8_settles 15 = .ok (.istore_n 1, 1) := by decide +kernel
theorem dX8_settles_16 : decode cX8_settles 16 = .ok (.aload_n 0, 1) := by decide +kernel
theorem dX8_settles_17 : decode cX8_settles 17 = .ok (.getfield 93, 3) := by decide +kernel
theorem dX8_settles_20 : decode cX8_settles 20 = .ok (.iload_n 1, 1) := by decide +kernel
theorem dX8_settles_21 : decode cX8_settles 21 = .ok (.baload, 1) := by decide +kernel
theorem dX8_settles_22 : decode cX8_settles 22 = .ok (.ifCond .eq 11, 3) := by decide +kernel
theorem dX8_settles_25 : decode cX8_settles 25 = .ok (.aload_n 0, 1) := by decide +kernel
theorem dX8_settles_26 : decode cX8_settles 26 = .ok (.iload_n 1, 1) := by decide +kernel
theorem dX8_settles_27 : decode cX8_settles 27 = .ok (.invokevirtual 143, 3) := by decide +kernel
theorem dX8_settles_30 : decode cX8_settles 30 = .ok (.ifCond .ne 23, 3) := by decide +kernel
theorem dX8_settles_33 : decode cX8_settles 33 = .ok (.aload_n 0, 1) := by decide +kernel
theorem dX8_settles_34 : decode cX8_settles 34 = .ok (.getfield 93, 3) := by decide +kernel
theorem dX8_settles_37 : decode cX8_settles 37 = .ok (.iload_n 1, 1) := by decide +kernel
theorem dX8_settles_38 : decode cX8_settles 38 = .ok (.iconst 0, 1) := by decide +kernel
theorem dX8_settles_39 : decode cX8_settles 39 = .ok (.bastore, 1) := by decide +kernel
theorem dX8_settles_40 : decode cX8_settles 40 = .ok (.aload_n 0, 1) := by decide +kernel
theorem dX8_settles_41 : decode cX8_settles 41 = .ok (.dup, 1) := by decide +kernel
theorem dX8_settles_42 : decode cX8_settles 42 = .ok (.getfield 140, 3) := by decide +kernel
theorem dX8_settles_45 : decode cX8_settles 45 = .ok (.iconst 1, 1) := by decide +kernel
theorem dX8_settles_46 : decode cX8_settles 46 = .ok (.iadd, 1) := by decide +kernel
theorem dX8_settles_47 : decode cX8_settles 47 = .ok (.putfield 140, 3) := by decide +kernel
theorem dX8_settles_50 : decode cX8_settles 50 = .ok (.goto (-50), 3) := by decide +kernel
theorem dX8_settles_53 : decode cX8_settles 53 = .ok (.iconst (-1), 1) := by decide +kernel
theorem dX8_settles_54 : decode cX8_settles 54 = .ok (.istore_n 2, 1) := by decide +kernel
theorem dX8_settles_55 : decode cX8_settles 55 = .ok (.iconst 0, 1) := by decide +kernel
theorem dX8_settles_56 : decode cX8_settles 56 = .ok (.istore_n 3, 1) := by decide +kernel
theorem dX8_settles_57 : decode cX8_settles 57 = .ok (.iload_n 3, 1) := by decide +kernel
theorem dX8_settles_58 : decode cX8_settles 58 = .ok (.iconst 4, 1) := by decide +kernel
theorem dX8_settles_59 : decode cX8_settles 59 = .ok (.if_icmp .ge 49, 3) := by decide +kernel
theorem dX8_settles_62 : decode cX8_settles 62 = .ok (.aload_n 0, 1) := by decide +kernel
theorem dX8_settles_63 : decode cX8_settles 63 = .ok (.iload_n 1, 1) := by decide +kernel
theorem dX8_settles_64 : decode cX8_settles 64 = .ok (.iload_n 3, 1) := by decide +kernel
theorem dX8_settles_65 : decode cX8_settles 65 = .ok (.invokevirtual 136, 3) := by decide +kernel
theorem dX8_settles_68 : decode cX8_settles 68 = .ok (.istore 4, 2) := by decide +kernel
theorem dX8_settles_70 : decode cX8_settles 70 = .ok (.iload 4, 2) := by decide +kernel
theorem dX8_settles_72 : decode cX8_settles 72 = .ok (.ifCond .lt 28, 3) := by decide +kernel
theorem dX8_settles_75 : decode cX8_settles 75 = .ok (.iload_n 2, 1) := by decide +kernel
theorem dX8_settles_76 : decode cX8_settles 76 = .ok (.ifCond .lt 19, 3) := by decide +kernel
theorem dX8_settles_79 : decode cX8_settles 79 = .ok (.aload_n 0, 1) := by decide +kernel
theorem dX8_settles_80 : decode cX8_settles 80 = .ok (.getfield 7, 3) := by decide +kernel
theorem dX8_settles_83 : decode cX8_settles 83 = .ok (.iload 4, 2) := by decide +kernel
theorem dX8_settles_85 : decode cX8_settles 85 = .ok (.iaload, 1) := by decide +kernel
theorem dX8_settles_86 : decode cX8_settles 86 = .ok (.aload_n 0, 1) := by decide +kernel
theorem dX8_settles_87 : decode cX8_settles 87 = .ok (.getfield 7, 3) := by decide +kernel
theorem dX8_settles_90 : decode cX8_settles 90 = .ok (.iload_n 2, 1) := by decide +kernel
theorem dX8_settles_91 : decode cX8_settles 91 = .ok (.iaload, 1) := by decide +kernel
theorem dX8_settles_92 : decode cX8_settles 92 = .ok (.if_icmp .ge 8, 3) := by decide +kernel
theorem dX8_settles_95 : decode cX8_settles 95 = .ok (.iload 4, 2) := by decide +kernel
theorem dX8_settles_97 : decode cX8_settles 97 = .ok (.goto 4, 3) := by decide +kernel
theorem dX8_settles_100 : decode cX8_settles 100 = .ok (.iload_n 2, 1) := by decide +kernel
theorem dX8_settles_101 : decode cX8_settles 101 = .ok (.istore_n 2, 1) := by decide +kernel
theorem dX8_settles_102 : decode cX8_settles 102 = .ok (.iinc 3 1, 3) := by decide +kernel
theorem dX8_settles_105 : decode cX8_settles 105 = .ok (.goto (-48), 3) := by decide +kernel
theorem dX8_settles_108 : decode cX8_settles 108 = .ok (.aload_n 0, 1) := by decide +kernel
theorem dX8_settles_109 : decode cX8_settles 109 = .ok (.getfield 7, 3) := by decide +kernel
theorem dX8_settles_112 : decode cX8_settles 112 = .ok (.iload_n 1, 1) := by decide +kernel
theorem dX8_settles_113 : decode cX8_settles 113 = .ok (.dup2, 1) := by decide +kernel
theorem dX8_settles_114 : decode cX8_settles 114 = .ok (.iaload, 1) := by decide +kernel
theorem dX8_settles_115 : decode cX8_settles 115 = .ok (.iconst 1, 1) := by decide +kernel
theorem dX8_settles_116 : decode cX8_settles 116 = .ok (.isub, 1) := by decide +kernel
theorem dX8_settles_117 : decode cX8_settles 117 = .ok (.iastore, 1) := by decide +kernel
theorem dX8_settles_118 : decode cX8_settles 118 = .ok (.aload_n 0, 1) := by decide +kernel
theorem dX8_settles_119 : decode cX8_settles 119 = .ok (.getfield 7, 3) := by decide +kernel
theorem dX8_settles_122 : decode cX8_settles 122 = .ok (.iload_n 2, 1) := by decide +kernel
theorem dX8_settles_123 : decode cX8_settles 123 = .ok (.dup2, 1) := by decide +kernel
theorem dX8_settles_124 : decode cX8_settles 124 = .ok (.iaload, 1) := by decide +kernel
theorem dX8_settles_125 : decode cX8_settles 125 = .ok (.iconst 1, 1) := by decide +kernel
theorem dX8_settles_126 : decode cX8_settles 126 = .ok (.iadd, 1) := by decide +kernel
theorem dX8_settles_127 : decode cX8_settles 127 = .ok (.iastore, 1) := by decide +kernel
theorem dX8_settles_128 : decode cX8_settles 128 = .ok (.aload_n 0, 1) := by decide +kernel
theorem dX8_settles_129 : decode cX8_settles 129 = .ok (.iload_n 1, 1) := by decide +kernel
theorem dX8_settles_130 : decode cX8_settles 130 = .ok (.invokevirtual 147, 3) := by decide +kernel
theorem dX8_settles_133 : decode cX8_settles 133 = .ok (.aload_n 0, 1) := by decide +kernel
theorem dX8_settles_134 : decode cX8_settles 134 = .ok (.iload_n 2, 1) := by decide +kernel
theorem dX8_settles_135 : decode cX8_settles 135 = .ok (.invokevirtual 147, 3) := by decide +kernel
theorem dX8_settles_138 : decode cX8_settles 138 = .ok (.goto (-138), 3) := by decide +kernel
theorem dX8_settles_141 : decode cX8_settles 141 = .ok (.return_, 1) := by decide +kernel
theorem dX8_settledAt_0 : decode cX8_settledAt 0 = .ok (.aload_n 0, 1) := by decide +kernel
theorem dX8_settledAt_1 : decode cX8_settledAt 1 = .ok (.aload_n 0, 1) := by decide +kernel
theorem dX8_settledAt_2 : decode cX8_settledAt 2 = .ok (.getfield 103, 3) := by decide +kernel
theorem dX8_settledAt_5 : decode cX8_settledAt 5 = .ok (.putfield 140, 3) := by decide +kernel
theorem dX8_settledAt_8 : decode cX8_settledAt 8 = .ok (.aload_n 0, 1) := by decide +kernel
theorem dX8_settledAt_9 : decode cX8_settledAt 9 = .ok (.iload_n 1, 1) := by decide +kernel
theorem dX8_settledAt_10 : decode cX8_settledAt 10 = .ok (.invokevirtual 147, 3) := by decide +kernel
theorem dX8_settledAt_13 : decode cX8_settledAt 13 = .ok (.aload_n 0, 1) := by decide +kernel
theorem dX8_settledAt_14 : decode cX8_settledAt 14 = .ok (.invokevirtual 150, 3) := by decide +kernel
theorem dX8_settledAt_17 : decode cX8_settledAt 17 = .ok (.return_, 1) := by decide +kernel
theorem dX8_settledAll_0 : decode cX8_settledAll 0 = .ok (.aload_n 0, 1) := by decide +kernel
theorem dX8_settledAll_1 : decode cX8_settledAll 1 = .ok (.iconst 0, 1) := by decide +kernel
theorem dX8_settledAll_2 : decode cX8_settledAll 2 = .ok (.putfield 140, 3) := by decide +kernel
theorem dX8_settledAll_5 : decode cX8_settledAll 5 = .ok (.iconst 0, 1) := by decide +kernel
theorem dX8_settledAll_6 : decode cX8_settledAll 6 = .ok (.istore_n 1, 1) := by decide +kernel
theorem dX8_settledAll_7 : decode cX8_settledAll 7 = .ok (.iload_n 1, 1) := by decide +kernel
theorem dX8_settledAll_8 : decode cX8_settledAll 8 = .ok (.aload_n 0, 1) := by decide +kernel
theorem dX8_settledAll_9 : decode cX8_settledAll 9 = .ok (.getfield 103, 3) := by decide +kernel
theorem dX8_settledAll_12 : decode cX8_settledAll 12 = .ok (.if_icmp .ge 16, 3) := by decide +kernel
theorem dX8_settledAll_15 : decode cX8_settledAll 15 = .ok (.aload_n 0, 1) := by decide +kernel
theorem dX8_settledAll_16 : decode cX8_settledAll 16 = .ok (.getfield 93, 3) := by decide +kernel
theorem dX8_settledAll_19 : decode cX8_settledAll 19 = .ok (.iload_n 1, 1) := by decide +kernel
theorem dX8_settledAll_20 : decode cX8_settledAll 20 = .ok (.iconst 1, 1) := by decide +kernel
theorem dX8_settledAll_21 : decode cX8_settledAll 21 = .ok (.bastore, 1) := by decide +kernel
theorem dX8_settledAll_22 : decode cX8_settledAll 22 = .ok (.iinc 1 1, 3) := by decide +kernel
theorem dX8_settledAll_25 : decode cX8_settledAll 25 = .ok (.goto (-18), 3) := by decide +kernel
theorem dX8_settledAll_28 : decode cX8_settledAll 28 = .ok (.aload_n 0, 1) := by decide +kernel
theorem dX8_settledAll_29 : decode cX8_settledAll 29 = .ok (.invokevirtual 150, 3) := by decide +kernel
theorem dX8_settledAll_32 : decode cX8_settledAll 32 = .ok (.return_, 1) := by decide +kernel
theorem dX8_heap_0 : decode cX8_heap 0 = .ok (.aload_n 0, 1) := by decide +kernel
theorem dX8_heap_1 : decode cX8_heap 1 = .ok (.iload_n 1, 1) := by decide +kernel
theorem dX8_heap_2 : decode cX8_heap 2 = .ok (.invokevirtual 153, 3) := by decide +kernel
theorem dX8_heap_5 : decode cX8_heap 5 = .ok (.ifCond .eq 14, 3) := by decide +kernel
theorem dX8_heap_8 : decode cX8_heap 8 = .ok (.iload_n 2, 1) := by decide +kernel
theorem dX8_heap_9 : decode cX8_heap 9 = .ok (.iconst 0, 1) := by decide +kernel
theorem dX8_heap_10 : decode cX8_heap 10 = .ok (.sipush 999, 3) := by decide +kernel
theorem dX8_heap_13 : decode cX8_heap 13 = .ok (.invokestatic 110, 3) := by decide +kernel
