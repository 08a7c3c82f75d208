theorem dX8_init_0 : decode cX8_init 0 = .ok (.aload_n 0, 1) := by decide +kernel
theorem dX8_init_1 : decode cX8_init 1 = .ok (.invokespecial 1, 3) := by decide +kernel
theorem dX8_init_4 : decode cX8_init 4 = .ok (.aload_n 0, 1) := by decide +kernel
theorem dX8_init_5 : decode cX8_init 5 = .ok (.sipush 400, 3) := by decide +kernel
theorem dX8_init_8 : decode cX8_init 8 = .ok (.newarray .int, 2) := by decide +kernel
theorem dX8_init_10 : decode cX8_init 10 = .ok (.putfield 7, 3) := by decide +kernel
theorem dX8_init_13 : decode cX8_init 13 = .ok (.aload_n 0, 1) := by decide +kernel
theorem dX8_init_14 : decode cX8_init 14 = .ok (.sipush 400, 3) := by decide +kernel
theorem dX8_init_17 : decode cX8_init 17 = .ok (.newarray .int, 2) := by decide +kernel
theorem dX8_init_19 : decode cX8_init 19 = .ok (.putfield 13, 3) := by decide +kernel
theorem dX8_init_22 : decode cX8_init 22 = .ok (.aload_n 0, 1) := by decide +kernel
theorem dX8_init_23 : decode cX8_init 23 = .ok (.sipush 400, 3) := by decide +kernel
theorem dX8_init_26 : decode cX8_init 26 = .ok (.newarray .boolean, 2) := by decide +kernel
theorem dX8_init_28 : decode cX8_init 28 = .ok (.putfield 16, 3) := by decide +kernel
theorem dX8_init_31 : decode cX8_init 31 = .ok (.aload_n 0, 1) := by decide +kernel
theorem dX8_init_32 : decode cX8_init 32 = .ok (.sipush 400, 3) := by decide +kernel
theorem dX8_init_35 : decode cX8_init 35 = .ok (.newarray .int, 2) := by decide +kernel
theorem dX8_init_37 : decode cX8_init 37 = .ok (.putfield 20, 3) := by decide +kernel
theorem dX8_init_40 : decode cX8_init 40 = .ok (.aload_n 0, 1) := by decide +kernel
theorem dX8_init_41 : decode cX8_init 41 = .ok (.sipush 400, 3) := by decide +kernel
theorem dX8_init_44 : decode cX8_init 44 = .ok (.newarray .int, 2) := by decide +kernel
theorem dX8_init_46 : decode cX8_init 46 = .ok (.putfield 23, 3) := by decide +kernel
theorem dX8_init_49 : decode cX8_init 49 = .ok (.aload_n 0, 1) := by decide +kernel
theorem dX8_init_50 : decode cX8_init 50 = .ok (.sipush 400, 3) := by decide +kernel
theorem dX8_init_53 : decode cX8_init 53 = .ok (.newarray .int, 2) := by decide +kernel
theorem dX8_init_55 : decode cX8_init 55 = .ok (.putfield 26, 3) := by decide +kernel
theorem dX8_init_58 : decode cX8_init 58 = .ok (.aload_n 0, 1) := by decide +kernel
theorem dX8_init_59 : decode cX8_init 59 = .ok (.sipush 400, 3) := by decide +kernel
theorem dX8_init_62 : decode cX8_init 62 = .ok (.newarray .int, 2) := by decide +kernel
theorem dX8_init_64 : decode cX8_init 64 = .ok (.putfield 29, 3) := by decide +kernel
theorem dX8_init_67 : decode cX8_init 67 = .ok (.aload_n 0, 1) := by decide +kernel
theorem dX8_init_68 : decode cX8_init 68 = .ok (.sipush 400, 3) := by decide +kernel
theorem dX8_init_71 : decode cX8_init 71 = .ok (.newarray .int, 2) := by decide +kernel
theorem dX8_init_73 : decode cX8_init 73 = .ok (.putfield 32, 3) := by decide +kernel
theorem dX8_init_76 : decode cX8_init 76 = .ok (.aload_n 0, 1) := by decide +kernel
theorem dX8_init_77 : decode cX8_init 77 = .ok (.bipush 72, 2) := by decide +kernel
theorem dX8_init_79 : decode cX8_init 79 = .ok (.newarray .int, 2) := by decide +kernel
theorem dX8_init_81 : decode cX8_init 81 = .ok (.putfield 35, 3) := by decide +kernel
theorem dX8_init_84 : decode cX8_init 84 = .ok (.aload_n 0, 1) := by decide +kernel
theorem dX8_init_85 : decode cX8_init 85 = .ok (.bipush 9, 2) := by decide +kernel
theorem dX8_init_87 : decode cX8_init 87 = .ok (.newarray .boolean, 2) := by decide +kernel
theorem dX8_init_89 : decode cX8_init 89 = .ok (.putfield 38, 3) := by decide +kernel
theorem dX8_init_92 : decode cX8_init 92 = .ok (.aload_n 0, 1) := by decide +kernel
theorem dX8_init_93 : decode cX8_init 93 = .ok (.bipush 9, 2) := by decide +kernel
theorem dX8_init_95 : decode cX8_init 95 = .ok (.newarray .int, 2) := by decide +kernel
theorem dX8_init_97 : decode cX8_init 97 = .ok (.putfield 41, 3) := by decide +kernel
theorem dX8_init_100 : decode cX8_init 100 = .ok (.aload_n 0, 1) := by decide +kernel
theorem dX8_init_101 : decode cX8_init 101 = .ok (.bipush 36, 2) := by decide +kernel
theorem dX8_init_103 : decode cX8_init 103 = .ok (.newarray .int, 2) := by decide +kernel
theorem dX8_init_105 : decode cX8_init 105 = .ok (.putfield 44, 3) := by decide +kernel
theorem dX8_init_108 : decode cX8_init 108 = .ok (.aload_n 0, 1) := by decide +kernel
theorem dX8_init_109 : decode cX8_init 109 = .ok (.bipush 9, 2) := by decide +kernel
theorem dX8_init_111 : decode cX8_init 111 = .ok (.newarray .int, 2) := by decide +kernel
theorem dX8_init_113 : decode cX8_init 113 = .ok (.putfield 47, 3) := by decide +kernel
theorem dX8_init_116 : decode cX8_init 116 = .ok (.aload_n 0, 1) := by decide +kernel
theorem dX8_init_117 : decode cX8_init 117 = .ok (.bipush 9, 2) := by decide +kernel
theorem dX8_init_119 : decode cX8_init 119 = .ok (.newarray .int, 2) := by decide +kernel
theorem dX8_init_121 : decode cX8_init 121 = .ok (.putfield 50, 3) := by decide +kernel
theorem dX8_init_124 : decode cX8_init 124 = .ok (.aload_n 0, 1) := by decide +kernel
theorem dX8_init_125 : decode cX8_init 125 = .ok (.bipush 18, 2) := by decide +kernel
theorem dX8_init_127 : decode cX8_init 127 = .ok (.newarray .int, 2) := by decide +kernel
theorem dX8_init_129 : decode cX8_init 129 = .ok (.putfield 53, 3) := by decide +kernel
theorem dX8_init_132 : decode cX8_init 132 = .ok (.aload_n 0, 1) := by decide +kernel
theorem dX8_init_133 : decode cX8_init 133 = .ok (.bipush 9, 2) := by decide +kernel
theorem dX8_init_135 : decode cX8_init 135 = .ok (.newarray .int, 2) := by decide +kernel
theorem dX8_init_137 : decode cX8_init 137 = .ok (.putfield 56, 3) := by decide +kernel
theorem dX8_init_140 : decode cX8_init 140 = .ok (.aload_n 0, 1) := by decide +kernel
theorem dX8_init_141 : decode cX8_init 141 = .ok (.sipush 216, 3) := by decide +kernel
theorem dX8_init_144 : decode cX8_init 144 = .ok (.newarray .int, 2) := by decide +kernel
theorem dX8_init_146 : decode cX8_init 146 = .ok (.putfield 59, 3) := by decide +kernel
theorem dX8_init_149 : decode cX8_init 149 = .ok (.aload_n 0, 1) := by decide +kernel
theorem dX8_init_150 : decode cX8_init 150 = .ok (.sipush 864, 3) := by decide +kernel
theorem dX8_init_153 : decode cX8_init 153 = .ok (.newarray .int, 2) := by decide +kernel
theorem dX8_init_155 : decode cX8_init 155 = .ok (.putfield 62, 3) := by decide +kernel
theorem dX8_init_158 : decode cX8_init 158 = .ok (.aload_n 0, 1) := by decide +kernel
theorem dX8_init_159 : decode cX8_init 159 = .ok (.sipush 216, 3) := by decide +kernel
theorem dX8_init_162 : decode cX8_init 162 = .ok (.newarray .int, 2) := by decide +kernel
theorem dX8_init_164 : decode cX8_init 164 = .ok (.putfield 65, 3) := by decide +kernel
theorem dX8_init_167 : decode cX8_init 167 = .ok (.aload_n 0, 1) := by decide +kernel
theorem dX8_init_168 : decode cX8_init 168 = .ok (.sipush 216, 3) := by decide +kernel
theorem dX8_init_171 : decode cX8_init 171 = .ok (.newarray .int, 2) := by decide +kernel
theorem dX8_init_173 : decode cX8_init 173 = .ok (.putfield 68, 3) := by decide +kernel
theorem dX8_init_176 : decode cX8_init 176 = .ok (.aload_n 0, 1) := by decide +kernel
theorem dX8_init_177 : decode cX8_init 177 = .ok (.sipush 216, 3) := by decide +kernel
theorem dX8_init_180 : decode cX8_init 180 = .ok (.newarray .int, 2) := by decide +kernel
theorem dX8_init_182 : decode cX8_init 182 = .ok (.putfield 71, 3) := by decide +kernel
theorem dX8_init_185 : decode cX8_init 185 = .ok (.aload_n 0, 1) := by decide +kernel
theorem dX8_init_186 : decode cX8_init 186 = .ok (.sipush 180, 3) := by decide +kernel
theorem dX8_init_189 : decode cX8_init 189 = .ok (.newarray .int, 2) := by decide +kernel
theorem dX8_init_191 : decode cX8_init 191 = .ok (.putfield 74, 3) := by decide +kernel
theorem dX8_init_194 : decode cX8_init 194 = .ok (.aload_n 0, 1) := by decide +kernel
theorem dX8_init_195 : decode cX8_init 195 = .ok (.sipush 180, 3) := by decide +kernel
theorem dX8_init_198 : decode cX8_init 198 = .ok (.newarray .int, 2) := by decide +kernel
theorem dX8_init_200 : decode cX8_init 200 = .ok (.putfield 77, 3) := by decide +kernel
theorem dX8_init_203 : decode cX8_init 203 = .ok (.aload_n 0, 1) := by decide +kernel
theorem dX8_init_204 : decode cX8_init 204 = .ok (.sipush 180, 3) := by decide +kernel
theorem dX8_init_207 : decode cX8_init 207 = .ok (.newarray .boolean, 2) := by decide +kernel
theorem dX8_init_209 : decode cX8_init 209 = .ok (.putfield 80, 3) := by decide +kernel
theorem dX8_init_212 : decode cX8_init 212 = .ok (.aload_n 0, 1) := by decide +kernel
theorem dX8_init_213 : decode cX8_init 213 = .ok (.sipush 180, 3) := by decide +kernel
theorem dX8_init_216 : decode cX8_init 216 = .ok (.newarray .int, 2) := by decide +kernel
theorem dX8_init_218 : decode cX8_init 218 = .ok (.putfield 83, 3) := by decide +kernel
theorem dX8_init_221 : decode cX8_init 221 = .ok (.aload_n 0, 1) := by decide +kernel
theorem dX8_init_222 : decode cX8_init 222 = .ok (.bipush 45, 2) := by decide +kernel
theorem dX8_init_224 : decode cX8_init 224 = .ok (.newarray .int, 2) := by decide +kernel
theorem dX8_init_226 : decode cX8_init 226 = .ok (.putfield 86, 3) := by decide +kernel
theorem dX8_init_229 : decode cX8_init 229 = .ok (.aload_n 0, 1) := by decide +kernel
theorem dX8_init_230 : decode cX8_init 230 = .ok (.bipush 45, 2) := by decide +kernel
theorem dX8_init_232 : decode cX8_init 232 = .ok (.newarray .int, 2) := by decide +kernel
theorem dX8_init_234 : decode cX8_init 234 = .ok (.putfield 89, 3) := by decide +kernel
theorem dX8_init_237 : decode cX8_init 237 = .ok (.aload_n 0, 1) := by decide +kernel
theorem dX8_init_238 : decode cX8_init 238 = .ok (.iconst 5, 1) := by decide +kernel
theorem dX8_init_239 : decode cX8_init 239 = .ok (.newarray .int, 2) := by decide +kernel
theorem dX8_init_241 : decode cX8_init 241 = .ok (.putfield 92, 3) := by decide +kernel
theorem dX8_init_244 : decode cX8_init 244 = .ok (.aload_n 0, 1) := by decide +kernel
theorem dX8_init_245 : decode cX8_init 245 = .ok (.iload_n 1, 1) := by decide +kernel
theorem dX8_init_246 : decode cX8_init 246 = .ok (.iconst 1, 1) := by decide +kernel
theorem dX8_init_247 : decode cX8_init 247 = .ok (.if_icmp .ge 7, 3) := by decide +kernel
theorem dX8_init_250 : decode cX8_init 250 = .ok (.iconst 1, 1) := by decide +kernel
theorem dX8_init_251 : decode cX8_init 251 = .ok (.goto 13, 3) := by decide +kernel
theorem dX8_init_254 : decode cX8_init 254 = .ok (.iload_n 1, 1) := by decide +kernel
theorem dX8_init_255 : decode cX8_init 255 = .ok (.iconst 3, 1) := by decide +kernel
theorem dX8_init_256 : decode cX8_init 256 = .ok (.if_icmp .le 7, 3) := by decide +kernel
theorem dX8_init_259 : decode cX8_init 259 = .ok (.iconst 3, 1) := by decide +kernel
theorem dX8_init_260 : decode cX8_init 260 = .ok (.goto 4, 3) := by decide +kernel
theorem dX8_init_263 : decode cX8_init 263 = .ok (.iload_n 1, 1) := by decide +kernel
theorem dX8_init_264 : decode cX8_init 264 = .ok (.putfield 95, 3) := by decide +kernel
theorem dX8_init_267 : decode cX8_init 267 = .ok (.aload_n 0, 1) := by decide +kernel
theorem dX8_init_268 : decode cX8_init 268 = .ok (.iload_n 2, 1) := by decide +kernel
theorem dX8_init_269 : decode cX8_init 269 = .ok (.iconst 1, 1) := by decide +kernel
theorem dX8_init_270 : decode cX8_init 270 = .ok (.if_icmp .ge 7, 3) := by decide +kernel
theorem dX8_init_273 : decode cX8_init 273 = .ok (.iconst 1, 1) := by decide +kernel
theorem dX8_init_274 : decode cX8_init 274 = .ok (.goto 13, 3) := by decide +kernel
theorem dX8_init_277 : decode cX8_init 277 = .ok (.iload_n 2, 1) := by decide +kernel
theorem dX8_init_278 : decode cX8_init 278 = .ok (.iconst 3, 1) := by decide +kernel
theorem dX8_init_279 : decode cX8_init 279 = .ok (.if_icmp .le 7, 3) := by decide +kernel
theorem dX8_init_282 : decode cX8_init 282 = .ok (.iconst 3, 1) := by decide +kernel
theorem dX8_init_283 : decode cX8_init 283 = .ok (.goto 4, 3) := by decide +kernel
theorem dX8_init_286 : decode cX8_init 286 = .ok (.iload_n 2, 1) := by decide +kernel
theorem dX8_init_287 : decode cX8_init 287 = .ok (.putfield 99, 3) := by decide +kernel
theorem dX8_init_290 : decode cX8_init 290 = .ok (.aload_n 0, 1) := by decide +kernel
theorem dX8_init_291 : decode cX8_init 291 = .ok (.iload_n 3, 1) := by decide +kernel
theorem dX8_init_292 : decode cX8_init 292 = .ok (.iconst 1, 1) := by decide +kernel
theorem dX8_init_293 : decode cX8_init 293 = .ok (.if_icmp .ge 7, 3) := by decide +kernel
theorem dX8_init_296 : decode cX8_init 296 = .ok (.iconst 1, 1) := by decide +kernel
theorem dX8_init_297 : decode cX8_init 297 = .ok (.goto 13, 3) := by decide +kernel
theorem dX8_init_300 : decode cX8_init 300 = .ok (.iload_n 3, 1) := by decide +kernel
theorem dX8_init_301 : decode cX8_init 301 = .ok (.iconst 4, 1) := by decide +kernel
theorem dX8_init_302 : decode cX8_init 302 = .ok (.if_icmp .le 7, 3) := by decide +kernel
theorem dX8_init_305 : decode cX8_init 305 = .ok (.iconst 4, 1) := by decide +kernel
theorem dX8_init_306 : decode cX8_init 306 = .ok (.goto 4, 3) := by decide +kernel
theorem dX8_init_309 : decode cX8_init 309 = .ok (.iload_n 3, 1) := by decide +kernel
theorem dX8_init_310 : decode cX8_init 310 = .ok (.putfield 102, 3) := by decide +kernel
theorem dX8_init_313 : decode cX8_init 313 = .ok (.aload_n 0, 1) := by decide +kernel
theorem dX8_init_314 : decode cX8_init 314 = .ok (.iload 4, 2) := by decide +kernel
theorem dX8_init_316 : decode cX8_init 316 = .ok (.iconst 1, 1) := by decide +kernel
theorem dX8_init_317 : decode cX8_init 317 = .ok (.if_icmp .ge 7, 3) := by decide +kernel
theorem dX8_init_320 : decode cX8_init 320 = .ok (.iconst 1, 1) := by decide +kernel
theorem dX8_init_321 : decode cX8_init 321 = .ok (.goto 15, 3) := by decide +kernel
theorem dX8_init_324 : decode cX8_init 324 = .ok (.iload 4, 2) := by decide +kernel
theorem dX8_init_326 : decode cX8_init 326 = .ok (.iconst 2, 1) := by decide +kernel
theorem dX8_init_327 : decode cX8_init 327 = .ok (.if_icmp .le 7, 3) := by decide +kernel
theorem dX8_init_330 : decode cX8_init 330 = .ok (.iconst 2, 1) := by decide +kernel
theorem dX8_init_331 : decode cX8_init 331 = .ok (.goto 5, 3) := by decide +kernel
theorem dX8_init_334 : decode cX8_init 334 = .ok (.iload 4, 2) := by decide +kernel
theorem dX8_init_336 : decode cX8_init 336 = .ok (.putfield 105, 3) := by decide +kernel
theorem dX8_init_339 : decode cX8_init 339 = .ok (.aload_n 0, 1) := by decide +kernel
theorem dX8_init_340 : decode cX8_init 340 = .ok (.iconst 2, 1) := by decide +kernel
theorem dX8_init_341 : decode cX8_init 341 = .ok (.aload_n 0, 1) := by decide +kernel
theorem dX8_init_342 : decode cX8_init 342 = .ok (.getfield 105, 3) := by decide +kernel
theorem dX8_init_345 : decode cX8_init 345 = .ok (.imul, 1) := by decide +kernel
theorem dX8_init_346 : decode cX8_init 346 = .ok (.putfield 108, 3) := by decide +kernel
theorem dX8_init_349 : decode cX8_init 349 = .ok (.iconst 0, 1) := by decide +kernel
theorem dX8_init_350 : decode cX8_init 350 = .ok (.istore 5, 2) := by decide +kernel
theorem dX8_init_352 : decode cX8_init 352 = .ok (.iload 5, 2) := by decide +kernel
theorem dX8_init_354 : decode cX8_init 354 = .ok (.sipush 216, 3) := by decide +kernel
theorem dX8_init_357 : decode cX8_init 357 = .ok (.if_icmp .ge 28, 3) := by decide +kernel
theorem dX8_init_360 : decode cX8_init 360 = .ok (.aload_n 0, 1) := by decide +kernel
theorem dX8_init_361 : decode cX8_init 361 = .ok (.getfield 65, 3) := by decide +kernel
theorem dX8_init_364 : decode cX8_init 364 = .ok (.iload 5, 2) := by decide +kernel
theorem dX8_init_366 : decode cX8_init 366 = .ok (.iconst (-1), 1) := by decide +kernel
theorem dX8_init_367 : decode cX8_init 367 = .ok (.iastore, 1) := by decide +kernel
theorem dX8_init_368 : decode cX8_init 368 = .ok (.aload_n 0, 1) := by decide +kernel
theorem dX8_init_369 : decode cX8_init 369 = .ok (.getfield 68, 3) := by decide +kernel
theorem dX8_init_372 : decode cX8_init 372 = .ok (.iload 5, 2) := by decide +kernel
theorem dX8_init_374 : decode cX8_init 374 = .ok (.aload_n 0, 1) := by decide +kernel
theorem dX8_init_375 : decode cX8_init 375 = .ok (.getfield 102, 3) := by decide +kernel
theorem dX8_init_378 : decode cX8_init 378 = .ok (.iastore, 1) := by decide +kernel
theorem dX8_init_379 : decode cX8_init 379 = .ok (.iinc 5 1, 3) := by decide +kernel
theorem dX8_init_382 : decode cX8_init 382 = .ok (.goto (-30), 3) := by decide +kernel
theorem dX8_init_385 : decode cX8_init 385 = .ok (.return_, 1) := by decide +kernel
theorem dX8_nodes_0 : decode cX8_nodes 0 = .ok (.aload_n 0, 1) := by decide +kernel
theorem dX8_nodes_1 : decode cX8_nodes 1 = .ok (.getfield 95, 3) := by decide +kernel
theorem dX8_nodes_4 : decode cX8_nodes 4 = .ok (.aload_n 0, 1) := by decide +kernel
theorem dX8_nodes_5 : decode cX8_nodes 5 = .ok (.getfield 99, 3) := by decide +kernel
theorem dX8_nodes_8 : decode cX8_nodes 8 = .ok (.imul, 1) := by decide +kernel
theorem dX8_nodes_9 : decode cX8_nodes 9 = .ok (.ireturn, 1) := by decide +kernel
theorem dX8_isNode_0 : decode cX8_isNode 0 = .ok (.iload_n 1, 1) := by decide +kernel
theorem dX8_isNode_1 : decode cX8_isNode 1 = .ok (.ifCond .lt 20, 3) := by decide +kernel
theorem dX8_isNode_4 : decode cX8_isNode 4 = .ok (.iload_n 1, 1) := by decide +kernel
theorem dX8_isNode_5 : decode cX8_isNode 5 = .ok (.aload_n 0, 1) := by decide +kernel
theorem dX8_isNode_6 : decode cX8_isNode 6 = .ok (.getfield 95, 3) := by decide +kernel
theorem dX8_isNode_9 : decode cX8_isNode 9 = .ok (.aload_n 0, 1) := by decide +kernel
theorem dX8_isNode_10 : decode cX8_isNode 10 = .ok (.getfield 99, 3) := by decide +kernel
theorem dX8_isNode_13 : decode cX8_isNode 13 = .ok (.imul, 1) := by decide +kernel
theorem dX8_isNode_14 : decode cX8_isNode 14 = .ok (.if_icmp .ge 7, 3) := by decide +kernel
theorem dX8_isNode_17 : decode cX8_isNode 17 = .ok (.iconst 1, 1) := by decide +kernel
theorem dX8_isNode_18 : decode cX8_isNode 18 = .ok (.goto 4, 3) := by decide +kernel
theorem dX8_isNode_21 : decode cX8_isNode 21 = .ok (.iconst 0, 1) := by decide +kernel
theorem dX8_isNode_22 : decode cX8_isNode 22 = .ok (.ireturn, 1) := by decide +kernel
theorem dX8_isPlace_0 : decode cX8_isPlace 0 = .ok (.aload_n 0, 1) := by decide +kernel
theorem dX8_isPlace_1 : decode cX8_isPlace 1 = .ok (.iload_n 1, 1) := by decide +kernel
theorem dX8_isPlace_2 : decode cX8_isPlace 2 = .ok (.invokevirtual 111, 3) := by decide +kernel
theorem dX8_isPlace_5 : decode cX8_isPlace 5 = .ok (.ifCond .eq 28, 3) := by decide +kernel
theorem dX8_isPlace_8 : decode cX8_isPlace 8 = .ok (.iload_n 2, 1) := by decide +kernel
theorem dX8_isPlace_9 : decode cX8_isPlace 9 = .ok (.ifCond .lt 24, 3) := by decide +kernel
theorem dX8_isPlace_12 : decode cX8_isPlace 12 = .ok (.iload_n 2, 1) := by decide +kernel
theorem dX8_isPlace_13 : decode cX8_isPlace 13 = .ok (.iconst 4, 1) := by decide +kernel
theorem dX8_isPlace_14 : decode cX8_isPlace 14 = .ok (.if_icmp .gt 19, 3) := by decide +kernel
theorem dX8_isPlace_17 : decode cX8_isPlace 17 = .ok (.iload_n 3, 1) := by decide +kernel
theorem dX8_isPlace_18 : decode cX8_isPlace 18 = .ok (.ifCond .lt 15, 3) := by decide +kernel
theorem dX8_isPlace_21 : decode cX8_isPlace 21 = .ok (.iload_n 3, 1) := by decide +kernel
theorem dX8_isPlace_22 : decode cX8_isPlace 22 = .ok (.aload_n 0, 1) := by decide +kernel
theorem dX8_isPlace_23 : decode cX8_isPlace 23 = .ok (.getfield 108, 3) := by decide +kernel
theorem dX8_isPlace_26 : decode cX8_isPlace 26 = .ok (.if_icmp .ge 7, 3) := by decide +kernel
theorem dX8_isPlace_29 : decode cX8_isPlace 29 = .ok (.iconst 1, 1) := by decide +kernel
theorem dX8_isPlace_30 : decode cX8_isPlace 30 = .ok (.goto 4, 3) := by decide +kernel
theorem dX8_isPlace_33 : decode cX8_isPlace 33 = .ok (.iconst 0, 1) := by decide +kernel
theorem dX8_isPlace_34 : decode cX8_isPlace 34 = .ok (.ireturn, 1) := by decide +kernel
theorem dX8_length_0 : decode cX8_length 0 = .ok (.aload_n 0, 1) := by decide +kernel
theorem dX8_length_1 : decode cX8_length 1 = .ok (.getfield 16, 3) := by decide +kernel
theorem dX8_length_4 : decode cX8_length 4 = .ok (.iload_n 1, 1) := by decide +kernel
theorem dX8_length_5 : decode cX8_length 5 = .ok (.iconst 2, 1) := by decide +kernel
theorem dX8_length_6 : decode cX8_length 6 = .ok (.idiv, 1) := by decide +kernel
theorem dX8_length_7 : decode cX8_length 7 = .ok (.baload, 1) := by decide +kernel
theorem dX8_length_8 : decode cX8_length 8 = .ok (.istore_n 2, 1) := by decide +kernel
theorem dX8_length_9 : decode cX8_length 9 = .ok (.iload_n 1, 1) := by decide +kernel
theorem dX8_length_10 : decode cX8_length 10 = .ok (.iconst 2, 1) := by decide +kernel
theorem dX8_length_11 : decode cX8_length 11 = .ok (.irem, 1) := by decide +kernel
theorem dX8_length_12 : decode cX8_length 12 = .ok (.ifCond .ne 15, 3) := by decide +kernel
theorem dX8_length_15 : decode cX8_length 15 = .ok (.iload_n 2, 1) := by decide +kernel
theorem dX8_length_16 : decode cX8_length 16 = .ok (.ifCond .eq 7, 3) := by decide +kernel
theorem dX8_length_19 : decode cX8_length 19 = .ok (.iconst 3, 1) := by decide +kernel
theorem dX8_length_20 : decode cX8_length 20 = .ok (.goto 16, 3) := by decide +kernel
theorem dX8_length_23 : decode cX8_length 23 = .ok (.iconst 2, 1) := by decide +kernel
theorem dX8_length_24 : decode cX8_length 24 = .ok (.goto 12, 3) := by decide +kernel
theorem dX8_length_27 : decode cX8_length 27 = .ok (.iload_n 2, 1) := by decide +kernel
theorem dX8_length_28 : decode cX8_length 28 = .ok (.ifCond .eq 7, 3) := by decide +kernel
theorem dX8_length_31 : decode cX8_length 31 = .ok (.iconst 1, 1) := by decide +kernel
theorem dX8_length_32 : decode cX8_length 32 = .ok (.goto 4, 3) := by decide +kernel
theorem dX8_length_35 : decode cX8_length 35 = .ok (.iconst 2, 1) := by decide +kernel
theorem dX8_length_36 : decode cX8_length 36 = .ok (.ireturn, 1) := by decide +kernel
theorem dX8_target_0 : decode cX8_target 0 = .ok (.iload_n 1, 1) := by decide +kernel
theorem dX8_target_1 : decode cX8_target 1 = .ok (.iconst 2, 1) := by decide +kernel
theorem dX8_target_2 : decode cX8_target 2 = .ok (.irem, 1) := by decide +kernel
theorem dX8_target_3 : decode cX8_target 3 = .ok (.ifCond .ne 14, 3) := by decide +kernel
theorem dX8_target_6 : decode cX8_target 6 = .ok (.aload_n 0, 1) := by decide +kernel
theorem dX8_target_7 : decode cX8_target 7 = .ok (.getfield 13, 3) := by decide +kernel
theorem dX8_target_10 : decode cX8_target 10 = .ok (.iload_n 1, 1) := by decide +kernel
theorem dX8_target_11 : decode cX8_target 11 = .ok (.iconst 2, 1) := by decide +kernel
theorem dX8_target_12 : decode cX8_target 12 = .ok (.idiv, 1) := by decide +kernel
theorem dX8_target_13 : decode cX8_target 13 = .ok (.iaload, 1) := by decide +kernel
theorem dX8_target_14 : decode cX8_target 14 = .ok (.goto 11, 3) := by decide +kernel
theorem dX8_target_17 : decode cX8_target 17 = .ok (.aload_n 0, 1) := by decide +kernel
theorem dX8_target_18 : decode cX8_target 18 = .ok (.getfield 7, 3) := by decide +kernel
theorem dX8_target_21 : decode cX8_target 21 = .ok (.iload_n 1, 1) := by decide +kernel
theorem dX8_target_22 : decode cX8_target 22 = .ok (.iconst 2, 1) := by decide +kernel
theorem dX8_target_23 : decode cX8_target 23 = .ok (.idiv, 1) := by decide +kernel
theorem dX8_target_24 : decode cX8_target 24 = .ok (.iaload, 1) := by decide +kernel
theorem dX8_target_25 : decode cX8_target 25 = .ok (.ireturn, 1) := by decide +kernel
theorem dX8_channelOf_0 : decode cX8_channelOf 0 = .ok (.aload_n 0, 1) := by decide +kernel
theorem dX8_channelOf_1 : decode cX8_channelOf 1 = .ok (.getfield 13, 3) := by decide +kernel
theorem dX8_channelOf_4 : decode cX8_channelOf 4 = .ok (.iload_n 1, 1) := by decide +kernel
theorem dX8_channelOf_5 : decode cX8_channelOf 5 = .ok (.iconst 2, 1) := by decide +kernel
theorem dX8_channelOf_6 : decode cX8_channelOf 6 = .ok (.idiv, 1) := by decide +kernel
theorem dX8_channelOf_7 : decode cX8_channelOf 7 = .ok (.iaload, 1) := by decide +kernel
theorem dX8_channelOf_8 : decode cX8_channelOf 8 = .ok (.aload_n 0, 1) := by decide +kernel
theorem dX8_channelOf_9 : decode cX8_channelOf 9 = .ok (.getfield 7, 3) := by decide +kernel
theorem dX8_channelOf_12 : decode cX8_channelOf 12 = .ok (.iload_n 1, 1) := by decide +kernel
theorem dX8_channelOf_13 : decode cX8_channelOf 13 = .ok (.iconst 2, 1) := by decide +kernel
theorem dX8_channelOf_14 : decode cX8_channelOf 14 = .ok (.idiv, 1) := by decide +kernel
theorem dX8_channelOf_15 : decode cX8_channelOf 15 = .ok (.iaload, 1) := by decide +kernel
theorem dX8_channelOf_16 : decode cX8_channelOf 16 = .ok (.iadd, 1) := by decide +kernel
theorem dX8_channelOf_17 : decode cX8_channelOf 17 = .ok (.aload_n 0, 1) := by decide +kernel
theorem dX8_channelOf_18 : decode cX8_channelOf 18 = .ok (.getfield 105, 3) := by decide +kernel
theorem dX8_channelOf_21 : decode cX8_channelOf 21 = .ok (.irem, 1) := by decide +kernel
theorem dX8_channelOf_22 : decode cX8_channelOf 22 = .ok (.iload_n 1, 1) := by decide +kernel
theorem dX8_channelOf_23 : decode cX8_channelOf 23 = .ok (.iconst 2, 1) := by decide +kernel
theorem dX8_channelOf_24 : decode cX8_channelOf 24 = .ok (.irem, 1) := by decide +kernel
theorem dX8_channelOf_25 : decode cX8_channelOf 25 = .ok (.aload_n 0, 1) := by decide +kernel
theorem dX8_channelOf_26 : decode cX8_channelOf 26 = .ok (.getfield 105, 3) := by decide +kernel
theorem dX8_channelOf_29 : decode cX8_channelOf 29 = .ok (.imul, 1) := by decide +kernel
theorem dX8_channelOf_30 : decode cX8_channelOf 30 = .ok (.iadd, 1) := by decide +kernel
theorem dX8_channelOf_31 : decode cX8_channelOf 31 = .ok (.ireturn, 1) := by decide +kernel
theorem dX8_isLast_0 : decode cX8_isLast 0 = .ok (.iload_n 1, 1) := by decide +kernel
theorem dX8_isLast_1 : decode cX8_isLast 1 = .ok (.iconst 4, 1) := by decide +kernel
theorem dX8_isLast_2 : decode cX8_isLast 2 = .ok (.irem, 1) := by decide +kernel
theorem dX8_isLast_3 : decode cX8_isLast 3 = .ok (.aload_n 0, 1) := by decide +kernel
theorem dX8_isLast_4 : decode cX8_isLast 4 = .ok (.iload_n 1, 1) := by decide +kernel
theorem dX8_isLast_5 : decode cX8_isLast 5 = .ok (.iconst 4, 1) := by decide +kernel
theorem dX8_isLast_6 : decode cX8_isLast 6 = .ok (.idiv, 1) := by decide +kernel
theorem dX8_isLast_7 : decode cX8_isLast 7 = .ok (.invokevirtual 115, 3) := by decide +kernel
theorem dX8_isLast_10 : decode cX8_isLast 10 = .ok (.iconst 1, 1) := by decide +kernel
theorem dX8_isLast_11 : decode cX8_isLast 11 = .ok (.isub, 1) := by decide +kernel
theorem dX8_isLast_12 : decode cX8_isLast 12 = .ok (.if_icmp .ne 7, 3) := by decide +kernel
theorem dX8_isLast_15 : decode cX8_isLast 15 = .ok (.iconst 1, 1) := by decide +kernel
theorem dX8_isLast_16 : decode cX8_isLast 16 = .ok (.goto 4, 3) := by decide +kernel
theorem dX8_isLast_19 : decode cX8_isLast 19 = .ok (.iconst 0, 1) := by decide +kernel
theorem dX8_isLast_20 : decode cX8_isLast 20 = .ok (.ireturn, 1) := by decide +kernel
theorem dX8_request_0 : decode cX8_request 0 = .ok (.aload_n 0, 1) := by decide +kernel
theorem dX8_request_1 : decode cX8_request 1 = .ok (.iload_n 1, 1) := by decide +kernel
theorem dX8_request_2 : decode cX8_request 2 = .ok (.invokevirtual 111, 3) := by decide +kernel
theorem dX8_request_5 : decode cX8_request 5 = .ok (.ifCond .eq 23, 3) := by decide +kernel
theorem dX8_request_8 : decode cX8_request 8 = .ok (.aload_n 0, 1) := by decide +kernel
theorem dX8_request_9 : decode cX8_request 9 = .ok (.iload_n 2, 1) := by decide +kernel
theorem dX8_request_10 : decode cX8_request 10 = .ok (.invokevirtual 111, 3) := by decide +kernel
theorem dX8_request_13 : decode cX8_request 13 = .ok (.ifCond .eq 15, 3) := by decide +kernel
theorem dX8_request_16 : decode cX8_request 16 = .ok (.iload 4, 2) := by decide +kernel
theorem dX8_request_18 : decode cX8_request 18 = .ok (.ifCond .lt 10, 3) := by decide +kernel
theorem dX8_request_21 : decode cX8_request 21 = .ok (.iload 4, 2) := by decide +kernel
theorem dX8_request_23 : decode cX8_request 23 = .ok (.bipush 7, 2) := by decide +kernel
theorem dX8_request_25 : decode cX8_request 25 = .ok (.if_icmp .le 5, 3) := by decide +kernel
theorem dX8_request_28 : decode cX8_request 28 = .ok (.iconst (-1), 1) := by decide +kernel
theorem dX8_request_29 : decode cX8_request 29 = .ok (.ireturn, 1) := by decide +kernel
theorem dX8_request_30 : decode cX8_request 30 = .ok (.aload_n 0, 1) := by decide +kernel
theorem dX8_request_31 : decode cX8_request 31 = .ok (.getfield 41, 3) := by decide +kernel
theorem dX8_request_34 : decode cX8_request 34 = .ok (.iload_n 1, 1) := by decide +kernel
theorem dX8_request_35 : decode cX8_request 35 = .ok (.iaload, 1) := by decide +kernel
theorem dX8_request_36 : decode cX8_request 36 = .ok (.iconst 4, 1) := by decide +kernel
theorem dX8_request_37 : decode cX8_request 37 = .ok (.if_icmp .eq 13, 3) := by decide +kernel
theorem dX8_request_40 : decode cX8_request 40 = .ok (.aload_n 0, 1) := by decide +kernel
theorem dX8_request_41 : decode cX8_request 41 = .ok (.getfield 119, 3) := by decide +kernel
theorem dX8_request_44 : decode cX8_request 44 = .ok (.sipush 400, 3) := by decide +kernel
theorem dX8_request_47 : decode cX8_request 47 = .ok (.if_icmp .ne 6, 3) := by decide +kernel
theorem dX8_request_50 : decode cX8_request 50 = .ok (.bipush (-2), 2) := by decide +kernel
theorem dX8_request_52 : decode cX8_request 52 = .ok (.ireturn, 1) := by decide +kernel
theorem dX8_request_53 : decode cX8_request 53 = .ok (.aload_n 0, 1) := by decide +kernel
theorem dX8_request_54 : decode cX8_request 54 = .ok (.getfield 7, 3) := by decide +kernel
theorem dX8_request_57 : decode cX8_request 57 = .ok (.aload_n 0, 1) := by decide +kernel
theorem dX8_request_58 : decode cX8_request 58 = .ok (.getfield 119, 3) := by decide +kernel
theorem dX8_request_61 : decode cX8_request 61 = .ok (.iload_n 1, 1) := by decide +kernel
theorem dX8_request_62 : decode cX8_request 62 = .ok (.iastore, 1) := by decide +kernel
theorem dX8_request_63 : decode cX8_request 63 = .ok (.aload_n 0, 1) := by decide +kernel
theorem dX8_request_64 : decode cX8_request 64 = .ok (.getfield 13, 3) := by decide +kernel
theorem dX8_request_67 : decode cX8_request 67 = .ok (.aload_n 0, 1) := by decide +kernel
theorem dX8_request_68 : decode cX8_request 68 = .ok (.getfield 119, 3) := by decide +kernel
theorem dX8_request_71 : decode cX8_request 71 = .ok (.iload_n 2, 1) := by decide +kernel
theorem dX8_request_72 : decode cX8_request 72 = .ok (.iastore, 1) := by decide +kernel
theorem dX8_request_73 : decode cX8_request 73 = .ok (.aload_n 0, 1) := by decide +kernel
theorem dX8_request_74 : decode cX8_request 74 = .ok (.getfield 16, 3) := by decide +kernel
theorem dX8_request_77 : decode cX8_request 77 = .ok (.aload_n 0, 1) := by decide +kernel
theorem dX8_request_78 : decode cX8_request 78 = .ok (.getfield 119, 3) := by decide +kernel
theorem dX8_request_81 : decode cX8_request 81 = .ok (.iload_n 3, 1) := by decide +kernel
theorem dX8_request_82 : decode cX8_request 82 = .ok (.bastore, 1) := by decide +kernel
theorem dX8_request_83 : decode cX8_request 83 = .ok (.aload_n 0, 1) := by decide +kernel
theorem dX8_request_84 : decode cX8_request 84 = .ok (.getfield 20, 3) := by decide +kernel
theorem dX8_request_87 : decode cX8_request 87 = .ok (.aload_n 0, 1) := by decide +kernel
theorem dX8_request_88 : decode cX8_request 88 = .ok (.getfield 119, 3) := by decide +kernel
theorem dX8_request_91 : decode cX8_request 91 = .ok (.iload 4, 2) := by decide +kernel
theorem dX8_request_93 : decode cX8_request 93 = .ok (.iastore, 1) := by decide +kernel
theorem dX8_request_94 : decode cX8_request 94 = .ok (.aload_n 0, 1) := by decide +kernel
theorem dX8_request_95 : decode cX8_request 95 = .ok (.getfield 23, 3) := by decide +kernel
theorem dX8_request_98 : decode cX8_request 98 = .ok (.aload_n 0, 1) := by decide +kernel
theorem dX8_request_99 : decode cX8_request 99 = .ok (.getfield 119, 3) := by decide +kernel
theorem dX8_request_102 : decode cX8_request 102 = .ok (.iload 5, 2) := by decide +kernel
theorem dX8_request_104 : decode cX8_request 104 = .ok (.iastore, 1) := by decide +kernel
theorem dX8_request_105 : decode cX8_request 105 = .ok (.aload_n 0, 1) := by decide +kernel
theorem dX8_request_106 : decode cX8_request 106 = .ok (.getfield 44, 3) := by decide +kernel
theorem dX8_request_109 : decode cX8_request 109 = .ok (.iconst 4, 1) := by decide +kernel
theorem dX8_request_110 : decode cX8_request 110 = .ok (.iload_n 1, 1) := by decide +kernel
theorem dX8_request_111 : decode cX8_request 111 = .ok (.imul, 1) := by decide +kernel
theorem dX8_request_112 : decode cX8_request 112 = .ok (.aload_n 0, 1) := by decide +kernel
theorem dX8_request_113 : decode cX8_request 113 = .ok (.getfield 41, 3) := by decide +kernel
theorem dX8_request_116 : decode cX8_request 116 = .ok (.iload_n 1, 1) := by decide +kernel
theorem dX8_request_117 : decode cX8_request 117 = .ok (.iaload, 1) := by decide +kernel
theorem dX8_request_118 : decode cX8_request 118 = .ok (.iadd, 1) := by decide +kernel
theorem dX8_request_119 : decode cX8_request 119 = .ok (.iconst 2, 1) := by decide +kernel
theorem dX8_request_120 : decode cX8_request 120 = .ok (.aload_n 0, 1) := by decide +kernel
theorem dX8_request_121 : decode cX8_request 121 = .ok (.getfield 119, 3) := by decide +kernel
theorem dX8_request_124 : decode cX8_request 124 = .ok (.imul, 1) := by decide +kernel
theorem dX8_request_125 : decode cX8_request 125 = .ok (.iastore, 1) := by decide +kernel
theorem dX8_request_126 : decode cX8_request 126 = .ok (.aload_n 0, 1) := by decide +kernel
theorem dX8_request_127 : decode cX8_request 127 = .ok (.getfield 41, 3) := by decide +kernel
theorem dX8_request_130 : decode cX8_request 130 = .ok (.iload_n 1, 1) := by decide +kernel
theorem dX8_request_131 : decode cX8_request 131 = .ok (.dup2, 1) := by decide +kernel
theorem dX8_request_132 : decode cX8_request 132 = .ok (.iaload, 1) := by decide +kernel
theorem dX8_request_133 : decode cX8_request 133 = .ok (.iconst 1, 1) := by decide +kernel
theorem dX8_request_134 : decode cX8_request 134 = .ok (.iadd, 1) := by decide +kernel
theorem dX8_request_135 : decode cX8_request 135 = .ok (.iastore, 1) := by decide +kernel
theorem dX8_request_136 : decode cX8_request 136 = .ok (.aload_n 0, 1) := by decide +kernel
theorem dX8_request_137 : decode cX8_request 137 = .ok (.dup, 1) := by decide +kernel
theorem dX8_request_138 : decode cX8_request 138 = .ok (.getfield 119, 3) := by decide +kernel
theorem dX8_request_141 : decode cX8_request 141 = .ok (.iconst 1, 1) := by decide +kernel
theorem dX8_request_142 : decode cX8_request 142 = .ok (.iadd, 1) := by decide +kernel
theorem dX8_request_143 : decode cX8_request 143 = .ok (.putfield 119, 3) := by decide +kernel
theorem dX8_request_146 : decode cX8_request 146 = .ok (.aload_n 0, 1) := by decide +kernel
theorem dX8_request_147 : decode cX8_request 147 = .ok (.getfield 119, 3) := by decide +kernel
theorem dX8_request_150 : decode cX8_request 150 = .ok (.iconst 1, 1) := by decide +kernel
theorem dX8_request_151 : decode cX8_request 151 = .ok (.isub, 1) := by decide +kernel
theorem dX8_request_152 : decode cX8_request 152 = .ok (.ireturn, 1) := by decide +kernel
theorem dX8_hold_0 : decode cX8_hold 0 = .ok (.aload_n 0, 1) := by decide +kernel
theorem dX8_hold_1 : decode cX8_hold 1 = .ok (.iload_n 1, 1) := by decide +kernel
theorem dX8_hold_2 : decode cX8_hold 2 = .ok (.invokevirtual 111, 3) := by decide +kernel
theorem dX8_hold_5 : decode cX8_hold 5 = .ok (.ifCond .ne 5, 3) := by decide +kernel
theorem dX8_hold_8 : decode cX8_hold 8 = .ok (.iconst 0, 1) := by decide +kernel
theorem dX8_hold_9 : decode cX8_hold 9 = .ok (.ireturn, 1) := by decide +kernel
theorem dX8_hold_10 : decode cX8_hold 10 = .ok (.aload_n 0, 1) := by decide +kernel
theorem dX8_hold_11 : decode cX8_hold 11 = .ok (.getfield 38, 3) := by decide +kernel
theorem dX8_hold_14 : decode cX8_hold 14 = .ok (.iload_n 1, 1) := by decide +kernel
theorem dX8_hold_15 : decode cX8_hold 15 = .ok (.iload_n 2, 1) := by decide +kernel
theorem dX8_hold_16 : decode cX8_hold 16 = .ok (.bastore, 1) := by decide +kernel
theorem dX8_hold_17 : decode cX8_hold 17 = .ok (.iconst 1, 1) := by decide +kernel
theorem dX8_hold_18 : decode cX8_hold 18 = .ok (.ireturn, 1) := by decide +kernel
theorem dX8_take_0 : decode cX8_take 0 = .ok (.aload_n 0, 1) := by decide +kernel
theorem dX8_take_1 : decode cX8_take 1 = .ok (.getfield 62, 3) := by decide +kernel
theorem dX8_take_4 : decode cX8_take 4 = .ok (.iconst 4, 1) := by decide +kernel
theorem dX8_take_5 : decode cX8_take 5 = .ok (.iload_n 1, 1) := by decide +kernel
theorem dX8_take_6 : decode cX8_take 6 = .ok (.imul, 1) := by decide +kernel
theorem dX8_take_7 : decode cX8_take 7 = .ok (.iaload, 1) := by decide +kernel
theorem dX8_take_8 : decode cX8_take 8 = .ok (.istore_n 2, 1) := by decide +kernel
theorem dX8_take_9 : decode cX8_take 9 = .ok (.aload_n 0, 1) := by decide +kernel
theorem dX8_take_10 : decode cX8_take 10 = .ok (.getfield 59, 3) := by decide +kernel
theorem dX8_take_13 : decode cX8_take 13 = .ok (.iload_n 1, 1) := by decide +kernel
theorem dX8_take_14 : decode cX8_take 14 = .ok (.dup2, 1) := by decide +kernel
theorem dX8_take_15 : decode cX8_take 15 = .ok (.iaload, 1) := by decide +kernel
theorem dX8_take_16 : decode cX8_take 16 = .ok (.iconst 1, 1) := by decide +kernel
theorem dX8_take_17 : decode cX8_take 17 = .ok (.isub, 1) := by decide +kernel
theorem dX8_take_18 : decode cX8_take 18 = .ok (.iastore, 1) := by decide +kernel
theorem dX8_take_19 : decode cX8_take 19 = .ok (.iconst 0, 1) := by decide +kernel
theorem dX8_take_20 : decode cX8_take 20 = .ok (.istore_n 3, 1) := by decide +kernel
theorem dX8_take_21 : decode cX8_take 21 = .ok (.iload_n 3, 1) := by decide +kernel
theorem dX8_take_22 : decode cX8_take 22 = .ok (.aload_n 0, 1) := by decide +kernel
theorem dX8_take_23 : decode cX8_take 23 = .ok (.getfield 59, 3) := by decide +kernel
theorem dX8_take_26 : decode cX8_take 26 = .ok (.iload_n 1, 1) := by decide +kernel
theorem dX8_take_27 : decode cX8_take 27 = .ok (.iaload, 1) := by decide +kernel
theorem dX8_take_28 : decode cX8_take 28 = .ok (.if_icmp .ge 31, 3) := by decide +kernel
theorem dX8_take_31 : decode cX8_take 31 = .ok (.aload_n 0, 1) := by decide +kernel
theorem dX8_take_32 : decode cX8_take 32 = .ok (.getfield 62, 3) := by decide +kernel
theorem dX8_take_35 : decode cX8_take 35 = .ok (.iconst 4, 1) := by decide +kernel
theorem dX8_take_36 : decode cX8_take 36 = .ok (.iload_n 1, 1) := by decide +kernel
theorem dX8_take_37 : decode cX8_take 37 = .ok (.imul, 1) := by decide +kernel
theorem dX8_take_38 : decode cX8_take 38 = .ok (.iload_n 3, 1) := by decide +kernel
theorem dX8_take_39 : decode cX8_take 39 = .ok (.iadd, 1) := by decide +kernel
theorem dX8_take_40 : decode cX8_take 40 = .ok (.aload_n 0, 1) := by decide +kernel
theorem dX8_take_41 : decode cX8_take 41 = .ok (.getfield 62, 3) := by decide +kernel
theorem dX8_take_44 : decode cX8_take 44 = .ok (.iconst 4, 1) := by decide +kernel
theorem dX8_take_45 : decode cX8_take 45 = .ok (.iload_n 1, 1) := by decide +kernel
theorem dX8_take_46 : decode cX8_take 46 = .ok (.imul, 1) := by decide +kernel
theorem dX8_take_47 : decode cX8_take 47 = .ok (.iload_n 3, 1) := by decide +kernel
theorem dX8_take_48 : decode cX8_take 48 = .ok (.iadd, 1) := by decide +kernel
theorem dX8_take_49 : decode cX8_take 49 = .ok (.iconst 1, 1) := by decide +kernel
theorem dX8_take_50 : decode cX8_take 50 = .ok (.iadd, 1) := by decide +kernel
theorem dX8_take_51 : decode cX8_take 51 = .ok (.iaload, 1) := by decide +kernel
theorem dX8_take_52 : decode cX8_take 52 = .ok (.iastore, 1) := by decide +kernel
theorem dX8_take_53 : decode cX8_take 53 = .ok (.iinc 3 1, 3) := by decide +kernel
theorem dX8_take_56 : decode cX8_take 56 = .ok (.goto (-35), 3) := by decide +kernel
theorem dX8_take_59 : decode cX8_take 59 = .ok (.aload_n 0, 1) := by decide +kernel
theorem dX8_take_60 : decode cX8_take 60 = .ok (.getfield 71, 3) := by decide +kernel
theorem dX8_take_63 : decode cX8_take 63 = .ok (.iload_n 1, 1) := by decide +kernel
theorem dX8_take_64 : decode cX8_take 64 = .ok (.dup2, 1) := by decide +kernel
theorem dX8_take_65 : decode cX8_take 65 = .ok (.iaload, 1) := by decide +kernel
theorem dX8_take_66 : decode cX8_take 66 = .ok (.iconst 1, 1) := by decide +kernel
theorem dX8_take_67 : decode cX8_take 67 = .ok (.iadd, 1) := by decide +kernel
theorem dX8_take_68 : decode cX8_take 68 = .ok (.iastore, 1) := by decide +kernel
theorem dX8_take_69 : decode cX8_take 69 = .ok (.iload_n 2, 1) := by decide +kernel
theorem dX8_take_70 : decode cX8_take 70 = .ok (.ireturn, 1) := by decide +kernel
theorem dX8_send_0 : decode cX8_send 0 = .ok (.aload_n 0, 1) := by decide +kernel
theorem dX8_send_1 : decode cX8_send 1 = .ok (.getfield 65, 3) := by decide +kernel
theorem dX8_send_4 : decode cX8_send 4 = .ok (.iload_n 1, 1) := by decide +kernel
theorem dX8_send_5 : decode cX8_send 5 = .ok (.iload_n 2, 1) := by decide +kernel
theorem dX8_send_6 : decode cX8_send 6 = .ok (.iastore, 1) := by decide +kernel
theorem dX8_send_7 : decode cX8_send 7 = .ok (.aload_n 0, 1) := by decide +kernel
theorem dX8_send_8 : decode cX8_send 8 = .ok (.getfield 68, 3) := by decide +kernel
theorem dX8_send_11 : decode cX8_send 11 = .ok (.iload_n 1, 1) := by decide +kernel
theorem dX8_send_12 : decode cX8_send 12 = .ok (.dup2, 1) := by decide +kernel
theorem dX8_send_13 : decode cX8_send 13 = .ok (.iaload, 1) := by decide +kernel
theorem dX8_send_14 : decode cX8_send 14 = .ok (.iconst 1, 1) := by decide +kernel
theorem dX8_send_15 : decode cX8_send 15 = .ok (.isub, 1) := by decide +kernel
theorem dX8_send_16 : decode cX8_send 16 = .ok (.iastore, 1) := by decide +kernel
theorem dX8_send_17 : decode cX8_send 17 = .ok (.aload_n 0, 1) := by decide +kernel
theorem dX8_send_18 : decode cX8_send 18 = .ok (.dup, 1) := by decide +kernel
theorem dX8_send_19 : decode cX8_send 19 = .ok (.getfield 122, 3) := by decide +kernel
theorem dX8_send_22 : decode cX8_send 22 = .ok (.iconst 1, 1) := by decide +kernel
theorem dX8_send_23 : decode cX8_send 23 = .ok (.iadd, 1) := by decide +kernel
theorem dX8_send_24 : decode cX8_send 24 = .ok (.putfield 122, 3) := by decide +kernel
theorem dX8_send_27 : decode cX8_send 27 = .ok (.return_, 1) := by decide +kernel
theorem dX8_arrive_0 : decode cX8_arrive 0 = .ok (.iconst 0, 1) := by decide +kernel
theorem dX8_arrive_1 : decode cX8_arrive 1 = .ok (.istore_n 1, 1) := by decide +kernel
theorem dX8_arrive_2 : decode cX8_arrive 2 = .ok (.iload_n 1, 1) := by decide +kernel
theorem dX8_arrive_3 : decode cX8_arrive 3 = .ok (.sipush 216, 3) := by decide +kernel
theorem dX8_arrive_6 : decode cX8_arrive 6 = .ok (.if_icmp .ge 82, 3) := by decide +kernel
theorem dX8_arrive_9 : decode cX8_arrive 9 = .ok (.aload_n 0, 1) := by decide +kernel
theorem dX8_arrive_10 : decode cX8_arrive 10 = .ok (.getfield 65, 3) := by decide +kernel
theorem dX8_arrive_13 : decode cX8_arrive 13 = .ok (.iload_n 1, 1) := by decide +kernel
theorem dX8_arrive_14 : decode cX8_arrive 14 = .ok (.iaload, 1) := by decide +kernel
theorem dX8_arrive_15 : decode cX8_arrive 15 = .ok (.ifCond .lt 41, 3) := by decide +kernel
theorem dX8_arrive_18 : decode cX8_arrive 18 = .ok (.aload_n 0, 1) := by decide +kernel
theorem dX8_arrive_19 : decode cX8_arrive 19 = .ok (.getfield 62, 3) := by decide +kernel
theorem dX8_arrive_22 : decode cX8_arrive 22 = .ok (.iconst 4, 1) := by decide +kernel
theorem dX8_arrive_23 : decode cX8_arrive 23 = .ok (.iload_n 1, 1) := by decide +kernel
theorem dX8_arrive_24 : decode cX8_arrive 24 = .ok (.imul, 1) := by decide +kernel
theorem dX8_arrive_25 : decode cX8_arrive 25 = .ok (.aload_n 0, 1) := by decide +kernel
theorem dX8_arrive_26 : decode cX8_arrive 26 = .ok (.getfield 59, 3) := by decide +kernel
theorem dX8_arrive_29 : decode cX8_arrive 29 = .ok (.iload_n 1, 1) := by decide +kernel
theorem dX8_arrive_30 : decode cX8_arrive 30 = .ok (.iaload, 1) := by decide +kernel
theorem dX8_arrive_31 : decode cX8_arrive 31 = .ok (.iadd, 1) := by decide +kernel
theorem dX8_arrive_32 : decode cX8_arrive 32 = .ok (.aload_n 0, 1) := by decide +kernel
theorem dX8_arrive_33 : decode cX8_arrive 33 = .ok (.getfield 65, 3) := by decide +kernel
theorem dX8_arrive_36 : decode cX8_arrive 36 = .ok (.iload_n 1, 1) := by decide +kernel
theorem dX8_arrive_37 : decode cX8_arrive 37 = .ok (.iaload, 1) := by decide +kernel
theorem dX8_arrive_38 : decode cX8_arrive 38 = .ok (.iastore, 1) := by decide +kernel
theorem dX8_arrive_39 : decode cX8_arrive 39 = .ok (.aload_n 0, 1) := by decide +kernel
theorem dX8_arrive_40 : decode cX8_arrive 40 = .ok (.getfield 59, 3) := by decide +kernel
theorem dX8_arrive_43 : decode cX8_arrive 43 = .ok (.iload_n 1, 1) := by decide +kernel
theorem dX8_arrive_44 : decode cX8_arrive 44 = .ok (.dup2, 1) := by decide +kernel
theorem dX8_arrive_45 : decode cX8_arrive 45 = .ok (.iaload, 1) := by decide +kernel
theorem dX8_arrive_46 : decode cX8_arrive 46 = .ok (.iconst 1, 1) := by decide +kernel
theorem dX8_arrive_47 : decode cX8_arrive 47 = .ok (.iadd, 1) := by decide +kernel
theorem dX8_arrive_48 : decode cX8_arrive 48 = .ok (.iastore, 1) := by decide +kernel
theorem dX8_arrive_49 : decode cX8_arrive 49 = .ok (.aload_n 0, 1) := by decide +kernel
theorem dX8_arrive_50 : decode cX8_arrive 50 = .ok (.getfield 65, 3) := by decide +kernel
theorem dX8_arrive_53 : decode cX8_arrive 53 = .ok (.iload_n 1, 1) := by decide +kernel
theorem dX8_arrive_54 : decode cX8_arrive 54 = .ok (.iconst (-1), 1) := by decide +kernel
theorem dX8_arrive_55 : decode cX8_arrive 55 = .ok (.iastore, 1) := by decide +kernel
theorem dX8_arrive_56 : decode cX8_arrive 56 = .ok (.aload_n 0, 1) := by decide +kernel
theorem dX8_arrive_57 : decode cX8_arrive 57 = .ok (.getfield 68, 3) := by decide +kernel
theorem dX8_arrive_60 : decode cX8_arrive 60 = .ok (.iload_n 1, 1) := by decide +kernel
theorem dX8_arrive_61 : decode cX8_arrive 61 = .ok (.aload_n 0, 1) := by decide +kernel
theorem dX8_arrive_62 : decode cX8_arrive 62 = .ok (.getfield 68, 3) := by decide +kernel
theorem dX8_arrive_65 : decode cX8_arrive 65 = .ok (.iload_n 1, 1) := by decide +kernel
theorem dX8_arrive_66 : decode cX8_arrive 66 = .ok (.iaload, 1) := by decide +kernel
theorem dX8_arrive_67 : decode cX8_arrive 67 = .ok (.aload_n 0, 1) := by decide +kernel
theorem dX8_arrive_68 : decode cX8_arrive 68 = .ok (.getfield 71, 3) := by decide +kernel
theorem dX8_arrive_71 : decode cX8_arrive 71 = .ok (.iload_n 1, 1) := by decide +kernel
theorem dX8_arrive_72 : decode cX8_arrive 72 = .ok (.iaload, 1) := by decide +kernel
theorem dX8_arrive_73 : decode cX8_arrive 73 = .ok (.iadd, 1) := by decide +kernel
theorem dX8_arrive_74 : decode cX8_arrive 74 = .ok (.iastore, 1) := by decide +kernel
theorem dX8_arrive_75 : decode cX8_arrive 75 = .ok (.aload_n 0, 1) := by decide +kernel
theorem dX8_arrive_76 : decode cX8_arrive 76 = .ok (.getfield 71, 3) := by decide +kernel
theorem dX8_arrive_79 : decode cX8_arrive 79 = .ok (.iload_n 1, 1) := by decide +kernel
theorem dX8_arrive_80 : decode cX8_arrive 80 = .ok (.iconst 0, 1) := by decide +kernel
theorem dX8_arrive_81 : decode cX8_arrive 81 = .ok (.iastore, 1) := by decide +kernel
theorem dX8_arrive_82 : decode cX8_arrive 82 = .ok (.iinc 1 1, 3) := by decide +kernel
theorem dX8_arrive_85 : decode cX8_arrive 85 = .ok (.goto (-83), 3) := by decide +kernel
theorem dX8_arrive_88 : decode cX8_arrive 88 = .ok (.return_, 1) := by decide +kernel
theorem dX8_beyond_0 : decode cX8_beyond 0 = .ok (.iload_n 2, 1) := by decide +kernel
theorem dX8_beyond_1 : decode cX8_beyond 1 = .ok (.ifCond .ne 13, 3) := by decide +kernel
theorem dX8_beyond_4 : decode cX8_beyond 4 = .ok (.sipush 180, 3) := by decide +kernel
theorem dX8_beyond_7 : decode cX8_beyond 7 = .ok (.iconst 4, 1) := by decide +kernel
theorem dX8_beyond_8 : decode cX8_beyond 8 = .ok (.iload_n 1, 1) := by decide +kernel
theorem dX8_beyond_9 : decode cX8_beyond 9 = .ok (.imul, 1) := by decide +kernel
theorem dX8_beyond_10 : decode cX8_beyond 10 = .ok (.iadd, 1) := by decide +kernel
theorem dX8_beyond_11 : decode cX8_beyond 11 = .ok (.iload_n 3, 1) := by decide +kernel
theorem dX8_beyond_12 : decode cX8_beyond 12 = .ok (.iadd, 1) := by decide +kernel
theorem dX8_beyond_13 : decode cX8_beyond 13 = .ok (.ireturn, 1) := by decide +kernel
theorem dX8_beyond_14 : decode cX8_beyond 14 = .ok (.iload_n 2, 1) := by decide +kernel
theorem dX8_beyond_15 : decode cX8_beyond 15 = .ok (.iconst 1, 1) := by decide +kernel
theorem dX8_beyond_16 : decode cX8_beyond 16 = .ok (.if_icmp .ne 9, 3) := by decide +kernel
theorem dX8_beyond_19 : decode cX8_beyond 19 = .ok (.iload_n 1, 1) := by decide +kernel
theorem dX8_beyond_20 : decode cX8_beyond 20 = .ok (.iconst 1, 1) := by decide +kernel
theorem dX8_beyond_21 : decode cX8_beyond 21 = .ok (.iadd, 1) := by decide +kernel
theorem dX8_beyond_22 : decode cX8_beyond 22 = .ok (.goto 34, 3) := by decide +kernel
theorem dX8_beyond_25 : decode cX8_beyond 25 = .ok (.iload_n 2, 1) := by decide +kernel
theorem dX8_beyond_26 : decode cX8_beyond 26 = .ok (.iconst 2, 1) := by decide +kernel
theorem dX8_beyond_27 : decode cX8_beyond 27 = .ok (.if_icmp .ne 9, 3) := by decide +kernel
theorem dX8_beyond_30 : decode cX8_beyond 30 = .ok (.iload_n 1, 1) := by decide +kernel
theorem dX8_beyond_31 : decode cX8_beyond 31 = .ok (.iconst 1, 1) := by decide +kernel
theorem dX8_beyond_32 : decode cX8_beyond 32 = .ok (.isub, 1) := by decide +kernel
theorem dX8_beyond_33 : decode cX8_beyond 33 = .ok (.goto 23, 3) := by decide +kernel
theorem dX8_beyond_36 : decode cX8_beyond 36 = .ok (.iload_n 2, 1) := by decide +kernel
theorem dX8_beyond_37 : decode cX8_beyond 37 = .ok (.iconst 3, 1) := by decide +kernel
theorem dX8_beyond_38 : decode cX8_beyond 38 = .ok (.if_icmp .ne 12, 3) := by decide +kernel
theorem dX8_beyond_41 : decode cX8_beyond 41 = .ok (.iload_n 1, 1) := by decide +kernel
theorem dX8_beyond_42 : decode cX8_beyond 42 = .ok (.aload_n 0, 1) := by decide +kernel
theorem dX8_beyond_43 : decode cX8_beyond 43 = .ok (.getfield 95, 3) := by decide +kernel
theorem dX8_beyond_46 : decode cX8_beyond 46 = .ok (.iadd, 1) := by decide +kernel
theorem dX8_beyond_47 : decode cX8_beyond 47 = .ok (.goto 9, 3) := by decide +kernel
theorem dX8_beyond_50 : decode cX8_beyond 50 = .ok (.iload_n 1, 1) := by decide +kernel
theorem dX8_beyond_51 : decode cX8_beyond 51 = .ok (.aload_n 0, 1) := by decide +kernel
theorem dX8_beyond_52 : decode cX8_beyond 52 = .ok (.getfield 95, 3) := by decide +kernel
theorem dX8_beyond_55 : decode cX8_beyond 55 = .ok (.isub, 1) := by decide +kernel
theorem dX8_beyond_56 : decode cX8_beyond 56 = .ok (.istore 4, 2) := by decide +kernel
theorem dX8_beyond_58 : decode cX8_beyond 58 = .ok (.iload_n 2, 1) := by decide +kernel
theorem dX8_beyond_59 : decode cX8_beyond 59 = .ok (.iconst 1, 1) := by decide +kernel
theorem dX8_beyond_60 : decode cX8_beyond 60 = .ok (.if_icmp .ne 7, 3) := by decide +kernel
theorem dX8_beyond_63 : decode cX8_beyond 63 = .ok (.iconst 2, 1) := by decide +kernel
theorem dX8_beyond_64 : decode cX8_beyond 64 = .ok (.goto 22, 3) := by decide +kernel
theorem dX8_beyond_67 : decode cX8_beyond 67 = .ok (.iload_n 2, 1) := by decide +kernel
theorem dX8_beyond_68 : decode cX8_beyond 68 = .ok (.iconst 2, 1) := by decide +kernel
theorem dX8_beyond_69 : decode cX8_beyond 69 = .ok (.if_icmp .ne 7, 3) := by decide +kernel
theorem dX8_beyond_72 : decode cX8_beyond 72 = .ok (.iconst 1, 1) := by decide +kernel
theorem dX8_beyond_73 : decode cX8_beyond 73 = .ok (.goto 13, 3) := by decide +kernel
theorem dX8_beyond_76 : decode cX8_beyond 76 = .ok (.iload_n 2, 1) := by decide +kernel
theorem dX8_beyond_77 : decode cX8_beyond 77 = .ok (.iconst 3, 1) := by decide +kernel
theorem dX8_beyond_78 : decode cX8_beyond 78 = .ok (.if_icmp .ne 7, 3) := by decide +kernel
theorem dX8_beyond_81 : decode cX8_beyond 81 = .ok (.iconst 4, 1) := by decide +kernel
theorem dX8_beyond_82 : decode cX8_beyond 82 = .ok (.goto 4, 3) := by decide +kernel
theorem dX8_beyond_85 : decode cX8_beyond 85 = .ok (.iconst 3, 1) := by decide +kernel
theorem dX8_beyond_86 : decode cX8_beyond 86 = .ok (.istore 5, 2) := by decide +kernel
theorem dX8_beyond_88 : decode cX8_beyond 88 = .ok (.iconst 4, 1) := by decide +kernel
theorem dX8_beyond_89 : decode cX8_beyond 89 = .ok (.iconst 5, 1) := by decide +kernel
theorem dX8_beyond_90 : decode cX8_beyond 90 = .ok (.iload 4, 2) := by decide +kernel
theorem dX8_beyond_92 : decode cX8_beyond 92 = .ok (.imul, 1) := by decide +kernel
theorem dX8_beyond_93 : decode cX8_beyond 93 = .ok (.iload 5, 2) := by decide +kernel
theorem dX8_beyond_95 : decode cX8_beyond 95 = .ok (.iadd, 1) := by decide +kernel
theorem dX8_beyond_96 : decode cX8_beyond 96 = .ok (.imul, 1) := by decide +kernel
theorem dX8_beyond_97 : decode cX8_beyond 97 = .ok (.iload_n 3, 1) := by decide +kernel
theorem dX8_beyond_98 : decode cX8_beyond 98 = .ok (.iadd, 1) := by decide +kernel
theorem dX8_beyond_99 : decode cX8_beyond 99 = .ok (.ireturn, 1) := by decide +kernel
theorem dX8_takeAt_0 : decode cX8_takeAt 0 = .ok (.sipush 180, 3) := by decide +kernel
theorem dX8_takeAt_3 : decode cX8_takeAt 3 = .ok (.iconst 4, 1) := by decide +kernel
theorem dX8_takeAt_4 : decode cX8_takeAt 4 = .ok (.iload_n 1, 1) := by decide +kernel
theorem dX8_takeAt_5 : decode cX8_takeAt 5 = .ok (.imul, 1) := by decide +kernel
theorem dX8_takeAt_6 : decode cX8_takeAt 6 = .ok (.iadd, 1) := by decide +kernel
theorem dX8_takeAt_7 : decode cX8_takeAt 7 = .ok (.iload_n 2, 1) := by decide +kernel
theorem dX8_takeAt_8 : decode cX8_takeAt 8 = .ok (.iadd, 1) := by decide +kernel
theorem dX8_takeAt_9 : decode cX8_takeAt 9 = .ok (.istore_n 3, 1) := by decide +kernel
theorem dX8_takeAt_10 : decode cX8_takeAt 10 = .ok (.aload_n 0, 1) := by decide +kernel
theorem dX8_takeAt_11 : decode cX8_takeAt 11 = .ok (.getfield 59, 3) := by decide +kernel
theorem dX8_takeAt_14 : decode cX8_takeAt 14 = .ok (.iload_n 3, 1) := by decide +kernel
theorem dX8_takeAt_15 : decode cX8_takeAt 15 = .ok (.iaload, 1) := by decide +kernel
theorem dX8_takeAt_16 : decode cX8_takeAt 16 = .ok (.ifCond .ne 4, 3) := by decide +kernel
theorem dX8_takeAt_19 : decode cX8_takeAt 19 = .ok (.return_, 1) := by decide +kernel
theorem dX8_takeAt_20 : decode cX8_takeAt 20 = .ok (.aload_n 0, 1) := by decide +kernel
theorem dX8_takeAt_21 : decode cX8_takeAt 21 = .ok (.getfield 62, 3) := by decide +kernel
theorem dX8_takeAt_24 : decode cX8_takeAt 24 = .ok (.iconst 4, 1) := by decide +kernel
theorem dX8_takeAt_25 : decode cX8_takeAt 25 = .ok (.iload_n 3, 1) := by decide +kernel
theorem dX8_takeAt_26 : decode cX8_takeAt 26 = .ok (.imul, 1) := by decide +kernel
theorem dX8_takeAt_27 : decode cX8_takeAt 27 = .ok (.iaload, 1) := by decide +kernel
theorem dX8_takeAt_28 : decode cX8_takeAt 28 = .ok (.istore 4, 2) := by decide +kernel
theorem dX8_takeAt_30 : decode cX8_takeAt 30 = .ok (.iload 4, 2) := by decide +kernel
theorem dX8_takeAt_32 : decode cX8_takeAt 32 = .ok (.iconst 4, 1) := by decide +kernel
theorem dX8_takeAt_33 : decode cX8_takeAt 33 = .ok (.idiv, 1) := by decide +kernel
theorem dX8_takeAt_34 : decode cX8_takeAt 34 = .ok (.istore 5, 2) := by decide +kernel
theorem dX8_takeAt_36 : decode cX8_takeAt 36 = .ok (.aload_n 0, 1) := by decide +kernel
theorem dX8_takeAt_37 : decode cX8_takeAt 37 = .ok (.iload 4, 2) := by decide +kernel
theorem dX8_takeAt_39 : decode cX8_takeAt 39 = .ok (.invokevirtual 125, 3) := by decide +kernel
theorem dX8_takeAt_42 : decode cX8_takeAt 42 = .ok (.istore 6, 2) := by decide +kernel
theorem dX8_takeAt_44 : decode cX8_takeAt 44 = .ok (.iload 6, 2) := by decide +kernel
theorem dX8_takeAt_46 : decode cX8_takeAt 46 = .ok (.ifCond .eq 30, 3) := by decide +kernel
theorem dX8_takeAt_49 : decode cX8_takeAt 49 = .ok (.iload 5, 2) := by decide +kernel
theorem dX8_takeAt_51 : decode cX8_takeAt 51 = .ok (.iconst 2, 1) := by decide +kernel
theorem dX8_takeAt_52 : decode cX8_takeAt 52 = .ok (.irem, 1) := by decide +kernel
theorem dX8_takeAt_53 : decode cX8_takeAt 53 = .ok (.ifCond .ne 23, 3) := by decide +kernel
theorem dX8_takeAt_56 : decode cX8_takeAt 56 = .ok (.aload_n 0, 1) := by decide +kernel
theorem dX8_takeAt_57 : decode cX8_takeAt 57 = .ok (.getfield 38, 3) := by decide +kernel
theorem dX8_takeAt_60 : decode cX8_takeAt 60 = .ok (.iload_n 1, 1) := by decide +kernel
theorem dX8_takeAt_61 : decode cX8_takeAt 61 = .ok (.baload, 1) := by decide +kernel
theorem dX8_takeAt_62 : decode cX8_takeAt 62 = .ok (.ifCond .ne 13, 3) := by decide +kernel
theorem dX8_takeAt_65 : decode cX8_takeAt 65 = .ok (.aload_n 0, 1) := by decide +kernel
theorem dX8_takeAt_66 : decode cX8_takeAt 66 = .ok (.getfield 50, 3) := by decide +kernel
theorem dX8_takeAt_69 : decode cX8_takeAt 69 = .ok (.iload_n 1, 1) := by decide +kernel
theorem dX8_takeAt_70 : decode cX8_takeAt 70 = .ok (.iaload, 1) := by decide +kernel
theorem dX8_takeAt_71 : decode cX8_takeAt 71 = .ok (.iconst 2, 1) := by decide +kernel
theorem dX8_takeAt_72 : decode cX8_takeAt 72 = .ok (.if_icmp .ne 4, 3) := by decide +kernel
theorem dX8_takeAt_75 : decode cX8_takeAt 75 = .ok (.return_, 1) := by decide +kernel
theorem dX8_takeAt_76 : decode cX8_takeAt 76 = .ok (.aload_n 0, 1) := by decide +kernel
theorem dX8_takeAt_77 : decode cX8_takeAt 77 = .ok (.iload_n 3, 1) := by decide +kernel
theorem dX8_takeAt_78 : decode cX8_takeAt 78 = .ok (.invokevirtual 128, 3) := by decide +kernel
theorem dX8_takeAt_81 : decode cX8_takeAt 81 = .ok (.istore 7, 2) := by decide +kernel
theorem dX8_takeAt_83 : decode cX8_takeAt 83 = .ok (.iload 5, 2) := by decide +kernel
theorem dX8_takeAt_85 : decode cX8_takeAt 85 = .ok (.iconst 2, 1) := by decide +kernel
theorem dX8_takeAt_86 : decode cX8_takeAt 86 = .ok (.idiv, 1) := by decide +kernel
theorem dX8_takeAt_87 : decode cX8_takeAt 87 = .ok (.istore 8, 2) := by decide +kernel
theorem dX8_takeAt_89 : decode cX8_takeAt 89 = .ok (.iload 6, 2) := by decide +kernel
theorem dX8_takeAt_91 : decode cX8_takeAt 91 = .ok (.ifCond .eq 48, 3) := by decide +kernel
theorem dX8_takeAt_94 : decode cX8_takeAt 94 = .ok (.iload 5, 2) := by decide +kernel
theorem dX8_takeAt_96 : decode cX8_takeAt 96 = .ok (.iconst 2, 1) := by decide +kernel
theorem dX8_takeAt_97 : decode cX8_takeAt 97 = .ok (.irem, 1) := by decide +kernel
theorem dX8_takeAt_98 : decode cX8_takeAt 98 = .ok (.iconst 1, 1) := by decide +kernel
theorem dX8_takeAt_99 : decode cX8_takeAt 99 = .ok (.if_icmp .ne 40, 3) := by decide +kernel
theorem dX8_takeAt_102 : decode cX8_takeAt 102 = .ok (.aload_n 0, 1) := by decide +kernel
theorem dX8_takeAt_103 : decode cX8_takeAt 103 = .ok (.getfield 29, 3) := by decide +kernel
theorem dX8_takeAt_106 : decode cX8_takeAt 106 = .ok (.aload_n 0, 1) := by decide +kernel
theorem dX8_takeAt_107 : decode cX8_takeAt 107 = .ok (.getfield 131, 3) := by decide +kernel
theorem dX8_takeAt_110 : decode cX8_takeAt 110 = .ok (.iload 8, 2) := by decide +kernel
theorem dX8_takeAt_112 : decode cX8_takeAt 112 = .ok (.iastore, 1) := by decide +kernel
theorem dX8_takeAt_113 : decode cX8_takeAt 113 = .ok (.aload_n 0, 1) := by decide +kernel
theorem dX8_takeAt_114 : decode cX8_takeAt 114 = .ok (.getfield 32, 3) := by decide +kernel
theorem dX8_takeAt_117 : decode cX8_takeAt 117 = .ok (.aload_n 0, 1) := by decide +kernel
theorem dX8_takeAt_118 : decode cX8_takeAt 118 = .ok (.getfield 131, 3) := by decide +kernel
theorem dX8_takeAt_121 : decode cX8_takeAt 121 = .ok (.aload_n 0, 1) := by decide +kernel
theorem dX8_takeAt_122 : decode cX8_takeAt 122 = .ok (.getfield 134, 3) := by decide +kernel
theorem dX8_takeAt_125 : decode cX8_takeAt 125 = .ok (.iastore, 1) := by decide +kernel
theorem dX8_takeAt_126 : decode cX8_takeAt 126 = .ok (.aload_n 0, 1) := by decide +kernel
theorem dX8_takeAt_127 : decode cX8_takeAt 127 = .ok (.dup, 1) := by decide +kernel
theorem dX8_takeAt_128 : decode cX8_takeAt 128 = .ok (.getfield 131, 3) := by decide +kernel
theorem dX8_takeAt_131 : decode cX8_takeAt 131 = .ok (.iconst 1, 1) := by decide +kernel
theorem dX8_takeAt_132 : decode cX8_takeAt 132 = .ok (.iadd, 1) := by decide +kernel
theorem dX8_takeAt_133 : decode cX8_takeAt 133 = .ok (.putfield 131, 3) := by decide +kernel
theorem dX8_takeAt_136 : decode cX8_takeAt 136 = .ok (.goto 99, 3) := by decide +kernel
theorem dX8_takeAt_139 : decode cX8_takeAt 139 = .ok (.iload 6, 2) := by decide +kernel
theorem dX8_takeAt_141 : decode cX8_takeAt 141 = .ok (.ifCond .eq 94, 3) := by decide +kernel
theorem dX8_takeAt_144 : decode cX8_takeAt 144 = .ok (.bipush 8, 2) := by decide +kernel
theorem dX8_takeAt_146 : decode cX8_takeAt 146 = .ok (.iload_n 1, 1) := by decide +kernel
theorem dX8_takeAt_147 : decode cX8_takeAt 147 = .ok (.imul, 1) := by decide +kernel
theorem dX8_takeAt_148 : decode cX8_takeAt 148 = .ok (.aload_n 0, 1) := by decide +kernel
theorem dX8_takeAt_149 : decode cX8_takeAt 149 = .ok (.getfield 20, 3) := by decide +kernel
theorem dX8_takeAt_152 : decode cX8_takeAt 152 = .ok (.iload 8, 2) := by decide +kernel
theorem dX8_takeAt_154 : decode cX8_takeAt 154 = .ok (.iaload, 1) := by decide +kernel
theorem dX8_takeAt_155 : decode cX8_takeAt 155 = .ok (.iadd, 1) := by decide +kernel
theorem dX8_takeAt_156 : decode cX8_takeAt 156 = .ok (.istore 9, 2) := by decide +kernel
theorem dX8_takeAt_158 : decode cX8_takeAt 158 = .ok (.aload_n 0, 1) := by decide +kernel
theorem dX8_takeAt_159 : decode cX8_takeAt 159 = .ok (.getfield 26, 3) := by decide +kernel
theorem dX8_takeAt_162 : decode cX8_takeAt 162 = .ok (.iload 8, 2) := by decide +kernel
theorem dX8_takeAt_164 : decode cX8_takeAt 164 = .ok (.aload_n 0, 1) := by decide +kernel
theorem dX8_takeAt_165 : decode cX8_takeAt 165 = .ok (.getfield 35, 3) := by decide +kernel
theorem dX8_takeAt_168 : decode cX8_takeAt 168 = .ok (.iload 9, 2) := by decide +kernel
theorem dX8_takeAt_170 : decode cX8_takeAt 170 = .ok (.iaload, 1) := by decide +kernel
theorem dX8_takeAt_171 : decode cX8_takeAt 171 = .ok (.iastore, 1) := by decide +kernel
theorem dX8_takeAt_172 : decode cX8_takeAt 172 = .ok (.aload_n 0, 1) := by decide +kernel
theorem dX8_takeAt_173 : decode cX8_takeAt 173 = .ok (.getfield 35, 3) := by decide +kernel
theorem dX8_takeAt_176 : decode cX8_takeAt 176 = .ok (.iload 9, 2) := by decide +kernel
theorem dX8_takeAt_178 : decode cX8_takeAt 178 = .ok (.aload_n 0, 1) := by decide +kernel
theorem dX8_takeAt_179 : decode cX8_takeAt 179 = .ok (.getfield 16, 3) := by decide +kernel
theorem dX8_takeAt_182 : decode cX8_takeAt 182 = .ok (.iload 8, 2) := by decide +kernel
theorem dX8_takeAt_184 : decode cX8_takeAt 184 = .ok (.baload, 1) := by decide +kernel
theorem dX8_takeAt_185 : decode cX8_takeAt 185 = .ok (.ifCond .eq 13, 3) := by decide +kernel
theorem dX8_takeAt_188 : decode cX8_takeAt 188 = .ok (.aload_n 0, 1) := by decide +kernel
theorem dX8_takeAt_189 : decode cX8_takeAt 189 = .ok (.getfield 23, 3) := by decide +kernel
theorem dX8_takeAt_192 : decode cX8_takeAt 192 = .ok (.iload 8, 2) := by decide +kernel
theorem dX8_takeAt_194 : decode cX8_takeAt 194 = .ok (.iaload, 1) := by decide +kernel
theorem dX8_takeAt_195 : decode cX8_takeAt 195 = .ok (.goto 10, 3) := by decide +kernel
theorem dX8_takeAt_198 : decode cX8_takeAt 198 = .ok (.aload_n 0, 1) := by decide +kernel
theorem dX8_takeAt_199 : decode cX8_takeAt 199 = .ok (.getfield 35, 3) := by decide +kernel
theorem dX8_takeAt_202 : decode cX8_takeAt 202 = .ok (.iload 9, 2) := by decide +kernel
theorem dX8_takeAt_204 : decode cX8_takeAt 204 = .ok (.iaload, 1) := by decide +kernel
theorem dX8_takeAt_205 : decode cX8_takeAt 205 = .ok (.iastore, 1) := by decide +kernel
theorem dX8_takeAt_206 : decode cX8_takeAt 206 = .ok (.aload_n 0, 1) := by decide +kernel
theorem dX8_takeAt_207 : decode cX8_takeAt 207 = .ok (.getfield 53, 3) := by decide +kernel
theorem dX8_takeAt_210 : decode cX8_takeAt 210 = .ok (.iconst 2, 1) := by decide +kernel
theorem dX8_takeAt_211 : decode cX8_takeAt 211 = .ok (.iload_n 1, 1) := by decide +kernel
theorem dX8_takeAt_212 : decode cX8_takeAt 212 = .ok (.imul, 1) := by decide +kernel
theorem dX8_takeAt_213 : decode cX8_takeAt 213 = .ok (.aload_n 0, 1) := by decide +kernel
theorem dX8_takeAt_214 : decode cX8_takeAt 214 = .ok (.getfield 50, 3) := by decide +kernel
theorem dX8_takeAt_217 : decode cX8_takeAt 217 = .ok (.iload_n 1, 1) := by decide +kernel
theorem dX8_takeAt_218 : decode cX8_takeAt 218 = .ok (.iaload, 1) := by decide +kernel
theorem dX8_takeAt_219 : decode cX8_takeAt 219 = .ok (.iadd, 1) := by decide +kernel
theorem dX8_takeAt_220 : decode cX8_takeAt 220 = .ok (.iload 5, 2) := by decide +kernel
theorem dX8_takeAt_222 : decode cX8_takeAt 222 = .ok (.iconst 1, 1) := by decide +kernel
theorem dX8_takeAt_223 : decode cX8_takeAt 223 = .ok (.iadd, 1) := by decide +kernel
theorem dX8_takeAt_224 : decode cX8_takeAt 224 = .ok (.iastore, 1) := by decide +kernel
theorem dX8_takeAt_225 : decode cX8_takeAt 225 = .ok (.aload_n 0, 1) := by decide +kernel
theorem dX8_takeAt_226 : decode cX8_takeAt 226 = .ok (.getfield 50, 3) := by decide +kernel
theorem dX8_takeAt_229 : decode cX8_takeAt 229 = .ok (.iload_n 1, 1) := by decide +kernel
theorem dX8_takeAt_230 : decode cX8_takeAt 230 = .ok (.dup2, 1) := by decide +kernel
theorem dX8_takeAt_231 : decode cX8_takeAt 231 = .ok (.iaload, 1) := by decide +kernel
theorem dX8_takeAt_232 : decode cX8_takeAt 232 = .ok (.iconst 1, 1) := by decide +kernel
theorem dX8_takeAt_233 : decode cX8_takeAt 233 = .ok (.iadd, 1) := by decide +kernel
theorem dX8_takeAt_234 : decode cX8_takeAt 234 = .ok (.iastore, 1) := by decide +kernel
theorem dX8_takeAt_235 : decode cX8_takeAt 235 = .ok (.return_, 1) := by decide +kernel
theorem dX8_sendAt_0 : decode cX8_sendAt 0 = .ok (.aload_n 0, 1) := by decide +kernel
theorem dX8_sendAt_1 : decode cX8_sendAt 1 = .ok (.getfield 50, 3) := by decide +kernel
theorem dX8_sendAt_4 : decode cX8_sendAt 4 = .ok (.iload_n 1, 1) := by decide +kernel
theorem dX8_sendAt_5 : decode cX8_sendAt 5 = .ok (.iaload, 1) := by decide +kernel
theorem dX8_sendAt_6 : decode cX8_sendAt 6 = .ok (.ifCond .le 107, 3) := by decide +kernel
theorem dX8_sendAt_9 : decode cX8_sendAt 9 = .ok (.aload_n 0, 1) := by decide +kernel
theorem dX8_sendAt_10 : decode cX8_sendAt 10 = .ok (.getfield 53, 3) := by decide +kernel
theorem dX8_sendAt_13 : decode cX8_sendAt 13 = .ok (.iconst 2, 1) := by decide +kernel
theorem dX8_sendAt_14 : decode cX8_sendAt 14 = .ok (.iload_n 1, 1) := by decide +kernel
theorem dX8_sendAt_15 : decode cX8_sendAt 15 = .ok (.imul, 1) := by decide +kernel
theorem dX8_sendAt_16 : decode cX8_sendAt 16 = .ok (.iaload, 1) := by decide +kernel
theorem dX8_sendAt_17 : decode cX8_sendAt 17 = .ok (.istore_n 2, 1) := by decide +kernel
theorem dX8_sendAt_18 : decode cX8_sendAt 18 = .ok (.bipush 20, 2) := by decide +kernel
theorem dX8_sendAt_20 : decode cX8_sendAt 20 = .ok (.iload_n 1, 1) := by decide +kernel
theorem dX8_sendAt_21 : decode cX8_sendAt 21 = .ok (.imul, 1) := by decide +kernel
theorem dX8_sendAt_22 : decode cX8_sendAt 22 = .ok (.aload_n 0, 1) := by decide +kernel
theorem dX8_sendAt_23 : decode cX8_sendAt 23 = .ok (.iload_n 2, 1) := by decide +kernel
theorem dX8_sendAt_24 : decode cX8_sendAt 24 = .ok (.invokevirtual 137, 3) := by decide +kernel
theorem dX8_sendAt_27 : decode cX8_sendAt 27 = .ok (.iadd, 1) := by decide +kernel
theorem dX8_sendAt_28 : decode cX8_sendAt 28 = .ok (.istore_n 3, 1) := by decide +kernel
theorem dX8_sendAt_29 : decode cX8_sendAt 29 = .ok (.aload_n 0, 1) := by decide +kernel
theorem dX8_sendAt_30 : decode cX8_sendAt 30 = .ok (.getfield 68, 3) := by decide +kernel
theorem dX8_sendAt_33 : decode cX8_sendAt 33 = .ok (.iload_n 3, 1) := by decide +kernel
theorem dX8_sendAt_34 : decode cX8_sendAt 34 = .ok (.iaload, 1) := by decide +kernel
theorem dX8_sendAt_35 : decode cX8_sendAt 35 = .ok (.ifCond .le 78, 3) := by decide +kernel
theorem dX8_sendAt_38 : decode cX8_sendAt 38 = .ok (.aload_n 0, 1) := by decide +kernel
theorem dX8_sendAt_39 : decode cX8_sendAt 39 = .ok (.iload_n 3, 1) := by decide +kernel
theorem dX8_sendAt_40 : decode cX8_sendAt 40 = .ok (.iconst 4, 1) := by decide +kernel
theorem dX8_sendAt_41 : decode cX8_sendAt 41 = .ok (.iload_n 2, 1) := by decide +kernel
theorem dX8_sendAt_42 : decode cX8_sendAt 42 = .ok (.imul, 1) := by decide +kernel
theorem dX8_sendAt_43 : decode cX8_sendAt 43 = .ok (.aload_n 0, 1) := by decide +kernel
theorem dX8_sendAt_44 : decode cX8_sendAt 44 = .ok (.getfield 56, 3) := by decide +kernel
theorem dX8_sendAt_47 : decode cX8_sendAt 47 = .ok (.iload_n 1, 1) := by decide +kernel
theorem dX8_sendAt_48 : decode cX8_sendAt 48 = .ok (.iaload, 1) := by decide +kernel
theorem dX8_sendAt_49 : decode cX8_sendAt 49 = .ok (.iadd, 1) := by decide +kernel
theorem dX8_sendAt_50 : decode cX8_sendAt 50 = .ok (.invokevirtual 140, 3) := by decide +kernel
theorem dX8_sendAt_53 : decode cX8_sendAt 53 = .ok (.aload_n 0, 1) := by decide +kernel
theorem dX8_sendAt_54 : decode cX8_sendAt 54 = .ok (.getfield 56, 3) := by decide +kernel
theorem dX8_sendAt_57 : decode cX8_sendAt 57 = .ok (.iload_n 1, 1) := by decide +kernel
theorem dX8_sendAt_58 : decode cX8_sendAt 58 = .ok (.dup2, 1) := by decide +kernel
theorem dX8_sendAt_59 : decode cX8_sendAt 59 = .ok (.iaload, 1) := by decide +kernel
theorem dX8_sendAt_60 : decode cX8_sendAt 60 = .ok (.iconst 1, 1) := by decide +kernel
theorem dX8_sendAt_61 : decode cX8_sendAt 61 = .ok (.iadd, 1) := by decide +kernel
theorem dX8_sendAt_62 : decode cX8_sendAt 62 = .ok (.iastore, 1) := by decide +kernel
theorem dX8_sendAt_63 : decode cX8_sendAt 63 = .ok (.aload_n 0, 1) := by decide +kernel
theorem dX8_sendAt_64 : decode cX8_sendAt 64 = .ok (.getfield 56, 3) := by decide +kernel
theorem dX8_sendAt_67 : decode cX8_sendAt 67 = .ok (.iload_n 1, 1) := by decide +kernel
theorem dX8_sendAt_68 : decode cX8_sendAt 68 = .ok (.iaload, 1) := by decide +kernel
theorem dX8_sendAt_69 : decode cX8_sendAt 69 = .ok (.aload_n 0, 1) := by decide +kernel
theorem dX8_sendAt_70 : decode cX8_sendAt 70 = .ok (.iload_n 2, 1) := by decide +kernel
theorem dX8_sendAt_71 : decode cX8_sendAt 71 = .ok (.invokevirtual 115, 3) := by decide +kernel
theorem dX8_sendAt_74 : decode cX8_sendAt 74 = .ok (.if_icmp .ne 38, 3) := by decide +kernel
theorem dX8_sendAt_77 : decode cX8_sendAt 77 = .ok (.aload_n 0, 1) := by decide +kernel
theorem dX8_sendAt_78 : decode cX8_sendAt 78 = .ok (.getfield 56, 3) := by decide +kernel
theorem dX8_sendAt_81 : decode cX8_sendAt 81 = .ok (.iload_n 1, 1) := by decide +kernel
theorem dX8_sendAt_82 : decode cX8_sendAt 82 = .ok (.iconst 0, 1) := by decide +kernel
theorem dX8_sendAt_83 : decode cX8_sendAt 83 = .ok (.iastore, 1) := by decide +kernel
theorem dX8_sendAt_84 : decode cX8_sendAt 84 = .ok (.aload_n 0, 1) := by decide +kernel
theorem dX8_sendAt_85 : decode cX8_sendAt 85 = .ok (.getfield 50, 3) := by decide +kernel
theorem dX8_sendAt_88 : decode cX8_sendAt 88 = .ok (.iload_n 1, 1) := by decide +kernel
theorem dX8_sendAt_89 : decode cX8_sendAt 89 = .ok (.dup2, 1) := by decide +kernel
theorem dX8_sendAt_90 : decode cX8_sendAt 90 = .ok (.iaload, 1) := by decide +kernel
theorem dX8_sendAt_91 : decode cX8_sendAt 91 = .ok (.iconst 1, 1) := by decide +kernel
theorem dX8_sendAt_92 : decode cX8_sendAt 92 = .ok (.isub, 1) := by decide +kernel
theorem dX8_sendAt_93 : decode cX8_sendAt 93 = .ok (.iastore, 1) := by decide +kernel
theorem dX8_sendAt_94 : decode cX8_sendAt 94 = .ok (.aload_n 0, 1) := by decide +kernel
theorem dX8_sendAt_95 : decode cX8_sendAt 95 = .ok (.getfield 53, 3) := by decide +kernel
theorem dX8_sendAt_98 : decode cX8_sendAt 98 = .ok (.iconst 2, 1) := by decide +kernel
theorem dX8_sendAt_99 : decode cX8_sendAt 99 = .ok (.iload_n 1, 1) := by decide +kernel
theorem dX8_sendAt_100 : decode cX8_sendAt 100 = .ok (.imul, 1) := by decide +kernel
theorem dX8_sendAt_101 : decode cX8_sendAt 101 = .ok (.aload_n 0, 1) := by decide +kernel
theorem dX8_sendAt_102 : decode cX8_sendAt 102 = .ok (.getfield 53, 3) := by decide +kernel
theorem dX8_sendAt_105 : decode cX8_sendAt 105 = .ok (.iconst 2, 1) := by decide +kernel
theorem dX8_sendAt_106 : decode cX8_sendAt 106 = .ok (.iload_n 1, 1) := by decide +kernel
theorem dX8_sendAt_107 : decode cX8_sendAt 107 = .ok (.imul, 1) := by decide +kernel
theorem dX8_sendAt_108 : decode cX8_sendAt 108 = .ok (.iconst 1, 1) := by decide +kernel
theorem dX8_sendAt_109 : decode cX8_sendAt 109 = .ok (.iadd, 1) := by decide +kernel
theorem dX8_sendAt_110 : decode cX8_sendAt 110 = .ok (.iaload, 1) := by decide +kernel
theorem dX8_sendAt_111 : decode cX8_sendAt 111 = .ok (.iastore, 1) := by decide +kernel
theorem dX8_sendAt_112 : decode cX8_sendAt 112 = .ok (.return_, 1) := by decide +kernel
theorem dX8_sendAt_113 : decode cX8_sendAt 113 = .ok (.aload_n 0, 1) := by decide +kernel
theorem dX8_sendAt_114 : decode cX8_sendAt 114 = .ok (.getfield 41, 3) := by decide +kernel
theorem dX8_sendAt_117 : decode cX8_sendAt 117 = .ok (.iload_n 1, 1) := by decide +kernel
theorem dX8_sendAt_118 : decode cX8_sendAt 118 = .ok (.iaload, 1) := by decide +kernel
theorem dX8_sendAt_119 : decode cX8_sendAt 119 = .ok (.ifCond .le 132, 3) := by decide +kernel
theorem dX8_sendAt_122 : decode cX8_sendAt 122 = .ok (.aload_n 0, 1) := by decide +kernel
theorem dX8_sendAt_123 : decode cX8_sendAt 123 = .ok (.getfield 44, 3) := by decide +kernel
theorem dX8_sendAt_126 : decode cX8_sendAt 126 = .ok (.iconst 4, 1) := by decide +kernel
theorem dX8_sendAt_127 : decode cX8_sendAt 127 = .ok (.iload_n 1, 1) := by decide +kernel
theorem dX8_sendAt_128 : decode cX8_sendAt 128 = .ok (.imul, 1) := by decide +kernel
theorem dX8_sendAt_129 : decode cX8_sendAt 129 = .ok (.iaload, 1) := by decide +kernel
theorem dX8_sendAt_130 : decode cX8_sendAt 130 = .ok (.istore_n 2, 1) := by decide +kernel
theorem dX8_sendAt_131 : decode cX8_sendAt 131 = .ok (.bipush 20, 2) := by decide +kernel
theorem dX8_sendAt_133 : decode cX8_sendAt 133 = .ok (.iload_n 1, 1) := by decide +kernel
theorem dX8_sendAt_134 : decode cX8_sendAt 134 = .ok (.imul, 1) := by decide +kernel
theorem dX8_sendAt_135 : decode cX8_sendAt 135 = .ok (.aload_n 0, 1) := by decide +kernel
theorem dX8_sendAt_136 : decode cX8_sendAt 136 = .ok (.iload_n 2, 1) := by decide +kernel
theorem dX8_sendAt_137 : decode cX8_sendAt 137 = .ok (.invokevirtual 137, 3) := by decide +kernel
theorem dX8_sendAt_140 : decode cX8_sendAt 140 = .ok (.iadd, 1) := by decide +kernel
