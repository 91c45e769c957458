theorem dBA_climb_56 : decode cBA_climb 56 = .ok (.iload 7, 2) := by decide +kernel
theorem dBA_climb_58 : decode cBA_climb 58 = .ok (.iconst 1, 1) := by decide +kernel
theorem dBA_climb_59 : decode cBA_climb 59 = .ok (.isub, 1) := by decide +kernel
theorem dBA_climb_60 : decode cBA_climb 60 = .ok (.istore 9, 2) := by decide +kernel
theorem dBA_climb_62 : decode cBA_climb 62 = .ok (.iload_n 3, 1) := by decide +kernel
theorem dBA_climb_63 : decode cBA_climb 63 = .ok (.aload_n 0, 1) := by decide +kernel
theorem dBA_climb_64 : decode cBA_climb 64 = .ok (.getfield 19, 3) := by decide +kernel
theorem dBA_climb_67 : decode cBA_climb 67 = .ok (.iadd, 1) := by decide +kernel
theorem dBA_climb_68 : decode cBA_climb 68 = .ok (.aload_n 0, 1) := by decide +kernel
theorem dBA_climb_69 : decode cBA_climb 69 = .ok (.getfield 15, 3) := by decide +kernel
theorem dBA_climb_72 : decode cBA_climb 72 = .ok (.getfield 58, 3) := by decide +kernel
theorem dBA_climb_75 : decode cBA_climb 75 = .ok (.if_icmp .ge 12, 3) := by decide +kernel
theorem dBA_climb_78 : decode cBA_climb 78 = .ok (.iload_n 3, 1) := by decide +kernel
theorem dBA_climb_79 : decode cBA_climb 79 = .ok (.aload_n 0, 1) := by decide +kernel
theorem dBA_climb_80 : decode cBA_climb 80 = .ok (.getfield 19, 3) := by decide +kernel
theorem dBA_climb_83 : decode cBA_climb 83 = .ok (.iadd, 1) := by decide +kernel
theorem dBA_climb_84 : decode cBA_climb 84 = .ok (.goto 12, 3) := by decide +kernel
theorem dBA_climb_87 : decode cBA_climb 87 = .ok (.aload_n 0, 1) := by decide +kernel
theorem dBA_climb_88 : decode cBA_climb 88 = .ok (.getfield 15, 3) := by decide +kernel
theorem dBA_climb_91 : decode cBA_climb 91 = .ok (.getfield 58, 3) := by decide +kernel
theorem dBA_climb_94 : decode cBA_climb 94 = .ok (.iconst 1, 1) := by decide +kernel
theorem dBA_climb_95 : decode cBA_climb 95 = .ok (.isub, 1) := by decide +kernel
theorem dBA_climb_96 : decode cBA_climb 96 = .ok (.istore 10, 2) := by decide +kernel
theorem dBA_climb_98 : decode cBA_climb 98 = .ok (.iload_n 2, 1) := by decide +kernel
theorem dBA_climb_99 : decode cBA_climb 99 = .ok (.aload_n 0, 1) := by decide +kernel
theorem dBA_climb_100 : decode cBA_climb 100 = .ok (.getfield 19, 3) := by decide +kernel
theorem dBA_climb_103 : decode cBA_climb 103 = .ok (.if_icmp .le 12, 3) := by decide +kernel
theorem dBA_climb_106 : decode cBA_climb 106 = .ok (.iload_n 2, 1) := by decide +kernel
theorem dBA_climb_107 : decode cBA_climb 107 = .ok (.aload_n 0, 1) := by decide +kernel
theorem dBA_climb_108 : decode cBA_climb 108 = .ok (.getfield 19, 3) := by decide +kernel
theorem dBA_climb_111 : decode cBA_climb 111 = .ok (.isub, 1) := by decide +kernel
theorem dBA_climb_112 : decode cBA_climb 112 = .ok (.goto 4, 3) := by decide +kernel
theorem dBA_climb_115 : decode cBA_climb 115 = .ok (.iconst 0, 1) := by decide +kernel
theorem dBA_climb_116 : decode cBA_climb 116 = .ok (.istore 11, 2) := by decide +kernel
theorem dBA_climb_118 : decode cBA_climb 118 = .ok (.iload_n 3, 1) := by decide +kernel
theorem dBA_climb_119 : decode cBA_climb 119 = .ok (.aload_n 0, 1) := by decide +kernel
theorem dBA_climb_120 : decode cBA_climb 120 = .ok (.getfield 19, 3) := by decide +kernel
theorem dBA_climb_123 : decode cBA_climb 123 = .ok (.if_icmp .le 12, 3) := by decide +kernel
theorem dBA_climb_126 : decode cBA_climb 126 = .ok (.iload_n 3, 1) := by decide +kernel
theorem dBA_climb_127 : decode cBA_climb 127 = .ok (.aload_n 0, 1) := by decide +kernel
theorem dBA_climb_128 : decode cBA_climb 128 = .ok (.getfield 19, 3) := by decide +kernel
theorem dBA_climb_131 : decode cBA_climb 131 = .ok (.isub, 1) := by decide +kernel
theorem dBA_climb_132 : decode cBA_climb 132 = .ok (.goto 4, 3) := by decide +kernel
theorem dBA_climb_135 : decode cBA_climb 135 = .ok (.iconst 0, 1) := by decide +kernel
theorem dBA_climb_136 : decode cBA_climb 136 = .ok (.istore 12, 2) := by decide +kernel
theorem dBA_climb_138 : decode cBA_climb 138 = .ok (.iload_n 2, 1) := by decide +kernel
theorem dBA_climb_139 : decode cBA_climb 139 = .ok (.iload 11, 2) := by decide +kernel
theorem dBA_climb_141 : decode cBA_climb 141 = .ok (.if_icmp .ge 8, 3) := by decide +kernel
theorem dBA_climb_144 : decode cBA_climb 144 = .ok (.iload 11, 2) := by decide +kernel
theorem dBA_climb_146 : decode cBA_climb 146 = .ok (.goto 15, 3) := by decide +kernel
theorem dBA_climb_149 : decode cBA_climb 149 = .ok (.iload_n 2, 1) := by decide +kernel
theorem dBA_climb_150 : decode cBA_climb 150 = .ok (.iload 9, 2) := by decide +kernel
theorem dBA_climb_152 : decode cBA_climb 152 = .ok (.if_icmp .le 8, 3) := by decide +kernel
theorem dBA_climb_155 : decode cBA_climb 155 = .ok (.iload 9, 2) := by decide +kernel
theorem dBA_climb_157 : decode cBA_climb 157 = .ok (.goto 4, 3) := by decide +kernel
theorem dBA_climb_160 : decode cBA_climb 160 = .ok (.iload_n 2, 1) := by decide +kernel
theorem dBA_climb_161 : decode cBA_climb 161 = .ok (.istore 13, 2) := by decide +kernel
theorem dBA_climb_163 : decode cBA_climb 163 = .ok (.iload_n 3, 1) := by decide +kernel
theorem dBA_climb_164 : decode cBA_climb 164 = .ok (.iload 12, 2) := by decide +kernel
theorem dBA_climb_166 : decode cBA_climb 166 = .ok (.if_icmp .ge 8, 3) := by decide +kernel
theorem dBA_climb_169 : decode cBA_climb 169 = .ok (.iload 12, 2) := by decide +kernel
theorem dBA_climb_171 : decode cBA_climb 171 = .ok (.goto 15, 3) := by decide +kernel
theorem dBA_climb_174 : decode cBA_climb 174 = .ok (.iload_n 3, 1) := by decide +kernel
theorem dBA_climb_175 : decode cBA_climb 175 = .ok (.iload 10, 2) := by decide +kernel
theorem dBA_climb_177 : decode cBA_climb 177 = .ok (.if_icmp .le 8, 3) := by decide +kernel
theorem dBA_climb_180 : decode cBA_climb 180 = .ok (.iload 10, 2) := by decide +kernel
theorem dBA_climb_182 : decode cBA_climb 182 = .ok (.goto 4, 3) := by decide +kernel
theorem dBA_climb_185 : decode cBA_climb 185 = .ok (.iload_n 3, 1) := by decide +kernel
theorem dBA_climb_186 : decode cBA_climb 186 = .ok (.istore 14, 2) := by decide +kernel
theorem dBA_climb_188 : decode cBA_climb 188 = .ok (.aload_n 1, 1) := by decide +kernel
theorem dBA_climb_189 : decode cBA_climb 189 = .ok (.iload 14, 2) := by decide +kernel
theorem dBA_climb_191 : decode cBA_climb 191 = .ok (.iload 7, 2) := by decide +kernel
theorem dBA_climb_193 : decode cBA_climb 193 = .ok (.imul, 1) := by decide +kernel
theorem dBA_climb_194 : decode cBA_climb 194 = .ok (.iload 13, 2) := by decide +kernel
theorem dBA_climb_196 : decode cBA_climb 196 = .ok (.iadd, 1) := by decide +kernel
theorem dBA_climb_197 : decode cBA_climb 197 = .ok (.iaload, 1) := by decide +kernel
theorem dBA_climb_198 : decode cBA_climb 198 = .ok (.aload 5, 2) := by decide +kernel
theorem dBA_climb_200 : decode cBA_climb 200 = .ok (.iload 14, 2) := by decide +kernel
theorem dBA_climb_202 : decode cBA_climb 202 = .ok (.iload_n 3, 1) := by decide +kernel
theorem dBA_climb_203 : decode cBA_climb 203 = .ok (.isub, 1) := by decide +kernel
theorem dBA_climb_204 : decode cBA_climb 204 = .ok (.aload_n 0, 1) := by decide +kernel
theorem dBA_climb_205 : decode cBA_climb 205 = .ok (.getfield 19, 3) := by decide +kernel
theorem dBA_climb_208 : decode cBA_climb 208 = .ok (.iadd, 1) := by decide +kernel
theorem dBA_climb_209 : decode cBA_climb 209 = .ok (.iload 8, 2) := by decide +kernel
theorem dBA_climb_211 : decode cBA_climb 211 = .ok (.imul, 1) := by decide +kernel
theorem dBA_climb_212 : decode cBA_climb 212 = .ok (.iload 13, 2) := by decide +kernel
theorem dBA_climb_214 : decode cBA_climb 214 = .ok (.iadd, 1) := by decide +kernel
theorem dBA_climb_215 : decode cBA_climb 215 = .ok (.iload_n 2, 1) := by decide +kernel
theorem dBA_climb_216 : decode cBA_climb 216 = .ok (.isub, 1) := by decide +kernel
theorem dBA_climb_217 : decode cBA_climb 217 = .ok (.aload_n 0, 1) := by decide +kernel
theorem dBA_climb_218 : decode cBA_climb 218 = .ok (.getfield 19, 3) := by decide +kernel
theorem dBA_climb_221 : decode cBA_climb 221 = .ok (.iadd, 1) := by decide +kernel
theorem dBA_climb_222 : decode cBA_climb 222 = .ok (.iaload, 1) := by decide +kernel
theorem dBA_climb_223 : decode cBA_climb 223 = .ok (.iadd, 1) := by decide +kernel
theorem dBA_climb_224 : decode cBA_climb 224 = .ok (.istore 15, 2) := by decide +kernel
theorem dBA_climb_226 : decode cBA_climb 226 = .ok (.iload 12, 2) := by decide +kernel
theorem dBA_climb_228 : decode cBA_climb 228 = .ok (.iload_n 3, 1) := by decide +kernel
theorem dBA_climb_229 : decode cBA_climb 229 = .ok (.isub, 1) := by decide +kernel
theorem dBA_climb_230 : decode cBA_climb 230 = .ok (.aload_n 0, 1) := by decide +kernel
theorem dBA_climb_231 : decode cBA_climb 231 = .ok (.getfield 19, 3) := by decide +kernel
theorem dBA_climb_234 : decode cBA_climb 234 = .ok (.iadd, 1) := by decide +kernel
theorem dBA_climb_235 : decode cBA_climb 235 = .ok (.iload 8, 2) := by decide +kernel
theorem dBA_climb_237 : decode cBA_climb 237 = .ok (.imul, 1) := by decide +kernel
theorem dBA_climb_238 : decode cBA_climb 238 = .ok (.aload_n 0, 1) := by decide +kernel
theorem dBA_climb_239 : decode cBA_climb 239 = .ok (.getfield 19, 3) := by decide +kernel
theorem dBA_climb_242 : decode cBA_climb 242 = .ok (.iadd, 1) := by decide +kernel
theorem dBA_climb_243 : decode cBA_climb 243 = .ok (.iload_n 2, 1) := by decide +kernel
theorem dBA_climb_244 : decode cBA_climb 244 = .ok (.isub, 1) := by decide +kernel
theorem dBA_climb_245 : decode cBA_climb 245 = .ok (.istore 16, 2) := by decide +kernel
theorem dBA_climb_247 : decode cBA_climb 247 = .ok (.iload 15, 2) := by decide +kernel
theorem dBA_climb_249 : decode cBA_climb 249 = .ok (.iload 4, 2) := by decide +kernel
theorem dBA_climb_251 : decode cBA_climb 251 = .ok (.if_icmp .le 8, 3) := by decide +kernel
theorem dBA_climb_254 : decode cBA_climb 254 = .ok (.iload 15, 2) := by decide +kernel
theorem dBA_climb_256 : decode cBA_climb 256 = .ok (.goto 5, 3) := by decide +kernel
theorem dBA_climb_259 : decode cBA_climb 259 = .ok (.iload 4, 2) := by decide +kernel
theorem dBA_climb_261 : decode cBA_climb 261 = .ok (.istore 17, 2) := by decide +kernel
theorem dBA_climb_263 : decode cBA_climb 263 = .ok (.iconst 0, 1) := by decide +kernel
theorem dBA_climb_264 : decode cBA_climb 264 = .ok (.istore 18, 2) := by decide +kernel
theorem dBA_climb_266 : decode cBA_climb 266 = .ok (.iload 12, 2) := by decide +kernel
theorem dBA_climb_268 : decode cBA_climb 268 = .ok (.istore 19, 2) := by decide +kernel
theorem dBA_climb_270 : decode cBA_climb 270 = .ok (.iload 19, 2) := by decide +kernel
theorem dBA_climb_272 : decode cBA_climb 272 = .ok (.iload 10, 2) := by decide +kernel
theorem dBA_climb_274 : decode cBA_climb 274 = .ok (.if_icmp .gt 112, 3) := by decide +kernel
theorem dBA_climb_277 : decode cBA_climb 277 = .ok (.aload 6, 2) := by decide +kernel
theorem dBA_climb_279 : decode cBA_climb 279 = .ok (.iload 19, 2) := by decide +kernel
theorem dBA_climb_281 : decode cBA_climb 281 = .ok (.iaload, 1) := by decide +kernel
theorem dBA_climb_282 : decode cBA_climb 282 = .ok (.aload 5, 2) := by decide +kernel
theorem dBA_climb_284 : decode cBA_climb 284 = .ok (.iload 16, 2) := by decide +kernel
theorem dBA_climb_286 : decode cBA_climb 286 = .ok (.iload 13, 2) := by decide +kernel
theorem dBA_climb_288 : decode cBA_climb 288 = .ok (.iadd, 1) := by decide +kernel
theorem dBA_climb_289 : decode cBA_climb 289 = .ok (.iaload, 1) := by decide +kernel
theorem dBA_climb_290 : decode cBA_climb 290 = .ok (.iadd, 1) := by decide +kernel
theorem dBA_climb_291 : decode cBA_climb 291 = .ok (.iload 17, 2) := by decide +kernel
theorem dBA_climb_293 : decode cBA_climb 293 = .ok (.if_icmp .lt 80, 3) := by decide +kernel
theorem dBA_climb_296 : decode cBA_climb 296 = .ok (.iload 11, 2) := by decide +kernel
theorem dBA_climb_298 : decode cBA_climb 298 = .ok (.istore 20, 2) := by decide +kernel
theorem dBA_climb_300 : decode cBA_climb 300 = .ok (.iload 20, 2) := by decide +kernel
theorem dBA_climb_302 : decode cBA_climb 302 = .ok (.iload 9, 2) := by decide +kernel
theorem dBA_climb_304 : decode cBA_climb 304 = .ok (.if_icmp .gt 69, 3) := by decide +kernel
theorem dBA_climb_307 : decode cBA_climb 307 = .ok (.aload_n 1, 1) := by decide +kernel
theorem dBA_climb_308 : decode cBA_climb 308 = .ok (.iload 19, 2) := by decide +kernel
theorem dBA_climb_310 : decode cBA_climb 310 = .ok (.iload 7, 2) := by decide +kernel
theorem dBA_climb_312 : decode cBA_climb 312 = .ok (.imul, 1) := by decide +kernel
theorem dBA_climb_313 : decode cBA_climb 313 = .ok (.iload 20, 2) := by decide +kernel
theorem dBA_climb_315 : decode cBA_climb 315 = .ok (.iadd, 1) := by decide +kernel
theorem dBA_climb_316 : decode cBA_climb 316 = .ok (.iaload, 1) := by decide +kernel
theorem dBA_climb_317 : decode cBA_climb 317 = .ok (.aload 5, 2) := by decide +kernel
theorem dBA_climb_319 : decode cBA_climb 319 = .ok (.iload 16, 2) := by decide +kernel
theorem dBA_climb_321 : decode cBA_climb 321 = .ok (.iload 20, 2) := by decide +kernel
theorem dBA_climb_323 : decode cBA_climb 323 = .ok (.iadd, 1) := by decide +kernel
theorem dBA_climb_324 : decode cBA_climb 324 = .ok (.iaload, 1) := by decide +kernel
theorem dBA_climb_325 : decode cBA_climb 325 = .ok (.iadd, 1) := by decide +kernel
theorem dBA_climb_326 : decode cBA_climb 326 = .ok (.istore 21, 2) := by decide +kernel
theorem dBA_climb_328 : decode cBA_climb 328 = .ok (.iload 21, 2) := by decide +kernel
theorem dBA_climb_330 : decode cBA_climb 330 = .ok (.iload 17, 2) := by decide +kernel
theorem dBA_climb_332 : decode cBA_climb 332 = .ok (.if_icmp .le 10, 3) := by decide +kernel
theorem dBA_climb_335 : decode cBA_climb 335 = .ok (.iload 21, 2) := by decide +kernel
theorem dBA_climb_337 : decode cBA_climb 337 = .ok (.istore 17, 2) := by decide +kernel
theorem dBA_climb_339 : decode cBA_climb 339 = .ok (.iconst 0, 1) := by decide +kernel
theorem dBA_climb_340 : decode cBA_climb 340 = .ok (.istore 18, 2) := by decide +kernel
theorem dBA_climb_342 : decode cBA_climb 342 = .ok (.iload 21, 2) := by decide +kernel
theorem dBA_climb_344 : decode cBA_climb 344 = .ok (.iload 17, 2) := by decide +kernel
theorem dBA_climb_346 : decode cBA_climb 346 = .ok (.if_icmp .ne 21, 3) := by decide +kernel
theorem dBA_climb_349 : decode cBA_climb 349 = .ok (.aload_n 0, 1) := by decide +kernel
theorem dBA_climb_350 : decode cBA_climb 350 = .ok (.getfield 55, 3) := by decide +kernel
theorem dBA_climb_353 : decode cBA_climb 353 = .ok (.iload 18, 2) := by decide +kernel
theorem dBA_climb_355 : decode cBA_climb 355 = .ok (.iload 19, 2) := by decide +kernel
theorem dBA_climb_357 : decode cBA_climb 357 = .ok (.iload 7, 2) := by decide +kernel
theorem dBA_climb_359 : decode cBA_climb 359 = .ok (.imul, 1) := by decide +kernel
theorem dBA_climb_360 : decode cBA_climb 360 = .ok (.iload 20, 2) := by decide +kernel
theorem dBA_climb_362 : decode cBA_climb 362 = .ok (.iadd, 1) := by decide +kernel
theorem dBA_climb_363 : decode cBA_climb 363 = .ok (.iastore, 1) := by decide +kernel
theorem dBA_climb_364 : decode cBA_climb 364 = .ok (.iinc 18 1, 3) := by decide +kernel
theorem dBA_climb_367 : decode cBA_climb 367 = .ok (.iinc 20 1, 3) := by decide +kernel
theorem dBA_climb_370 : decode cBA_climb 370 = .ok (.goto (-70), 3) := by decide +kernel
theorem dBA_climb_373 : decode cBA_climb 373 = .ok (.iload 16, 2) := by decide +kernel
theorem dBA_climb_375 : decode cBA_climb 375 = .ok (.iload 8, 2) := by decide +kernel
theorem dBA_climb_377 : decode cBA_climb 377 = .ok (.iadd, 1) := by decide +kernel
theorem dBA_climb_378 : decode cBA_climb 378 = .ok (.istore 16, 2) := by decide +kernel
theorem dBA_climb_380 : decode cBA_climb 380 = .ok (.iinc 19 1, 3) := by decide +kernel
theorem dBA_climb_383 : decode cBA_climb 383 = .ok (.goto (-113), 3) := by decide +kernel
theorem dBA_climb_386 : decode cBA_climb 386 = .ok (.aload_n 0, 1) := by decide +kernel
theorem dBA_climb_387 : decode cBA_climb 387 = .ok (.iload 18, 2) := by decide +kernel
theorem dBA_climb_389 : decode cBA_climb 389 = .ok (.putfield 9, 3) := by decide +kernel
theorem dBA_climb_392 : decode cBA_climb 392 = .ok (.iload 17, 2) := by decide +kernel
theorem dBA_climb_394 : decode cBA_climb 394 = .ok (.ireturn, 1) := by decide +kernel
theorem dBA_placeIndex_0 : decode cBA_placeIndex 0 = .ok (.iload_n 2, 1) := by decide +kernel
theorem dBA_placeIndex_1 : decode cBA_placeIndex 1 = .ok (.aload_n 0, 1) := by decide +kernel
theorem dBA_placeIndex_2 : decode cBA_placeIndex 2 = .ok (.getfield 19, 3) := by decide +kernel
theorem dBA_placeIndex_5 : decode cBA_placeIndex 5 = .ok (.iadd, 1) := by decide +kernel
theorem dBA_placeIndex_6 : decode cBA_placeIndex 6 = .ok (.aload_n 0, 1) := by decide +kernel
theorem dBA_placeIndex_7 : decode cBA_placeIndex 7 = .ok (.getfield 33, 3) := by decide +kernel
theorem dBA_placeIndex_10 : decode cBA_placeIndex 10 = .ok (.imul, 1) := by decide +kernel
theorem dBA_placeIndex_11 : decode cBA_placeIndex 11 = .ok (.iload_n 1, 1) := by decide +kernel
theorem dBA_placeIndex_12 : decode cBA_placeIndex 12 = .ok (.iadd, 1) := by decide +kernel
theorem dBA_placeIndex_13 : decode cBA_placeIndex 13 = .ok (.aload_n 0, 1) := by decide +kernel
theorem dBA_placeIndex_14 : decode cBA_placeIndex 14 = .ok (.getfield 19, 3) := by decide +kernel
theorem dBA_placeIndex_17 : decode cBA_placeIndex 17 = .ok (.iadd, 1) := by decide +kernel
theorem dBA_placeIndex_18 : decode cBA_placeIndex 18 = .ok (.ireturn, 1) := by decide +kernel
theorem dHO_init_0 : decode cHO_init 0 = .ok (.aload_n 0, 1) := by decide +kernel
theorem dHO_init_1 : decode cHO_init 1 = .ok (.invokespecial 1, 3) := by decide +kernel
theorem dHO_init_4 : decode cHO_init 4 = .ok (.aload_n 0, 1) := by decide +kernel
theorem dHO_init_5 : decode cHO_init 5 = .ok (.iload_n 1, 1) := by decide +kernel
theorem dHO_init_6 : decode cHO_init 6 = .ok (.putfield 7, 3) := by decide +kernel
theorem dHO_init_9 : decode cHO_init 9 = .ok (.aload_n 0, 1) := by decide +kernel
theorem dHO_init_10 : decode cHO_init 10 = .ok (.iload_n 2, 1) := by decide +kernel
theorem dHO_init_11 : decode cHO_init 11 = .ok (.putfield 13, 3) := by decide +kernel
theorem dHO_init_14 : decode cHO_init 14 = .ok (.aload_n 0, 1) := by decide +kernel
theorem dHO_init_15 : decode cHO_init 15 = .ok (.iload_n 1, 1) := by decide +kernel
theorem dHO_init_16 : decode cHO_init 16 = .ok (.iload_n 2, 1) := by decide +kernel
theorem dHO_init_17 : decode cHO_init 17 = .ok (.imul, 1) := by decide +kernel
theorem dHO_init_18 : decode cHO_init 18 = .ok (.putfield 16, 3) := by decide +kernel
theorem dHO_init_21 : decode cHO_init 21 = .ok (.aload_n 0, 1) := by decide +kernel
theorem dHO_init_22 : decode cHO_init 22 = .ok (.aload_n 0, 1) := by decide +kernel
theorem dHO_init_23 : decode cHO_init 23 = .ok (.getfield 16, 3) := by decide +kernel
theorem dHO_init_26 : decode cHO_init 26 = .ok (.newarray .int, 2) := by decide +kernel
theorem dHO_init_28 : decode cHO_init 28 = .ok (.putfield 19, 3) := by decide +kernel
theorem dHO_init_31 : decode cHO_init 31 = .ok (.aload_n 0, 1) := by decide +kernel
theorem dHO_init_32 : decode cHO_init 32 = .ok (.aload_n 0, 1) := by decide +kernel
theorem dHO_init_33 : decode cHO_init 33 = .ok (.getfield 16, 3) := by decide +kernel
theorem dHO_init_36 : decode cHO_init 36 = .ok (.newarray .int, 2) := by decide +kernel
theorem dHO_init_38 : decode cHO_init 38 = .ok (.putfield 23, 3) := by decide +kernel
theorem dHO_init_41 : decode cHO_init 41 = .ok (.aload_n 0, 1) := by decide +kernel
theorem dHO_init_42 : decode cHO_init 42 = .ok (.aload_n 0, 1) := by decide +kernel
theorem dHO_init_43 : decode cHO_init 43 = .ok (.getfield 16, 3) := by decide +kernel
theorem dHO_init_46 : decode cHO_init 46 = .ok (.newarray .int, 2) := by decide +kernel
theorem dHO_init_48 : decode cHO_init 48 = .ok (.putfield 26, 3) := by decide +kernel
theorem dHO_init_51 : decode cHO_init 51 = .ok (.aload_n 0, 1) := by decide +kernel
theorem dHO_init_52 : decode cHO_init 52 = .ok (.aload_n 0, 1) := by decide +kernel
theorem dHO_init_53 : decode cHO_init 53 = .ok (.getfield 16, 3) := by decide +kernel
theorem dHO_init_56 : decode cHO_init 56 = .ok (.newarray .int, 2) := by decide +kernel
theorem dHO_init_58 : decode cHO_init 58 = .ok (.putfield 29, 3) := by decide +kernel
theorem dHO_init_61 : decode cHO_init 61 = .ok (.aload_n 0, 1) := by decide +kernel
theorem dHO_init_62 : decode cHO_init 62 = .ok (.aload_n 0, 1) := by decide +kernel
theorem dHO_init_63 : decode cHO_init 63 = .ok (.getfield 16, 3) := by decide +kernel
theorem dHO_init_66 : decode cHO_init 66 = .ok (.newarray .int, 2) := by decide +kernel
theorem dHO_init_68 : decode cHO_init 68 = .ok (.putfield 32, 3) := by decide +kernel
theorem dHO_init_71 : decode cHO_init 71 = .ok (.aload_n 0, 1) := by decide +kernel
theorem dHO_init_72 : decode cHO_init 72 = .ok (.iload_n 2, 1) := by decide +kernel
theorem dHO_init_73 : decode cHO_init 73 = .ok (.newarray .int, 2) := by decide +kernel
theorem dHO_init_75 : decode cHO_init 75 = .ok (.putfield 35, 3) := by decide +kernel
theorem dHO_init_78 : decode cHO_init 78 = .ok (.iconst 0, 1) := by decide +kernel
theorem dHO_init_79 : decode cHO_init 79 = .ok (.istore_n 3, 1) := by decide +kernel
theorem dHO_init_80 : decode cHO_init 80 = .ok (.iload_n 3, 1) := by decide +kernel
theorem dHO_init_81 : decode cHO_init 81 = .ok (.iload_n 2, 1) := by decide +kernel
theorem dHO_init_82 : decode cHO_init 82 = .ok (.if_icmp .ge 49, 3) := by decide +kernel
theorem dHO_init_85 : decode cHO_init 85 = .ok (.iconst 0, 1) := by decide +kernel
theorem dHO_init_86 : decode cHO_init 86 = .ok (.istore 4, 2) := by decide +kernel
theorem dHO_init_88 : decode cHO_init 88 = .ok (.iload 4, 2) := by decide +kernel
theorem dHO_init_90 : decode cHO_init 90 = .ok (.iload_n 1, 1) := by decide +kernel
theorem dHO_init_91 : decode cHO_init 91 = .ok (.if_icmp .ge 34, 3) := by decide +kernel
theorem dHO_init_94 : decode cHO_init 94 = .ok (.aload_n 0, 1) := by decide +kernel
theorem dHO_init_95 : decode cHO_init 95 = .ok (.getfield 19, 3) := by decide +kernel
theorem dHO_init_98 : decode cHO_init 98 = .ok (.iload_n 3, 1) := by decide +kernel
theorem dHO_init_99 : decode cHO_init 99 = .ok (.iload_n 1, 1) := by decide +kernel
theorem dHO_init_100 : decode cHO_init 100 = .ok (.imul, 1) := by decide +kernel
theorem dHO_init_101 : decode cHO_init 101 = .ok (.iload 4, 2) := by decide +kernel
theorem dHO_init_103 : decode cHO_init 103 = .ok (.iadd, 1) := by decide +kernel
theorem dHO_init_104 : decode cHO_init 104 = .ok (.iload 4, 2) := by decide +kernel
theorem dHO_init_106 : decode cHO_init 106 = .ok (.iastore, 1) := by decide +kernel
theorem dHO_init_107 : decode cHO_init 107 = .ok (.aload_n 0, 1) := by decide +kernel
theorem dHO_init_108 : decode cHO_init 108 = .ok (.getfield 23, 3) := by decide +kernel
theorem dHO_init_111 : decode cHO_init 111 = .ok (.iload_n 3, 1) := by decide +kernel
theorem dHO_init_112 : decode cHO_init 112 = .ok (.iload_n 1, 1) := by decide +kernel
theorem dHO_init_113 : decode cHO_init 113 = .ok (.imul, 1) := by decide +kernel
theorem dHO_init_114 : decode cHO_init 114 = .ok (.iload 4, 2) := by decide +kernel
theorem dHO_init_116 : decode cHO_init 116 = .ok (.iadd, 1) := by decide +kernel
theorem dHO_init_117 : decode cHO_init 117 = .ok (.iload_n 3, 1) := by decide +kernel
theorem dHO_init_118 : decode cHO_init 118 = .ok (.iastore, 1) := by decide +kernel
theorem dHO_init_119 : decode cHO_init 119 = .ok (.iinc 4 1, 3) := by decide +kernel
theorem dHO_init_122 : decode cHO_init 122 = .ok (.goto (-34), 3) := by decide +kernel
theorem dHO_init_125 : decode cHO_init 125 = .ok (.iinc 3 1, 3) := by decide +kernel
theorem dHO_init_128 : decode cHO_init 128 = .ok (.goto (-48), 3) := by decide +kernel
theorem dHO_init_131 : decode cHO_init 131 = .ok (.return_, 1) := by decide +kernel
theorem dHO_tipWith_0 : decode cHO_tipWith 0 = .ok (.aload_n 0, 1) := by decide +kernel
theorem dHO_tipWith_1 : decode cHO_tipWith 1 = .ok (.getfield 26, 3) := by decide +kernel
theorem dHO_tipWith_4 : decode cHO_tipWith 4 = .ok (.iload_n 1, 1) := by decide +kernel
theorem dHO_tipWith_5 : decode cHO_tipWith 5 = .ok (.iaload, 1) := by decide +kernel
theorem dHO_tipWith_6 : decode cHO_tipWith 6 = .ok (.iload_n 2, 1) := by decide +kernel
theorem dHO_tipWith_7 : decode cHO_tipWith 7 = .ok (.iadd, 1) := by decide +kernel
theorem dHO_tipWith_8 : decode cHO_tipWith 8 = .ok (.ldc 40, 2) := by decide +kernel
theorem dHO_tipWith_10 : decode cHO_tipWith 10 = .ok (.imul, 1) := by decide +kernel
theorem dHO_tipWith_11 : decode cHO_tipWith 11 = .ok (.ireturn, 1) := by decide +kernel
theorem dHO_setTip_0 : decode cHO_setTip 0 = .ok (.aload_n 0, 1) := by decide +kernel
theorem dHO_setTip_1 : decode cHO_setTip 1 = .ok (.getfield 32, 3) := by decide +kernel
theorem dHO_setTip_4 : decode cHO_setTip 4 = .ok (.iload_n 1, 1) := by decide +kernel
theorem dHO_setTip_5 : decode cHO_setTip 5 = .ok (.iload_n 2, 1) := by decide +kernel
theorem dHO_setTip_6 : decode cHO_setTip 6 = .ok (.iastore, 1) := by decide +kernel
theorem dHO_setTip_7 : decode cHO_setTip 7 = .ok (.aload_n 0, 1) := by decide +kernel
theorem dHO_setTip_8 : decode cHO_setTip 8 = .ok (.getfield 23, 3) := by decide +kernel
theorem dHO_setTip_11 : decode cHO_setTip 11 = .ok (.iload_n 1, 1) := by decide +kernel
theorem dHO_setTip_12 : decode cHO_setTip 12 = .ok (.iaload, 1) := by decide +kernel
theorem dHO_setTip_13 : decode cHO_setTip 13 = .ok (.istore_n 3, 1) := by decide +kernel
theorem dHO_setTip_14 : decode cHO_setTip 14 = .ok (.iconst 0, 1) := by decide +kernel
theorem dHO_setTip_15 : decode cHO_setTip 15 = .ok (.istore 4, 2) := by decide +kernel
theorem dHO_setTip_17 : decode cHO_setTip 17 = .ok (.iload_n 3, 1) := by decide +kernel
theorem dHO_setTip_18 : decode cHO_setTip 18 = .ok (.aload_n 0, 1) := by decide +kernel
theorem dHO_setTip_19 : decode cHO_setTip 19 = .ok (.getfield 7, 3) := by decide +kernel
theorem dHO_setTip_22 : decode cHO_setTip 22 = .ok (.imul, 1) := by decide +kernel
theorem dHO_setTip_23 : decode cHO_setTip 23 = .ok (.istore 5, 2) := by decide +kernel
theorem dHO_setTip_25 : decode cHO_setTip 25 = .ok (.iload 5, 2) := by decide +kernel
theorem dHO_setTip_27 : decode cHO_setTip 27 = .ok (.iload_n 3, 1) := by decide +kernel
theorem dHO_setTip_28 : decode cHO_setTip 28 = .ok (.aload_n 0, 1) := by decide +kernel
theorem dHO_setTip_29 : decode cHO_setTip 29 = .ok (.getfield 7, 3) := by decide +kernel
theorem dHO_setTip_32 : decode cHO_setTip 32 = .ok (.imul, 1) := by decide +kernel
theorem dHO_setTip_33 : decode cHO_setTip 33 = .ok (.aload_n 0, 1) := by decide +kernel
theorem dHO_setTip_34 : decode cHO_setTip 34 = .ok (.getfield 7, 3) := by decide +kernel
theorem dHO_setTip_37 : decode cHO_setTip 37 = .ok (.iadd, 1) := by decide +kernel
theorem dHO_setTip_38 : decode cHO_setTip 38 = .ok (.if_icmp .ge 23, 3) := by decide +kernel
theorem dHO_setTip_41 : decode cHO_setTip 41 = .ok (.iload 4, 2) := by decide +kernel
theorem dHO_setTip_43 : decode cHO_setTip 43 = .ok (.aload_n 0, 1) := by decide +kernel
theorem dHO_setTip_44 : decode cHO_setTip 44 = .ok (.getfield 32, 3) := by decide +kernel
theorem dHO_setTip_47 : decode cHO_setTip 47 = .ok (.iload 5, 2) := by decide +kernel
theorem dHO_setTip_49 : decode cHO_setTip 49 = .ok (.iaload, 1) := by decide +kernel
theorem dHO_setTip_50 : decode cHO_setTip 50 = .ok (.invokestatic 41, 3) := by decide +kernel
theorem dHO_setTip_53 : decode cHO_setTip 53 = .ok (.istore 4, 2) := by decide +kernel
theorem dHO_setTip_55 : decode cHO_setTip 55 = .ok (.iinc 5 1, 3) := by decide +kernel
theorem dHO_setTip_58 : decode cHO_setTip 58 = .ok (.goto (-33), 3) := by decide +kernel
theorem dHO_setTip_61 : decode cHO_setTip 61 = .ok (.aload_n 0, 1) := by decide +kernel
theorem dHO_setTip_62 : decode cHO_setTip 62 = .ok (.getfield 35, 3) := by decide +kernel
theorem dHO_setTip_65 : decode cHO_setTip 65 = .ok (.iload_n 3, 1) := by decide +kernel
theorem dHO_setTip_66 : decode cHO_setTip 66 = .ok (.iload 4, 2) := by decide +kernel
theorem dHO_setTip_68 : decode cHO_setTip 68 = .ok (.iastore, 1) := by decide +kernel
theorem dHO_setTip_69 : decode cHO_setTip 69 = .ok (.return_, 1) := by decide +kernel
theorem dLE_floor_0 : decode cLE_floor 0 = .ok (.iload_n 0, 1) := by decide +kernel
theorem dLE_floor_1 : decode cLE_floor 1 = .ok (.bipush 20, 2) := by decide +kernel
theorem dLE_floor_3 : decode cLE_floor 3 = .ok (.ishr, 1) := by decide +kernel
theorem dLE_floor_4 : decode cLE_floor 4 = .ok (.ireturn, 1) := by decide +kernel
theorem dLE_isWhole_0 : decode cLE_isWhole 0 = .ok (.iload_n 0, 1) := by decide +kernel
theorem dLE_isWhole_1 : decode cLE_isWhole 1 = .ok (.invokestatic 9, 3) := by decide +kernel
theorem dLE_isWhole_4 : decode cLE_isWhole 4 = .ok (.ldc 13, 2) := by decide +kernel
theorem dLE_isWhole_6 : decode cLE_isWhole 6 = .ok (.imul, 1) := by decide +kernel
theorem dLE_isWhole_7 : decode cLE_isWhole 7 = .ok (.iload_n 0, 1) := by decide +kernel
theorem dLE_isWhole_8 : decode cLE_isWhole 8 = .ok (.if_icmp .ne 7, 3) := by decide +kernel
theorem dLE_isWhole_11 : decode cLE_isWhole 11 = .ok (.iconst 1, 1) := by decide +kernel
theorem dLE_isWhole_12 : decode cLE_isWhole 12 = .ok (.goto 4, 3) := by decide +kernel
theorem dLE_isWhole_15 : decode cLE_isWhole 15 = .ok (.iconst 0, 1) := by decide +kernel
theorem dLE_isWhole_16 : decode cLE_isWhole 16 = .ok (.ireturn, 1) := by decide +kernel
theorem dPL_init_0 : decode cPL_init 0 = .ok (.aload_n 0, 1) := by decide +kernel
theorem dPL_init_1 : decode cPL_init 1 = .ok (.invokespecial 5, 3) := by decide +kernel
theorem dPL_init_4 : decode cPL_init 4 = .ok (.aload_n 0, 1) := by decide +kernel
theorem dPL_init_5 : decode cPL_init 5 = .ok (.iconst 4, 1) := by decide +kernel
theorem dPL_init_6 : decode cPL_init 6 = .ok (.newarray .int, 2) := by decide +kernel
theorem dPL_init_8 : decode cPL_init 8 = .ok (.putfield 11, 3) := by decide +kernel
theorem dPL_init_11 : decode cPL_init 11 = .ok (.aload_n 0, 1) := by decide +kernel
theorem dPL_init_12 : decode cPL_init 12 = .ok (.iconst 4, 1) := by decide +kernel
theorem dPL_init_13 : decode cPL_init 13 = .ok (.newarray .int, 2) := by decide +kernel
theorem dPL_init_15 : decode cPL_init 15 = .ok (.putfield 15, 3) := by decide +kernel
theorem dPL_init_18 : decode cPL_init 18 = .ok (.aload_n 0, 1) := by decide +kernel
theorem dPL_init_19 : decode cPL_init 19 = .ok (.iconst 0, 1) := by decide +kernel
theorem dPL_init_20 : decode cPL_init 20 = .ok (.putfield 18, 3) := by decide +kernel
theorem dPL_init_23 : decode cPL_init 23 = .ok (.aload_n 0, 1) := by decide +kernel
theorem dPL_init_24 : decode cPL_init 24 = .ok (.bipush 8, 2) := by decide +kernel
theorem dPL_init_26 : decode cPL_init 26 = .ok (.newarray .int, 2) := by decide +kernel
theorem dPL_init_28 : decode cPL_init 28 = .ok (.putfield 22, 3) := by decide +kernel
theorem dPL_init_31 : decode cPL_init 31 = .ok (.aload_n 0, 1) := by decide +kernel
theorem dPL_init_32 : decode cPL_init 32 = .ok (.bipush 8, 2) := by decide +kernel
theorem dPL_init_34 : decode cPL_init 34 = .ok (.newarray .int, 2) := by decide +kernel
theorem dPL_init_36 : decode cPL_init 36 = .ok (.putfield 25, 3) := by decide +kernel
theorem dPL_init_39 : decode cPL_init 39 = .ok (.aload_n 0, 1) := by decide +kernel
theorem dPL_init_40 : decode cPL_init 40 = .ok (.bipush 8, 2) := by decide +kernel
theorem dPL_init_42 : decode cPL_init 42 = .ok (.newarray .int, 2) := by decide +kernel
theorem dPL_init_44 : decode cPL_init 44 = .ok (.putfield 28, 3) := by decide +kernel
theorem dPL_init_47 : decode cPL_init 47 = .ok (.aload_n 0, 1) := by decide +kernel
theorem dPL_init_48 : decode cPL_init 48 = .ok (.iconst 0, 1) := by decide +kernel
theorem dPL_init_49 : decode cPL_init 49 = .ok (.putfield 31, 3) := by decide +kernel
theorem dPL_init_52 : decode cPL_init 52 = .ok (.aload_n 0, 1) := by decide +kernel
theorem dPL_init_53 : decode cPL_init 53 = .ok (.iconst 0, 1) := by decide +kernel
theorem dPL_init_54 : decode cPL_init 54 = .ok (.putfield 34, 3) := by decide +kernel
theorem dPL_init_57 : decode cPL_init 57 = .ok (.aload_n 0, 1) := by decide +kernel
theorem dPL_init_58 : decode cPL_init 58 = .ok (.aload_n 1, 1) := by decide +kernel
theorem dPL_init_59 : decode cPL_init 59 = .ok (.putfield 37, 3) := by decide +kernel
theorem dPL_init_62 : decode cPL_init 62 = .ok (.aload_n 0, 1) := by decide +kernel
theorem dPL_init_63 : decode cPL_init 63 = .ok (.aload_n 2, 1) := by decide +kernel
theorem dPL_init_64 : decode cPL_init 64 = .ok (.putfield 41, 3) := by decide +kernel
theorem dPL_init_67 : decode cPL_init 67 = .ok (.aload_n 0, 1) := by decide +kernel
theorem dPL_init_68 : decode cPL_init 68 = .ok (.aload_n 1, 1) := by decide +kernel
theorem dPL_init_69 : decode cPL_init 69 = .ok (.getfield 45, 3) := by decide +kernel
theorem dPL_init_72 : decode cPL_init 72 = .ok (.newarray .boolean, 2) := by decide +kernel
theorem dPL_init_74 : decode cPL_init 74 = .ok (.putfield 50, 3) := by decide +kernel
theorem dPL_init_77 : decode cPL_init 77 = .ok (.aload_n 0, 1) := by decide +kernel
theorem dPL_init_78 : decode cPL_init 78 = .ok (.aload_n 1, 1) := by decide +kernel
theorem dPL_init_79 : decode cPL_init 79 = .ok (.getfield 45, 3) := by decide +kernel
theorem dPL_init_82 : decode cPL_init 82 = .ok (.newarray .int, 2) := by decide +kernel
theorem dPL_init_84 : decode cPL_init 84 = .ok (.putfield 54, 3) := by decide +kernel
theorem dPL_init_87 : decode cPL_init 87 = .ok (.return_, 1) := by decide +kernel
theorem dPL_holds_0 : decode cPL_holds 0 = .ok (.iload_n 0, 1) := by decide +kernel
theorem dPL_holds_1 : decode cPL_holds 1 = .ok (.iload_n 1, 1) := by decide +kernel
theorem dPL_holds_2 : decode cPL_holds 2 = .ok (.ishr, 1) := by decide +kernel
theorem dPL_holds_3 : decode cPL_holds 3 = .ok (.iconst 1, 1) := by decide +kernel
theorem dPL_holds_4 : decode cPL_holds 4 = .ok (.iand, 1) := by decide +kernel
theorem dPL_holds_5 : decode cPL_holds 5 = .ok (.iconst 1, 1) := by decide +kernel
theorem dPL_holds_6 : decode cPL_holds 6 = .ok (.if_icmp .ne 7, 3) := by decide +kernel
theorem dPL_holds_9 : decode cPL_holds 9 = .ok (.iconst 1, 1) := by decide +kernel
theorem dPL_holds_10 : decode cPL_holds 10 = .ok (.goto 4, 3) := by decide +kernel
theorem dPL_holds_13 : decode cPL_holds 13 = .ok (.iconst 0, 1) := by decide +kernel
theorem dPL_holds_14 : decode cPL_holds 14 = .ok (.ireturn, 1) := by decide +kernel
theorem dPL_isFull_0 : decode cPL_isFull 0 = .ok (.aload_n 0, 1) := by decide +kernel
theorem dPL_isFull_1 : decode cPL_isFull 1 = .ok (.getfield 18, 3) := by decide +kernel
theorem dPL_isFull_4 : decode cPL_isFull 4 = .ok (.iconst 4, 1) := by decide +kernel
theorem dPL_isFull_5 : decode cPL_isFull 5 = .ok (.if_icmp .lt 7, 3) := by decide +kernel
theorem dPL_isFull_8 : decode cPL_isFull 8 = .ok (.iconst 1, 1) := by decide +kernel
theorem dPL_isFull_9 : decode cPL_isFull 9 = .ok (.goto 4, 3) := by decide +kernel
theorem dPL_isFull_12 : decode cPL_isFull 12 = .ok (.iconst 0, 1) := by decide +kernel
theorem dPL_isFull_13 : decode cPL_isFull 13 = .ok (.ireturn, 1) := by decide +kernel
theorem dPL_add_0 : decode cPL_add 0 = .ok (.aload_n 0, 1) := by decide +kernel
theorem dPL_add_1 : decode cPL_add 1 = .ok (.getfield 11, 3) := by decide +kernel
theorem dPL_add_4 : decode cPL_add 4 = .ok (.aload_n 0, 1) := by decide +kernel
theorem dPL_add_5 : decode cPL_add 5 = .ok (.getfield 18, 3) := by decide +kernel
theorem dPL_add_8 : decode cPL_add 8 = .ok (.iload_n 1, 1) := by decide +kernel
theorem dPL_add_9 : decode cPL_add 9 = .ok (.iastore, 1) := by decide +kernel
theorem dPL_add_10 : decode cPL_add 10 = .ok (.aload_n 0, 1) := by decide +kernel
theorem dPL_add_11 : decode cPL_add 11 = .ok (.getfield 15, 3) := by decide +kernel
theorem dPL_add_14 : decode cPL_add 14 = .ok (.aload_n 0, 1) := by decide +kernel
theorem dPL_add_15 : decode cPL_add 15 = .ok (.getfield 18, 3) := by decide +kernel
theorem dPL_add_18 : decode cPL_add 18 = .ok (.iload_n 2, 1) := by decide +kernel
theorem dPL_add_19 : decode cPL_add 19 = .ok (.iastore, 1) := by decide +kernel
theorem dPL_add_20 : decode cPL_add 20 = .ok (.aload_n 0, 1) := by decide +kernel
theorem dPL_add_21 : decode cPL_add 21 = .ok (.dup, 1) := by decide +kernel
theorem dPL_add_22 : decode cPL_add 22 = .ok (.getfield 18, 3) := by decide +kernel
theorem dPL_add_25 : decode cPL_add 25 = .ok (.iconst 1, 1) := by decide +kernel
theorem dPL_add_26 : decode cPL_add 26 = .ok (.iadd, 1) := by decide +kernel
theorem dPL_add_27 : decode cPL_add 27 = .ok (.putfield 18, 3) := by decide +kernel
theorem dPL_add_30 : decode cPL_add 30 = .ok (.return_, 1) := by decide +kernel
theorem dPL_bestSet_0 : decode cPL_bestSet 0 = .ok (.aload_n 0, 1) := by decide +kernel
theorem dPL_bestSet_1 : decode cPL_bestSet 1 = .ok (.invokevirtual 57, 3) := by decide +kernel
theorem dPL_bestSet_4 : decode cPL_bestSet 4 = .ok (.ifCond .eq 5, 3) := by decide +kernel
theorem dPL_bestSet_7 : decode cPL_bestSet 7 = .ok (.iconst 0, 1) := by decide +kernel
theorem dPL_bestSet_8 : decode cPL_bestSet 8 = .ok (.ireturn, 1) := by decide +kernel
theorem dPL_bestSet_9 : decode cPL_bestSet 9 = .ok (.aload_n 0, 1) := by decide +kernel
theorem dPL_bestSet_10 : decode cPL_bestSet 10 = .ok (.invokevirtual 61, 3) := by decide +kernel
theorem dPL_bestSet_13 : decode cPL_bestSet 13 = .ok (.aload_n 0, 1) := by decide +kernel
theorem dPL_bestSet_14 : decode cPL_bestSet 14 = .ok (.invokevirtual 64, 3) := by decide +kernel
theorem dPL_bestSet_17 : decode cPL_bestSet 17 = .ok (.iconst 1, 1) := by decide +kernel
theorem dPL_bestSet_18 : decode cPL_bestSet 18 = .ok (.iconst 1, 1) := by decide +kernel
theorem dPL_bestSet_19 : decode cPL_bestSet 19 = .ok (.aload_n 0, 1) := by decide +kernel
theorem dPL_bestSet_20 : decode cPL_bestSet 20 = .ok (.getfield 18, 3) := by decide +kernel
theorem dPL_bestSet_23 : decode cPL_bestSet 23 = .ok (.ishl, 1) := by decide +kernel
theorem dPL_bestSet_24 : decode cPL_bestSet 24 = .ok (.ishl, 1) := by decide +kernel
theorem dPL_bestSet_25 : decode cPL_bestSet 25 = .ok (.iconst 1, 1) := by decide +kernel
theorem dPL_bestSet_26 : decode cPL_bestSet 26 = .ok (.isub, 1) := by decide +kernel
theorem dPL_bestSet_27 : decode cPL_bestSet 27 = .ok (.istore_n 1, 1) := by decide +kernel
theorem dPL_bestSet_28 : decode cPL_bestSet 28 = .ok (.iconst 0, 1) := by decide +kernel
theorem dPL_bestSet_29 : decode cPL_bestSet 29 = .ok (.istore_n 2, 1) := by decide +kernel
theorem dPL_bestSet_30 : decode cPL_bestSet 30 = .ok (.iload_n 2, 1) := by decide +kernel
theorem dPL_bestSet_31 : decode cPL_bestSet 31 = .ok (.aload_n 0, 1) := by decide +kernel
theorem dPL_bestSet_32 : decode cPL_bestSet 32 = .ok (.getfield 37, 3) := by decide +kernel
theorem dPL_bestSet_35 : decode cPL_bestSet 35 = .ok (.getfield 45, 3) := by decide +kernel
theorem dPL_bestSet_38 : decode cPL_bestSet 38 = .ok (.if_icmp .ge 46, 3) := by decide +kernel
theorem dPL_bestSet_41 : decode cPL_bestSet 41 = .ok (.iload_n 1, 1) := by decide +kernel
theorem dPL_bestSet_42 : decode cPL_bestSet 42 = .ok (.ifCond .eq 42, 3) := by decide +kernel
theorem dPL_bestSet_45 : decode cPL_bestSet 45 = .ok (.aload_n 0, 1) := by decide +kernel
theorem dPL_bestSet_46 : decode cPL_bestSet 46 = .ok (.getfield 50, 3) := by decide +kernel
theorem dPL_bestSet_49 : decode cPL_bestSet 49 = .ok (.iload_n 2, 1) := by decide +kernel
theorem dPL_bestSet_50 : decode cPL_bestSet 50 = .ok (.baload, 1) := by decide +kernel
theorem dPL_bestSet_51 : decode cPL_bestSet 51 = .ok (.ifCond .eq 27, 3) := by decide +kernel
theorem dPL_bestSet_54 : decode cPL_bestSet 54 = .ok (.aload_n 0, 1) := by decide +kernel
theorem dPL_bestSet_55 : decode cPL_bestSet 55 = .ok (.iload_n 2, 1) := by decide +kernel
theorem dPL_bestSet_56 : decode cPL_bestSet 56 = .ok (.invokevirtual 67, 3) := by decide +kernel
theorem dPL_bestSet_59 : decode cPL_bestSet 59 = .ok (.ifCond .eq 12, 3) := by decide +kernel
theorem dPL_bestSet_62 : decode cPL_bestSet 62 = .ok (.aload_n 0, 1) := by decide +kernel
theorem dPL_bestSet_63 : decode cPL_bestSet 63 = .ok (.iload_n 2, 1) := by decide +kernel
theorem dPL_bestSet_64 : decode cPL_bestSet 64 = .ok (.iload_n 1, 1) := by decide +kernel
theorem dPL_bestSet_65 : decode cPL_bestSet 65 = .ok (.invokevirtual 71, 3) := by decide +kernel
theorem dPL_bestSet_68 : decode cPL_bestSet 68 = .ok (.goto 9, 3) := by decide +kernel
theorem dPL_bestSet_71 : decode cPL_bestSet 71 = .ok (.aload_n 0, 1) := by decide +kernel
theorem dPL_bestSet_72 : decode cPL_bestSet 72 = .ok (.iload_n 2, 1) := by decide +kernel
theorem dPL_bestSet_73 : decode cPL_bestSet 73 = .ok (.iload_n 1, 1) := by decide +kernel
theorem dPL_bestSet_74 : decode cPL_bestSet 74 = .ok (.invokevirtual 75, 3) := by decide +kernel
theorem dPL_bestSet_77 : decode cPL_bestSet 77 = .ok (.istore_n 1, 1) := by decide +kernel
theorem dPL_bestSet_78 : decode cPL_bestSet 78 = .ok (.iinc 2 1, 3) := by decide +kernel
theorem dPL_bestSet_81 : decode cPL_bestSet 81 = .ok (.goto (-51), 3) := by decide +kernel
theorem dPL_bestSet_84 : decode cPL_bestSet 84 = .ok (.aload_n 0, 1) := by decide +kernel
theorem dPL_bestSet_85 : decode cPL_bestSet 85 = .ok (.iload_n 1, 1) := by decide +kernel
theorem dPL_bestSet_86 : decode cPL_bestSet 86 = .ok (.aload_n 0, 1) := by decide +kernel
theorem dPL_bestSet_87 : decode cPL_bestSet 87 = .ok (.getfield 34, 3) := by decide +kernel
theorem dPL_bestSet_90 : decode cPL_bestSet 90 = .ok (.iconst (-1), 1) := by decide +kernel
theorem dPL_bestSet_91 : decode cPL_bestSet 91 = .ok (.ixor, 1) := by decide +kernel
theorem dPL_bestSet_92 : decode cPL_bestSet 92 = .ok (.iand, 1) := by decide +kernel
theorem dPL_bestSet_93 : decode cPL_bestSet 93 = .ok (.invokevirtual 78, 3) := by decide +kernel
theorem dPL_bestSet_96 : decode cPL_bestSet 96 = .ok (.istore_n 2, 1) := by decide +kernel
theorem dPL_bestSet_97 : decode cPL_bestSet 97 = .ok (.aload_n 0, 1) := by decide +kernel
theorem dPL_bestSet_98 : decode cPL_bestSet 98 = .ok (.iload_n 2, 1) := by decide +kernel
theorem dPL_bestSet_99 : decode cPL_bestSet 99 = .ok (.iload_n 1, 1) := by decide +kernel
theorem dPL_bestSet_100 : decode cPL_bestSet 100 = .ok (.aload_n 0, 1) := by decide +kernel
theorem dPL_bestSet_101 : decode cPL_bestSet 101 = .ok (.getfield 34, 3) := by decide +kernel
theorem dPL_bestSet_104 : decode cPL_bestSet 104 = .ok (.iand, 1) := by decide +kernel
theorem dPL_bestSet_105 : decode cPL_bestSet 105 = .ok (.invokevirtual 82, 3) := by decide +kernel
theorem dPL_bestSet_108 : decode cPL_bestSet 108 = .ok (.istore_n 1, 1) := by decide +kernel
theorem dPL_bestSet_109 : decode cPL_bestSet 109 = .ok (.iconst 0, 1) := by decide +kernel
theorem dPL_bestSet_110 : decode cPL_bestSet 110 = .ok (.istore_n 3, 1) := by decide +kernel
theorem dPL_bestSet_111 : decode cPL_bestSet 111 = .ok (.iload_n 3, 1) := by decide +kernel
theorem dPL_bestSet_112 : decode cPL_bestSet 112 = .ok (.aload_n 0, 1) := by decide +kernel
theorem dPL_bestSet_113 : decode cPL_bestSet 113 = .ok (.getfield 37, 3) := by decide +kernel
theorem dPL_bestSet_116 : decode cPL_bestSet 116 = .ok (.getfield 45, 3) := by decide +kernel
theorem dPL_bestSet_119 : decode cPL_bestSet 119 = .ok (.if_icmp .ge 38, 3) := by decide +kernel
theorem dPL_bestSet_122 : decode cPL_bestSet 122 = .ok (.iload_n 1, 1) := by decide +kernel
theorem dPL_bestSet_123 : decode cPL_bestSet 123 = .ok (.ifCond .eq 34, 3) := by decide +kernel
theorem dPL_bestSet_126 : decode cPL_bestSet 126 = .ok (.aload_n 0, 1) := by decide +kernel
theorem dPL_bestSet_127 : decode cPL_bestSet 127 = .ok (.getfield 54, 3) := by decide +kernel
