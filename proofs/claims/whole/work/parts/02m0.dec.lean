theorem dX11_init_0 : decode cX11_init 0 = .ok (.aload_n 0, 1) := by decide +kernel
theorem dX11_init_1 : decode cX11_init 1 = .ok (.invokespecial 1, 3) := by decide +kernel
theorem dX11_init_4 : decode cX11_init 4 = .ok (.aload_n 0, 1) := by decide +kernel
theorem dX11_init_5 : decode cX11_init 5 = .ok (.sipush 3000, 3) := by decide +kernel
theorem dX11_init_8 : decode cX11_init 8 = .ok (.newarray .byte, 2) := by decide +kernel
theorem dX11_init_10 : decode cX11_init 10 = .ok (.putfield 7, 3) := by decide +kernel
theorem dX11_init_13 : decode cX11_init 13 = .ok (.aload_n 0, 1) := by decide +kernel
theorem dX11_init_14 : decode cX11_init 14 = .ok (.bipush 16, 2) := by decide +kernel
theorem dX11_init_16 : decode cX11_init 16 = .ok (.newarray .byte, 2) := by decide +kernel
theorem dX11_init_18 : decode cX11_init 18 = .ok (.putfield 13, 3) := by decide +kernel
theorem dX11_init_21 : decode cX11_init 21 = .ok (.aload_n 0, 1) := by decide +kernel
theorem dX11_init_22 : decode cX11_init 22 = .ok (.sipush 960, 3) := by decide +kernel
theorem dX11_init_25 : decode cX11_init 25 = .ok (.newarray .byte, 2) := by decide +kernel
theorem dX11_init_27 : decode cX11_init 27 = .ok (.putfield 16, 3) := by decide +kernel
theorem dX11_init_30 : decode cX11_init 30 = .ok (.aload_n 0, 1) := by decide +kernel
theorem dX11_init_31 : decode cX11_init 31 = .ok (.bipush 60, 2) := by decide +kernel
theorem dX11_init_33 : decode cX11_init 33 = .ok (.newarray .int, 2) := by decide +kernel
theorem dX11_init_35 : decode cX11_init 35 = .ok (.putfield 19, 3) := by decide +kernel
theorem dX11_init_38 : decode cX11_init 38 = .ok (.aload_n 0, 1) := by decide +kernel
theorem dX11_init_39 : decode cX11_init 39 = .ok (.sipush 480, 3) := by decide +kernel
theorem dX11_init_42 : decode cX11_init 42 = .ok (.newarray .byte, 2) := by decide +kernel
theorem dX11_init_44 : decode cX11_init 44 = .ok (.putfield 23, 3) := by decide +kernel
theorem dX11_init_47 : decode cX11_init 47 = .ok (.aload_n 0, 1) := by decide +kernel
theorem dX11_init_48 : decode cX11_init 48 = .ok (.bipush 30, 2) := by decide +kernel
theorem dX11_init_50 : decode cX11_init 50 = .ok (.newarray .int, 2) := by decide +kernel
theorem dX11_init_52 : decode cX11_init 52 = .ok (.putfield 26, 3) := by decide +kernel
theorem dX11_init_55 : decode cX11_init 55 = .ok (.aload_n 0, 1) := by decide +kernel
theorem dX11_init_56 : decode cX11_init 56 = .ok (.bipush 30, 2) := by decide +kernel
theorem dX11_init_58 : decode cX11_init 58 = .ok (.newarray .int, 2) := by decide +kernel
theorem dX11_init_60 : decode cX11_init 60 = .ok (.putfield 29, 3) := by decide +kernel
theorem dX11_init_63 : decode cX11_init 63 = .ok (.aload_n 0, 1) := by decide +kernel
theorem dX11_init_64 : decode cX11_init 64 = .ok (.sipush 160, 3) := by decide +kernel
theorem dX11_init_67 : decode cX11_init 67 = .ok (.newarray .byte, 2) := by decide +kernel
theorem dX11_init_69 : decode cX11_init 69 = .ok (.putfield 32, 3) := by decide +kernel
theorem dX11_init_72 : decode cX11_init 72 = .ok (.aload_n 0, 1) := by decide +kernel
theorem dX11_init_73 : decode cX11_init 73 = .ok (.bipush 10, 2) := by decide +kernel
theorem dX11_init_75 : decode cX11_init 75 = .ok (.newarray .int, 2) := by decide +kernel
theorem dX11_init_77 : decode cX11_init 77 = .ok (.putfield 35, 3) := by decide +kernel
theorem dX11_init_80 : decode cX11_init 80 = .ok (.aload_n 0, 1) := by decide +kernel
theorem dX11_init_81 : decode cX11_init 81 = .ok (.iconst 4, 1) := by decide +kernel
theorem dX11_init_82 : decode cX11_init 82 = .ok (.newarray .int, 2) := by decide +kernel
theorem dX11_init_84 : decode cX11_init 84 = .ok (.putfield 38, 3) := by decide +kernel
theorem dX11_init_87 : decode cX11_init 87 = .ok (.aload_n 0, 1) := by decide +kernel
theorem dX11_init_88 : decode cX11_init 88 = .ok (.sipush 15360, 3) := by decide +kernel
theorem dX11_init_91 : decode cX11_init 91 = .ok (.newarray .byte, 2) := by decide +kernel
theorem dX11_init_93 : decode cX11_init 93 = .ok (.putfield 41, 3) := by decide +kernel
theorem dX11_init_96 : decode cX11_init 96 = .ok (.aload_n 0, 1) := by decide +kernel
theorem dX11_init_97 : decode cX11_init 97 = .ok (.sipush 960, 3) := by decide +kernel
theorem dX11_init_100 : decode cX11_init 100 = .ok (.newarray .int, 2) := by decide +kernel
theorem dX11_init_102 : decode cX11_init 102 = .ok (.putfield 44, 3) := by decide +kernel
theorem dX11_init_105 : decode cX11_init 105 = .ok (.aload_n 0, 1) := by decide +kernel
theorem dX11_init_106 : decode cX11_init 106 = .ok (.bipush 24, 2) := by decide +kernel
theorem dX11_init_108 : decode cX11_init 108 = .ok (.newarray .int, 2) := by decide +kernel
theorem dX11_init_110 : decode cX11_init 110 = .ok (.putfield 47, 3) := by decide +kernel
theorem dX11_init_113 : decode cX11_init 113 = .ok (.aload_n 0, 1) := by decide +kernel
theorem dX11_init_114 : decode cX11_init 114 = .ok (.sipush 15360, 3) := by decide +kernel
theorem dX11_init_117 : decode cX11_init 117 = .ok (.newarray .byte, 2) := by decide +kernel
theorem dX11_init_119 : decode cX11_init 119 = .ok (.putfield 50, 3) := by decide +kernel
theorem dX11_init_122 : decode cX11_init 122 = .ok (.aload_n 0, 1) := by decide +kernel
theorem dX11_init_123 : decode cX11_init 123 = .ok (.sipush 960, 3) := by decide +kernel
theorem dX11_init_126 : decode cX11_init 126 = .ok (.newarray .int, 2) := by decide +kernel
theorem dX11_init_128 : decode cX11_init 128 = .ok (.putfield 53, 3) := by decide +kernel
theorem dX11_init_131 : decode cX11_init 131 = .ok (.aload_n 0, 1) := by decide +kernel
theorem dX11_init_132 : decode cX11_init 132 = .ok (.bipush 24, 2) := by decide +kernel
theorem dX11_init_134 : decode cX11_init 134 = .ok (.newarray .int, 2) := by decide +kernel
theorem dX11_init_136 : decode cX11_init 136 = .ok (.putfield 56, 3) := by decide +kernel
theorem dX11_init_139 : decode cX11_init 139 = .ok (.aload_n 0, 1) := by decide +kernel
theorem dX11_init_140 : decode cX11_init 140 = .ok (.bipush 24, 2) := by decide +kernel
theorem dX11_init_142 : decode cX11_init 142 = .ok (.newarray .int, 2) := by decide +kernel
theorem dX11_init_144 : decode cX11_init 144 = .ok (.putfield 59, 3) := by decide +kernel
theorem dX11_init_147 : decode cX11_init 147 = .ok (.aload_n 0, 1) := by decide +kernel
theorem dX11_init_148 : decode cX11_init 148 = .ok (.bipush 24, 2) := by decide +kernel
theorem dX11_init_150 : decode cX11_init 150 = .ok (.newarray .int, 2) := by decide +kernel
theorem dX11_init_152 : decode cX11_init 152 = .ok (.putfield 62, 3) := by decide +kernel
theorem dX11_init_155 : decode cX11_init 155 = .ok (.aload_n 0, 1) := by decide +kernel
theorem dX11_init_156 : decode cX11_init 156 = .ok (.bipush 24, 2) := by decide +kernel
theorem dX11_init_158 : decode cX11_init 158 = .ok (.newarray .int, 2) := by decide +kernel
theorem dX11_init_160 : decode cX11_init 160 = .ok (.putfield 65, 3) := by decide +kernel
theorem dX11_init_163 : decode cX11_init 163 = .ok (.aload_n 0, 1) := by decide +kernel
theorem dX11_init_164 : decode cX11_init 164 = .ok (.iconst (-1), 1) := by decide +kernel
theorem dX11_init_165 : decode cX11_init 165 = .ok (.putfield 68, 3) := by decide +kernel
theorem dX11_init_168 : decode cX11_init 168 = .ok (.aload_n 0, 1) := by decide +kernel
theorem dX11_init_169 : decode cX11_init 169 = .ok (.sipush 960, 3) := by decide +kernel
theorem dX11_init_172 : decode cX11_init 172 = .ok (.newarray .int, 2) := by decide +kernel
theorem dX11_init_174 : decode cX11_init 174 = .ok (.putfield 72, 3) := by decide +kernel
theorem dX11_init_177 : decode cX11_init 177 = .ok (.aload_n 0, 1) := by decide +kernel
theorem dX11_init_178 : decode cX11_init 178 = .ok (.sipush 960, 3) := by decide +kernel
theorem dX11_init_181 : decode cX11_init 181 = .ok (.newarray .int, 2) := by decide +kernel
theorem dX11_init_183 : decode cX11_init 183 = .ok (.putfield 75, 3) := by decide +kernel
theorem dX11_init_186 : decode cX11_init 186 = .ok (.aload_n 0, 1) := by decide +kernel
theorem dX11_init_187 : decode cX11_init 187 = .ok (.bipush 24, 2) := by decide +kernel
theorem dX11_init_189 : decode cX11_init 189 = .ok (.newarray .int, 2) := by decide +kernel
theorem dX11_init_191 : decode cX11_init 191 = .ok (.putfield 78, 3) := by decide +kernel
theorem dX11_init_194 : decode cX11_init 194 = .ok (.aload_n 0, 1) := by decide +kernel
theorem dX11_init_195 : decode cX11_init 195 = .ok (.bipush 24, 2) := by decide +kernel
theorem dX11_init_197 : decode cX11_init 197 = .ok (.newarray .int, 2) := by decide +kernel
theorem dX11_init_199 : decode cX11_init 199 = .ok (.putfield 81, 3) := by decide +kernel
theorem dX11_init_202 : decode cX11_init 202 = .ok (.aload_n 0, 1) := by decide +kernel
theorem dX11_init_203 : decode cX11_init 203 = .ok (.sipush 576, 3) := by decide +kernel
theorem dX11_init_206 : decode cX11_init 206 = .ok (.newarray .int, 2) := by decide +kernel
theorem dX11_init_208 : decode cX11_init 208 = .ok (.putfield 84, 3) := by decide +kernel
theorem dX11_init_211 : decode cX11_init 211 = .ok (.aload_n 0, 1) := by decide +kernel
theorem dX11_init_212 : decode cX11_init 212 = .ok (.bipush 24, 2) := by decide +kernel
theorem dX11_init_214 : decode cX11_init 214 = .ok (.newarray .int, 2) := by decide +kernel
theorem dX11_init_216 : decode cX11_init 216 = .ok (.putfield 87, 3) := by decide +kernel
theorem dX11_init_219 : decode cX11_init 219 = .ok (.aload_n 0, 1) := by decide +kernel
theorem dX11_init_220 : decode cX11_init 220 = .ok (.sipush 600, 3) := by decide +kernel
theorem dX11_init_223 : decode cX11_init 223 = .ok (.newarray .boolean, 2) := by decide +kernel
theorem dX11_init_225 : decode cX11_init 225 = .ok (.putfield 90, 3) := by decide +kernel
theorem dX11_init_228 : decode cX11_init 228 = .ok (.aload_n 0, 1) := by decide +kernel
theorem dX11_init_229 : decode cX11_init 229 = .ok (.sipush 576, 3) := by decide +kernel
theorem dX11_init_232 : decode cX11_init 232 = .ok (.newarray .int, 2) := by decide +kernel
theorem dX11_init_234 : decode cX11_init 234 = .ok (.putfield 94, 3) := by decide +kernel
theorem dX11_init_237 : decode cX11_init 237 = .ok (.aload_n 0, 1) := by decide +kernel
theorem dX11_init_238 : decode cX11_init 238 = .ok (.sipush 576, 3) := by decide +kernel
theorem dX11_init_241 : decode cX11_init 241 = .ok (.newarray .int, 2) := by decide +kernel
theorem dX11_init_243 : decode cX11_init 243 = .ok (.putfield 97, 3) := by decide +kernel
theorem dX11_init_246 : decode cX11_init 246 = .ok (.aload_n 0, 1) := by decide +kernel
theorem dX11_init_247 : decode cX11_init 247 = .ok (.bipush 24, 2) := by decide +kernel
theorem dX11_init_249 : decode cX11_init 249 = .ok (.newarray .int, 2) := by decide +kernel
theorem dX11_init_251 : decode cX11_init 251 = .ok (.putfield 100, 3) := by decide +kernel
theorem dX11_init_254 : decode cX11_init 254 = .ok (.aload_n 0, 1) := by decide +kernel
theorem dX11_init_255 : decode cX11_init 255 = .ok (.bipush 20, 2) := by decide +kernel
theorem dX11_init_257 : decode cX11_init 257 = .ok (.newarray .int, 2) := by decide +kernel
theorem dX11_init_259 : decode cX11_init 259 = .ok (.putfield 103, 3) := by decide +kernel
theorem dX11_init_262 : decode cX11_init 262 = .ok (.aload_n 0, 1) := by decide +kernel
theorem dX11_init_263 : decode cX11_init 263 = .ok (.bipush 20, 2) := by decide +kernel
theorem dX11_init_265 : decode cX11_init 265 = .ok (.newarray .int, 2) := by decide +kernel
theorem dX11_init_267 : decode cX11_init 267 = .ok (.putfield 106, 3) := by decide +kernel
theorem dX11_init_270 : decode cX11_init 270 = .ok (.aload_n 0, 1) := by decide +kernel
theorem dX11_init_271 : decode cX11_init 271 = .ok (.bipush 10, 2) := by decide +kernel
theorem dX11_init_273 : decode cX11_init 273 = .ok (.newarray .int, 2) := by decide +kernel
theorem dX11_init_275 : decode cX11_init 275 = .ok (.putfield 109, 3) := by decide +kernel
theorem dX11_init_278 : decode cX11_init 278 = .ok (.aload_n 0, 1) := by decide +kernel
theorem dX11_init_279 : decode cX11_init 279 = .ok (.bipush 10, 2) := by decide +kernel
theorem dX11_init_281 : decode cX11_init 281 = .ok (.newarray .int, 2) := by decide +kernel
theorem dX11_init_283 : decode cX11_init 283 = .ok (.putfield 112, 3) := by decide +kernel
theorem dX11_init_286 : decode cX11_init 286 = .ok (.aload_n 0, 1) := by decide +kernel
theorem dX11_init_287 : decode cX11_init 287 = .ok (.bipush 10, 2) := by decide +kernel
theorem dX11_init_289 : decode cX11_init 289 = .ok (.newarray .int, 2) := by decide +kernel
theorem dX11_init_291 : decode cX11_init 291 = .ok (.putfield 115, 3) := by decide +kernel
theorem dX11_init_294 : decode cX11_init 294 = .ok (.aload_n 0, 1) := by decide +kernel
theorem dX11_init_295 : decode cX11_init 295 = .ok (.bipush 10, 2) := by decide +kernel
theorem dX11_init_297 : decode cX11_init 297 = .ok (.newarray .int, 2) := by decide +kernel
theorem dX11_init_299 : decode cX11_init 299 = .ok (.putfield 118, 3) := by decide +kernel
theorem dX11_init_302 : decode cX11_init 302 = .ok (.aload_n 0, 1) := by decide +kernel
theorem dX11_init_303 : decode cX11_init 303 = .ok (.sipush 1024, 3) := by decide +kernel
theorem dX11_init_306 : decode cX11_init 306 = .ok (.newarray .int, 2) := by decide +kernel
theorem dX11_init_308 : decode cX11_init 308 = .ok (.putfield 121, 3) := by decide +kernel
theorem dX11_init_311 : decode cX11_init 311 = .ok (.aload_n 0, 1) := by decide +kernel
theorem dX11_init_312 : decode cX11_init 312 = .ok (.sipush 1024, 3) := by decide +kernel
theorem dX11_init_315 : decode cX11_init 315 = .ok (.newarray .int, 2) := by decide +kernel
theorem dX11_init_317 : decode cX11_init 317 = .ok (.putfield 124, 3) := by decide +kernel
theorem dX11_init_320 : decode cX11_init 320 = .ok (.aload_n 0, 1) := by decide +kernel
theorem dX11_init_321 : decode cX11_init 321 = .ok (.bipush 10, 2) := by decide +kernel
theorem dX11_init_323 : decode cX11_init 323 = .ok (.newarray .int, 2) := by decide +kernel
theorem dX11_init_325 : decode cX11_init 325 = .ok (.putfield 127, 3) := by decide +kernel
theorem dX11_init_328 : decode cX11_init 328 = .ok (.aload_n 0, 1) := by decide +kernel
theorem dX11_init_329 : decode cX11_init 329 = .ok (.bipush 10, 2) := by decide +kernel
theorem dX11_init_331 : decode cX11_init 331 = .ok (.newarray .int, 2) := by decide +kernel
theorem dX11_init_333 : decode cX11_init 333 = .ok (.putfield 130, 3) := by decide +kernel
theorem dX11_init_336 : decode cX11_init 336 = .ok (.aload_n 0, 1) := by decide +kernel
theorem dX11_init_337 : decode cX11_init 337 = .ok (.bipush 24, 2) := by decide +kernel
theorem dX11_init_339 : decode cX11_init 339 = .ok (.newarray .int, 2) := by decide +kernel
theorem dX11_init_341 : decode cX11_init 341 = .ok (.putfield 133, 3) := by decide +kernel
theorem dX11_init_344 : decode cX11_init 344 = .ok (.aload_n 0, 1) := by decide +kernel
theorem dX11_init_345 : decode cX11_init 345 = .ok (.getfield 38, 3) := by decide +kernel
theorem dX11_init_348 : decode cX11_init 348 = .ok (.iconst 0, 1) := by decide +kernel
theorem dX11_init_349 : decode cX11_init 349 = .ok (.iconst 2, 1) := by decide +kernel
theorem dX11_init_350 : decode cX11_init 350 = .ok (.iastore, 1) := by decide +kernel
theorem dX11_init_351 : decode cX11_init 351 = .ok (.aload_n 0, 1) := by decide +kernel
theorem dX11_init_352 : decode cX11_init 352 = .ok (.getfield 38, 3) := by decide +kernel
theorem dX11_init_355 : decode cX11_init 355 = .ok (.iconst 1, 1) := by decide +kernel
theorem dX11_init_356 : decode cX11_init 356 = .ok (.iconst 3, 1) := by decide +kernel
theorem dX11_init_357 : decode cX11_init 357 = .ok (.iastore, 1) := by decide +kernel
theorem dX11_init_358 : decode cX11_init 358 = .ok (.aload_n 0, 1) := by decide +kernel
theorem dX11_init_359 : decode cX11_init 359 = .ok (.getfield 38, 3) := by decide +kernel
theorem dX11_init_362 : decode cX11_init 362 = .ok (.iconst 2, 1) := by decide +kernel
theorem dX11_init_363 : decode cX11_init 363 = .ok (.bipush 10, 2) := by decide +kernel
theorem dX11_init_365 : decode cX11_init 365 = .ok (.iastore, 1) := by decide +kernel
theorem dX11_init_366 : decode cX11_init 366 = .ok (.aload_n 0, 1) := by decide +kernel
theorem dX11_init_367 : decode cX11_init 367 = .ok (.getfield 38, 3) := by decide +kernel
theorem dX11_init_370 : decode cX11_init 370 = .ok (.iconst 3, 1) := by decide +kernel
theorem dX11_init_371 : decode cX11_init 371 = .ok (.iconst 5, 1) := by decide +kernel
theorem dX11_init_372 : decode cX11_init 372 = .ok (.iastore, 1) := by decide +kernel
theorem dX11_init_373 : decode cX11_init 373 = .ok (.return_, 1) := by decide +kernel
theorem dX11_in_0 : decode cX11_in 0 = .ok (.iload_n 0, 1) := by decide +kernel
theorem dX11_in_1 : decode cX11_in 1 = .ok (.iload_n 1, 1) := by decide +kernel
theorem dX11_in_2 : decode cX11_in 2 = .ok (.if_icmp .lt 12, 3) := by decide +kernel
theorem dX11_in_5 : decode cX11_in 5 = .ok (.iload_n 0, 1) := by decide +kernel
theorem dX11_in_6 : decode cX11_in 6 = .ok (.iload_n 2, 1) := by decide +kernel
theorem dX11_in_7 : decode cX11_in 7 = .ok (.if_icmp .gt 7, 3) := by decide +kernel
theorem dX11_in_10 : decode cX11_in 10 = .ok (.iconst 1, 1) := by decide +kernel
theorem dX11_in_11 : decode cX11_in 11 = .ok (.goto 4, 3) := by decide +kernel
theorem dX11_in_14 : decode cX11_in 14 = .ok (.iconst 0, 1) := by decide +kernel
theorem dX11_in_15 : decode cX11_in 15 = .ok (.ireturn, 1) := by decide +kernel
theorem dX11_feed_0 : decode cX11_feed 0 = .ok (.aload_n 0, 1) := by decide +kernel
theorem dX11_feed_1 : decode cX11_feed 1 = .ok (.getfield 136, 3) := by decide +kernel
theorem dX11_feed_4 : decode cX11_feed 4 = .ok (.bipush 20, 2) := by decide +kernel
theorem dX11_feed_6 : decode cX11_feed 6 = .ok (.iadd, 1) := by decide +kernel
theorem dX11_feed_7 : decode cX11_feed 7 = .ok (.sipush 3000, 3) := by decide +kernel
theorem dX11_feed_10 : decode cX11_feed 10 = .ok (.if_icmp .le 6, 3) := by decide +kernel
theorem dX11_feed_13 : decode cX11_feed 13 = .ok (.bipush (-3), 2) := by decide +kernel
theorem dX11_feed_15 : decode cX11_feed 15 = .ok (.ireturn, 1) := by decide +kernel
theorem dX11_feed_16 : decode cX11_feed 16 = .ok (.iconst 0, 1) := by decide +kernel
theorem dX11_feed_17 : decode cX11_feed 17 = .ok (.istore 6, 2) := by decide +kernel
theorem dX11_feed_19 : decode cX11_feed 19 = .ok (.iload 6, 2) := by decide +kernel
theorem dX11_feed_21 : decode cX11_feed 21 = .ok (.iconst 5, 1) := by decide +kernel
theorem dX11_feed_22 : decode cX11_feed 22 = .ok (.if_icmp .ge 93, 3) := by decide +kernel
theorem dX11_feed_25 : decode cX11_feed 25 = .ok (.iload 6, 2) := by decide +kernel
theorem dX11_feed_27 : decode cX11_feed 27 = .ok (.ifCond .ne 7, 3) := by decide +kernel
theorem dX11_feed_30 : decode cX11_feed 30 = .ok (.iload_n 1, 1) := by decide +kernel
theorem dX11_feed_31 : decode cX11_feed 31 = .ok (.goto 36, 3) := by decide +kernel
theorem dX11_feed_34 : decode cX11_feed 34 = .ok (.iload 6, 2) := by decide +kernel
theorem dX11_feed_36 : decode cX11_feed 36 = .ok (.iconst 1, 1) := by decide +kernel
theorem dX11_feed_37 : decode cX11_feed 37 = .ok (.if_icmp .ne 7, 3) := by decide +kernel
theorem dX11_feed_40 : decode cX11_feed 40 = .ok (.iload_n 2, 1) := by decide +kernel
theorem dX11_feed_41 : decode cX11_feed 41 = .ok (.goto 26, 3) := by decide +kernel
theorem dX11_feed_44 : decode cX11_feed 44 = .ok (.iload 6, 2) := by decide +kernel
theorem dX11_feed_46 : decode cX11_feed 46 = .ok (.iconst 2, 1) := by decide +kernel
theorem dX11_feed_47 : decode cX11_feed 47 = .ok (.if_icmp .ne 7, 3) := by decide +kernel
theorem dX11_feed_50 : decode cX11_feed 50 = .ok (.iload_n 3, 1) := by decide +kernel
theorem dX11_feed_51 : decode cX11_feed 51 = .ok (.goto 16, 3) := by decide +kernel
theorem dX11_feed_54 : decode cX11_feed 54 = .ok (.iload 6, 2) := by decide +kernel
theorem dX11_feed_56 : decode cX11_feed 56 = .ok (.iconst 3, 1) := by decide +kernel
theorem dX11_feed_57 : decode cX11_feed 57 = .ok (.if_icmp .ne 8, 3) := by decide +kernel
theorem dX11_feed_60 : decode cX11_feed 60 = .ok (.iload 4, 2) := by decide +kernel
theorem dX11_feed_62 : decode cX11_feed 62 = .ok (.goto 5, 3) := by decide +kernel
theorem dX11_feed_65 : decode cX11_feed 65 = .ok (.iload 5, 2) := by decide +kernel
theorem dX11_feed_67 : decode cX11_feed 67 = .ok (.istore 7, 2) := by decide +kernel
theorem dX11_feed_69 : decode cX11_feed 69 = .ok (.bipush 24, 2) := by decide +kernel
theorem dX11_feed_71 : decode cX11_feed 71 = .ok (.istore 8, 2) := by decide +kernel
theorem dX11_feed_73 : decode cX11_feed 73 = .ok (.iload 8, 2) := by decide +kernel
theorem dX11_feed_75 : decode cX11_feed 75 = .ok (.ifCond .lt 34, 3) := by decide +kernel
theorem dX11_feed_78 : decode cX11_feed 78 = .ok (.aload_n 0, 1) := by decide +kernel
theorem dX11_feed_79 : decode cX11_feed 79 = .ok (.getfield 7, 3) := by decide +kernel
theorem dX11_feed_82 : decode cX11_feed 82 = .ok (.aload_n 0, 1) := by decide +kernel
theorem dX11_feed_83 : decode cX11_feed 83 = .ok (.getfield 136, 3) := by decide +kernel
theorem dX11_feed_86 : decode cX11_feed 86 = .ok (.iload 7, 2) := by decide +kernel
theorem dX11_feed_88 : decode cX11_feed 88 = .ok (.iload 8, 2) := by decide +kernel
theorem dX11_feed_90 : decode cX11_feed 90 = .ok (.ishr, 1) := by decide +kernel
theorem dX11_feed_91 : decode cX11_feed 91 = .ok (.i2b, 1) := by decide +kernel
theorem dX11_feed_92 : decode cX11_feed 92 = .ok (.bastore, 1) := by decide +kernel
theorem dX11_feed_93 : decode cX11_feed 93 = .ok (.aload_n 0, 1) := by decide +kernel
theorem dX11_feed_94 : decode cX11_feed 94 = .ok (.dup, 1) := by decide +kernel
theorem dX11_feed_95 : decode cX11_feed 95 = .ok (.getfield 136, 3) := by decide +kernel
theorem dX11_feed_98 : decode cX11_feed 98 = .ok (.iconst 1, 1) := by decide +kernel
theorem dX11_feed_99 : decode cX11_feed 99 = .ok (.iadd, 1) := by decide +kernel
theorem dX11_feed_100 : decode cX11_feed 100 = .ok (.putfield 136, 3) := by decide +kernel
theorem dX11_feed_103 : decode cX11_feed 103 = .ok (.iinc 8 (-8), 3) := by decide +kernel
theorem dX11_feed_106 : decode cX11_feed 106 = .ok (.goto (-33), 3) := by decide +kernel
theorem dX11_feed_109 : decode cX11_feed 109 = .ok (.iinc 6 1, 3) := by decide +kernel
theorem dX11_feed_112 : decode cX11_feed 112 = .ok (.goto (-93), 3) := by decide +kernel
theorem dX11_feed_115 : decode cX11_feed 115 = .ok (.aload_n 0, 1) := by decide +kernel
theorem dX11_feed_116 : decode cX11_feed 116 = .ok (.getfield 136, 3) := by decide +kernel
theorem dX11_feed_119 : decode cX11_feed 119 = .ok (.ireturn, 1) := by decide +kernel
theorem dX11_end_0 : decode cX11_end 0 = .ok (.iload_n 1, 1) := by decide +kernel
theorem dX11_end_1 : decode cX11_end 1 = .ok (.ifCond .lt 11, 3) := by decide +kernel
theorem dX11_end_4 : decode cX11_end 4 = .ok (.iload_n 1, 1) := by decide +kernel
theorem dX11_end_5 : decode cX11_end 5 = .ok (.aload_n 0, 1) := by decide +kernel
theorem dX11_end_6 : decode cX11_end 6 = .ok (.getfield 136, 3) := by decide +kernel
theorem dX11_end_9 : decode cX11_end 9 = .ok (.if_icmp .le 5, 3) := by decide +kernel
theorem dX11_end_12 : decode cX11_end 12 = .ok (.iconst (-1), 1) := by decide +kernel
theorem dX11_end_13 : decode cX11_end 13 = .ok (.ireturn, 1) := by decide +kernel
theorem dX11_end_14 : decode cX11_end 14 = .ok (.aload_n 0, 1) := by decide +kernel
theorem dX11_end_15 : decode cX11_end 15 = .ok (.iload_n 1, 1) := by decide +kernel
theorem dX11_end_16 : decode cX11_end 16 = .ok (.putfield 136, 3) := by decide +kernel
theorem dX11_end_19 : decode cX11_end 19 = .ok (.iload_n 1, 1) := by decide +kernel
theorem dX11_end_20 : decode cX11_end 20 = .ok (.ireturn, 1) := by decide +kernel
theorem dX11_isOfWord_0 : decode cX11_isOfWord 0 = .ok (.iload_n 0, 1) := by decide +kernel
theorem dX11_isOfWord_1 : decode cX11_isOfWord 1 = .ok (.bipush 65, 2) := by decide +kernel
theorem dX11_isOfWord_3 : decode cX11_isOfWord 3 = .ok (.if_icmp .lt 9, 3) := by decide +kernel
theorem dX11_isOfWord_6 : decode cX11_isOfWord 6 = .ok (.iload_n 0, 1) := by decide +kernel
theorem dX11_isOfWord_7 : decode cX11_isOfWord 7 = .ok (.bipush 90, 2) := by decide +kernel
theorem dX11_isOfWord_9 : decode cX11_isOfWord 9 = .ok (.if_icmp .le 33, 3) := by decide +kernel
theorem dX11_isOfWord_12 : decode cX11_isOfWord 12 = .ok (.iload_n 0, 1) := by decide +kernel
theorem dX11_isOfWord_13 : decode cX11_isOfWord 13 = .ok (.bipush 97, 2) := by decide +kernel
theorem dX11_isOfWord_15 : decode cX11_isOfWord 15 = .ok (.if_icmp .lt 9, 3) := by decide +kernel
theorem dX11_isOfWord_18 : decode cX11_isOfWord 18 = .ok (.iload_n 0, 1) := by decide +kernel
theorem dX11_isOfWord_19 : decode cX11_isOfWord 19 = .ok (.bipush 122, 2) := by decide +kernel
theorem dX11_isOfWord_21 : decode cX11_isOfWord 21 = .ok (.if_icmp .le 21, 3) := by decide +kernel
theorem dX11_isOfWord_24 : decode cX11_isOfWord 24 = .ok (.iload_n 0, 1) := by decide +kernel
theorem dX11_isOfWord_25 : decode cX11_isOfWord 25 = .ok (.bipush 48, 2) := by decide +kernel
theorem dX11_isOfWord_27 : decode cX11_isOfWord 27 = .ok (.if_icmp .lt 9, 3) := by decide +kernel
theorem dX11_isOfWord_30 : decode cX11_isOfWord 30 = .ok (.iload_n 0, 1) := by decide +kernel
theorem dX11_isOfWord_31 : decode cX11_isOfWord 31 = .ok (.bipush 57, 2) := by decide +kernel
theorem dX11_isOfWord_33 : decode cX11_isOfWord 33 = .ok (.if_icmp .le 9, 3) := by decide +kernel
theorem dX11_isOfWord_36 : decode cX11_isOfWord 36 = .ok (.iload_n 0, 1) := by decide +kernel
theorem dX11_isOfWord_37 : decode cX11_isOfWord 37 = .ok (.bipush 39, 2) := by decide +kernel
theorem dX11_isOfWord_39 : decode cX11_isOfWord 39 = .ok (.if_icmp .ne 7, 3) := by decide +kernel
theorem dX11_isOfWord_42 : decode cX11_isOfWord 42 = .ok (.iconst 1, 1) := by decide +kernel
theorem dX11_isOfWord_43 : decode cX11_isOfWord 43 = .ok (.goto 4, 3) := by decide +kernel
theorem dX11_isOfWord_46 : decode cX11_isOfWord 46 = .ok (.iconst 0, 1) := by decide +kernel
theorem dX11_isOfWord_47 : decode cX11_isOfWord 47 = .ok (.ireturn, 1) := by decide +kernel
theorem dX11_small_0 : decode cX11_small 0 = .ok (.iload_n 0, 1) := by decide +kernel
theorem dX11_small_1 : decode cX11_small 1 = .ok (.bipush 65, 2) := by decide +kernel
theorem dX11_small_3 : decode cX11_small 3 = .ok (.if_icmp .lt 16, 3) := by decide +kernel
theorem dX11_small_6 : decode cX11_small 6 = .ok (.iload_n 0, 1) := by decide +kernel
theorem dX11_small_7 : decode cX11_small 7 = .ok (.bipush 90, 2) := by decide +kernel
theorem dX11_small_9 : decode cX11_small 9 = .ok (.if_icmp .gt 10, 3) := by decide +kernel
theorem dX11_small_12 : decode cX11_small 12 = .ok (.iload_n 0, 1) := by decide +kernel
theorem dX11_small_13 : decode cX11_small 13 = .ok (.bipush 32, 2) := by decide +kernel
theorem dX11_small_15 : decode cX11_small 15 = .ok (.iadd, 1) := by decide +kernel
theorem dX11_small_16 : decode cX11_small 16 = .ok (.goto 4, 3) := by decide +kernel
theorem dX11_small_19 : decode cX11_small 19 = .ok (.iload_n 0, 1) := by decide +kernel
theorem dX11_small_20 : decode cX11_small 20 = .ok (.ireturn, 1) := by decide +kernel
theorem dX11_takeWord_0 : decode cX11_takeWord 0 = .ok (.aload_n 0, 1) := by decide +kernel
theorem dX11_takeWord_1 : decode cX11_takeWord 1 = .ok (.getfield 136, 3) := by decide +kernel
theorem dX11_takeWord_4 : decode cX11_takeWord 4 = .ok (.istore_n 2, 1) := by decide +kernel
theorem dX11_takeWord_5 : decode cX11_takeWord 5 = .ok (.aload_n 0, 1) := by decide +kernel
theorem dX11_takeWord_6 : decode cX11_takeWord 6 = .ok (.iconst 0, 1) := by decide +kernel
theorem dX11_takeWord_7 : decode cX11_takeWord 7 = .ok (.putfield 136, 3) := by decide +kernel
theorem dX11_takeWord_10 : decode cX11_takeWord 10 = .ok (.iload_n 2, 1) := by decide +kernel
theorem dX11_takeWord_11 : decode cX11_takeWord 11 = .ok (.iconst 1, 1) := by decide +kernel
theorem dX11_takeWord_12 : decode cX11_takeWord 12 = .ok (.iload_n 1, 1) := by decide +kernel
theorem dX11_takeWord_13 : decode cX11_takeWord 13 = .ok (.invokestatic 139, 3) := by decide +kernel
theorem dX11_takeWord_16 : decode cX11_takeWord 16 = .ok (.ifCond .ne 5, 3) := by decide +kernel
theorem dX11_takeWord_19 : decode cX11_takeWord 19 = .ok (.iconst 0, 1) := by decide +kernel
theorem dX11_takeWord_20 : decode cX11_takeWord 20 = .ok (.ireturn, 1) := by decide +kernel
theorem dX11_takeWord_21 : decode cX11_takeWord 21 = .ok (.iconst 0, 1) := by decide +kernel
theorem dX11_takeWord_22 : decode cX11_takeWord 22 = .ok (.istore_n 3, 1) := by decide +kernel
theorem dX11_takeWord_23 : decode cX11_takeWord 23 = .ok (.iload_n 3, 1) := by decide +kernel
theorem dX11_takeWord_24 : decode cX11_takeWord 24 = .ok (.iload_n 2, 1) := by decide +kernel
theorem dX11_takeWord_25 : decode cX11_takeWord 25 = .ok (.if_icmp .ge 39, 3) := by decide +kernel
theorem dX11_takeWord_28 : decode cX11_takeWord 28 = .ok (.aload_n 0, 1) := by decide +kernel
theorem dX11_takeWord_29 : decode cX11_takeWord 29 = .ok (.getfield 7, 3) := by decide +kernel
theorem dX11_takeWord_32 : decode cX11_takeWord 32 = .ok (.iload_n 3, 1) := by decide +kernel
theorem dX11_takeWord_33 : decode cX11_takeWord 33 = .ok (.baload, 1) := by decide +kernel
theorem dX11_takeWord_34 : decode cX11_takeWord 34 = .ok (.invokestatic 143, 3) := by decide +kernel
theorem dX11_takeWord_37 : decode cX11_takeWord 37 = .ok (.ifCond .ne 5, 3) := by decide +kernel
theorem dX11_takeWord_40 : decode cX11_takeWord 40 = .ok (.iconst 0, 1) := by decide +kernel
theorem dX11_takeWord_41 : decode cX11_takeWord 41 = .ok (.ireturn, 1) := by decide +kernel
theorem dX11_takeWord_42 : decode cX11_takeWord 42 = .ok (.aload_n 0, 1) := by decide +kernel
theorem dX11_takeWord_43 : decode cX11_takeWord 43 = .ok (.getfield 13, 3) := by decide +kernel
theorem dX11_takeWord_46 : decode cX11_takeWord 46 = .ok (.iload_n 3, 1) := by decide +kernel
theorem dX11_takeWord_47 : decode cX11_takeWord 47 = .ok (.aload_n 0, 1) := by decide +kernel
theorem dX11_takeWord_48 : decode cX11_takeWord 48 = .ok (.getfield 7, 3) := by decide +kernel
theorem dX11_takeWord_51 : decode cX11_takeWord 51 = .ok (.iload_n 3, 1) := by decide +kernel
theorem dX11_takeWord_52 : decode cX11_takeWord 52 = .ok (.baload, 1) := by decide +kernel
theorem dX11_takeWord_53 : decode cX11_takeWord 53 = .ok (.invokestatic 147, 3) := by decide +kernel
theorem dX11_takeWord_56 : decode cX11_takeWord 56 = .ok (.i2b, 1) := by decide +kernel
theorem dX11_takeWord_57 : decode cX11_takeWord 57 = .ok (.bastore, 1) := by decide +kernel
theorem dX11_takeWord_58 : decode cX11_takeWord 58 = .ok (.iinc 3 1, 3) := by decide +kernel
theorem dX11_takeWord_61 : decode cX11_takeWord 61 = .ok (.goto (-38), 3) := by decide +kernel
theorem dX11_takeWord_64 : decode cX11_takeWord 64 = .ok (.aload_n 0, 1) := by decide +kernel
theorem dX11_takeWord_65 : decode cX11_takeWord 65 = .ok (.iload_n 2, 1) := by decide +kernel
theorem dX11_takeWord_66 : decode cX11_takeWord 66 = .ok (.putfield 151, 3) := by decide +kernel
theorem dX11_takeWord_69 : decode cX11_takeWord 69 = .ok (.iconst 1, 1) := by decide +kernel
theorem dX11_takeWord_70 : decode cX11_takeWord 70 = .ok (.ireturn, 1) := by decide +kernel
theorem dX11_isLike_0 : decode cX11_isLike 0 = .ok (.iload_n 2, 1) := by decide +kernel
theorem dX11_isLike_1 : decode cX11_isLike 1 = .ok (.iload 5, 2) := by decide +kernel
theorem dX11_isLike_3 : decode cX11_isLike 3 = .ok (.if_icmp .eq 5, 3) := by decide +kernel
theorem dX11_isLike_6 : decode cX11_isLike 6 = .ok (.iconst 0, 1) := by decide +kernel
theorem dX11_isLike_7 : decode cX11_isLike 7 = .ok (.ireturn, 1) := by decide +kernel
theorem dX11_isLike_8 : decode cX11_isLike 8 = .ok (.iconst 0, 1) := by decide +kernel
theorem dX11_isLike_9 : decode cX11_isLike 9 = .ok (.istore 6, 2) := by decide +kernel
theorem dX11_isLike_11 : decode cX11_isLike 11 = .ok (.iload 6, 2) := by decide +kernel
theorem dX11_isLike_13 : decode cX11_isLike 13 = .ok (.iload_n 2, 1) := by decide +kernel
theorem dX11_isLike_14 : decode cX11_isLike 14 = .ok (.if_icmp .ge 27, 3) := by decide +kernel
theorem dX11_isLike_17 : decode cX11_isLike 17 = .ok (.aload_n 0, 1) := by decide +kernel
theorem dX11_isLike_18 : decode cX11_isLike 18 = .ok (.iload_n 1, 1) := by decide +kernel
theorem dX11_isLike_19 : decode cX11_isLike 19 = .ok (.iload 6, 2) := by decide +kernel
theorem dX11_isLike_21 : decode cX11_isLike 21 = .ok (.iadd, 1) := by decide +kernel
theorem dX11_isLike_22 : decode cX11_isLike 22 = .ok (.baload, 1) := by decide +kernel
theorem dX11_isLike_23 : decode cX11_isLike 23 = .ok (.aload_n 3, 1) := by decide +kernel
theorem dX11_isLike_24 : decode cX11_isLike 24 = .ok (.iload 4, 2) := by decide +kernel
theorem dX11_isLike_26 : decode cX11_isLike 26 = .ok (.iload 6, 2) := by decide +kernel
theorem dX11_isLike_28 : decode cX11_isLike 28 = .ok (.iadd, 1) := by decide +kernel
theorem dX11_isLike_29 : decode cX11_isLike 29 = .ok (.baload, 1) := by decide +kernel
theorem dX11_isLike_30 : decode cX11_isLike 30 = .ok (.if_icmp .eq 5, 3) := by decide +kernel
theorem dX11_isLike_33 : decode cX11_isLike 33 = .ok (.iconst 0, 1) := by decide +kernel
theorem dX11_isLike_34 : decode cX11_isLike 34 = .ok (.ireturn, 1) := by decide +kernel
theorem dX11_isLike_35 : decode cX11_isLike 35 = .ok (.iinc 6 1, 3) := by decide +kernel
theorem dX11_isLike_38 : decode cX11_isLike 38 = .ok (.goto (-27), 3) := by decide +kernel
theorem dX11_isLike_41 : decode cX11_isLike 41 = .ok (.iconst 1, 1) := by decide +kernel
theorem dX11_isLike_42 : decode cX11_isLike 42 = .ok (.ireturn, 1) := by decide +kernel
theorem dX11_find_0 : decode cX11_find 0 = .ok (.iconst 0, 1) := by decide +kernel
theorem dX11_find_1 : decode cX11_find 1 = .ok (.istore 6, 2) := by decide +kernel
theorem dX11_find_3 : decode cX11_find 3 = .ok (.iload 6, 2) := by decide +kernel
theorem dX11_find_5 : decode cX11_find 5 = .ok (.iload_n 2, 1) := by decide +kernel
theorem dX11_find_6 : decode cX11_find 6 = .ok (.if_icmp .ge 33, 3) := by decide +kernel
theorem dX11_find_9 : decode cX11_find 9 = .ok (.aload_n 0, 1) := by decide +kernel
theorem dX11_find_10 : decode cX11_find 10 = .ok (.bipush 16, 2) := by decide +kernel
theorem dX11_find_12 : decode cX11_find 12 = .ok (.iload 6, 2) := by decide +kernel
theorem dX11_find_14 : decode cX11_find 14 = .ok (.imul, 1) := by decide +kernel
theorem dX11_find_15 : decode cX11_find 15 = .ok (.aload_n 1, 1) := by decide +kernel
theorem dX11_find_16 : decode cX11_find 16 = .ok (.iload 6, 2) := by decide +kernel
theorem dX11_find_18 : decode cX11_find 18 = .ok (.iaload, 1) := by decide +kernel
theorem dX11_find_19 : decode cX11_find 19 = .ok (.aload_n 3, 1) := by decide +kernel
theorem dX11_find_20 : decode cX11_find 20 = .ok (.iload 4, 2) := by decide +kernel
theorem dX11_find_22 : decode cX11_find 22 = .ok (.iload 5, 2) := by decide +kernel
theorem dX11_find_24 : decode cX11_find 24 = .ok (.invokestatic 154, 3) := by decide +kernel
theorem dX11_find_27 : decode cX11_find 27 = .ok (.ifCond .eq 6, 3) := by decide +kernel
theorem dX11_find_30 : decode cX11_find 30 = .ok (.iload 6, 2) := by decide +kernel
theorem dX11_find_32 : decode cX11_find 32 = .ok (.ireturn, 1) := by decide +kernel
theorem dX11_find_33 : decode cX11_find 33 = .ok (.iinc 6 1, 3) := by decide +kernel
theorem dX11_find_36 : decode cX11_find 36 = .ok (.goto (-33), 3) := by decide +kernel
theorem dX11_find_39 : decode cX11_find 39 = .ok (.iconst (-1), 1) := by decide +kernel
theorem dX11_find_40 : decode cX11_find 40 = .ok (.ireturn, 1) := by decide +kernel
theorem dX11_put_0 : decode cX11_put 0 = .ok (.iconst 0, 1) := by decide +kernel
theorem dX11_put_1 : decode cX11_put 1 = .ok (.istore 4, 2) := by decide +kernel
theorem dX11_put_3 : decode cX11_put 3 = .ok (.iload 4, 2) := by decide +kernel
theorem dX11_put_5 : decode cX11_put 5 = .ok (.aload_n 0, 1) := by decide +kernel
theorem dX11_put_6 : decode cX11_put 6 = .ok (.getfield 151, 3) := by decide +kernel
theorem dX11_put_9 : decode cX11_put 9 = .ok (.if_icmp .ge 25, 3) := by decide +kernel
theorem dX11_put_12 : decode cX11_put 12 = .ok (.aload_n 1, 1) := by decide +kernel
theorem dX11_put_13 : decode cX11_put 13 = .ok (.bipush 16, 2) := by decide +kernel
theorem dX11_put_15 : decode cX11_put 15 = .ok (.iload_n 3, 1) := by decide +kernel
theorem dX11_put_16 : decode cX11_put 16 = .ok (.imul, 1) := by decide +kernel
theorem dX11_put_17 : decode cX11_put 17 = .ok (.iload 4, 2) := by decide +kernel
theorem dX11_put_19 : decode cX11_put 19 = .ok (.iadd, 1) := by decide +kernel
theorem dX11_put_20 : decode cX11_put 20 = .ok (.aload_n 0, 1) := by decide +kernel
theorem dX11_put_21 : decode cX11_put 21 = .ok (.getfield 13, 3) := by decide +kernel
theorem dX11_put_24 : decode cX11_put 24 = .ok (.iload 4, 2) := by decide +kernel
theorem dX11_put_26 : decode cX11_put 26 = .ok (.baload, 1) := by decide +kernel
theorem dX11_put_27 : decode cX11_put 27 = .ok (.bastore, 1) := by decide +kernel
theorem dX11_put_28 : decode cX11_put 28 = .ok (.iinc 4 1, 3) := by decide +kernel
theorem dX11_put_31 : decode cX11_put 31 = .ok (.goto (-28), 3) := by decide +kernel
theorem dX11_put_34 : decode cX11_put 34 = .ok (.aload_n 2, 1) := by decide +kernel
theorem dX11_put_35 : decode cX11_put 35 = .ok (.iload_n 3, 1) := by decide +kernel
theorem dX11_put_36 : decode cX11_put 36 = .ok (.aload_n 0, 1) := by decide +kernel
theorem dX11_put_37 : decode cX11_put 37 = .ok (.getfield 151, 3) := by decide +kernel
theorem dX11_put_40 : decode cX11_put 40 = .ok (.iastore, 1) := by decide +kernel
theorem dX11_put_41 : decode cX11_put 41 = .ok (.return_, 1) := by decide +kernel
theorem dX11_takeAway_0 : decode cX11_takeAway 0 = .ok (.iconst 0, 1) := by decide +kernel
theorem dX11_takeAway_1 : decode cX11_takeAway 1 = .ok (.istore 4, 2) := by decide +kernel
theorem dX11_takeAway_3 : decode cX11_takeAway 3 = .ok (.iload 4, 2) := by decide +kernel
theorem dX11_takeAway_5 : decode cX11_takeAway 5 = .ok (.bipush 16, 2) := by decide +kernel
theorem dX11_takeAway_7 : decode cX11_takeAway 7 = .ok (.if_icmp .ge 27, 3) := by decide +kernel
theorem dX11_takeAway_10 : decode cX11_takeAway 10 = .ok (.aload_n 0, 1) := by decide +kernel
theorem dX11_takeAway_11 : decode cX11_takeAway 11 = .ok (.bipush 16, 2) := by decide +kernel
theorem dX11_takeAway_13 : decode cX11_takeAway 13 = .ok (.iload_n 2, 1) := by decide +kernel
theorem dX11_takeAway_14 : decode cX11_takeAway 14 = .ok (.imul, 1) := by decide +kernel
theorem dX11_takeAway_15 : decode cX11_takeAway 15 = .ok (.iload 4, 2) := by decide +kernel
theorem dX11_takeAway_17 : decode cX11_takeAway 17 = .ok (.iadd, 1) := by decide +kernel
theorem dX11_takeAway_18 : decode cX11_takeAway 18 = .ok (.aload_n 0, 1) := by decide +kernel
theorem dX11_takeAway_19 : decode cX11_takeAway 19 = .ok (.bipush 16, 2) := by decide +kernel
theorem dX11_takeAway_21 : decode cX11_takeAway 21 = .ok (.iload_n 3, 1) := by decide +kernel
theorem dX11_takeAway_22 : decode cX11_takeAway 22 = .ok (.imul, 1) := by decide +kernel
theorem dX11_takeAway_23 : decode cX11_takeAway 23 = .ok (.iload 4, 2) := by decide +kernel
theorem dX11_takeAway_25 : decode cX11_takeAway 25 = .ok (.iadd, 1) := by decide +kernel
theorem dX11_takeAway_26 : decode cX11_takeAway 26 = .ok (.baload, 1) := by decide +kernel
theorem dX11_takeAway_27 : decode cX11_takeAway 27 = .ok (.bastore, 1) := by decide +kernel
theorem dX11_takeAway_28 : decode cX11_takeAway 28 = .ok (.iinc 4 1, 3) := by decide +kernel
theorem dX11_takeAway_31 : decode cX11_takeAway 31 = .ok (.goto (-28), 3) := by decide +kernel
theorem dX11_takeAway_34 : decode cX11_takeAway 34 = .ok (.aload_n 1, 1) := by decide +kernel
theorem dX11_takeAway_35 : decode cX11_takeAway 35 = .ok (.iload_n 2, 1) := by decide +kernel
theorem dX11_takeAway_36 : decode cX11_takeAway 36 = .ok (.aload_n 1, 1) := by decide +kernel
theorem dX11_takeAway_37 : decode cX11_takeAway 37 = .ok (.iload_n 3, 1) := by decide +kernel
theorem dX11_takeAway_38 : decode cX11_takeAway 38 = .ok (.iaload, 1) := by decide +kernel
theorem dX11_takeAway_39 : decode cX11_takeAway 39 = .ok (.iastore, 1) := by decide +kernel
theorem dX11_takeAway_40 : decode cX11_takeAway 40 = .ok (.return_, 1) := by decide +kernel
theorem dX11_stop_0 : decode cX11_stop 0 = .ok (.aload_n 0, 1) := by decide +kernel
theorem dX11_stop_1 : decode cX11_stop 1 = .ok (.bipush 16, 2) := by decide +kernel
theorem dX11_stop_3 : decode cX11_stop 3 = .ok (.invokevirtual 158, 3) := by decide +kernel
theorem dX11_stop_6 : decode cX11_stop 6 = .ok (.ifCond .ne 6, 3) := by decide +kernel
theorem dX11_stop_9 : decode cX11_stop 9 = .ok (.bipush (-2), 2) := by decide +kernel
theorem dX11_stop_11 : decode cX11_stop 11 = .ok (.ireturn, 1) := by decide +kernel
theorem dX11_stop_12 : decode cX11_stop 12 = .ok (.aload_n 0, 1) := by decide +kernel
theorem dX11_stop_13 : decode cX11_stop 13 = .ok (.getfield 16, 3) := by decide +kernel
theorem dX11_stop_16 : decode cX11_stop 16 = .ok (.aload_n 0, 1) := by decide +kernel
theorem dX11_stop_17 : decode cX11_stop 17 = .ok (.getfield 19, 3) := by decide +kernel
theorem dX11_stop_20 : decode cX11_stop 20 = .ok (.aload_n 0, 1) := by decide +kernel
theorem dX11_stop_21 : decode cX11_stop 21 = .ok (.getfield 161, 3) := by decide +kernel
theorem dX11_stop_24 : decode cX11_stop 24 = .ok (.aload_n 0, 1) := by decide +kernel
theorem dX11_stop_25 : decode cX11_stop 25 = .ok (.getfield 13, 3) := by decide +kernel
theorem dX11_stop_28 : decode cX11_stop 28 = .ok (.iconst 0, 1) := by decide +kernel
theorem dX11_stop_29 : decode cX11_stop 29 = .ok (.aload_n 0, 1) := by decide +kernel
theorem dX11_stop_30 : decode cX11_stop 30 = .ok (.getfield 151, 3) := by decide +kernel
theorem dX11_stop_33 : decode cX11_stop 33 = .ok (.invokestatic 164, 3) := by decide +kernel
theorem dX11_stop_36 : decode cX11_stop 36 = .ok (.istore_n 1, 1) := by decide +kernel
theorem dX11_stop_37 : decode cX11_stop 37 = .ok (.iload_n 1, 1) := by decide +kernel
theorem dX11_stop_38 : decode cX11_stop 38 = .ok (.iconst (-1), 1) := by decide +kernel
theorem dX11_stop_39 : decode cX11_stop 39 = .ok (.if_icmp .ne 15, 3) := by decide +kernel
theorem dX11_stop_42 : decode cX11_stop 42 = .ok (.aload_n 0, 1) := by decide +kernel
theorem dX11_stop_43 : decode cX11_stop 43 = .ok (.getfield 161, 3) := by decide +kernel
theorem dX11_stop_46 : decode cX11_stop 46 = .ok (.bipush 60, 2) := by decide +kernel
theorem dX11_stop_48 : decode cX11_stop 48 = .ok (.if_icmp .ne 6, 3) := by decide +kernel
theorem dX11_stop_51 : decode cX11_stop 51 = .ok (.bipush (-3), 2) := by decide +kernel
theorem dX11_stop_53 : decode cX11_stop 53 = .ok (.ireturn, 1) := by decide +kernel
theorem dX11_stop_54 : decode cX11_stop 54 = .ok (.iload_n 1, 1) := by decide +kernel
theorem dX11_stop_55 : decode cX11_stop 55 = .ok (.iconst (-1), 1) := by decide +kernel
theorem dX11_stop_56 : decode cX11_stop 56 = .ok (.if_icmp .ne 32, 3) := by decide +kernel
theorem dX11_stop_59 : decode cX11_stop 59 = .ok (.aload_n 0, 1) := by decide +kernel
theorem dX11_stop_60 : decode cX11_stop 60 = .ok (.aload_n 0, 1) := by decide +kernel
theorem dX11_stop_61 : decode cX11_stop 61 = .ok (.getfield 16, 3) := by decide +kernel
theorem dX11_stop_64 : decode cX11_stop 64 = .ok (.aload_n 0, 1) := by decide +kernel
theorem dX11_stop_65 : decode cX11_stop 65 = .ok (.getfield 19, 3) := by decide +kernel
theorem dX11_stop_68 : decode cX11_stop 68 = .ok (.aload_n 0, 1) := by decide +kernel
theorem dX11_stop_69 : decode cX11_stop 69 = .ok (.getfield 161, 3) := by decide +kernel
theorem dX11_stop_72 : decode cX11_stop 72 = .ok (.invokevirtual 168, 3) := by decide +kernel
theorem dX11_stop_75 : decode cX11_stop 75 = .ok (.aload_n 0, 1) := by decide +kernel
theorem dX11_stop_76 : decode cX11_stop 76 = .ok (.dup, 1) := by decide +kernel
theorem dX11_stop_77 : decode cX11_stop 77 = .ok (.getfield 161, 3) := by decide +kernel
theorem dX11_stop_80 : decode cX11_stop 80 = .ok (.iconst 1, 1) := by decide +kernel
theorem dX11_stop_81 : decode cX11_stop 81 = .ok (.iadd, 1) := by decide +kernel
theorem dX11_stop_82 : decode cX11_stop 82 = .ok (.putfield 161, 3) := by decide +kernel
theorem dX11_stop_85 : decode cX11_stop 85 = .ok (.goto 29, 3) := by decide +kernel
theorem dX11_stop_88 : decode cX11_stop 88 = .ok (.aload_n 0, 1) := by decide +kernel
theorem dX11_stop_89 : decode cX11_stop 89 = .ok (.dup, 1) := by decide +kernel
theorem dX11_stop_90 : decode cX11_stop 90 = .ok (.getfield 161, 3) := by decide +kernel
theorem dX11_stop_93 : decode cX11_stop 93 = .ok (.iconst 1, 1) := by decide +kernel
theorem dX11_stop_94 : decode cX11_stop 94 = .ok (.isub, 1) := by decide +kernel
theorem dX11_stop_95 : decode cX11_stop 95 = .ok (.putfield 161, 3) := by decide +kernel
theorem dX11_stop_98 : decode cX11_stop 98 = .ok (.aload_n 0, 1) := by decide +kernel
theorem dX11_stop_99 : decode cX11_stop 99 = .ok (.getfield 16, 3) := by decide +kernel
theorem dX11_stop_102 : decode cX11_stop 102 = .ok (.aload_n 0, 1) := by decide +kernel
theorem dX11_stop_103 : decode cX11_stop 103 = .ok (.getfield 19, 3) := by decide +kernel
theorem dX11_stop_106 : decode cX11_stop 106 = .ok (.iload_n 1, 1) := by decide +kernel
theorem dX11_stop_107 : decode cX11_stop 107 = .ok (.aload_n 0, 1) := by decide +kernel
theorem dX11_stop_108 : decode cX11_stop 108 = .ok (.getfield 161, 3) := by decide +kernel
theorem dX11_stop_111 : decode cX11_stop 111 = .ok (.invokestatic 172, 3) := by decide +kernel
theorem dX11_stop_114 : decode cX11_stop 114 = .ok (.aload_n 0, 1) := by decide +kernel
theorem dX11_stop_115 : decode cX11_stop 115 = .ok (.iconst 0, 1) := by decide +kernel
theorem dX11_stop_116 : decode cX11_stop 116 = .ok (.putfield 176, 3) := by decide +kernel
theorem dX11_stop_119 : decode cX11_stop 119 = .ok (.aload_n 0, 1) := by decide +kernel
theorem dX11_stop_120 : decode cX11_stop 120 = .ok (.getfield 161, 3) := by decide +kernel
theorem dX11_stop_123 : decode cX11_stop 123 = .ok (.ireturn, 1) := by decide +kernel
theorem dX11_sign_0 : decode cX11_sign 0 = .ok (.aload_n 0, 1) := by decide +kernel
theorem dX11_sign_1 : decode cX11_sign 1 = .ok (.bipush 16, 2) := by decide +kernel
theorem dX11_sign_3 : decode cX11_sign 3 = .ok (.invokevirtual 158, 3) := by decide +kernel
theorem dX11_sign_6 : decode cX11_sign 6 = .ok (.ifCond .eq 12, 3) := by decide +kernel
theorem dX11_sign_9 : decode cX11_sign 9 = .ok (.iload_n 1, 1) := by decide +kernel
theorem dX11_sign_10 : decode cX11_sign 10 = .ok (.iconst 0, 1) := by decide +kernel
theorem dX11_sign_11 : decode cX11_sign 11 = .ok (.iconst 4, 1) := by decide +kernel
theorem dX11_sign_12 : decode cX11_sign 12 = .ok (.invokestatic 139, 3) := by decide +kernel
theorem dX11_sign_15 : decode cX11_sign 15 = .ok (.ifCond .ne 6, 3) := by decide +kernel
theorem dX11_sign_18 : decode cX11_sign 18 = .ok (.bipush (-2), 2) := by decide +kernel
theorem dX11_sign_20 : decode cX11_sign 20 = .ok (.ireturn, 1) := by decide +kernel
theorem dX11_sign_21 : decode cX11_sign 21 = .ok (.aload_n 0, 1) := by decide +kernel
theorem dX11_sign_22 : decode cX11_sign 22 = .ok (.getfield 23, 3) := by decide +kernel
theorem dX11_sign_25 : decode cX11_sign 25 = .ok (.aload_n 0, 1) := by decide +kernel
theorem dX11_sign_26 : decode cX11_sign 26 = .ok (.getfield 26, 3) := by decide +kernel
theorem dX11_sign_29 : decode cX11_sign 29 = .ok (.aload_n 0, 1) := by decide +kernel
theorem dX11_sign_30 : decode cX11_sign 30 = .ok (.getfield 180, 3) := by decide +kernel
theorem dX11_sign_33 : decode cX11_sign 33 = .ok (.aload_n 0, 1) := by decide +kernel
theorem dX11_sign_34 : decode cX11_sign 34 = .ok (.getfield 13, 3) := by decide +kernel
theorem dX11_sign_37 : decode cX11_sign 37 = .ok (.iconst 0, 1) := by decide +kernel
theorem dX11_sign_38 : decode cX11_sign 38 = .ok (.aload_n 0, 1) := by decide +kernel
theorem dX11_sign_39 : decode cX11_sign 39 = .ok (.getfield 151, 3) := by decide +kernel
theorem dX11_sign_42 : decode cX11_sign 42 = .ok (.invokestatic 164, 3) := by decide +kernel
theorem dX11_sign_45 : decode cX11_sign 45 = .ok (.istore_n 2, 1) := by decide +kernel
theorem dX11_sign_46 : decode cX11_sign 46 = .ok (.iload_n 1, 1) := by decide +kernel
theorem dX11_sign_47 : decode cX11_sign 47 = .ok (.ifCond .ne 57, 3) := by decide +kernel
theorem dX11_sign_50 : decode cX11_sign 50 = .ok (.iload_n 2, 1) := by decide +kernel
theorem dX11_sign_51 : decode cX11_sign 51 = .ok (.iconst (-1), 1) := by decide +kernel
theorem dX11_sign_52 : decode cX11_sign 52 = .ok (.if_icmp .ne 8, 3) := by decide +kernel
theorem dX11_sign_55 : decode cX11_sign 55 = .ok (.aload_n 0, 1) := by decide +kernel
theorem dX11_sign_56 : decode cX11_sign 56 = .ok (.getfield 180, 3) := by decide +kernel
theorem dX11_sign_59 : decode cX11_sign 59 = .ok (.ireturn, 1) := by decide +kernel
theorem dX11_sign_60 : decode cX11_sign 60 = .ok (.aload_n 0, 1) := by decide +kernel
theorem dX11_sign_61 : decode cX11_sign 61 = .ok (.dup, 1) := by decide +kernel
theorem dX11_sign_62 : decode cX11_sign 62 = .ok (.getfield 180, 3) := by decide +kernel
theorem dX11_sign_65 : decode cX11_sign 65 = .ok (.iconst 1, 1) := by decide +kernel
theorem dX11_sign_66 : decode cX11_sign 66 = .ok (.isub, 1) := by decide +kernel
theorem dX11_sign_67 : decode cX11_sign 67 = .ok (.putfield 180, 3) := by decide +kernel
theorem dX11_sign_70 : decode cX11_sign 70 = .ok (.aload_n 0, 1) := by decide +kernel
theorem dX11_sign_71 : decode cX11_sign 71 = .ok (.getfield 23, 3) := by decide +kernel
theorem dX11_sign_74 : decode cX11_sign 74 = .ok (.aload_n 0, 1) := by decide +kernel
theorem dX11_sign_75 : decode cX11_sign 75 = .ok (.getfield 26, 3) := by decide +kernel
theorem dX11_sign_78 : decode cX11_sign 78 = .ok (.iload_n 2, 1) := by decide +kernel
theorem dX11_sign_79 : decode cX11_sign 79 = .ok (.aload_n 0, 1) := by decide +kernel
theorem dX11_sign_80 : decode cX11_sign 80 = .ok (.getfield 180, 3) := by decide +kernel
theorem dX11_sign_83 : decode cX11_sign 83 = .ok (.invokestatic 172, 3) := by decide +kernel
theorem dX11_sign_86 : decode cX11_sign 86 = .ok (.aload_n 0, 1) := by decide +kernel
theorem dX11_sign_87 : decode cX11_sign 87 = .ok (.getfield 29, 3) := by decide +kernel
theorem dX11_sign_90 : decode cX11_sign 90 = .ok (.iload_n 2, 1) := by decide +kernel
theorem dX11_sign_91 : decode cX11_sign 91 = .ok (.aload_n 0, 1) := by decide +kernel
theorem dX11_sign_92 : decode cX11_sign 92 = .ok (.getfield 29, 3) := by decide +kernel
theorem dX11_sign_95 : decode cX11_sign 95 = .ok (.aload_n 0, 1) := by decide +kernel
theorem dX11_sign_96 : decode cX11_sign 96 = .ok (.getfield 180, 3) := by decide +kernel
theorem dX11_sign_99 : decode cX11_sign 99 = .ok (.iaload, 1) := by decide +kernel
theorem dX11_sign_100 : decode cX11_sign 100 = .ok (.iastore, 1) := by decide +kernel
theorem dX11_sign_101 : decode cX11_sign 101 = .ok (.goto 60, 3) := by decide +kernel
theorem dX11_sign_104 : decode cX11_sign 104 = .ok (.iload_n 2, 1) := by decide +kernel
theorem dX11_sign_105 : decode cX11_sign 105 = .ok (.iconst (-1), 1) := by decide +kernel
theorem dX11_sign_106 : decode cX11_sign 106 = .ok (.if_icmp .ne 15, 3) := by decide +kernel
theorem dX11_sign_109 : decode cX11_sign 109 = .ok (.aload_n 0, 1) := by decide +kernel
theorem dX11_sign_110 : decode cX11_sign 110 = .ok (.getfield 180, 3) := by decide +kernel
theorem dX11_sign_113 : decode cX11_sign 113 = .ok (.bipush 30, 2) := by decide +kernel
theorem dX11_sign_115 : decode cX11_sign 115 = .ok (.if_icmp .ne 6, 3) := by decide +kernel
theorem dX11_sign_118 : decode cX11_sign 118 = .ok (.bipush (-3), 2) := by decide +kernel
theorem dX11_sign_120 : decode cX11_sign 120 = .ok (.ireturn, 1) := by decide +kernel
theorem dX11_sign_121 : decode cX11_sign 121 = .ok (.iload_n 2, 1) := by decide +kernel
theorem dX11_sign_122 : decode cX11_sign 122 = .ok (.iconst (-1), 1) := by decide +kernel
theorem dX11_sign_123 : decode cX11_sign 123 = .ok (.if_icmp .ne 31, 3) := by decide +kernel
theorem dX11_sign_126 : decode cX11_sign 126 = .ok (.aload_n 0, 1) := by decide +kernel
theorem dX11_sign_127 : decode cX11_sign 127 = .ok (.getfield 180, 3) := by decide +kernel
theorem dX11_sign_130 : decode cX11_sign 130 = .ok (.istore_n 2, 1) := by decide +kernel
theorem dX11_sign_131 : decode cX11_sign 131 = .ok (.aload_n 0, 1) := by decide +kernel
theorem dX11_sign_132 : decode cX11_sign 132 = .ok (.aload_n 0, 1) := by decide +kernel
theorem dX11_sign_133 : decode cX11_sign 133 = .ok (.getfield 23, 3) := by decide +kernel
theorem dX11_sign_136 : decode cX11_sign 136 = .ok (.aload_n 0, 1) := by decide +kernel
theorem dX11_sign_137 : decode cX11_sign 137 = .ok (.getfield 26, 3) := by decide +kernel
theorem dX11_sign_140 : decode cX11_sign 140 = .ok (.iload_n 2, 1) := by decide +kernel
theorem dX11_sign_141 : decode cX11_sign 141 = .ok (.invokevirtual 168, 3) := by decide +kernel
theorem dX11_sign_144 : decode cX11_sign 144 = .ok (.aload_n 0, 1) := by decide +kernel
theorem dX11_sign_145 : decode cX11_sign 145 = .ok (.dup, 1) := by decide +kernel
theorem dX11_sign_146 : decode cX11_sign 146 = .ok (.getfield 180, 3) := by decide +kernel
theorem dX11_sign_149 : decode cX11_sign 149 = .ok (.iconst 1, 1) := by decide +kernel
theorem dX11_sign_150 : decode cX11_sign 150 = .ok (.iadd, 1) := by decide +kernel
theorem dX11_sign_151 : decode cX11_sign 151 = .ok (.putfield 180, 3) := by decide +kernel
theorem dX11_sign_154 : decode cX11_sign 154 = .ok (.aload_n 0, 1) := by decide +kernel
theorem dX11_sign_155 : decode cX11_sign 155 = .ok (.getfield 29, 3) := by decide +kernel
theorem dX11_sign_158 : decode cX11_sign 158 = .ok (.iload_n 2, 1) := by decide +kernel
theorem dX11_sign_159 : decode cX11_sign 159 = .ok (.iload_n 1, 1) := by decide +kernel
theorem dX11_sign_160 : decode cX11_sign 160 = .ok (.iastore, 1) := by decide +kernel
theorem dX11_sign_161 : decode cX11_sign 161 = .ok (.aload_n 0, 1) := by decide +kernel
theorem dX11_sign_162 : decode cX11_sign 162 = .ok (.iconst 0, 1) := by decide +kernel
theorem dX11_sign_163 : decode cX11_sign 163 = .ok (.putfield 176, 3) := by decide +kernel
theorem dX11_sign_166 : decode cX11_sign 166 = .ok (.aload_n 0, 1) := by decide +kernel
theorem dX11_sign_167 : decode cX11_sign 167 = .ok (.getfield 180, 3) := by decide +kernel
theorem dX11_sign_170 : decode cX11_sign 170 = .ok (.ireturn, 1) := by decide +kernel
theorem dX11_ending_0 : decode cX11_ending 0 = .ok (.aload_n 0, 1) := by decide +kernel
theorem dX11_ending_1 : decode cX11_ending 1 = .ok (.bipush 6, 2) := by decide +kernel
theorem dX11_ending_3 : decode cX11_ending 3 = .ok (.invokevirtual 158, 3) := by decide +kernel
theorem dX11_ending_6 : decode cX11_ending 6 = .ok (.ifCond .ne 6, 3) := by decide +kernel
theorem dX11_ending_9 : decode cX11_ending 9 = .ok (.bipush (-2), 2) := by decide +kernel
theorem dX11_ending_11 : decode cX11_ending 11 = .ok (.ireturn, 1) := by decide +kernel
theorem dX11_ending_12 : decode cX11_ending 12 = .ok (.aload_n 0, 1) := by decide +kernel
theorem dX11_ending_13 : decode cX11_ending 13 = .ok (.getfield 32, 3) := by decide +kernel
theorem dX11_ending_16 : decode cX11_ending 16 = .ok (.aload_n 0, 1) := by decide +kernel
theorem dX11_ending_17 : decode cX11_ending 17 = .ok (.getfield 35, 3) := by decide +kernel
theorem dX11_ending_20 : decode cX11_ending 20 = .ok (.aload_n 0, 1) := by decide +kernel
theorem dX11_ending_21 : decode cX11_ending 21 = .ok (.getfield 183, 3) := by decide +kernel
theorem dX11_ending_24 : decode cX11_ending 24 = .ok (.aload_n 0, 1) := by decide +kernel
theorem dX11_ending_25 : decode cX11_ending 25 = .ok (.getfield 13, 3) := by decide +kernel
theorem dX11_ending_28 : decode cX11_ending 28 = .ok (.iconst 0, 1) := by decide +kernel
theorem dX11_ending_29 : decode cX11_ending 29 = .ok (.aload_n 0, 1) := by decide +kernel
theorem dX11_ending_30 : decode cX11_ending 30 = .ok (.getfield 151, 3) := by decide +kernel
theorem dX11_ending_33 : decode cX11_ending 33 = .ok (.invokestatic 164, 3) := by decide +kernel
theorem dX11_ending_36 : decode cX11_ending 36 = .ok (.istore_n 1, 1) := by decide +kernel
theorem dX11_ending_37 : decode cX11_ending 37 = .ok (.iload_n 1, 1) := by decide +kernel
theorem dX11_ending_38 : decode cX11_ending 38 = .ok (.iconst (-1), 1) := by decide +kernel
theorem dX11_ending_39 : decode cX11_ending 39 = .ok (.if_icmp .ne 15, 3) := by decide +kernel
theorem dX11_ending_42 : decode cX11_ending 42 = .ok (.aload_n 0, 1) := by decide +kernel
theorem dX11_ending_43 : decode cX11_ending 43 = .ok (.getfield 183, 3) := by decide +kernel
theorem dX11_ending_46 : decode cX11_ending 46 = .ok (.bipush 10, 2) := by decide +kernel
theorem dX11_ending_48 : decode cX11_ending 48 = .ok (.if_icmp .ne 6, 3) := by decide +kernel
theorem dX11_ending_51 : decode cX11_ending 51 = .ok (.bipush (-3), 2) := by decide +kernel
theorem dX11_ending_53 : decode cX11_ending 53 = .ok (.ireturn, 1) := by decide +kernel
theorem dX11_ending_54 : decode cX11_ending 54 = .ok (.iload_n 1, 1) := by decide +kernel
theorem dX11_ending_55 : decode cX11_ending 55 = .ok (.iconst (-1), 1) := by decide +kernel
theorem dX11_ending_56 : decode cX11_ending 56 = .ok (.if_icmp .ne 32, 3) := by decide +kernel
theorem dX11_ending_59 : decode cX11_ending 59 = .ok (.aload_n 0, 1) := by decide +kernel
theorem dX11_ending_60 : decode cX11_ending 60 = .ok (.aload_n 0, 1) := by decide +kernel
theorem dX11_ending_61 : decode cX11_ending 61 = .ok (.getfield 32, 3) := by decide +kernel
theorem dX11_ending_64 : decode cX11_ending 64 = .ok (.aload_n 0, 1) := by decide +kernel
theorem dX11_ending_65 : decode cX11_ending 65 = .ok (.getfield 35, 3) := by decide +kernel
theorem dX11_ending_68 : decode cX11_ending 68 = .ok (.aload_n 0, 1) := by decide +kernel
theorem dX11_ending_69 : decode cX11_ending 69 = .ok (.getfield 183, 3) := by decide +kernel
theorem dX11_ending_72 : decode cX11_ending 72 = .ok (.invokevirtual 168, 3) := by decide +kernel
theorem dX11_ending_75 : decode cX11_ending 75 = .ok (.aload_n 0, 1) := by decide +kernel
theorem dX11_ending_76 : decode cX11_ending 76 = .ok (.dup, 1) := by decide +kernel
theorem dX11_ending_77 : decode cX11_ending 77 = .ok (.getfield 183, 3) := by decide +kernel
theorem dX11_ending_80 : decode cX11_ending 80 = .ok (.iconst 1, 1) := by decide +kernel
theorem dX11_ending_81 : decode cX11_ending 81 = .ok (.iadd, 1) := by decide +kernel
theorem dX11_ending_82 : decode cX11_ending 82 = .ok (.putfield 183, 3) := by decide +kernel
theorem dX11_ending_85 : decode cX11_ending 85 = .ok (.goto 29, 3) := by decide +kernel
theorem dX11_ending_88 : decode cX11_ending 88 = .ok (.aload_n 0, 1) := by decide +kernel
theorem dX11_ending_89 : decode cX11_ending 89 = .ok (.dup, 1) := by decide +kernel
theorem dX11_ending_90 : decode cX11_ending 90 = .ok (.getfield 183, 3) := by decide +kernel
theorem dX11_ending_93 : decode cX11_ending 93 = .ok (.iconst 1, 1) := by decide +kernel
theorem dX11_ending_94 : decode cX11_ending 94 = .ok (.isub, 1) := by decide +kernel
theorem dX11_ending_95 : decode cX11_ending 95 = .ok (.putfield 183, 3) := by decide +kernel
theorem dX11_ending_98 : decode cX11_ending 98 = .ok (.aload_n 0, 1) := by decide +kernel
theorem dX11_ending_99 : decode cX11_ending 99 = .ok (.getfield 32, 3) := by decide +kernel
theorem dX11_ending_102 : decode cX11_ending 102 = .ok (.aload_n 0, 1) := by decide +kernel
theorem dX11_ending_103 : decode cX11_ending 103 = .ok (.getfield 35, 3) := by decide +kernel
theorem dX11_ending_106 : decode cX11_ending 106 = .ok (.iload_n 1, 1) := by decide +kernel
theorem dX11_ending_107 : decode cX11_ending 107 = .ok (.aload_n 0, 1) := by decide +kernel
theorem dX11_ending_108 : decode cX11_ending 108 = .ok (.getfield 183, 3) := by decide +kernel
theorem dX11_ending_111 : decode cX11_ending 111 = .ok (.invokestatic 172, 3) := by decide +kernel
theorem dX11_ending_114 : decode cX11_ending 114 = .ok (.aload_n 0, 1) := by decide +kernel
theorem dX11_ending_115 : decode cX11_ending 115 = .ok (.iconst 0, 1) := by decide +kernel
theorem dX11_ending_116 : decode cX11_ending 116 = .ok (.putfield 176, 3) := by decide +kernel
theorem dX11_ending_119 : decode cX11_ending 119 = .ok (.aload_n 0, 1) := by decide +kernel
theorem dX11_ending_120 : decode cX11_ending 120 = .ok (.getfield 183, 3) := by decide +kernel
theorem dX11_ending_123 : decode cX11_ending 123 = .ok (.ireturn, 1) := by decide +kernel
theorem dX11_weight_0 : decode cX11_weight 0 = .ok (.iload_n 1, 1) := by decide +kernel
theorem dX11_weight_1 : decode cX11_weight 1 = .ok (.iconst 0, 1) := by decide +kernel
theorem dX11_weight_2 : decode cX11_weight 2 = .ok (.iconst 3, 1) := by decide +kernel
theorem dX11_weight_3 : decode cX11_weight 3 = .ok (.invokestatic 139, 3) := by decide +kernel
theorem dX11_weight_6 : decode cX11_weight 6 = .ok (.ifCond .eq 13, 3) := by decide +kernel
theorem dX11_weight_9 : decode cX11_weight 9 = .ok (.iload_n 2, 1) := by decide +kernel
theorem dX11_weight_10 : decode cX11_weight 10 = .ok (.iconst 0, 1) := by decide +kernel
theorem dX11_weight_11 : decode cX11_weight 11 = .ok (.bipush 50, 2) := by decide +kernel
theorem dX11_weight_13 : decode cX11_weight 13 = .ok (.invokestatic 139, 3) := by decide +kernel
theorem dX11_weight_16 : decode cX11_weight 16 = .ok (.ifCond .ne 6, 3) := by decide +kernel
theorem dX11_weight_19 : decode cX11_weight 19 = .ok (.bipush (-2), 2) := by decide +kernel
theorem dX11_weight_21 : decode cX11_weight 21 = .ok (.ireturn, 1) := by decide +kernel
theorem dX11_weight_22 : decode cX11_weight 22 = .ok (.aload_n 0, 1) := by decide +kernel
theorem dX11_weight_23 : decode cX11_weight 23 = .ok (.getfield 38, 3) := by decide +kernel
theorem dX11_weight_26 : decode cX11_weight 26 = .ok (.iload_n 1, 1) := by decide +kernel
theorem dX11_weight_27 : decode cX11_weight 27 = .ok (.iaload, 1) := by decide +kernel
theorem dX11_weight_28 : decode cX11_weight 28 = .ok (.istore_n 3, 1) := by decide +kernel
theorem dX11_weight_29 : decode cX11_weight 29 = .ok (.aload_n 0, 1) := by decide +kernel
theorem dX11_weight_30 : decode cX11_weight 30 = .ok (.getfield 38, 3) := by decide +kernel
theorem dX11_weight_33 : decode cX11_weight 33 = .ok (.iload_n 1, 1) := by decide +kernel
theorem dX11_weight_34 : decode cX11_weight 34 = .ok (.iload_n 2, 1) := by decide +kernel
theorem dX11_weight_35 : decode cX11_weight 35 = .ok (.iastore, 1) := by decide +kernel
theorem dX11_weight_36 : decode cX11_weight 36 = .ok (.aload_n 0, 1) := by decide +kernel
theorem dX11_weight_37 : decode cX11_weight 37 = .ok (.iconst 0, 1) := by decide +kernel
theorem dX11_weight_38 : decode cX11_weight 38 = .ok (.putfield 176, 3) := by decide +kernel
theorem dX11_weight_41 : decode cX11_weight 41 = .ok (.iload_n 3, 1) := by decide +kernel
theorem dX11_weight_42 : decode cX11_weight 42 = .ok (.ireturn, 1) := by decide +kernel
theorem dX11_wrong_0 : decode cX11_wrong 0 = .ok (.aload_n 0, 1) := by decide +kernel
theorem dX11_wrong_1 : decode cX11_wrong 1 = .ok (.iload_n 1, 1) := by decide +kernel
theorem dX11_wrong_2 : decode cX11_wrong 2 = .ok (.putfield 186, 3) := by decide +kernel
theorem dX11_wrong_5 : decode cX11_wrong 5 = .ok (.aload_n 0, 1) := by decide +kernel
theorem dX11_wrong_6 : decode cX11_wrong 6 = .ok (.iload_n 2, 1) := by decide +kernel
theorem dX11_wrong_7 : decode cX11_wrong 7 = .ok (.putfield 68, 3) := by decide +kernel
theorem dX11_wrong_10 : decode cX11_wrong 10 = .ok (.iconst (-1), 1) := by decide +kernel
theorem dX11_wrong_11 : decode cX11_wrong 11 = .ok (.ireturn, 1) := by decide +kernel
theorem dX11_reads_0 : decode cX11_reads 0 = .ok (.iconst 0, 1) := by decide +kernel
theorem dX11_reads_1 : decode cX11_reads 1 = .ok (.istore_n 2, 1) := by decide +kernel
theorem dX11_reads_2 : decode cX11_reads 2 = .ok (.iconst 0, 1) := by decide +kernel
theorem dX11_reads_3 : decode cX11_reads 3 = .ok (.istore_n 3, 1) := by decide +kernel
theorem dX11_reads_4 : decode cX11_reads 4 = .ok (.iconst 0, 1) := by decide +kernel
theorem dX11_reads_5 : decode cX11_reads 5 = .ok (.istore 4, 2) := by decide +kernel
theorem dX11_reads_7 : decode cX11_reads 7 = .ok (.iconst 0, 1) := by decide +kernel
theorem dX11_reads_8 : decode cX11_reads 8 = .ok (.istore 5, 2) := by decide +kernel
theorem dX11_reads_10 : decode cX11_reads 10 = .ok (.iconst 0, 1) := by decide +kernel
theorem dX11_reads_11 : decode cX11_reads 11 = .ok (.istore 6, 2) := by decide +kernel
theorem dX11_reads_13 : decode cX11_reads 13 = .ok (.iconst 0, 1) := by decide +kernel
theorem dX11_reads_14 : decode cX11_reads 14 = .ok (.istore 7, 2) := by decide +kernel
theorem dX11_reads_16 : decode cX11_reads 16 = .ok (.iload 7, 2) := by decide +kernel
theorem dX11_reads_18 : decode cX11_reads 18 = .ok (.iload_n 1, 1) := by decide +kernel
theorem dX11_reads_19 : decode cX11_reads 19 = .ok (.if_icmp .ge 300, 3) := by decide +kernel
theorem dX11_reads_22 : decode cX11_reads 22 = .ok (.aload_n 0, 1) := by decide +kernel
theorem dX11_reads_23 : decode cX11_reads 23 = .ok (.getfield 7, 3) := by decide +kernel
theorem dX11_reads_26 : decode cX11_reads 26 = .ok (.iload 7, 2) := by decide +kernel
theorem dX11_reads_28 : decode cX11_reads 28 = .ok (.baload, 1) := by decide +kernel
theorem dX11_reads_29 : decode cX11_reads 29 = .ok (.istore 8, 2) := by decide +kernel
theorem dX11_reads_31 : decode cX11_reads 31 = .ok (.iload 8, 2) := by decide +kernel
theorem dX11_reads_33 : decode cX11_reads 33 = .ok (.invokestatic 143, 3) := by decide +kernel
theorem dX11_reads_36 : decode cX11_reads 36 = .ok (.ifCond .eq 154, 3) := by decide +kernel
theorem dX11_reads_39 : decode cX11_reads 39 = .ok (.iload_n 3, 1) := by decide +kernel
theorem dX11_reads_40 : decode cX11_reads 40 = .ok (.ifCond .ne 17, 3) := by decide +kernel
theorem dX11_reads_43 : decode cX11_reads 43 = .ok (.iload_n 2, 1) := by decide +kernel
theorem dX11_reads_44 : decode cX11_reads 44 = .ok (.bipush 24, 2) := by decide +kernel
theorem dX11_reads_46 : decode cX11_reads 46 = .ok (.if_icmp .ne 11, 3) := by decide +kernel
theorem dX11_reads_49 : decode cX11_reads 49 = .ok (.aload_n 0, 1) := by decide +kernel
theorem dX11_reads_50 : decode cX11_reads 50 = .ok (.iconst 4, 1) := by decide +kernel
theorem dX11_reads_51 : decode cX11_reads 51 = .ok (.iload 7, 2) := by decide +kernel
theorem dX11_reads_53 : decode cX11_reads 53 = .ok (.invokevirtual 189, 3) := by decide +kernel
theorem dX11_reads_56 : decode cX11_reads 56 = .ok (.ireturn, 1) := by decide +kernel
theorem dX11_reads_57 : decode cX11_reads 57 = .ok (.iload_n 3, 1) := by decide +kernel
theorem dX11_reads_58 : decode cX11_reads 58 = .ok (.bipush 40, 2) := by decide +kernel
theorem dX11_reads_60 : decode cX11_reads 60 = .ok (.if_icmp .ne 11, 3) := by decide +kernel
theorem dX11_reads_63 : decode cX11_reads 63 = .ok (.aload_n 0, 1) := by decide +kernel
theorem dX11_reads_64 : decode cX11_reads 64 = .ok (.iconst 3, 1) := by decide +kernel
theorem dX11_reads_65 : decode cX11_reads 65 = .ok (.iload 7, 2) := by decide +kernel
theorem dX11_reads_67 : decode cX11_reads 67 = .ok (.invokevirtual 189, 3) := by decide +kernel
theorem dX11_reads_70 : decode cX11_reads 70 = .ok (.ireturn, 1) := by decide +kernel
theorem dX11_reads_71 : decode cX11_reads 71 = .ok (.iload_n 3, 1) := by decide +kernel
theorem dX11_reads_72 : decode cX11_reads 72 = .ok (.ifCond .ne 22, 3) := by decide +kernel
theorem dX11_reads_75 : decode cX11_reads 75 = .ok (.iload 6, 2) := by decide +kernel
theorem dX11_reads_77 : decode cX11_reads 77 = .ok (.ifCond .eq 6, 3) := by decide +kernel
theorem dX11_reads_80 : decode cX11_reads 80 = .ok (.iinc 4 1, 3) := by decide +kernel
theorem dX11_reads_83 : decode cX11_reads 83 = .ok (.iconst 0, 1) := by decide +kernel
theorem dX11_reads_84 : decode cX11_reads 84 = .ok (.istore 6, 2) := by decide +kernel
theorem dX11_reads_86 : decode cX11_reads 86 = .ok (.aload_n 0, 1) := by decide +kernel
theorem dX11_reads_87 : decode cX11_reads 87 = .ok (.getfield 59, 3) := by decide +kernel
theorem dX11_reads_90 : decode cX11_reads 90 = .ok (.iload_n 2, 1) := by decide +kernel
theorem dX11_reads_91 : decode cX11_reads 91 = .ok (.iload 4, 2) := by decide +kernel
theorem dX11_reads_93 : decode cX11_reads 93 = .ok (.iastore, 1) := by decide +kernel
theorem dX11_reads_94 : decode cX11_reads 94 = .ok (.bipush 40, 2) := by decide +kernel
theorem dX11_reads_96 : decode cX11_reads 96 = .ok (.iload_n 2, 1) := by decide +kernel
theorem dX11_reads_97 : decode cX11_reads 97 = .ok (.imul, 1) := by decide +kernel
theorem dX11_reads_98 : decode cX11_reads 98 = .ok (.iload_n 3, 1) := by decide +kernel
theorem dX11_reads_99 : decode cX11_reads 99 = .ok (.iadd, 1) := by decide +kernel
theorem dX11_reads_100 : decode cX11_reads 100 = .ok (.istore 9, 2) := by decide +kernel
theorem dX11_reads_102 : decode cX11_reads 102 = .ok (.iconst 0, 1) := by decide +kernel
theorem dX11_reads_103 : decode cX11_reads 103 = .ok (.istore 10, 2) := by decide +kernel
theorem dX11_reads_105 : decode cX11_reads 105 = .ok (.iload 7, 2) := by decide +kernel
theorem dX11_reads_107 : decode cX11_reads 107 = .ok (.iload_n 1, 1) := by decide +kernel
theorem dX11_reads_108 : decode cX11_reads 108 = .ok (.if_icmp .ge 64, 3) := by decide +kernel
theorem dX11_reads_111 : decode cX11_reads 111 = .ok (.aload_n 0, 1) := by decide +kernel
theorem dX11_reads_112 : decode cX11_reads 112 = .ok (.getfield 7, 3) := by decide +kernel
theorem dX11_reads_115 : decode cX11_reads 115 = .ok (.iload 7, 2) := by decide +kernel
theorem dX11_reads_117 : decode cX11_reads 117 = .ok (.baload, 1) := by decide +kernel
theorem dX11_reads_118 : decode cX11_reads 118 = .ok (.invokestatic 143, 3) := by decide +kernel
theorem dX11_reads_121 : decode cX11_reads 121 = .ok (.ifCond .eq 51, 3) := by decide +kernel
theorem dX11_reads_124 : decode cX11_reads 124 = .ok (.iload 10, 2) := by decide +kernel
theorem dX11_reads_126 : decode cX11_reads 126 = .ok (.bipush 16, 2) := by decide +kernel
theorem dX11_reads_128 : decode cX11_reads 128 = .ok (.if_icmp .ne 11, 3) := by decide +kernel
theorem dX11_reads_131 : decode cX11_reads 131 = .ok (.aload_n 0, 1) := by decide +kernel
theorem dX11_reads_132 : decode cX11_reads 132 = .ok (.iconst 2, 1) := by decide +kernel
theorem dX11_reads_133 : decode cX11_reads 133 = .ok (.iload 7, 2) := by decide +kernel
theorem dX11_reads_135 : decode cX11_reads 135 = .ok (.invokevirtual 189, 3) := by decide +kernel
theorem dX11_reads_138 : decode cX11_reads 138 = .ok (.ireturn, 1) := by decide +kernel
theorem dX11_reads_139 : decode cX11_reads 139 = .ok (.aload_n 0, 1) := by decide +kernel
theorem dX11_reads_140 : decode cX11_reads 140 = .ok (.getfield 50, 3) := by decide +kernel
theorem dX11_reads_143 : decode cX11_reads 143 = .ok (.bipush 16, 2) := by decide +kernel
theorem dX11_reads_145 : decode cX11_reads 145 = .ok (.iload 9, 2) := by decide +kernel
theorem dX11_reads_147 : decode cX11_reads 147 = .ok (.imul, 1) := by decide +kernel
theorem dX11_reads_148 : decode cX11_reads 148 = .ok (.iload 10, 2) := by decide +kernel
theorem dX11_reads_150 : decode cX11_reads 150 = .ok (.iadd, 1) := by decide +kernel
theorem dX11_reads_151 : decode cX11_reads 151 = .ok (.aload_n 0, 1) := by decide +kernel
theorem dX11_reads_152 : decode cX11_reads 152 = .ok (.getfield 7, 3) := by decide +kernel
theorem dX11_reads_155 : decode cX11_reads 155 = .ok (.iload 7, 2) := by decide +kernel
theorem dX11_reads_157 : decode cX11_reads 157 = .ok (.baload, 1) := by decide +kernel
theorem dX11_reads_158 : decode cX11_reads 158 = .ok (.invokestatic 147, 3) := by decide +kernel
theorem dX11_reads_161 : decode cX11_reads 161 = .ok (.i2b, 1) := by decide +kernel
theorem dX11_reads_162 : decode cX11_reads 162 = .ok (.bastore, 1) := by decide +kernel
theorem dX11_reads_163 : decode cX11_reads 163 = .ok (.iinc 10 1, 3) := by decide +kernel
theorem dX11_reads_166 : decode cX11_reads 166 = .ok (.iinc 7 1, 3) := by decide +kernel
theorem dX11_reads_169 : decode cX11_reads 169 = .ok (.goto (-64), 3) := by decide +kernel
theorem dX11_reads_172 : decode cX11_reads 172 = .ok (.aload_n 0, 1) := by decide +kernel
theorem dX11_reads_173 : decode cX11_reads 173 = .ok (.getfield 53, 3) := by decide +kernel
theorem dX11_reads_176 : decode cX11_reads 176 = .ok (.iload 9, 2) := by decide +kernel
theorem dX11_reads_178 : decode cX11_reads 178 = .ok (.iload 10, 2) := by decide +kernel
theorem dX11_reads_180 : decode cX11_reads 180 = .ok (.iastore, 1) := by decide +kernel
theorem dX11_reads_181 : decode cX11_reads 181 = .ok (.iinc 3 1, 3) := by decide +kernel
theorem dX11_reads_184 : decode cX11_reads 184 = .ok (.iconst 0, 1) := by decide +kernel
theorem dX11_reads_185 : decode cX11_reads 185 = .ok (.istore 5, 2) := by decide +kernel
theorem dX11_reads_187 : decode cX11_reads 187 = .ok (.goto (-171), 3) := by decide +kernel
theorem dX11_reads_190 : decode cX11_reads 190 = .ok (.iload 8, 2) := by decide +kernel
theorem dX11_reads_192 : decode cX11_reads 192 = .ok (.bipush 46, 2) := by decide +kernel
theorem dX11_reads_194 : decode cX11_reads 194 = .ok (.if_icmp .eq 17, 3) := by decide +kernel
theorem dX11_reads_197 : decode cX11_reads 197 = .ok (.iload 8, 2) := by decide +kernel
theorem dX11_reads_199 : decode cX11_reads 199 = .ok (.bipush 33, 2) := by decide +kernel
theorem dX11_reads_201 : decode cX11_reads 201 = .ok (.if_icmp .eq 10, 3) := by decide +kernel
theorem dX11_reads_204 : decode cX11_reads 204 = .ok (.iload 8, 2) := by decide +kernel
theorem dX11_reads_206 : decode cX11_reads 206 = .ok (.bipush 63, 2) := by decide +kernel
theorem dX11_reads_208 : decode cX11_reads 208 = .ok (.if_icmp .ne 33, 3) := by decide +kernel
theorem dX11_reads_211 : decode cX11_reads 211 = .ok (.iload_n 3, 1) := by decide +kernel
theorem dX11_reads_212 : decode cX11_reads 212 = .ok (.ifCond .ne 11, 3) := by decide +kernel
theorem dX11_reads_215 : decode cX11_reads 215 = .ok (.aload_n 0, 1) := by decide +kernel
theorem dX11_reads_216 : decode cX11_reads 216 = .ok (.iconst 5, 1) := by decide +kernel
theorem dX11_reads_217 : decode cX11_reads 217 = .ok (.iload 7, 2) := by decide +kernel
theorem dX11_reads_219 : decode cX11_reads 219 = .ok (.invokevirtual 189, 3) := by decide +kernel
theorem dX11_reads_222 : decode cX11_reads 222 = .ok (.ireturn, 1) := by decide +kernel
theorem dX11_reads_223 : decode cX11_reads 223 = .ok (.aload_n 0, 1) := by decide +kernel
theorem dX11_reads_224 : decode cX11_reads 224 = .ok (.getfield 56, 3) := by decide +kernel
theorem dX11_reads_227 : decode cX11_reads 227 = .ok (.iload_n 2, 1) := by decide +kernel
theorem dX11_reads_228 : decode cX11_reads 228 = .ok (.iload_n 3, 1) := by decide +kernel
theorem dX11_reads_229 : decode cX11_reads 229 = .ok (.iastore, 1) := by decide +kernel
theorem dX11_reads_230 : decode cX11_reads 230 = .ok (.iinc 2 1, 3) := by decide +kernel
theorem dX11_reads_233 : decode cX11_reads 233 = .ok (.iconst 0, 1) := by decide +kernel
theorem dX11_reads_234 : decode cX11_reads 234 = .ok (.istore_n 3, 1) := by decide +kernel
theorem dX11_reads_235 : decode cX11_reads 235 = .ok (.iconst 0, 1) := by decide +kernel
theorem dX11_reads_236 : decode cX11_reads 236 = .ok (.istore 5, 2) := by decide +kernel
theorem dX11_reads_238 : decode cX11_reads 238 = .ok (.goto 75, 3) := by decide +kernel
theorem dX11_reads_241 : decode cX11_reads 241 = .ok (.iload 8, 2) := by decide +kernel
theorem dX11_reads_243 : decode cX11_reads 243 = .ok (.bipush 10, 2) := by decide +kernel
theorem dX11_reads_245 : decode cX11_reads 245 = .ok (.if_icmp .ne 26, 3) := by decide +kernel
theorem dX11_reads_248 : decode cX11_reads 248 = .ok (.iinc 5 1, 3) := by decide +kernel
theorem dX11_reads_251 : decode cX11_reads 251 = .ok (.iload 5, 2) := by decide +kernel
theorem dX11_reads_253 : decode cX11_reads 253 = .ok (.iconst 2, 1) := by decide +kernel
theorem dX11_reads_254 : decode cX11_reads 254 = .ok (.if_icmp .lt 59, 3) := by decide +kernel
theorem dX11_reads_257 : decode cX11_reads 257 = .ok (.iload_n 3, 1) := by decide +kernel
theorem dX11_reads_258 : decode cX11_reads 258 = .ok (.ifCond .ne 55, 3) := by decide +kernel
theorem dX11_reads_261 : decode cX11_reads 261 = .ok (.iload_n 2, 1) := by decide +kernel
theorem dX11_reads_262 : decode cX11_reads 262 = .ok (.ifCond .le 51, 3) := by decide +kernel
theorem dX11_reads_265 : decode cX11_reads 265 = .ok (.iconst 1, 1) := by decide +kernel
theorem dX11_reads_266 : decode cX11_reads 266 = .ok (.istore 6, 2) := by decide +kernel
theorem dX11_reads_268 : decode cX11_reads 268 = .ok (.goto 45, 3) := by decide +kernel
theorem dX11_reads_271 : decode cX11_reads 271 = .ok (.iload 8, 2) := by decide +kernel
theorem dX11_reads_273 : decode cX11_reads 273 = .ok (.bipush 44, 2) := by decide +kernel
theorem dX11_reads_275 : decode cX11_reads 275 = .ok (.if_icmp .eq 17, 3) := by decide +kernel
theorem dX11_reads_278 : decode cX11_reads 278 = .ok (.iload 8, 2) := by decide +kernel
theorem dX11_reads_280 : decode cX11_reads 280 = .ok (.bipush 59, 2) := by decide +kernel
theorem dX11_reads_282 : decode cX11_reads 282 = .ok (.if_icmp .eq 10, 3) := by decide +kernel
theorem dX11_reads_285 : decode cX11_reads 285 = .ok (.iload 8, 2) := by decide +kernel
theorem dX11_reads_287 : decode cX11_reads 287 = .ok (.bipush 58, 2) := by decide +kernel
theorem dX11_reads_289 : decode cX11_reads 289 = .ok (.if_icmp .ne 9, 3) := by decide +kernel
theorem dX11_reads_292 : decode cX11_reads 292 = .ok (.iconst 0, 1) := by decide +kernel
theorem dX11_reads_293 : decode cX11_reads 293 = .ok (.istore 5, 2) := by decide +kernel
theorem dX11_reads_295 : decode cX11_reads 295 = .ok (.goto 18, 3) := by decide +kernel
theorem dX11_reads_298 : decode cX11_reads 298 = .ok (.iload 8, 2) := by decide +kernel
theorem dX11_reads_300 : decode cX11_reads 300 = .ok (.bipush 32, 2) := by decide +kernel
theorem dX11_reads_302 : decode cX11_reads 302 = .ok (.if_icmp .eq 11, 3) := by decide +kernel
theorem dX11_reads_305 : decode cX11_reads 305 = .ok (.aload_n 0, 1) := by decide +kernel
theorem dX11_reads_306 : decode cX11_reads 306 = .ok (.iconst 1, 1) := by decide +kernel
theorem dX11_reads_307 : decode cX11_reads 307 = .ok (.iload 7, 2) := by decide +kernel
theorem dX11_reads_309 : decode cX11_reads 309 = .ok (.invokevirtual 189, 3) := by decide +kernel
theorem dX11_reads_312 : decode cX11_reads 312 = .ok (.ireturn, 1) := by decide +kernel
theorem dX11_reads_313 : decode cX11_reads 313 = .ok (.iinc 7 1, 3) := by decide +kernel
theorem dX11_reads_316 : decode cX11_reads 316 = .ok (.goto (-300), 3) := by decide +kernel
theorem dX11_reads_319 : decode cX11_reads 319 = .ok (.iload_n 3, 1) := by decide +kernel
theorem dX11_reads_320 : decode cX11_reads 320 = .ok (.ifCond .gt 7, 3) := by decide +kernel
theorem dX11_reads_323 : decode cX11_reads 323 = .ok (.iload_n 2, 1) := by decide +kernel
theorem dX11_reads_324 : decode cX11_reads 324 = .ok (.ifCond .ne 13, 3) := by decide +kernel
theorem dX11_reads_327 : decode cX11_reads 327 = .ok (.aload_n 0, 1) := by decide +kernel
theorem dX11_reads_328 : decode cX11_reads 328 = .ok (.bipush 6, 2) := by decide +kernel
theorem dX11_reads_330 : decode cX11_reads 330 = .ok (.iload_n 1, 1) := by decide +kernel
theorem dX11_reads_331 : decode cX11_reads 331 = .ok (.invokevirtual 189, 3) := by decide +kernel
theorem dX11_reads_334 : decode cX11_reads 334 = .ok (.goto 4, 3) := by decide +kernel
theorem dX11_reads_337 : decode cX11_reads 337 = .ok (.iload_n 2, 1) := by decide +kernel
theorem dX11_reads_338 : decode cX11_reads 338 = .ok (.ireturn, 1) := by decide +kernel
theorem dX11_read_0 : decode cX11_read 0 = .ok (.aload_n 0, 1) := by decide +kernel
theorem dX11_read_1 : decode cX11_read 1 = .ok (.getfield 136, 3) := by decide +kernel
theorem dX11_read_4 : decode cX11_read 4 = .ok (.istore_n 1, 1) := by decide +kernel
theorem dX11_read_5 : decode cX11_read 5 = .ok (.aload_n 0, 1) := by decide +kernel
theorem dX11_read_6 : decode cX11_read 6 = .ok (.iconst 0, 1) := by decide +kernel
theorem dX11_read_7 : decode cX11_read 7 = .ok (.putfield 136, 3) := by decide +kernel
theorem dX11_read_10 : decode cX11_read 10 = .ok (.aload_n 0, 1) := by decide +kernel
theorem dX11_read_11 : decode cX11_read 11 = .ok (.iconst 0, 1) := by decide +kernel
