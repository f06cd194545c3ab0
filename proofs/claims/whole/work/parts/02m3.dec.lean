theorem dX11_takeItems_133 : decode cX11_takeItems 133 = .ok (.ifCond .le 26, 3) := by decide +kernel
theorem dX11_takeItems_136 : decode cX11_takeItems 136 = .ok (.aload_n 0, 1) := by decide +kernel
theorem dX11_takeItems_137 : decode cX11_takeItems 137 = .ok (.getfield 81, 3) := by decide +kernel
theorem dX11_takeItems_140 : decode cX11_takeItems 140 = .ok (.aload_n 0, 1) := by decide +kernel
theorem dX11_takeItems_141 : decode cX11_takeItems 141 = .ok (.getfield 109, 3) := by decide +kernel
theorem dX11_takeItems_144 : decode cX11_takeItems 144 = .ok (.iload_n 2, 1) := by decide +kernel
theorem dX11_takeItems_145 : decode cX11_takeItems 145 = .ok (.iaload, 1) := by decide +kernel
theorem dX11_takeItems_146 : decode cX11_takeItems 146 = .ok (.iaload, 1) := by decide +kernel
theorem dX11_takeItems_147 : decode cX11_takeItems 147 = .ok (.iconst 1, 1) := by decide +kernel
theorem dX11_takeItems_148 : decode cX11_takeItems 148 = .ok (.iconst 3, 1) := by decide +kernel
theorem dX11_takeItems_149 : decode cX11_takeItems 149 = .ok (.invokestatic 139, 3) := by decide +kernel
theorem dX11_takeItems_152 : decode cX11_takeItems 152 = .ok (.ifCond .eq 7, 3) := by decide +kernel
theorem dX11_takeItems_155 : decode cX11_takeItems 155 = .ok (.iconst 1, 1) := by decide +kernel
theorem dX11_takeItems_156 : decode cX11_takeItems 156 = .ok (.goto 4, 3) := by decide +kernel
theorem dX11_takeItems_159 : decode cX11_takeItems 159 = .ok (.iconst 0, 1) := by decide +kernel
theorem dX11_takeItems_160 : decode cX11_takeItems 160 = .ok (.iastore, 1) := by decide +kernel
theorem dX11_takeItems_161 : decode cX11_takeItems 161 = .ok (.iinc 2 1, 3) := by decide +kernel
theorem dX11_takeItems_164 : decode cX11_takeItems 164 = .ok (.goto (-45), 3) := by decide +kernel
theorem dX11_takeItems_167 : decode cX11_takeItems 167 = .ok (.iconst 0, 1) := by decide +kernel
theorem dX11_takeItems_168 : decode cX11_takeItems 168 = .ok (.istore_n 2, 1) := by decide +kernel
theorem dX11_takeItems_169 : decode cX11_takeItems 169 = .ok (.iload_n 2, 1) := by decide +kernel
theorem dX11_takeItems_170 : decode cX11_takeItems 170 = .ok (.aload_n 0, 1) := by decide +kernel
theorem dX11_takeItems_171 : decode cX11_takeItems 171 = .ok (.getfield 199, 3) := by decide +kernel
theorem dX11_takeItems_174 : decode cX11_takeItems 174 = .ok (.if_icmp .ge 131, 3) := by decide +kernel
theorem dX11_takeItems_177 : decode cX11_takeItems 177 = .ok (.iconst (-1), 1) := by decide +kernel
theorem dX11_takeItems_178 : decode cX11_takeItems 178 = .ok (.istore_n 3, 1) := by decide +kernel
theorem dX11_takeItems_179 : decode cX11_takeItems 179 = .ok (.iconst (-1), 1) := by decide +kernel
theorem dX11_takeItems_180 : decode cX11_takeItems 180 = .ok (.istore 4, 2) := by decide +kernel
theorem dX11_takeItems_182 : decode cX11_takeItems 182 = .ok (.iconst 0, 1) := by decide +kernel
theorem dX11_takeItems_183 : decode cX11_takeItems 183 = .ok (.istore 5, 2) := by decide +kernel
theorem dX11_takeItems_185 : decode cX11_takeItems 185 = .ok (.iload 5, 2) := by decide +kernel
theorem dX11_takeItems_187 : decode cX11_takeItems 187 = .ok (.aload_n 0, 1) := by decide +kernel
theorem dX11_takeItems_188 : decode cX11_takeItems 188 = .ok (.getfield 196, 3) := by decide +kernel
theorem dX11_takeItems_191 : decode cX11_takeItems 191 = .ok (.if_icmp .ge 78, 3) := by decide +kernel
theorem dX11_takeItems_194 : decode cX11_takeItems 194 = .ok (.aload_n 0, 1) := by decide +kernel
theorem dX11_takeItems_195 : decode cX11_takeItems 195 = .ok (.getfield 65, 3) := by decide +kernel
theorem dX11_takeItems_198 : decode cX11_takeItems 198 = .ok (.iload 5, 2) := by decide +kernel
theorem dX11_takeItems_200 : decode cX11_takeItems 200 = .ok (.iaload, 1) := by decide +kernel
theorem dX11_takeItems_201 : decode cX11_takeItems 201 = .ok (.aload_n 0, 1) := by decide +kernel
theorem dX11_takeItems_202 : decode cX11_takeItems 202 = .ok (.getfield 103, 3) := by decide +kernel
theorem dX11_takeItems_205 : decode cX11_takeItems 205 = .ok (.iload_n 2, 1) := by decide +kernel
theorem dX11_takeItems_206 : decode cX11_takeItems 206 = .ok (.iaload, 1) := by decide +kernel
theorem dX11_takeItems_207 : decode cX11_takeItems 207 = .ok (.if_icmp .ne 21, 3) := by decide +kernel
theorem dX11_takeItems_210 : decode cX11_takeItems 210 = .ok (.aload_n 0, 1) := by decide +kernel
theorem dX11_takeItems_211 : decode cX11_takeItems 211 = .ok (.iload 5, 2) := by decide +kernel
theorem dX11_takeItems_213 : decode cX11_takeItems 213 = .ok (.iload_n 1, 1) := by decide +kernel
theorem dX11_takeItems_214 : decode cX11_takeItems 214 = .ok (.invokevirtual 246, 3) := by decide +kernel
theorem dX11_takeItems_217 : decode cX11_takeItems 217 = .ok (.ifCond .eq 11, 3) := by decide +kernel
theorem dX11_takeItems_220 : decode cX11_takeItems 220 = .ok (.aload_n 0, 1) := by decide +kernel
theorem dX11_takeItems_221 : decode cX11_takeItems 221 = .ok (.iload 5, 2) := by decide +kernel
theorem dX11_takeItems_223 : decode cX11_takeItems 223 = .ok (.iload_n 1, 1) := by decide +kernel
theorem dX11_takeItems_224 : decode cX11_takeItems 224 = .ok (.invokevirtual 277, 3) := by decide +kernel
theorem dX11_takeItems_227 : decode cX11_takeItems 227 = .ok (.istore_n 3, 1) := by decide +kernel
theorem dX11_takeItems_228 : decode cX11_takeItems 228 = .ok (.aload_n 0, 1) := by decide +kernel
theorem dX11_takeItems_229 : decode cX11_takeItems 229 = .ok (.getfield 65, 3) := by decide +kernel
theorem dX11_takeItems_232 : decode cX11_takeItems 232 = .ok (.iload 5, 2) := by decide +kernel
theorem dX11_takeItems_234 : decode cX11_takeItems 234 = .ok (.iaload, 1) := by decide +kernel
theorem dX11_takeItems_235 : decode cX11_takeItems 235 = .ok (.aload_n 0, 1) := by decide +kernel
theorem dX11_takeItems_236 : decode cX11_takeItems 236 = .ok (.getfield 106, 3) := by decide +kernel
theorem dX11_takeItems_239 : decode cX11_takeItems 239 = .ok (.iload_n 2, 1) := by decide +kernel
theorem dX11_takeItems_240 : decode cX11_takeItems 240 = .ok (.iaload, 1) := by decide +kernel
theorem dX11_takeItems_241 : decode cX11_takeItems 241 = .ok (.if_icmp .ne 22, 3) := by decide +kernel
theorem dX11_takeItems_244 : decode cX11_takeItems 244 = .ok (.aload_n 0, 1) := by decide +kernel
theorem dX11_takeItems_245 : decode cX11_takeItems 245 = .ok (.iload 5, 2) := by decide +kernel
theorem dX11_takeItems_247 : decode cX11_takeItems 247 = .ok (.iload_n 1, 1) := by decide +kernel
theorem dX11_takeItems_248 : decode cX11_takeItems 248 = .ok (.invokevirtual 246, 3) := by decide +kernel
theorem dX11_takeItems_251 : decode cX11_takeItems 251 = .ok (.ifCond .eq 12, 3) := by decide +kernel
theorem dX11_takeItems_254 : decode cX11_takeItems 254 = .ok (.aload_n 0, 1) := by decide +kernel
theorem dX11_takeItems_255 : decode cX11_takeItems 255 = .ok (.iload 5, 2) := by decide +kernel
theorem dX11_takeItems_257 : decode cX11_takeItems 257 = .ok (.iload_n 1, 1) := by decide +kernel
theorem dX11_takeItems_258 : decode cX11_takeItems 258 = .ok (.invokevirtual 277, 3) := by decide +kernel
theorem dX11_takeItems_261 : decode cX11_takeItems 261 = .ok (.istore 4, 2) := by decide +kernel
theorem dX11_takeItems_263 : decode cX11_takeItems 263 = .ok (.iinc 5 1, 3) := by decide +kernel
theorem dX11_takeItems_266 : decode cX11_takeItems 266 = .ok (.goto (-81), 3) := by decide +kernel
theorem dX11_takeItems_269 : decode cX11_takeItems 269 = .ok (.iload_n 3, 1) := by decide +kernel
theorem dX11_takeItems_270 : decode cX11_takeItems 270 = .ok (.iconst (-1), 1) := by decide +kernel
theorem dX11_takeItems_271 : decode cX11_takeItems 271 = .ok (.if_icmp .eq 28, 3) := by decide +kernel
theorem dX11_takeItems_274 : decode cX11_takeItems 274 = .ok (.iload 4, 2) := by decide +kernel
theorem dX11_takeItems_276 : decode cX11_takeItems 276 = .ok (.iconst (-1), 1) := by decide +kernel
theorem dX11_takeItems_277 : decode cX11_takeItems 277 = .ok (.if_icmp .eq 22, 3) := by decide +kernel
theorem dX11_takeItems_280 : decode cX11_takeItems 280 = .ok (.iload_n 3, 1) := by decide +kernel
theorem dX11_takeItems_281 : decode cX11_takeItems 281 = .ok (.iload 4, 2) := by decide +kernel
theorem dX11_takeItems_283 : decode cX11_takeItems 283 = .ok (.if_icmp .eq 16, 3) := by decide +kernel
theorem dX11_takeItems_286 : decode cX11_takeItems 286 = .ok (.aload_n 0, 1) := by decide +kernel
theorem dX11_takeItems_287 : decode cX11_takeItems 287 = .ok (.getfield 118, 3) := by decide +kernel
theorem dX11_takeItems_290 : decode cX11_takeItems 290 = .ok (.iload 4, 2) := by decide +kernel
theorem dX11_takeItems_292 : decode cX11_takeItems 292 = .ok (.dup2, 1) := by decide +kernel
theorem dX11_takeItems_293 : decode cX11_takeItems 293 = .ok (.iaload, 1) := by decide +kernel
theorem dX11_takeItems_294 : decode cX11_takeItems 294 = .ok (.iconst 1, 1) := by decide +kernel
theorem dX11_takeItems_295 : decode cX11_takeItems 295 = .ok (.iload_n 3, 1) := by decide +kernel
theorem dX11_takeItems_296 : decode cX11_takeItems 296 = .ok (.ishl, 1) := by decide +kernel
theorem dX11_takeItems_297 : decode cX11_takeItems 297 = .ok (.ior, 1) := by decide +kernel
theorem dX11_takeItems_298 : decode cX11_takeItems 298 = .ok (.iastore, 1) := by decide +kernel
theorem dX11_takeItems_299 : decode cX11_takeItems 299 = .ok (.iinc 2 1, 3) := by decide +kernel
theorem dX11_takeItems_302 : decode cX11_takeItems 302 = .ok (.goto (-133), 3) := by decide +kernel
theorem dX11_takeItems_305 : decode cX11_takeItems 305 = .ok (.iconst 1, 1) := by decide +kernel
theorem dX11_takeItems_306 : decode cX11_takeItems 306 = .ok (.ireturn, 1) := by decide +kernel
theorem dX11_placing_0 : decode cX11_placing 0 = .ok (.aload_n 0, 1) := by decide +kernel
theorem dX11_placing_1 : decode cX11_placing 1 = .ok (.getfield 121, 3) := by decide +kernel
theorem dX11_placing_4 : decode cX11_placing 4 = .ok (.iload_n 1, 1) := by decide +kernel
theorem dX11_placing_5 : decode cX11_placing 5 = .ok (.iaload, 1) := by decide +kernel
theorem dX11_placing_6 : decode cX11_placing 6 = .ok (.istore_n 3, 1) := by decide +kernel
theorem dX11_placing_7 : decode cX11_placing 7 = .ok (.iload_n 1, 1) := by decide +kernel
theorem dX11_placing_8 : decode cX11_placing 8 = .ok (.iconst 1, 1) := by decide +kernel
theorem dX11_placing_9 : decode cX11_placing 9 = .ok (.iand, 1) := by decide +kernel
theorem dX11_placing_10 : decode cX11_placing 10 = .ok (.iconst 1, 1) := by decide +kernel
theorem dX11_placing_11 : decode cX11_placing 11 = .ok (.if_icmp .ne 7, 3) := by decide +kernel
theorem dX11_placing_14 : decode cX11_placing 14 = .ok (.iconst 1, 1) := by decide +kernel
theorem dX11_placing_15 : decode cX11_placing 15 = .ok (.goto 4, 3) := by decide +kernel
theorem dX11_placing_18 : decode cX11_placing 18 = .ok (.iconst 0, 1) := by decide +kernel
theorem dX11_placing_19 : decode cX11_placing 19 = .ok (.istore 4, 2) := by decide +kernel
theorem dX11_placing_21 : decode cX11_placing 21 = .ok (.iload_n 2, 1) := by decide +kernel
theorem dX11_placing_22 : decode cX11_placing 22 = .ok (.ifCond .le 29, 3) := by decide +kernel
theorem dX11_placing_25 : decode cX11_placing 25 = .ok (.iload 4, 2) := by decide +kernel
theorem dX11_placing_27 : decode cX11_placing 27 = .ok (.ifCond .eq 14, 3) := by decide +kernel
theorem dX11_placing_30 : decode cX11_placing 30 = .ok (.iload_n 3, 1) := by decide +kernel
theorem dX11_placing_31 : decode cX11_placing 31 = .ok (.aload_n 0, 1) := by decide +kernel
theorem dX11_placing_32 : decode cX11_placing 32 = .ok (.getfield 115, 3) := by decide +kernel
theorem dX11_placing_35 : decode cX11_placing 35 = .ok (.iload_n 2, 1) := by decide +kernel
theorem dX11_placing_36 : decode cX11_placing 36 = .ok (.iaload, 1) := by decide +kernel
theorem dX11_placing_37 : decode cX11_placing 37 = .ok (.iadd, 1) := by decide +kernel
theorem dX11_placing_38 : decode cX11_placing 38 = .ok (.goto 12, 3) := by decide +kernel
theorem dX11_placing_41 : decode cX11_placing 41 = .ok (.iload_n 3, 1) := by decide +kernel
theorem dX11_placing_42 : decode cX11_placing 42 = .ok (.aload_n 0, 1) := by decide +kernel
theorem dX11_placing_43 : decode cX11_placing 43 = .ok (.getfield 115, 3) := by decide +kernel
theorem dX11_placing_46 : decode cX11_placing 46 = .ok (.iload_n 2, 1) := by decide +kernel
theorem dX11_placing_47 : decode cX11_placing 47 = .ok (.iaload, 1) := by decide +kernel
theorem dX11_placing_48 : decode cX11_placing 48 = .ok (.iadd, 1) := by decide +kernel
theorem dX11_placing_49 : decode cX11_placing 49 = .ok (.ineg, 1) := by decide +kernel
theorem dX11_placing_50 : decode cX11_placing 50 = .ok (.ireturn, 1) := by decide +kernel
theorem dX11_placing_51 : decode cX11_placing 51 = .ok (.iconst 0, 1) := by decide +kernel
theorem dX11_placing_52 : decode cX11_placing 52 = .ok (.istore 5, 2) := by decide +kernel
theorem dX11_placing_54 : decode cX11_placing 54 = .ok (.iconst 1, 1) := by decide +kernel
theorem dX11_placing_55 : decode cX11_placing 55 = .ok (.istore 6, 2) := by decide +kernel
theorem dX11_placing_57 : decode cX11_placing 57 = .ok (.iload 6, 2) := by decide +kernel
theorem dX11_placing_59 : decode cX11_placing 59 = .ok (.aload_n 0, 1) := by decide +kernel
theorem dX11_placing_60 : decode cX11_placing 60 = .ok (.getfield 271, 3) := by decide +kernel
theorem dX11_placing_63 : decode cX11_placing 63 = .ok (.if_icmp .ge 20, 3) := by decide +kernel
theorem dX11_placing_66 : decode cX11_placing 66 = .ok (.iload 5, 2) := by decide +kernel
theorem dX11_placing_68 : decode cX11_placing 68 = .ok (.iload_n 1, 1) := by decide +kernel
theorem dX11_placing_69 : decode cX11_placing 69 = .ok (.iload 6, 2) := by decide +kernel
theorem dX11_placing_71 : decode cX11_placing 71 = .ok (.ishr, 1) := by decide +kernel
theorem dX11_placing_72 : decode cX11_placing 72 = .ok (.iconst 1, 1) := by decide +kernel
theorem dX11_placing_73 : decode cX11_placing 73 = .ok (.iand, 1) := by decide +kernel
theorem dX11_placing_74 : decode cX11_placing 74 = .ok (.iadd, 1) := by decide +kernel
theorem dX11_placing_75 : decode cX11_placing 75 = .ok (.istore 5, 2) := by decide +kernel
theorem dX11_placing_77 : decode cX11_placing 77 = .ok (.iinc 6 1, 3) := by decide +kernel
theorem dX11_placing_80 : decode cX11_placing 80 = .ok (.goto (-23), 3) := by decide +kernel
theorem dX11_placing_83 : decode cX11_placing 83 = .ok (.iload_n 3, 1) := by decide +kernel
theorem dX11_placing_84 : decode cX11_placing 84 = .ok (.iload 5, 2) := by decide +kernel
theorem dX11_placing_86 : decode cX11_placing 86 = .ok (.aload_n 0, 1) := by decide +kernel
theorem dX11_placing_87 : decode cX11_placing 87 = .ok (.getfield 271, 3) := by decide +kernel
theorem dX11_placing_90 : decode cX11_placing 90 = .ok (.iconst 1, 1) := by decide +kernel
theorem dX11_placing_91 : decode cX11_placing 91 = .ok (.isub, 1) := by decide +kernel
theorem dX11_placing_92 : decode cX11_placing 92 = .ok (.iload 5, 2) := by decide +kernel
theorem dX11_placing_94 : decode cX11_placing 94 = .ok (.isub, 1) := by decide +kernel
theorem dX11_placing_95 : decode cX11_placing 95 = .ok (.isub, 1) := by decide +kernel
theorem dX11_placing_96 : decode cX11_placing 96 = .ok (.imul, 1) := by decide +kernel
theorem dX11_placing_97 : decode cX11_placing 97 = .ok (.ireturn, 1) := by decide +kernel
theorem dX11_reckon_0 : decode cX11_reckon 0 = .ok (.iconst 1, 1) := by decide +kernel
theorem dX11_reckon_1 : decode cX11_reckon 1 = .ok (.aload_n 0, 1) := by decide +kernel
theorem dX11_reckon_2 : decode cX11_reckon 2 = .ok (.getfield 271, 3) := by decide +kernel
theorem dX11_reckon_5 : decode cX11_reckon 5 = .ok (.ishl, 1) := by decide +kernel
theorem dX11_reckon_6 : decode cX11_reckon 6 = .ok (.iconst 1, 1) := by decide +kernel
theorem dX11_reckon_7 : decode cX11_reckon 7 = .ok (.isub, 1) := by decide +kernel
theorem dX11_reckon_8 : decode cX11_reckon 8 = .ok (.istore_n 1, 1) := by decide +kernel
theorem dX11_reckon_9 : decode cX11_reckon 9 = .ok (.iconst 0, 1) := by decide +kernel
theorem dX11_reckon_10 : decode cX11_reckon 10 = .ok (.istore_n 2, 1) := by decide +kernel
theorem dX11_reckon_11 : decode cX11_reckon 11 = .ok (.iload_n 2, 1) := by decide +kernel
theorem dX11_reckon_12 : decode cX11_reckon 12 = .ok (.iload_n 1, 1) := by decide +kernel
theorem dX11_reckon_13 : decode cX11_reckon 13 = .ok (.if_icmp .gt 60, 3) := by decide +kernel
theorem dX11_reckon_16 : decode cX11_reckon 16 = .ok (.aload_n 0, 1) := by decide +kernel
theorem dX11_reckon_17 : decode cX11_reckon 17 = .ok (.getfield 121, 3) := by decide +kernel
theorem dX11_reckon_20 : decode cX11_reckon 20 = .ok (.iload_n 2, 1) := by decide +kernel
theorem dX11_reckon_21 : decode cX11_reckon 21 = .ok (.iconst 0, 1) := by decide +kernel
theorem dX11_reckon_22 : decode cX11_reckon 22 = .ok (.iastore, 1) := by decide +kernel
theorem dX11_reckon_23 : decode cX11_reckon 23 = .ok (.iconst 0, 1) := by decide +kernel
theorem dX11_reckon_24 : decode cX11_reckon 24 = .ok (.istore_n 3, 1) := by decide +kernel
theorem dX11_reckon_25 : decode cX11_reckon 25 = .ok (.iload_n 3, 1) := by decide +kernel
theorem dX11_reckon_26 : decode cX11_reckon 26 = .ok (.aload_n 0, 1) := by decide +kernel
theorem dX11_reckon_27 : decode cX11_reckon 27 = .ok (.getfield 271, 3) := by decide +kernel
theorem dX11_reckon_30 : decode cX11_reckon 30 = .ok (.if_icmp .ge 37, 3) := by decide +kernel
theorem dX11_reckon_33 : decode cX11_reckon 33 = .ok (.aload_n 0, 1) := by decide +kernel
theorem dX11_reckon_34 : decode cX11_reckon 34 = .ok (.getfield 121, 3) := by decide +kernel
theorem dX11_reckon_37 : decode cX11_reckon 37 = .ok (.iload_n 2, 1) := by decide +kernel
theorem dX11_reckon_38 : decode cX11_reckon 38 = .ok (.dup2, 1) := by decide +kernel
theorem dX11_reckon_39 : decode cX11_reckon 39 = .ok (.iaload, 1) := by decide +kernel
theorem dX11_reckon_40 : decode cX11_reckon 40 = .ok (.iload_n 2, 1) := by decide +kernel
theorem dX11_reckon_41 : decode cX11_reckon 41 = .ok (.iload_n 3, 1) := by decide +kernel
theorem dX11_reckon_42 : decode cX11_reckon 42 = .ok (.ishr, 1) := by decide +kernel
theorem dX11_reckon_43 : decode cX11_reckon 43 = .ok (.iconst 1, 1) := by decide +kernel
theorem dX11_reckon_44 : decode cX11_reckon 44 = .ok (.iand, 1) := by decide +kernel
theorem dX11_reckon_45 : decode cX11_reckon 45 = .ok (.iconst 1, 1) := by decide +kernel
theorem dX11_reckon_46 : decode cX11_reckon 46 = .ok (.if_icmp .ne 12, 3) := by decide +kernel
theorem dX11_reckon_49 : decode cX11_reckon 49 = .ok (.aload_n 0, 1) := by decide +kernel
theorem dX11_reckon_50 : decode cX11_reckon 50 = .ok (.getfield 112, 3) := by decide +kernel
theorem dX11_reckon_53 : decode cX11_reckon 53 = .ok (.iload_n 3, 1) := by decide +kernel
theorem dX11_reckon_54 : decode cX11_reckon 54 = .ok (.iaload, 1) := by decide +kernel
theorem dX11_reckon_55 : decode cX11_reckon 55 = .ok (.goto 4, 3) := by decide +kernel
theorem dX11_reckon_58 : decode cX11_reckon 58 = .ok (.iconst 0, 1) := by decide +kernel
theorem dX11_reckon_59 : decode cX11_reckon 59 = .ok (.iadd, 1) := by decide +kernel
theorem dX11_reckon_60 : decode cX11_reckon 60 = .ok (.iastore, 1) := by decide +kernel
theorem dX11_reckon_61 : decode cX11_reckon 61 = .ok (.iinc 3 1, 3) := by decide +kernel
theorem dX11_reckon_64 : decode cX11_reckon 64 = .ok (.goto (-39), 3) := by decide +kernel
theorem dX11_reckon_67 : decode cX11_reckon 67 = .ok (.iinc 2 1, 3) := by decide +kernel
theorem dX11_reckon_70 : decode cX11_reckon 70 = .ok (.goto (-59), 3) := by decide +kernel
theorem dX11_reckon_73 : decode cX11_reckon 73 = .ok (.iload_n 1, 1) := by decide +kernel
theorem dX11_reckon_74 : decode cX11_reckon 74 = .ok (.istore_n 2, 1) := by decide +kernel
theorem dX11_reckon_75 : decode cX11_reckon 75 = .ok (.iload_n 2, 1) := by decide +kernel
theorem dX11_reckon_76 : decode cX11_reckon 76 = .ok (.ifCond .lt 118, 3) := by decide +kernel
theorem dX11_reckon_79 : decode cX11_reckon 79 = .ok (.iload_n 2, 1) := by decide +kernel
theorem dX11_reckon_80 : decode cX11_reckon 80 = .ok (.iload_n 1, 1) := by decide +kernel
theorem dX11_reckon_81 : decode cX11_reckon 81 = .ok (.if_icmp .ne 7, 3) := by decide +kernel
theorem dX11_reckon_84 : decode cX11_reckon 84 = .ok (.iconst 0, 1) := by decide +kernel
theorem dX11_reckon_85 : decode cX11_reckon 85 = .ok (.goto 5, 3) := by decide +kernel
theorem dX11_reckon_88 : decode cX11_reckon 88 = .ok (.ldc 218, 2) := by decide +kernel
theorem dX11_reckon_90 : decode cX11_reckon 90 = .ok (.istore_n 3, 1) := by decide +kernel
theorem dX11_reckon_91 : decode cX11_reckon 91 = .ok (.iconst 0, 1) := by decide +kernel
theorem dX11_reckon_92 : decode cX11_reckon 92 = .ok (.istore 4, 2) := by decide +kernel
theorem dX11_reckon_94 : decode cX11_reckon 94 = .ok (.iload 4, 2) := by decide +kernel
theorem dX11_reckon_96 : decode cX11_reckon 96 = .ok (.aload_n 0, 1) := by decide +kernel
theorem dX11_reckon_97 : decode cX11_reckon 97 = .ok (.getfield 271, 3) := by decide +kernel
theorem dX11_reckon_100 : decode cX11_reckon 100 = .ok (.if_icmp .ge 81, 3) := by decide +kernel
theorem dX11_reckon_103 : decode cX11_reckon 103 = .ok (.iload_n 2, 1) := by decide +kernel
theorem dX11_reckon_104 : decode cX11_reckon 104 = .ok (.iload 4, 2) := by decide +kernel
theorem dX11_reckon_106 : decode cX11_reckon 106 = .ok (.ishr, 1) := by decide +kernel
theorem dX11_reckon_107 : decode cX11_reckon 107 = .ok (.iconst 1, 1) := by decide +kernel
theorem dX11_reckon_108 : decode cX11_reckon 108 = .ok (.iand, 1) := by decide +kernel
theorem dX11_reckon_109 : decode cX11_reckon 109 = .ok (.iconst 1, 1) := by decide +kernel
theorem dX11_reckon_110 : decode cX11_reckon 110 = .ok (.if_icmp .eq 65, 3) := by decide +kernel
theorem dX11_reckon_113 : decode cX11_reckon 113 = .ok (.aload_n 0, 1) := by decide +kernel
theorem dX11_reckon_114 : decode cX11_reckon 114 = .ok (.getfield 118, 3) := by decide +kernel
theorem dX11_reckon_117 : decode cX11_reckon 117 = .ok (.iload 4, 2) := by decide +kernel
theorem dX11_reckon_119 : decode cX11_reckon 119 = .ok (.iaload, 1) := by decide +kernel
theorem dX11_reckon_120 : decode cX11_reckon 120 = .ok (.iload_n 2, 1) := by decide +kernel
theorem dX11_reckon_121 : decode cX11_reckon 121 = .ok (.iconst (-1), 1) := by decide +kernel
theorem dX11_reckon_122 : decode cX11_reckon 122 = .ok (.ixor, 1) := by decide +kernel
theorem dX11_reckon_123 : decode cX11_reckon 123 = .ok (.iand, 1) := by decide +kernel
theorem dX11_reckon_124 : decode cX11_reckon 124 = .ok (.ifCond .eq 6, 3) := by decide +kernel
theorem dX11_reckon_127 : decode cX11_reckon 127 = .ok (.goto 48, 3) := by decide +kernel
theorem dX11_reckon_130 : decode cX11_reckon 130 = .ok (.aload_n 0, 1) := by decide +kernel
theorem dX11_reckon_131 : decode cX11_reckon 131 = .ok (.getfield 124, 3) := by decide +kernel
theorem dX11_reckon_134 : decode cX11_reckon 134 = .ok (.iload_n 2, 1) := by decide +kernel
theorem dX11_reckon_135 : decode cX11_reckon 135 = .ok (.iconst 1, 1) := by decide +kernel
theorem dX11_reckon_136 : decode cX11_reckon 136 = .ok (.iload 4, 2) := by decide +kernel
theorem dX11_reckon_138 : decode cX11_reckon 138 = .ok (.ishl, 1) := by decide +kernel
theorem dX11_reckon_139 : decode cX11_reckon 139 = .ok (.ior, 1) := by decide +kernel
theorem dX11_reckon_140 : decode cX11_reckon 140 = .ok (.iaload, 1) := by decide +kernel
theorem dX11_reckon_141 : decode cX11_reckon 141 = .ok (.istore 5, 2) := by decide +kernel
theorem dX11_reckon_143 : decode cX11_reckon 143 = .ok (.iload 5, 2) := by decide +kernel
theorem dX11_reckon_145 : decode cX11_reckon 145 = .ok (.ldc 218, 2) := by decide +kernel
theorem dX11_reckon_147 : decode cX11_reckon 147 = .ok (.if_icmp .ge 28, 3) := by decide +kernel
theorem dX11_reckon_150 : decode cX11_reckon 150 = .ok (.aload_n 0, 1) := by decide +kernel
theorem dX11_reckon_151 : decode cX11_reckon 151 = .ok (.iload_n 2, 1) := by decide +kernel
theorem dX11_reckon_152 : decode cX11_reckon 152 = .ok (.iload 4, 2) := by decide +kernel
theorem dX11_reckon_154 : decode cX11_reckon 154 = .ok (.invokevirtual 280, 3) := by decide +kernel
theorem dX11_reckon_157 : decode cX11_reckon 157 = .ok (.iload 5, 2) := by decide +kernel
theorem dX11_reckon_159 : decode cX11_reckon 159 = .ok (.iadd, 1) := by decide +kernel
theorem dX11_reckon_160 : decode cX11_reckon 160 = .ok (.iload_n 3, 1) := by decide +kernel
theorem dX11_reckon_161 : decode cX11_reckon 161 = .ok (.if_icmp .ge 14, 3) := by decide +kernel
theorem dX11_reckon_164 : decode cX11_reckon 164 = .ok (.aload_n 0, 1) := by decide +kernel
theorem dX11_reckon_165 : decode cX11_reckon 165 = .ok (.iload_n 2, 1) := by decide +kernel
theorem dX11_reckon_166 : decode cX11_reckon 166 = .ok (.iload 4, 2) := by decide +kernel
theorem dX11_reckon_168 : decode cX11_reckon 168 = .ok (.invokevirtual 280, 3) := by decide +kernel
theorem dX11_reckon_171 : decode cX11_reckon 171 = .ok (.iload 5, 2) := by decide +kernel
theorem dX11_reckon_173 : decode cX11_reckon 173 = .ok (.iadd, 1) := by decide +kernel
theorem dX11_reckon_174 : decode cX11_reckon 174 = .ok (.istore_n 3, 1) := by decide +kernel
theorem dX11_reckon_175 : decode cX11_reckon 175 = .ok (.iinc 4 1, 3) := by decide +kernel
theorem dX11_reckon_178 : decode cX11_reckon 178 = .ok (.goto (-84), 3) := by decide +kernel
theorem dX11_reckon_181 : decode cX11_reckon 181 = .ok (.aload_n 0, 1) := by decide +kernel
theorem dX11_reckon_182 : decode cX11_reckon 182 = .ok (.getfield 124, 3) := by decide +kernel
theorem dX11_reckon_185 : decode cX11_reckon 185 = .ok (.iload_n 2, 1) := by decide +kernel
theorem dX11_reckon_186 : decode cX11_reckon 186 = .ok (.iload_n 3, 1) := by decide +kernel
theorem dX11_reckon_187 : decode cX11_reckon 187 = .ok (.iastore, 1) := by decide +kernel
theorem dX11_reckon_188 : decode cX11_reckon 188 = .ok (.iinc 2 (-1), 3) := by decide +kernel
theorem dX11_reckon_191 : decode cX11_reckon 191 = .ok (.goto (-116), 3) := by decide +kernel
theorem dX11_reckon_194 : decode cX11_reckon 194 = .ok (.aload_n 0, 1) := by decide +kernel
theorem dX11_reckon_195 : decode cX11_reckon 195 = .ok (.getfield 124, 3) := by decide +kernel
theorem dX11_reckon_198 : decode cX11_reckon 198 = .ok (.iconst 0, 1) := by decide +kernel
theorem dX11_reckon_199 : decode cX11_reckon 199 = .ok (.iaload, 1) := by decide +kernel
theorem dX11_reckon_200 : decode cX11_reckon 200 = .ok (.ldc 218, 2) := by decide +kernel
theorem dX11_reckon_202 : decode cX11_reckon 202 = .ok (.if_icmp .lt 6, 3) := by decide +kernel
theorem dX11_reckon_205 : decode cX11_reckon 205 = .ok (.ldc 218, 2) := by decide +kernel
theorem dX11_reckon_207 : decode cX11_reckon 207 = .ok (.ireturn, 1) := by decide +kernel
theorem dX11_reckon_208 : decode cX11_reckon 208 = .ok (.iconst 0, 1) := by decide +kernel
theorem dX11_reckon_209 : decode cX11_reckon 209 = .ok (.istore_n 2, 1) := by decide +kernel
theorem dX11_reckon_210 : decode cX11_reckon 210 = .ok (.iconst 0, 1) := by decide +kernel
theorem dX11_reckon_211 : decode cX11_reckon 211 = .ok (.istore_n 3, 1) := by decide +kernel
theorem dX11_reckon_212 : decode cX11_reckon 212 = .ok (.iload_n 3, 1) := by decide +kernel
theorem dX11_reckon_213 : decode cX11_reckon 213 = .ok (.aload_n 0, 1) := by decide +kernel
theorem dX11_reckon_214 : decode cX11_reckon 214 = .ok (.getfield 271, 3) := by decide +kernel
theorem dX11_reckon_217 : decode cX11_reckon 217 = .ok (.if_icmp .ge 143, 3) := by decide +kernel
theorem dX11_reckon_220 : decode cX11_reckon 220 = .ok (.iconst (-1), 1) := by decide +kernel
theorem dX11_reckon_221 : decode cX11_reckon 221 = .ok (.istore 4, 2) := by decide +kernel
theorem dX11_reckon_223 : decode cX11_reckon 223 = .ok (.iconst 0, 1) := by decide +kernel
theorem dX11_reckon_224 : decode cX11_reckon 224 = .ok (.istore 5, 2) := by decide +kernel
theorem dX11_reckon_226 : decode cX11_reckon 226 = .ok (.iload 5, 2) := by decide +kernel
theorem dX11_reckon_228 : decode cX11_reckon 228 = .ok (.aload_n 0, 1) := by decide +kernel
theorem dX11_reckon_229 : decode cX11_reckon 229 = .ok (.getfield 271, 3) := by decide +kernel
theorem dX11_reckon_232 : decode cX11_reckon 232 = .ok (.if_icmp .ge 107, 3) := by decide +kernel
theorem dX11_reckon_235 : decode cX11_reckon 235 = .ok (.iload_n 2, 1) := by decide +kernel
theorem dX11_reckon_236 : decode cX11_reckon 236 = .ok (.iload 5, 2) := by decide +kernel
theorem dX11_reckon_238 : decode cX11_reckon 238 = .ok (.ishr, 1) := by decide +kernel
theorem dX11_reckon_239 : decode cX11_reckon 239 = .ok (.iconst 1, 1) := by decide +kernel
theorem dX11_reckon_240 : decode cX11_reckon 240 = .ok (.iand, 1) := by decide +kernel
theorem dX11_reckon_241 : decode cX11_reckon 241 = .ok (.iconst 1, 1) := by decide +kernel
theorem dX11_reckon_242 : decode cX11_reckon 242 = .ok (.if_icmp .eq 91, 3) := by decide +kernel
theorem dX11_reckon_245 : decode cX11_reckon 245 = .ok (.aload_n 0, 1) := by decide +kernel
theorem dX11_reckon_246 : decode cX11_reckon 246 = .ok (.getfield 118, 3) := by decide +kernel
theorem dX11_reckon_249 : decode cX11_reckon 249 = .ok (.iload 5, 2) := by decide +kernel
theorem dX11_reckon_251 : decode cX11_reckon 251 = .ok (.iaload, 1) := by decide +kernel
theorem dX11_reckon_252 : decode cX11_reckon 252 = .ok (.iload_n 2, 1) := by decide +kernel
theorem dX11_reckon_253 : decode cX11_reckon 253 = .ok (.iconst (-1), 1) := by decide +kernel
theorem dX11_reckon_254 : decode cX11_reckon 254 = .ok (.ixor, 1) := by decide +kernel
theorem dX11_reckon_255 : decode cX11_reckon 255 = .ok (.iand, 1) := by decide +kernel
theorem dX11_reckon_256 : decode cX11_reckon 256 = .ok (.ifCond .ne 77, 3) := by decide +kernel
theorem dX11_reckon_259 : decode cX11_reckon 259 = .ok (.aload_n 0, 1) := by decide +kernel
theorem dX11_reckon_260 : decode cX11_reckon 260 = .ok (.getfield 124, 3) := by decide +kernel
theorem dX11_reckon_263 : decode cX11_reckon 263 = .ok (.iload_n 2, 1) := by decide +kernel
theorem dX11_reckon_264 : decode cX11_reckon 264 = .ok (.iconst 1, 1) := by decide +kernel
theorem dX11_reckon_265 : decode cX11_reckon 265 = .ok (.iload 5, 2) := by decide +kernel
theorem dX11_reckon_267 : decode cX11_reckon 267 = .ok (.ishl, 1) := by decide +kernel
theorem dX11_reckon_268 : decode cX11_reckon 268 = .ok (.ior, 1) := by decide +kernel
theorem dX11_reckon_269 : decode cX11_reckon 269 = .ok (.iaload, 1) := by decide +kernel
theorem dX11_reckon_270 : decode cX11_reckon 270 = .ok (.ldc 218, 2) := by decide +kernel
theorem dX11_reckon_272 : decode cX11_reckon 272 = .ok (.if_icmp .ge 61, 3) := by decide +kernel
theorem dX11_reckon_275 : decode cX11_reckon 275 = .ok (.aload_n 0, 1) := by decide +kernel
theorem dX11_reckon_276 : decode cX11_reckon 276 = .ok (.iload_n 2, 1) := by decide +kernel
theorem dX11_reckon_277 : decode cX11_reckon 277 = .ok (.iload 5, 2) := by decide +kernel
theorem dX11_reckon_279 : decode cX11_reckon 279 = .ok (.invokevirtual 280, 3) := by decide +kernel
theorem dX11_reckon_282 : decode cX11_reckon 282 = .ok (.aload_n 0, 1) := by decide +kernel
theorem dX11_reckon_283 : decode cX11_reckon 283 = .ok (.getfield 124, 3) := by decide +kernel
theorem dX11_reckon_286 : decode cX11_reckon 286 = .ok (.iload_n 2, 1) := by decide +kernel
theorem dX11_reckon_287 : decode cX11_reckon 287 = .ok (.iconst 1, 1) := by decide +kernel
theorem dX11_reckon_288 : decode cX11_reckon 288 = .ok (.iload 5, 2) := by decide +kernel
theorem dX11_reckon_290 : decode cX11_reckon 290 = .ok (.ishl, 1) := by decide +kernel
theorem dX11_reckon_291 : decode cX11_reckon 291 = .ok (.ior, 1) := by decide +kernel
theorem dX11_reckon_292 : decode cX11_reckon 292 = .ok (.iaload, 1) := by decide +kernel
theorem dX11_reckon_293 : decode cX11_reckon 293 = .ok (.iadd, 1) := by decide +kernel
theorem dX11_reckon_294 : decode cX11_reckon 294 = .ok (.aload_n 0, 1) := by decide +kernel
theorem dX11_reckon_295 : decode cX11_reckon 295 = .ok (.getfield 124, 3) := by decide +kernel
theorem dX11_reckon_298 : decode cX11_reckon 298 = .ok (.iload_n 2, 1) := by decide +kernel
theorem dX11_reckon_299 : decode cX11_reckon 299 = .ok (.iaload, 1) := by decide +kernel
theorem dX11_reckon_300 : decode cX11_reckon 300 = .ok (.if_icmp .eq 6, 3) := by decide +kernel
theorem dX11_reckon_303 : decode cX11_reckon 303 = .ok (.goto 30, 3) := by decide +kernel
theorem dX11_reckon_306 : decode cX11_reckon 306 = .ok (.iload 4, 2) := by decide +kernel
theorem dX11_reckon_308 : decode cX11_reckon 308 = .ok (.iconst (-1), 1) := by decide +kernel
theorem dX11_reckon_309 : decode cX11_reckon 309 = .ok (.if_icmp .eq 20, 3) := by decide +kernel
theorem dX11_reckon_312 : decode cX11_reckon 312 = .ok (.aload_n 0, 1) := by decide +kernel
theorem dX11_reckon_313 : decode cX11_reckon 313 = .ok (.getfield 109, 3) := by decide +kernel
theorem dX11_reckon_316 : decode cX11_reckon 316 = .ok (.iload 5, 2) := by decide +kernel
theorem dX11_reckon_318 : decode cX11_reckon 318 = .ok (.iaload, 1) := by decide +kernel
theorem dX11_reckon_319 : decode cX11_reckon 319 = .ok (.aload_n 0, 1) := by decide +kernel
theorem dX11_reckon_320 : decode cX11_reckon 320 = .ok (.getfield 109, 3) := by decide +kernel
theorem dX11_reckon_323 : decode cX11_reckon 323 = .ok (.iload 4, 2) := by decide +kernel
theorem dX11_reckon_325 : decode cX11_reckon 325 = .ok (.iaload, 1) := by decide +kernel
theorem dX11_reckon_326 : decode cX11_reckon 326 = .ok (.if_icmp .ge 7, 3) := by decide +kernel
theorem dX11_reckon_329 : decode cX11_reckon 329 = .ok (.iload 5, 2) := by decide +kernel
theorem dX11_reckon_331 : decode cX11_reckon 331 = .ok (.istore 4, 2) := by decide +kernel
theorem dX11_reckon_333 : decode cX11_reckon 333 = .ok (.iinc 5 1, 3) := by decide +kernel
theorem dX11_reckon_336 : decode cX11_reckon 336 = .ok (.goto (-110), 3) := by decide +kernel
theorem dX11_reckon_339 : decode cX11_reckon 339 = .ok (.aload_n 0, 1) := by decide +kernel
theorem dX11_reckon_340 : decode cX11_reckon 340 = .ok (.getfield 130, 3) := by decide +kernel
theorem dX11_reckon_343 : decode cX11_reckon 343 = .ok (.iload_n 3, 1) := by decide +kernel
theorem dX11_reckon_344 : decode cX11_reckon 344 = .ok (.iload 4, 2) := by decide +kernel
theorem dX11_reckon_346 : decode cX11_reckon 346 = .ok (.iastore, 1) := by decide +kernel
theorem dX11_reckon_347 : decode cX11_reckon 347 = .ok (.iload_n 2, 1) := by decide +kernel
theorem dX11_reckon_348 : decode cX11_reckon 348 = .ok (.iconst 1, 1) := by decide +kernel
theorem dX11_reckon_349 : decode cX11_reckon 349 = .ok (.iload 4, 2) := by decide +kernel
theorem dX11_reckon_351 : decode cX11_reckon 351 = .ok (.ishl, 1) := by decide +kernel
theorem dX11_reckon_352 : decode cX11_reckon 352 = .ok (.ior, 1) := by decide +kernel
theorem dX11_reckon_353 : decode cX11_reckon 353 = .ok (.istore_n 2, 1) := by decide +kernel
theorem dX11_reckon_354 : decode cX11_reckon 354 = .ok (.iinc 3 1, 3) := by decide +kernel
theorem dX11_reckon_357 : decode cX11_reckon 357 = .ok (.goto (-145), 3) := by decide +kernel
theorem dX11_reckon_360 : decode cX11_reckon 360 = .ok (.aload_n 0, 1) := by decide +kernel
theorem dX11_reckon_361 : decode cX11_reckon 361 = .ok (.getfield 124, 3) := by decide +kernel
theorem dX11_reckon_364 : decode cX11_reckon 364 = .ok (.iconst 0, 1) := by decide +kernel
theorem dX11_reckon_365 : decode cX11_reckon 365 = .ok (.iaload, 1) := by decide +kernel
theorem dX11_reckon_366 : decode cX11_reckon 366 = .ok (.ireturn, 1) := by decide +kernel
theorem dX11_order_0 : decode cX11_order 0 = .ok (.aload_n 0, 1) := by decide +kernel
theorem dX11_order_1 : decode cX11_order 1 = .ok (.iload_n 1, 1) := by decide +kernel
theorem dX11_order_2 : decode cX11_order 2 = .ok (.invokevirtual 250, 3) := by decide +kernel
theorem dX11_order_5 : decode cX11_order 5 = .ok (.ifCond .ne 6, 3) := by decide +kernel
theorem dX11_order_8 : decode cX11_order 8 = .ok (.bipush (-2), 2) := by decide +kernel
theorem dX11_order_10 : decode cX11_order 10 = .ok (.ireturn, 1) := by decide +kernel
theorem dX11_order_11 : decode cX11_order 11 = .ok (.aload_n 0, 1) := by decide +kernel
theorem dX11_order_12 : decode cX11_order 12 = .ok (.invokevirtual 253, 3) := by decide +kernel
theorem dX11_order_15 : decode cX11_order 15 = .ok (.aload_n 0, 1) := by decide +kernel
theorem dX11_order_16 : decode cX11_order 16 = .ok (.iload_n 1, 1) := by decide +kernel
theorem dX11_order_17 : decode cX11_order 17 = .ok (.invokevirtual 283, 3) := by decide +kernel
theorem dX11_order_20 : decode cX11_order 20 = .ok (.ifCond .ne 5, 3) := by decide +kernel
theorem dX11_order_23 : decode cX11_order 23 = .ok (.iconst (-1), 1) := by decide +kernel
theorem dX11_order_24 : decode cX11_order 24 = .ok (.ireturn, 1) := by decide +kernel
theorem dX11_order_25 : decode cX11_order 25 = .ok (.aload_n 0, 1) := by decide +kernel
theorem dX11_order_26 : decode cX11_order 26 = .ok (.invokevirtual 286, 3) := by decide +kernel
theorem dX11_order_29 : decode cX11_order 29 = .ok (.istore_n 2, 1) := by decide +kernel
theorem dX11_order_30 : decode cX11_order 30 = .ok (.iload_n 2, 1) := by decide +kernel
theorem dX11_order_31 : decode cX11_order 31 = .ok (.ldc 218, 2) := by decide +kernel
theorem dX11_order_33 : decode cX11_order 33 = .ok (.if_icmp .lt 5, 3) := by decide +kernel
theorem dX11_order_36 : decode cX11_order 36 = .ok (.iconst (-1), 1) := by decide +kernel
theorem dX11_order_37 : decode cX11_order 37 = .ok (.ireturn, 1) := by decide +kernel
theorem dX11_order_38 : decode cX11_order 38 = .ok (.aload_n 0, 1) := by decide +kernel
theorem dX11_order_39 : decode cX11_order 39 = .ok (.aload_n 0, 1) := by decide +kernel
theorem dX11_order_40 : decode cX11_order 40 = .ok (.getfield 271, 3) := by decide +kernel
theorem dX11_order_43 : decode cX11_order 43 = .ok (.putfield 289, 3) := by decide +kernel
theorem dX11_order_46 : decode cX11_order 46 = .ok (.iconst 0, 1) := by decide +kernel
theorem dX11_order_47 : decode cX11_order 47 = .ok (.istore_n 3, 1) := by decide +kernel
theorem dX11_order_48 : decode cX11_order 48 = .ok (.iload_n 3, 1) := by decide +kernel
theorem dX11_order_49 : decode cX11_order 49 = .ok (.aload_n 0, 1) := by decide +kernel
theorem dX11_order_50 : decode cX11_order 50 = .ok (.getfield 271, 3) := by decide +kernel
theorem dX11_order_53 : decode cX11_order 53 = .ok (.if_icmp .ge 26, 3) := by decide +kernel
theorem dX11_order_56 : decode cX11_order 56 = .ok (.aload_n 0, 1) := by decide +kernel
theorem dX11_order_57 : decode cX11_order 57 = .ok (.getfield 127, 3) := by decide +kernel
theorem dX11_order_60 : decode cX11_order 60 = .ok (.iload_n 3, 1) := by decide +kernel
theorem dX11_order_61 : decode cX11_order 61 = .ok (.aload_n 0, 1) := by decide +kernel
theorem dX11_order_62 : decode cX11_order 62 = .ok (.getfield 109, 3) := by decide +kernel
theorem dX11_order_65 : decode cX11_order 65 = .ok (.aload_n 0, 1) := by decide +kernel
theorem dX11_order_66 : decode cX11_order 66 = .ok (.getfield 130, 3) := by decide +kernel
theorem dX11_order_69 : decode cX11_order 69 = .ok (.iload_n 3, 1) := by decide +kernel
theorem dX11_order_70 : decode cX11_order 70 = .ok (.iaload, 1) := by decide +kernel
theorem dX11_order_71 : decode cX11_order 71 = .ok (.iaload, 1) := by decide +kernel
theorem dX11_order_72 : decode cX11_order 72 = .ok (.iastore, 1) := by decide +kernel
theorem dX11_order_73 : decode cX11_order 73 = .ok (.iinc 3 1, 3) := by decide +kernel
theorem dX11_order_76 : decode cX11_order 76 = .ok (.goto (-28), 3) := by decide +kernel
theorem dX11_order_79 : decode cX11_order 79 = .ok (.iload_n 2, 1) := by decide +kernel
theorem dX11_order_80 : decode cX11_order 80 = .ok (.ireturn, 1) := by decide +kernel
theorem dX11_ordered_0 : decode cX11_ordered 0 = .ok (.iload_n 1, 1) := by decide +kernel
theorem dX11_ordered_1 : decode cX11_ordered 1 = .ok (.iconst 0, 1) := by decide +kernel
theorem dX11_ordered_2 : decode cX11_ordered 2 = .ok (.aload_n 0, 1) := by decide +kernel
theorem dX11_ordered_3 : decode cX11_ordered 3 = .ok (.getfield 289, 3) := by decide +kernel
theorem dX11_ordered_6 : decode cX11_ordered 6 = .ok (.iconst 1, 1) := by decide +kernel
theorem dX11_ordered_7 : decode cX11_ordered 7 = .ok (.isub, 1) := by decide +kernel
theorem dX11_ordered_8 : decode cX11_ordered 8 = .ok (.invokestatic 139, 3) := by decide +kernel
theorem dX11_ordered_11 : decode cX11_ordered 11 = .ok (.ifCond .eq 12, 3) := by decide +kernel
theorem dX11_ordered_14 : decode cX11_ordered 14 = .ok (.aload_n 0, 1) := by decide +kernel
theorem dX11_ordered_15 : decode cX11_ordered 15 = .ok (.getfield 127, 3) := by decide +kernel
theorem dX11_ordered_18 : decode cX11_ordered 18 = .ok (.iload_n 1, 1) := by decide +kernel
theorem dX11_ordered_19 : decode cX11_ordered 19 = .ok (.iaload, 1) := by decide +kernel
theorem dX11_ordered_20 : decode cX11_ordered 20 = .ok (.goto 4, 3) := by decide +kernel
theorem dX11_ordered_23 : decode cX11_ordered 23 = .ok (.iconst (-1), 1) := by decide +kernel
theorem dX11_ordered_24 : decode cX11_ordered 24 = .ok (.ireturn, 1) := by decide +kernel
theorem dX11_stands_0 : decode cX11_stands 0 = .ok (.aload_n 0, 1) := by decide +kernel
theorem dX11_stands_1 : decode cX11_stands 1 = .ok (.iload_n 1, 1) := by decide +kernel
theorem dX11_stands_2 : decode cX11_stands 2 = .ok (.invokevirtual 250, 3) := by decide +kernel
theorem dX11_stands_5 : decode cX11_stands 5 = .ok (.ifCond .ne 6, 3) := by decide +kernel
theorem dX11_stands_8 : decode cX11_stands 8 = .ok (.bipush (-2), 2) := by decide +kernel
theorem dX11_stands_10 : decode cX11_stands 10 = .ok (.ireturn, 1) := by decide +kernel
theorem dX11_stands_11 : decode cX11_stands 11 = .ok (.aload_n 0, 1) := by decide +kernel
theorem dX11_stands_12 : decode cX11_stands 12 = .ok (.invokevirtual 253, 3) := by decide +kernel
theorem dX11_stands_15 : decode cX11_stands 15 = .ok (.iconst 0, 1) := by decide +kernel
theorem dX11_stands_16 : decode cX11_stands 16 = .ok (.istore_n 2, 1) := by decide +kernel
theorem dX11_stands_17 : decode cX11_stands 17 = .ok (.iconst 0, 1) := by decide +kernel
theorem dX11_stands_18 : decode cX11_stands 18 = .ok (.istore_n 3, 1) := by decide +kernel
theorem dX11_stands_19 : decode cX11_stands 19 = .ok (.iload_n 3, 1) := by decide +kernel
theorem dX11_stands_20 : decode cX11_stands 20 = .ok (.aload_n 0, 1) := by decide +kernel
theorem dX11_stands_21 : decode cX11_stands 21 = .ok (.getfield 196, 3) := by decide +kernel
theorem dX11_stands_24 : decode cX11_stands 24 = .ok (.if_icmp .ge 36, 3) := by decide +kernel
theorem dX11_stands_27 : decode cX11_stands 27 = .ok (.aload_n 0, 1) := by decide +kernel
theorem dX11_stands_28 : decode cX11_stands 28 = .ok (.getfield 100, 3) := by decide +kernel
theorem dX11_stands_31 : decode cX11_stands 31 = .ok (.iload_n 3, 1) := by decide +kernel
theorem dX11_stands_32 : decode cX11_stands 32 = .ok (.iaload, 1) := by decide +kernel
theorem dX11_stands_33 : decode cX11_stands 33 = .ok (.iload_n 1, 1) := by decide +kernel
theorem dX11_stands_34 : decode cX11_stands 34 = .ok (.if_icmp .ne 20, 3) := by decide +kernel
theorem dX11_stands_37 : decode cX11_stands 37 = .ok (.iload_n 2, 1) := by decide +kernel
theorem dX11_stands_38 : decode cX11_stands 38 = .ok (.iload_n 3, 1) := by decide +kernel
theorem dX11_stands_39 : decode cX11_stands 39 = .ok (.iload_n 1, 1) := by decide +kernel
theorem dX11_stands_40 : decode cX11_stands 40 = .ok (.if_icmp .le 9, 3) := by decide +kernel
theorem dX11_stands_43 : decode cX11_stands 43 = .ok (.iload_n 3, 1) := by decide +kernel
theorem dX11_stands_44 : decode cX11_stands 44 = .ok (.iload_n 1, 1) := by decide +kernel
theorem dX11_stands_45 : decode cX11_stands 45 = .ok (.isub, 1) := by decide +kernel
theorem dX11_stands_46 : decode cX11_stands 46 = .ok (.goto 6, 3) := by decide +kernel
theorem dX11_stands_49 : decode cX11_stands 49 = .ok (.iload_n 1, 1) := by decide +kernel
theorem dX11_stands_50 : decode cX11_stands 50 = .ok (.iload_n 3, 1) := by decide +kernel
theorem dX11_stands_51 : decode cX11_stands 51 = .ok (.isub, 1) := by decide +kernel
theorem dX11_stands_52 : decode cX11_stands 52 = .ok (.iadd, 1) := by decide +kernel
theorem dX11_stands_53 : decode cX11_stands 53 = .ok (.istore_n 2, 1) := by decide +kernel
theorem dX11_stands_54 : decode cX11_stands 54 = .ok (.iinc 3 1, 3) := by decide +kernel
theorem dX11_stands_57 : decode cX11_stands 57 = .ok (.goto (-38), 3) := by decide +kernel
theorem dX11_stands_60 : decode cX11_stands 60 = .ok (.iload_n 2, 1) := by decide +kernel
theorem dX11_stands_61 : decode cX11_stands 61 = .ok (.ireturn, 1) := by decide +kernel
theorem dX11_setAll_0 : decode cX11_setAll 0 = .ok (.iconst 0, 1) := by decide +kernel
theorem dX11_setAll_1 : decode cX11_setAll 1 = .ok (.istore_n 1, 1) := by decide +kernel
theorem dX11_setAll_2 : decode cX11_setAll 2 = .ok (.iconst 0, 1) := by decide +kernel
theorem dX11_setAll_3 : decode cX11_setAll 3 = .ok (.istore_n 2, 1) := by decide +kernel
theorem dX11_setAll_4 : decode cX11_setAll 4 = .ok (.iload_n 2, 1) := by decide +kernel
theorem dX11_setAll_5 : decode cX11_setAll 5 = .ok (.aload_n 0, 1) := by decide +kernel
theorem dX11_setAll_6 : decode cX11_setAll 6 = .ok (.getfield 196, 3) := by decide +kernel
theorem dX11_setAll_9 : decode cX11_setAll 9 = .ok (.if_icmp .ge 44, 3) := by decide +kernel
theorem dX11_setAll_12 : decode cX11_setAll 12 = .ok (.iload_n 1, 1) := by decide +kernel
theorem dX11_setAll_13 : decode cX11_setAll 13 = .ok (.aload_n 0, 1) := by decide +kernel
theorem dX11_setAll_14 : decode cX11_setAll 14 = .ok (.getfield 65, 3) := by decide +kernel
theorem dX11_setAll_17 : decode cX11_setAll 17 = .ok (.iload_n 2, 1) := by decide +kernel
theorem dX11_setAll_18 : decode cX11_setAll 18 = .ok (.iaload, 1) := by decide +kernel
theorem dX11_setAll_19 : decode cX11_setAll 19 = .ok (.aload_n 0, 1) := by decide +kernel
theorem dX11_setAll_20 : decode cX11_setAll 20 = .ok (.getfield 133, 3) := by decide +kernel
theorem dX11_setAll_23 : decode cX11_setAll 23 = .ok (.iload_n 2, 1) := by decide +kernel
theorem dX11_setAll_24 : decode cX11_setAll 24 = .ok (.iaload, 1) := by decide +kernel
theorem dX11_setAll_25 : decode cX11_setAll 25 = .ok (.if_icmp .eq 7, 3) := by decide +kernel
theorem dX11_setAll_28 : decode cX11_setAll 28 = .ok (.iconst 1, 1) := by decide +kernel
theorem dX11_setAll_29 : decode cX11_setAll 29 = .ok (.goto 4, 3) := by decide +kernel
theorem dX11_setAll_32 : decode cX11_setAll 32 = .ok (.iconst 0, 1) := by decide +kernel
theorem dX11_setAll_33 : decode cX11_setAll 33 = .ok (.iadd, 1) := by decide +kernel
theorem dX11_setAll_34 : decode cX11_setAll 34 = .ok (.istore_n 1, 1) := by decide +kernel
theorem dX11_setAll_35 : decode cX11_setAll 35 = .ok (.aload_n 0, 1) := by decide +kernel
theorem dX11_setAll_36 : decode cX11_setAll 36 = .ok (.getfield 65, 3) := by decide +kernel
theorem dX11_setAll_39 : decode cX11_setAll 39 = .ok (.iload_n 2, 1) := by decide +kernel
theorem dX11_setAll_40 : decode cX11_setAll 40 = .ok (.aload_n 0, 1) := by decide +kernel
theorem dX11_setAll_41 : decode cX11_setAll 41 = .ok (.getfield 133, 3) := by decide +kernel
theorem dX11_setAll_44 : decode cX11_setAll 44 = .ok (.iload_n 2, 1) := by decide +kernel
theorem dX11_setAll_45 : decode cX11_setAll 45 = .ok (.iaload, 1) := by decide +kernel
theorem dX11_setAll_46 : decode cX11_setAll 46 = .ok (.iastore, 1) := by decide +kernel
theorem dX11_setAll_47 : decode cX11_setAll 47 = .ok (.iinc 2 1, 3) := by decide +kernel
theorem dX11_setAll_50 : decode cX11_setAll 50 = .ok (.goto (-46), 3) := by decide +kernel
theorem dX11_setAll_53 : decode cX11_setAll 53 = .ok (.iload_n 1, 1) := by decide +kernel
theorem dX11_setAll_54 : decode cX11_setAll 54 = .ok (.ifCond .le 8, 3) := by decide +kernel
theorem dX11_setAll_57 : decode cX11_setAll 57 = .ok (.aload_n 0, 1) := by decide +kernel
theorem dX11_setAll_58 : decode cX11_setAll 58 = .ok (.iconst 0, 1) := by decide +kernel
theorem dX11_setAll_59 : decode cX11_setAll 59 = .ok (.putfield 176, 3) := by decide +kernel
theorem dX11_setAll_62 : decode cX11_setAll 62 = .ok (.iload_n 1, 1) := by decide +kernel
theorem dX11_setAll_63 : decode cX11_setAll 63 = .ok (.ireturn, 1) := by decide +kernel
theorem dX11_arrange_0 : decode cX11_arrange 0 = .ok (.aload_n 0, 1) := by decide +kernel
theorem dX11_arrange_1 : decode cX11_arrange 1 = .ok (.iload_n 1, 1) := by decide +kernel
theorem dX11_arrange_2 : decode cX11_arrange 2 = .ok (.invokevirtual 250, 3) := by decide +kernel
theorem dX11_arrange_5 : decode cX11_arrange 5 = .ok (.ifCond .ne 6, 3) := by decide +kernel
theorem dX11_arrange_8 : decode cX11_arrange 8 = .ok (.bipush (-2), 2) := by decide +kernel
theorem dX11_arrange_10 : decode cX11_arrange 10 = .ok (.ireturn, 1) := by decide +kernel
theorem dX11_arrange_11 : decode cX11_arrange 11 = .ok (.aload_n 0, 1) := by decide +kernel
theorem dX11_arrange_12 : decode cX11_arrange 12 = .ok (.invokevirtual 253, 3) := by decide +kernel
theorem dX11_arrange_15 : decode cX11_arrange 15 = .ok (.aload_n 0, 1) := by decide +kernel
theorem dX11_arrange_16 : decode cX11_arrange 16 = .ok (.iload_n 1, 1) := by decide +kernel
theorem dX11_arrange_17 : decode cX11_arrange 17 = .ok (.invokevirtual 283, 3) := by decide +kernel
theorem dX11_arrange_20 : decode cX11_arrange 20 = .ok (.ifCond .eq 12, 3) := by decide +kernel
theorem dX11_arrange_23 : decode cX11_arrange 23 = .ok (.aload_n 0, 1) := by decide +kernel
theorem dX11_arrange_24 : decode cX11_arrange 24 = .ok (.invokevirtual 286, 3) := by decide +kernel
theorem dX11_arrange_27 : decode cX11_arrange 27 = .ok (.ldc 218, 2) := by decide +kernel
theorem dX11_arrange_29 : decode cX11_arrange 29 = .ok (.if_icmp .lt 5, 3) := by decide +kernel
theorem dX11_arrange_32 : decode cX11_arrange 32 = .ok (.iconst (-1), 1) := by decide +kernel
theorem dX11_arrange_33 : decode cX11_arrange 33 = .ok (.ireturn, 1) := by decide +kernel
theorem dX11_arrange_34 : decode cX11_arrange 34 = .ok (.iconst 0, 1) := by decide +kernel
theorem dX11_arrange_35 : decode cX11_arrange 35 = .ok (.istore_n 2, 1) := by decide +kernel
theorem dX11_arrange_36 : decode cX11_arrange 36 = .ok (.iload_n 2, 1) := by decide +kernel
theorem dX11_arrange_37 : decode cX11_arrange 37 = .ok (.aload_n 0, 1) := by decide +kernel
theorem dX11_arrange_38 : decode cX11_arrange 38 = .ok (.getfield 196, 3) := by decide +kernel
theorem dX11_arrange_41 : decode cX11_arrange 41 = .ok (.if_icmp .ge 21, 3) := by decide +kernel
theorem dX11_arrange_44 : decode cX11_arrange 44 = .ok (.aload_n 0, 1) := by decide +kernel
theorem dX11_arrange_45 : decode cX11_arrange 45 = .ok (.getfield 133, 3) := by decide +kernel
theorem dX11_arrange_48 : decode cX11_arrange 48 = .ok (.iload_n 2, 1) := by decide +kernel
theorem dX11_arrange_49 : decode cX11_arrange 49 = .ok (.aload_n 0, 1) := by decide +kernel
theorem dX11_arrange_50 : decode cX11_arrange 50 = .ok (.getfield 65, 3) := by decide +kernel
theorem dX11_arrange_53 : decode cX11_arrange 53 = .ok (.iload_n 2, 1) := by decide +kernel
theorem dX11_arrange_54 : decode cX11_arrange 54 = .ok (.iaload, 1) := by decide +kernel
theorem dX11_arrange_55 : decode cX11_arrange 55 = .ok (.iastore, 1) := by decide +kernel
theorem dX11_arrange_56 : decode cX11_arrange 56 = .ok (.iinc 2 1, 3) := by decide +kernel
theorem dX11_arrange_59 : decode cX11_arrange 59 = .ok (.goto (-23), 3) := by decide +kernel
theorem dX11_arrange_62 : decode cX11_arrange 62 = .ok (.aload_n 0, 1) := by decide +kernel
theorem dX11_arrange_63 : decode cX11_arrange 63 = .ok (.iload_n 1, 1) := by decide +kernel
theorem dX11_arrange_64 : decode cX11_arrange 64 = .ok (.invokevirtual 274, 3) := by decide +kernel
theorem dX11_arrange_67 : decode cX11_arrange 67 = .ok (.istore_n 2, 1) := by decide +kernel
theorem dX11_arrange_68 : decode cX11_arrange 68 = .ok (.iconst 0, 1) := by decide +kernel
theorem dX11_arrange_69 : decode cX11_arrange 69 = .ok (.istore_n 3, 1) := by decide +kernel
theorem dX11_arrange_70 : decode cX11_arrange 70 = .ok (.iload_n 3, 1) := by decide +kernel
theorem dX11_arrange_71 : decode cX11_arrange 71 = .ok (.aload_n 0, 1) := by decide +kernel
theorem dX11_arrange_72 : decode cX11_arrange 72 = .ok (.getfield 271, 3) := by decide +kernel
theorem dX11_arrange_75 : decode cX11_arrange 75 = .ok (.if_icmp .ge 79, 3) := by decide +kernel
theorem dX11_arrange_78 : decode cX11_arrange 78 = .ok (.aload_n 0, 1) := by decide +kernel
theorem dX11_arrange_79 : decode cX11_arrange 79 = .ok (.getfield 130, 3) := by decide +kernel
theorem dX11_arrange_82 : decode cX11_arrange 82 = .ok (.iload_n 3, 1) := by decide +kernel
theorem dX11_arrange_83 : decode cX11_arrange 83 = .ok (.iaload, 1) := by decide +kernel
theorem dX11_arrange_84 : decode cX11_arrange 84 = .ok (.istore 4, 2) := by decide +kernel
theorem dX11_arrange_86 : decode cX11_arrange 86 = .ok (.iload 4, 2) := by decide +kernel
theorem dX11_arrange_88 : decode cX11_arrange 88 = .ok (.ifCond .ne 7, 3) := by decide +kernel
theorem dX11_arrange_91 : decode cX11_arrange 91 = .ok (.iload_n 1, 1) := by decide +kernel
theorem dX11_arrange_92 : decode cX11_arrange 92 = .ok (.goto 14, 3) := by decide +kernel
theorem dX11_arrange_95 : decode cX11_arrange 95 = .ok (.aload_n 0, 1) := by decide +kernel
theorem dX11_arrange_96 : decode cX11_arrange 96 = .ok (.aload_n 0, 1) := by decide +kernel
theorem dX11_arrange_97 : decode cX11_arrange 97 = .ok (.getfield 109, 3) := by decide +kernel
theorem dX11_arrange_100 : decode cX11_arrange 100 = .ok (.iload 4, 2) := by decide +kernel
theorem dX11_arrange_102 : decode cX11_arrange 102 = .ok (.iaload, 1) := by decide +kernel
theorem dX11_arrange_103 : decode cX11_arrange 103 = .ok (.invokevirtual 274, 3) := by decide +kernel
theorem dX11_arrange_106 : decode cX11_arrange 106 = .ok (.istore 5, 2) := by decide +kernel
theorem dX11_arrange_108 : decode cX11_arrange 108 = .ok (.iconst 0, 1) := by decide +kernel
theorem dX11_arrange_109 : decode cX11_arrange 109 = .ok (.istore 6, 2) := by decide +kernel
theorem dX11_arrange_111 : decode cX11_arrange 111 = .ok (.iload 6, 2) := by decide +kernel
theorem dX11_arrange_113 : decode cX11_arrange 113 = .ok (.aload_n 0, 1) := by decide +kernel
theorem dX11_arrange_114 : decode cX11_arrange 114 = .ok (.getfield 112, 3) := by decide +kernel
theorem dX11_arrange_117 : decode cX11_arrange 117 = .ok (.iload 4, 2) := by decide +kernel
theorem dX11_arrange_119 : decode cX11_arrange 119 = .ok (.iaload, 1) := by decide +kernel
theorem dX11_arrange_120 : decode cX11_arrange 120 = .ok (.if_icmp .ge 28, 3) := by decide +kernel
theorem dX11_arrange_123 : decode cX11_arrange 123 = .ok (.aload_n 0, 1) := by decide +kernel
theorem dX11_arrange_124 : decode cX11_arrange 124 = .ok (.getfield 133, 3) := by decide +kernel
theorem dX11_arrange_127 : decode cX11_arrange 127 = .ok (.iload_n 2, 1) := by decide +kernel
theorem dX11_arrange_128 : decode cX11_arrange 128 = .ok (.aload_n 0, 1) := by decide +kernel
theorem dX11_arrange_129 : decode cX11_arrange 129 = .ok (.getfield 65, 3) := by decide +kernel
theorem dX11_arrange_132 : decode cX11_arrange 132 = .ok (.iload 5, 2) := by decide +kernel
theorem dX11_arrange_134 : decode cX11_arrange 134 = .ok (.iload 6, 2) := by decide +kernel
theorem dX11_arrange_136 : decode cX11_arrange 136 = .ok (.iadd, 1) := by decide +kernel
theorem dX11_arrange_137 : decode cX11_arrange 137 = .ok (.iaload, 1) := by decide +kernel
theorem dX11_arrange_138 : decode cX11_arrange 138 = .ok (.iastore, 1) := by decide +kernel
theorem dX11_arrange_139 : decode cX11_arrange 139 = .ok (.iinc 2 1, 3) := by decide +kernel
theorem dX11_arrange_142 : decode cX11_arrange 142 = .ok (.iinc 6 1, 3) := by decide +kernel
theorem dX11_arrange_145 : decode cX11_arrange 145 = .ok (.goto (-34), 3) := by decide +kernel
theorem dX11_arrange_148 : decode cX11_arrange 148 = .ok (.iinc 3 1, 3) := by decide +kernel
theorem dX11_arrange_151 : decode cX11_arrange 151 = .ok (.goto (-81), 3) := by decide +kernel
theorem dX11_arrange_154 : decode cX11_arrange 154 = .ok (.aload_n 0, 1) := by decide +kernel
theorem dX11_arrange_155 : decode cX11_arrange 155 = .ok (.invokevirtual 292, 3) := by decide +kernel
theorem dX11_arrange_158 : decode cX11_arrange 158 = .ok (.ireturn, 1) := by decide +kernel
theorem dX11_move_0 : decode cX11_move 0 = .ok (.aload_n 0, 1) := by decide +kernel
theorem dX11_move_1 : decode cX11_move 1 = .ok (.iload_n 1, 1) := by decide +kernel
theorem dX11_move_2 : decode cX11_move 2 = .ok (.invokevirtual 250, 3) := by decide +kernel
theorem dX11_move_5 : decode cX11_move 5 = .ok (.ifCond .eq 15, 3) := by decide +kernel
theorem dX11_move_8 : decode cX11_move 8 = .ok (.iload_n 2, 1) := by decide +kernel
theorem dX11_move_9 : decode cX11_move 9 = .ok (.iconst 0, 1) := by decide +kernel
theorem dX11_move_10 : decode cX11_move 10 = .ok (.aload_n 0, 1) := by decide +kernel
theorem dX11_move_11 : decode cX11_move 11 = .ok (.getfield 196, 3) := by decide +kernel
theorem dX11_move_14 : decode cX11_move 14 = .ok (.invokestatic 139, 3) := by decide +kernel
theorem dX11_move_17 : decode cX11_move 17 = .ok (.ifCond .ne 6, 3) := by decide +kernel
theorem dX11_move_20 : decode cX11_move 20 = .ok (.bipush (-2), 2) := by decide +kernel
theorem dX11_move_22 : decode cX11_move 22 = .ok (.ireturn, 1) := by decide +kernel
theorem dX11_move_23 : decode cX11_move 23 = .ok (.aload_n 0, 1) := by decide +kernel
theorem dX11_move_24 : decode cX11_move 24 = .ok (.invokevirtual 253, 3) := by decide +kernel
theorem dX11_move_27 : decode cX11_move 27 = .ok (.iload_n 2, 1) := by decide +kernel
theorem dX11_move_28 : decode cX11_move 28 = .ok (.aload_n 0, 1) := by decide +kernel
theorem dX11_move_29 : decode cX11_move 29 = .ok (.getfield 196, 3) := by decide +kernel
theorem dX11_move_32 : decode cX11_move 32 = .ok (.if_icmp .ge 15, 3) := by decide +kernel
theorem dX11_move_35 : decode cX11_move 35 = .ok (.aload_n 0, 1) := by decide +kernel
theorem dX11_move_36 : decode cX11_move 36 = .ok (.iload_n 2, 1) := by decide +kernel
theorem dX11_move_37 : decode cX11_move 37 = .ok (.iload_n 1, 1) := by decide +kernel
theorem dX11_move_38 : decode cX11_move 38 = .ok (.invokevirtual 246, 3) := by decide +kernel
theorem dX11_move_41 : decode cX11_move 41 = .ok (.ifCond .eq 6, 3) := by decide +kernel
theorem dX11_move_44 : decode cX11_move 44 = .ok (.bipush (-2), 2) := by decide +kernel
theorem dX11_move_46 : decode cX11_move 46 = .ok (.ireturn, 1) := by decide +kernel
theorem dX11_move_47 : decode cX11_move 47 = .ok (.iconst 0, 1) := by decide +kernel
theorem dX11_move_48 : decode cX11_move 48 = .ok (.istore_n 3, 1) := by decide +kernel
theorem dX11_move_49 : decode cX11_move 49 = .ok (.iconst 0, 1) := by decide +kernel
theorem dX11_move_50 : decode cX11_move 50 = .ok (.istore 4, 2) := by decide +kernel
theorem dX11_move_52 : decode cX11_move 52 = .ok (.iload 4, 2) := by decide +kernel
theorem dX11_move_54 : decode cX11_move 54 = .ok (.aload_n 0, 1) := by decide +kernel
theorem dX11_move_55 : decode cX11_move 55 = .ok (.getfield 196, 3) := by decide +kernel
theorem dX11_move_58 : decode cX11_move 58 = .ok (.if_icmp .gt 100, 3) := by decide +kernel
theorem dX11_move_61 : decode cX11_move 61 = .ok (.iload 4, 2) := by decide +kernel
theorem dX11_move_63 : decode cX11_move 63 = .ok (.iload_n 2, 1) := by decide +kernel
theorem dX11_move_64 : decode cX11_move 64 = .ok (.if_icmp .ne 50, 3) := by decide +kernel
theorem dX11_move_67 : decode cX11_move 67 = .ok (.iconst 0, 1) := by decide +kernel
theorem dX11_move_68 : decode cX11_move 68 = .ok (.istore 5, 2) := by decide +kernel
theorem dX11_move_70 : decode cX11_move 70 = .ok (.iload 5, 2) := by decide +kernel
theorem dX11_move_72 : decode cX11_move 72 = .ok (.aload_n 0, 1) := by decide +kernel
theorem dX11_move_73 : decode cX11_move 73 = .ok (.getfield 196, 3) := by decide +kernel
theorem dX11_move_76 : decode cX11_move 76 = .ok (.if_icmp .ge 38, 3) := by decide +kernel
theorem dX11_move_79 : decode cX11_move 79 = .ok (.aload_n 0, 1) := by decide +kernel
theorem dX11_move_80 : decode cX11_move 80 = .ok (.iload 5, 2) := by decide +kernel
theorem dX11_move_82 : decode cX11_move 82 = .ok (.iload_n 1, 1) := by decide +kernel
theorem dX11_move_83 : decode cX11_move 83 = .ok (.invokevirtual 246, 3) := by decide +kernel
theorem dX11_move_86 : decode cX11_move 86 = .ok (.ifCond .ne 6, 3) := by decide +kernel
theorem dX11_move_89 : decode cX11_move 89 = .ok (.goto 19, 3) := by decide +kernel
theorem dX11_move_92 : decode cX11_move 92 = .ok (.aload_n 0, 1) := by decide +kernel
theorem dX11_move_93 : decode cX11_move 93 = .ok (.getfield 133, 3) := by decide +kernel
theorem dX11_move_96 : decode cX11_move 96 = .ok (.iload_n 3, 1) := by decide +kernel
theorem dX11_move_97 : decode cX11_move 97 = .ok (.aload_n 0, 1) := by decide +kernel
theorem dX11_move_98 : decode cX11_move 98 = .ok (.getfield 65, 3) := by decide +kernel
theorem dX11_move_101 : decode cX11_move 101 = .ok (.iload 5, 2) := by decide +kernel
theorem dX11_move_103 : decode cX11_move 103 = .ok (.iaload, 1) := by decide +kernel
theorem dX11_move_104 : decode cX11_move 104 = .ok (.iastore, 1) := by decide +kernel
theorem dX11_move_105 : decode cX11_move 105 = .ok (.iinc 3 1, 3) := by decide +kernel
theorem dX11_move_108 : decode cX11_move 108 = .ok (.iinc 5 1, 3) := by decide +kernel
theorem dX11_move_111 : decode cX11_move 111 = .ok (.goto (-41), 3) := by decide +kernel
theorem dX11_move_114 : decode cX11_move 114 = .ok (.iload 4, 2) := by decide +kernel
theorem dX11_move_116 : decode cX11_move 116 = .ok (.aload_n 0, 1) := by decide +kernel
theorem dX11_move_117 : decode cX11_move 117 = .ok (.getfield 196, 3) := by decide +kernel
theorem dX11_move_120 : decode cX11_move 120 = .ok (.if_icmp .eq 32, 3) := by decide +kernel
theorem dX11_move_123 : decode cX11_move 123 = .ok (.aload_n 0, 1) := by decide +kernel
theorem dX11_move_124 : decode cX11_move 124 = .ok (.iload 4, 2) := by decide +kernel
theorem dX11_move_126 : decode cX11_move 126 = .ok (.iload_n 1, 1) := by decide +kernel
theorem dX11_move_127 : decode cX11_move 127 = .ok (.invokevirtual 246, 3) := by decide +kernel
theorem dX11_move_130 : decode cX11_move 130 = .ok (.ifCond .eq 6, 3) := by decide +kernel
theorem dX11_move_133 : decode cX11_move 133 = .ok (.goto 19, 3) := by decide +kernel
theorem dX11_move_136 : decode cX11_move 136 = .ok (.aload_n 0, 1) := by decide +kernel
theorem dX11_move_137 : decode cX11_move 137 = .ok (.getfield 133, 3) := by decide +kernel
theorem dX11_move_140 : decode cX11_move 140 = .ok (.iload_n 3, 1) := by decide +kernel
theorem dX11_move_141 : decode cX11_move 141 = .ok (.aload_n 0, 1) := by decide +kernel
theorem dX11_move_142 : decode cX11_move 142 = .ok (.getfield 65, 3) := by decide +kernel
theorem dX11_move_145 : decode cX11_move 145 = .ok (.iload 4, 2) := by decide +kernel
theorem dX11_move_147 : decode cX11_move 147 = .ok (.iaload, 1) := by decide +kernel
theorem dX11_move_148 : decode cX11_move 148 = .ok (.iastore, 1) := by decide +kernel
theorem dX11_move_149 : decode cX11_move 149 = .ok (.iinc 3 1, 3) := by decide +kernel
theorem dX11_move_152 : decode cX11_move 152 = .ok (.iinc 4 1, 3) := by decide +kernel
theorem dX11_move_155 : decode cX11_move 155 = .ok (.goto (-103), 3) := by decide +kernel
theorem dX11_move_158 : decode cX11_move 158 = .ok (.aload_n 0, 1) := by decide +kernel
theorem dX11_move_159 : decode cX11_move 159 = .ok (.invokevirtual 292, 3) := by decide +kernel
theorem dX11_move_162 : decode cX11_move 162 = .ok (.ireturn, 1) := by decide +kernel
theorem dX11_count_0 : decode cX11_count 0 = .ok (.iload_n 1, 1) := by decide +kernel
theorem dX11_count_1 : decode cX11_count 1 = .ok (.tableswitch 126 0 7 #[47, 52, 68, 73, 78, 83, 88, 93], 47) := by decide +kernel
theorem dX11_count_48 : decode cX11_count 48 = .ok (.aload_n 0, 1) := by decide +kernel
theorem dX11_count_49 : decode cX11_count 49 = .ok (.getfield 196, 3) := by decide +kernel
theorem dX11_count_52 : decode cX11_count 52 = .ok (.ireturn, 1) := by decide +kernel
theorem dX11_count_53 : decode cX11_count 53 = .ok (.aload_n 0, 1) := by decide +kernel
theorem dX11_count_54 : decode cX11_count 54 = .ok (.getfield 196, 3) := by decide +kernel
theorem dX11_count_57 : decode cX11_count 57 = .ok (.ifCond .ne 7, 3) := by decide +kernel
theorem dX11_count_60 : decode cX11_count 60 = .ok (.iconst 0, 1) := by decide +kernel
theorem dX11_count_61 : decode cX11_count 61 = .ok (.goto 7, 3) := by decide +kernel
theorem dX11_count_64 : decode cX11_count 64 = .ok (.aload_n 0, 1) := by decide +kernel
theorem dX11_count_65 : decode cX11_count 65 = .ok (.getfield 202, 3) := by decide +kernel
theorem dX11_count_68 : decode cX11_count 68 = .ok (.ireturn, 1) := by decide +kernel
theorem dX11_count_69 : decode cX11_count 69 = .ok (.aload_n 0, 1) := by decide +kernel
theorem dX11_count_70 : decode cX11_count 70 = .ok (.getfield 161, 3) := by decide +kernel
theorem dX11_count_73 : decode cX11_count 73 = .ok (.ireturn, 1) := by decide +kernel
theorem dX11_count_74 : decode cX11_count 74 = .ok (.aload_n 0, 1) := by decide +kernel
theorem dX11_count_75 : decode cX11_count 75 = .ok (.getfield 180, 3) := by decide +kernel
theorem dX11_count_78 : decode cX11_count 78 = .ok (.ireturn, 1) := by decide +kernel
theorem dX11_count_79 : decode cX11_count 79 = .ok (.aload_n 0, 1) := by decide +kernel
theorem dX11_count_80 : decode cX11_count 80 = .ok (.getfield 183, 3) := by decide +kernel
theorem dX11_count_83 : decode cX11_count 83 = .ok (.ireturn, 1) := by decide +kernel
theorem dX11_count_84 : decode cX11_count 84 = .ok (.aload_n 0, 1) := by decide +kernel
theorem dX11_count_85 : decode cX11_count 85 = .ok (.getfield 199, 3) := by decide +kernel
theorem dX11_count_88 : decode cX11_count 88 = .ok (.ireturn, 1) := by decide +kernel
theorem dX11_count_89 : decode cX11_count 89 = .ok (.aload_n 0, 1) := by decide +kernel
theorem dX11_count_90 : decode cX11_count 90 = .ok (.getfield 136, 3) := by decide +kernel
theorem dX11_count_93 : decode cX11_count 93 = .ok (.ireturn, 1) := by decide +kernel
theorem dX11_count_94 : decode cX11_count 94 = .ok (.aload_n 0, 1) := by decide +kernel
theorem dX11_count_95 : decode cX11_count 95 = .ok (.getfield 196, 3) := by decide +kernel
theorem dX11_count_98 : decode cX11_count 98 = .ok (.ifCond .ne 5, 3) := by decide +kernel
theorem dX11_count_101 : decode cX11_count 101 = .ok (.iconst (-1), 1) := by decide +kernel
theorem dX11_count_102 : decode cX11_count 102 = .ok (.ireturn, 1) := by decide +kernel
theorem dX11_count_103 : decode cX11_count 103 = .ok (.aload_n 0, 1) := by decide +kernel
theorem dX11_count_104 : decode cX11_count 104 = .ok (.invokevirtual 253, 3) := by decide +kernel
theorem dX11_count_107 : decode cX11_count 107 = .ok (.iconst 0, 1) := by decide +kernel
theorem dX11_count_108 : decode cX11_count 108 = .ok (.istore_n 2, 1) := by decide +kernel
theorem dX11_count_109 : decode cX11_count 109 = .ok (.aload_n 0, 1) := by decide +kernel
theorem dX11_count_110 : decode cX11_count 110 = .ok (.getfield 100, 3) := by decide +kernel
theorem dX11_count_113 : decode cX11_count 113 = .ok (.iload_n 2, 1) := by decide +kernel
theorem dX11_count_114 : decode cX11_count 114 = .ok (.iaload, 1) := by decide +kernel
theorem dX11_count_115 : decode cX11_count 115 = .ok (.iconst (-1), 1) := by decide +kernel
theorem dX11_count_116 : decode cX11_count 116 = .ok (.if_icmp .eq 9, 3) := by decide +kernel
theorem dX11_count_119 : decode cX11_count 119 = .ok (.iinc 2 1, 3) := by decide +kernel
theorem dX11_count_122 : decode cX11_count 122 = .ok (.goto (-13), 3) := by decide +kernel
theorem dX11_count_125 : decode cX11_count 125 = .ok (.iload_n 2, 1) := by decide +kernel
theorem dX11_count_126 : decode cX11_count 126 = .ok (.ireturn, 1) := by decide +kernel
theorem dX11_count_127 : decode cX11_count 127 = .ok (.iload_n 1, 1) := by decide +kernel
theorem dX11_count_128 : decode cX11_count 128 = .ok (.bipush 10, 2) := by decide +kernel
theorem dX11_count_130 : decode cX11_count 130 = .ok (.bipush 13, 2) := by decide +kernel
theorem dX11_count_132 : decode cX11_count 132 = .ok (.invokestatic 139, 3) := by decide +kernel
theorem dX11_count_135 : decode cX11_count 135 = .ok (.ifCond .eq 15, 3) := by decide +kernel
theorem dX11_count_138 : decode cX11_count 138 = .ok (.aload_n 0, 1) := by decide +kernel
theorem dX11_count_139 : decode cX11_count 139 = .ok (.getfield 38, 3) := by decide +kernel
theorem dX11_count_142 : decode cX11_count 142 = .ok (.iload_n 1, 1) := by decide +kernel
theorem dX11_count_143 : decode cX11_count 143 = .ok (.bipush 10, 2) := by decide +kernel
theorem dX11_count_145 : decode cX11_count 145 = .ok (.isub, 1) := by decide +kernel
theorem dX11_count_146 : decode cX11_count 146 = .ok (.iaload, 1) := by decide +kernel
theorem dX11_count_147 : decode cX11_count 147 = .ok (.goto 4, 3) := by decide +kernel
theorem dX11_count_150 : decode cX11_count 150 = .ok (.iconst (-1), 1) := by decide +kernel
theorem dX11_count_151 : decode cX11_count 151 = .ok (.ireturn, 1) := by decide +kernel
