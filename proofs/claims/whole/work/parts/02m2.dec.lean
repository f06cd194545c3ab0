theorem dX11_makeTree_110 : decode cX11_makeTree 110 = .ok (.iastore, 1) := by decide +kernel
theorem dX11_makeTree_111 : decode cX11_makeTree 111 = .ok (.iinc 2 1, 3) := by decide +kernel
theorem dX11_makeTree_114 : decode cX11_makeTree 114 = .ok (.goto (-38), 3) := by decide +kernel
theorem dX11_makeTree_117 : decode cX11_makeTree 117 = .ok (.iinc 1 1, 3) := by decide +kernel
theorem dX11_makeTree_120 : decode cX11_makeTree 120 = .ok (.goto (-84), 3) := by decide +kernel
theorem dX11_makeTree_123 : decode cX11_makeTree 123 = .ok (.aload_n 0, 1) := by decide +kernel
theorem dX11_makeTree_124 : decode cX11_makeTree 124 = .ok (.invokevirtual 229, 3) := by decide +kernel
theorem dX11_makeTree_127 : decode cX11_makeTree 127 = .ok (.aload_n 0, 1) := by decide +kernel
theorem dX11_makeTree_128 : decode cX11_makeTree 128 = .ok (.aload_n 0, 1) := by decide +kernel
theorem dX11_makeTree_129 : decode cX11_makeTree 129 = .ok (.invokevirtual 232, 3) := by decide +kernel
theorem dX11_makeTree_132 : decode cX11_makeTree 132 = .ok (.putfield 236, 3) := by decide +kernel
theorem dX11_makeTree_135 : decode cX11_makeTree 135 = .ok (.iconst 0, 1) := by decide +kernel
theorem dX11_makeTree_136 : decode cX11_makeTree 136 = .ok (.istore_n 1, 1) := by decide +kernel
theorem dX11_makeTree_137 : decode cX11_makeTree 137 = .ok (.iload_n 1, 1) := by decide +kernel
theorem dX11_makeTree_138 : decode cX11_makeTree 138 = .ok (.aload_n 0, 1) := by decide +kernel
theorem dX11_makeTree_139 : decode cX11_makeTree 139 = .ok (.getfield 196, 3) := by decide +kernel
theorem dX11_makeTree_142 : decode cX11_makeTree 142 = .ok (.if_icmp .ge 47, 3) := by decide +kernel
theorem dX11_makeTree_145 : decode cX11_makeTree 145 = .ok (.iconst (-1), 1) := by decide +kernel
theorem dX11_makeTree_146 : decode cX11_makeTree 146 = .ok (.istore_n 2, 1) := by decide +kernel
theorem dX11_makeTree_147 : decode cX11_makeTree 147 = .ok (.aload_n 0, 1) := by decide +kernel
theorem dX11_makeTree_148 : decode cX11_makeTree 148 = .ok (.iload_n 1, 1) := by decide +kernel
theorem dX11_makeTree_149 : decode cX11_makeTree 149 = .ok (.iload_n 2, 1) := by decide +kernel
theorem dX11_makeTree_150 : decode cX11_makeTree 150 = .ok (.invokevirtual 239, 3) := by decide +kernel
theorem dX11_makeTree_153 : decode cX11_makeTree 153 = .ok (.aload_n 0, 1) := by decide +kernel
theorem dX11_makeTree_154 : decode cX11_makeTree 154 = .ok (.invokevirtual 232, 3) := by decide +kernel
theorem dX11_makeTree_157 : decode cX11_makeTree 157 = .ok (.aload_n 0, 1) := by decide +kernel
theorem dX11_makeTree_158 : decode cX11_makeTree 158 = .ok (.getfield 236, 3) := by decide +kernel
theorem dX11_makeTree_161 : decode cX11_makeTree 161 = .ok (.if_icmp .eq 15, 3) := by decide +kernel
theorem dX11_makeTree_164 : decode cX11_makeTree 164 = .ok (.iinc 2 1, 3) := by decide +kernel
theorem dX11_makeTree_167 : decode cX11_makeTree 167 = .ok (.aload_n 0, 1) := by decide +kernel
theorem dX11_makeTree_168 : decode cX11_makeTree 168 = .ok (.iload_n 1, 1) := by decide +kernel
theorem dX11_makeTree_169 : decode cX11_makeTree 169 = .ok (.iload_n 2, 1) := by decide +kernel
theorem dX11_makeTree_170 : decode cX11_makeTree 170 = .ok (.invokevirtual 239, 3) := by decide +kernel
theorem dX11_makeTree_173 : decode cX11_makeTree 173 = .ok (.goto (-20), 3) := by decide +kernel
theorem dX11_makeTree_176 : decode cX11_makeTree 176 = .ok (.aload_n 0, 1) := by decide +kernel
theorem dX11_makeTree_177 : decode cX11_makeTree 177 = .ok (.getfield 100, 3) := by decide +kernel
theorem dX11_makeTree_180 : decode cX11_makeTree 180 = .ok (.iload_n 1, 1) := by decide +kernel
theorem dX11_makeTree_181 : decode cX11_makeTree 181 = .ok (.iload_n 2, 1) := by decide +kernel
theorem dX11_makeTree_182 : decode cX11_makeTree 182 = .ok (.iastore, 1) := by decide +kernel
theorem dX11_makeTree_183 : decode cX11_makeTree 183 = .ok (.iinc 1 1, 3) := by decide +kernel
theorem dX11_makeTree_186 : decode cX11_makeTree 186 = .ok (.goto (-49), 3) := by decide +kernel
theorem dX11_makeTree_189 : decode cX11_makeTree 189 = .ok (.aload_n 0, 1) := by decide +kernel
theorem dX11_makeTree_190 : decode cX11_makeTree 190 = .ok (.ldc 218, 2) := by decide +kernel
theorem dX11_makeTree_192 : decode cX11_makeTree 192 = .ok (.putfield 243, 3) := by decide +kernel
theorem dX11_makeTree_195 : decode cX11_makeTree 195 = .ok (.aload_n 0, 1) := by decide +kernel
theorem dX11_makeTree_196 : decode cX11_makeTree 196 = .ok (.invokevirtual 229, 3) := by decide +kernel
theorem dX11_makeTree_199 : decode cX11_makeTree 199 = .ok (.iconst 0, 1) := by decide +kernel
theorem dX11_makeTree_200 : decode cX11_makeTree 200 = .ok (.istore_n 1, 1) := by decide +kernel
theorem dX11_makeTree_201 : decode cX11_makeTree 201 = .ok (.iload_n 1, 1) := by decide +kernel
theorem dX11_makeTree_202 : decode cX11_makeTree 202 = .ok (.aload_n 0, 1) := by decide +kernel
theorem dX11_makeTree_203 : decode cX11_makeTree 203 = .ok (.getfield 196, 3) := by decide +kernel
theorem dX11_makeTree_206 : decode cX11_makeTree 206 = .ok (.if_icmp .ge 72, 3) := by decide +kernel
theorem dX11_makeTree_209 : decode cX11_makeTree 209 = .ok (.aload_n 0, 1) := by decide +kernel
theorem dX11_makeTree_210 : decode cX11_makeTree 210 = .ok (.getfield 90, 3) := by decide +kernel
theorem dX11_makeTree_213 : decode cX11_makeTree 213 = .ok (.bipush 25, 2) := by decide +kernel
theorem dX11_makeTree_215 : decode cX11_makeTree 215 = .ok (.iload_n 1, 1) := by decide +kernel
theorem dX11_makeTree_216 : decode cX11_makeTree 216 = .ok (.imul, 1) := by decide +kernel
theorem dX11_makeTree_217 : decode cX11_makeTree 217 = .ok (.aload_n 0, 1) := by decide +kernel
theorem dX11_makeTree_218 : decode cX11_makeTree 218 = .ok (.getfield 100, 3) := by decide +kernel
theorem dX11_makeTree_221 : decode cX11_makeTree 221 = .ok (.iload_n 1, 1) := by decide +kernel
theorem dX11_makeTree_222 : decode cX11_makeTree 222 = .ok (.iaload, 1) := by decide +kernel
theorem dX11_makeTree_223 : decode cX11_makeTree 223 = .ok (.iadd, 1) := by decide +kernel
theorem dX11_makeTree_224 : decode cX11_makeTree 224 = .ok (.iconst 1, 1) := by decide +kernel
theorem dX11_makeTree_225 : decode cX11_makeTree 225 = .ok (.iadd, 1) := by decide +kernel
theorem dX11_makeTree_226 : decode cX11_makeTree 226 = .ok (.iconst 1, 1) := by decide +kernel
theorem dX11_makeTree_227 : decode cX11_makeTree 227 = .ok (.bastore, 1) := by decide +kernel
theorem dX11_makeTree_228 : decode cX11_makeTree 228 = .ok (.aload_n 0, 1) := by decide +kernel
theorem dX11_makeTree_229 : decode cX11_makeTree 229 = .ok (.invokevirtual 232, 3) := by decide +kernel
theorem dX11_makeTree_232 : decode cX11_makeTree 232 = .ok (.istore_n 2, 1) := by decide +kernel
theorem dX11_makeTree_233 : decode cX11_makeTree 233 = .ok (.aload_n 0, 1) := by decide +kernel
theorem dX11_makeTree_234 : decode cX11_makeTree 234 = .ok (.iload_n 2, 1) := by decide +kernel
theorem dX11_makeTree_235 : decode cX11_makeTree 235 = .ok (.aload_n 0, 1) := by decide +kernel
theorem dX11_makeTree_236 : decode cX11_makeTree 236 = .ok (.getfield 243, 3) := by decide +kernel
theorem dX11_makeTree_239 : decode cX11_makeTree 239 = .ok (.if_icmp .ge 7, 3) := by decide +kernel
theorem dX11_makeTree_242 : decode cX11_makeTree 242 = .ok (.iload_n 2, 1) := by decide +kernel
theorem dX11_makeTree_243 : decode cX11_makeTree 243 = .ok (.goto 7, 3) := by decide +kernel
theorem dX11_makeTree_246 : decode cX11_makeTree 246 = .ok (.aload_n 0, 1) := by decide +kernel
theorem dX11_makeTree_247 : decode cX11_makeTree 247 = .ok (.getfield 243, 3) := by decide +kernel
theorem dX11_makeTree_250 : decode cX11_makeTree 250 = .ok (.putfield 243, 3) := by decide +kernel
theorem dX11_makeTree_253 : decode cX11_makeTree 253 = .ok (.aload_n 0, 1) := by decide +kernel
theorem dX11_makeTree_254 : decode cX11_makeTree 254 = .ok (.getfield 90, 3) := by decide +kernel
theorem dX11_makeTree_257 : decode cX11_makeTree 257 = .ok (.bipush 25, 2) := by decide +kernel
theorem dX11_makeTree_259 : decode cX11_makeTree 259 = .ok (.iload_n 1, 1) := by decide +kernel
theorem dX11_makeTree_260 : decode cX11_makeTree 260 = .ok (.imul, 1) := by decide +kernel
theorem dX11_makeTree_261 : decode cX11_makeTree 261 = .ok (.aload_n 0, 1) := by decide +kernel
theorem dX11_makeTree_262 : decode cX11_makeTree 262 = .ok (.getfield 100, 3) := by decide +kernel
theorem dX11_makeTree_265 : decode cX11_makeTree 265 = .ok (.iload_n 1, 1) := by decide +kernel
theorem dX11_makeTree_266 : decode cX11_makeTree 266 = .ok (.iaload, 1) := by decide +kernel
theorem dX11_makeTree_267 : decode cX11_makeTree 267 = .ok (.iadd, 1) := by decide +kernel
theorem dX11_makeTree_268 : decode cX11_makeTree 268 = .ok (.iconst 1, 1) := by decide +kernel
theorem dX11_makeTree_269 : decode cX11_makeTree 269 = .ok (.iadd, 1) := by decide +kernel
theorem dX11_makeTree_270 : decode cX11_makeTree 270 = .ok (.iconst 0, 1) := by decide +kernel
theorem dX11_makeTree_271 : decode cX11_makeTree 271 = .ok (.bastore, 1) := by decide +kernel
theorem dX11_makeTree_272 : decode cX11_makeTree 272 = .ok (.iinc 1 1, 3) := by decide +kernel
theorem dX11_makeTree_275 : decode cX11_makeTree 275 = .ok (.goto (-74), 3) := by decide +kernel
theorem dX11_makeTree_278 : decode cX11_makeTree 278 = .ok (.return_, 1) := by decide +kernel
theorem dX11_isOf_0 : decode cX11_isOf 0 = .ok (.iload_n 1, 1) := by decide +kernel
theorem dX11_isOf_1 : decode cX11_isOf 1 = .ok (.istore_n 3, 1) := by decide +kernel
theorem dX11_isOf_2 : decode cX11_isOf 2 = .ok (.iload_n 3, 1) := by decide +kernel
theorem dX11_isOf_3 : decode cX11_isOf 3 = .ok (.iconst (-1), 1) := by decide +kernel
theorem dX11_isOf_4 : decode cX11_isOf 4 = .ok (.if_icmp .eq 18, 3) := by decide +kernel
theorem dX11_isOf_7 : decode cX11_isOf 7 = .ok (.iload_n 3, 1) := by decide +kernel
theorem dX11_isOf_8 : decode cX11_isOf 8 = .ok (.iload_n 2, 1) := by decide +kernel
theorem dX11_isOf_9 : decode cX11_isOf 9 = .ok (.if_icmp .eq 13, 3) := by decide +kernel
theorem dX11_isOf_12 : decode cX11_isOf 12 = .ok (.aload_n 0, 1) := by decide +kernel
theorem dX11_isOf_13 : decode cX11_isOf 13 = .ok (.getfield 100, 3) := by decide +kernel
theorem dX11_isOf_16 : decode cX11_isOf 16 = .ok (.iload_n 3, 1) := by decide +kernel
theorem dX11_isOf_17 : decode cX11_isOf 17 = .ok (.iaload, 1) := by decide +kernel
theorem dX11_isOf_18 : decode cX11_isOf 18 = .ok (.istore_n 3, 1) := by decide +kernel
theorem dX11_isOf_19 : decode cX11_isOf 19 = .ok (.goto (-17), 3) := by decide +kernel
theorem dX11_isOf_22 : decode cX11_isOf 22 = .ok (.iload_n 3, 1) := by decide +kernel
theorem dX11_isOf_23 : decode cX11_isOf 23 = .ok (.iload_n 2, 1) := by decide +kernel
theorem dX11_isOf_24 : decode cX11_isOf 24 = .ok (.if_icmp .ne 7, 3) := by decide +kernel
theorem dX11_isOf_27 : decode cX11_isOf 27 = .ok (.iconst 1, 1) := by decide +kernel
theorem dX11_isOf_28 : decode cX11_isOf 28 = .ok (.goto 4, 3) := by decide +kernel
theorem dX11_isOf_31 : decode cX11_isOf 31 = .ok (.iconst 0, 1) := by decide +kernel
theorem dX11_isOf_32 : decode cX11_isOf 32 = .ok (.ireturn, 1) := by decide +kernel
theorem dX11_hanging_0 : decode cX11_hanging 0 = .ok (.iconst 0, 1) := by decide +kernel
theorem dX11_hanging_1 : decode cX11_hanging 1 = .ok (.istore_n 2, 1) := by decide +kernel
theorem dX11_hanging_2 : decode cX11_hanging 2 = .ok (.iconst 0, 1) := by decide +kernel
theorem dX11_hanging_3 : decode cX11_hanging 3 = .ok (.istore_n 3, 1) := by decide +kernel
theorem dX11_hanging_4 : decode cX11_hanging 4 = .ok (.iload_n 3, 1) := by decide +kernel
theorem dX11_hanging_5 : decode cX11_hanging 5 = .ok (.aload_n 0, 1) := by decide +kernel
theorem dX11_hanging_6 : decode cX11_hanging 6 = .ok (.getfield 196, 3) := by decide +kernel
theorem dX11_hanging_9 : decode cX11_hanging 9 = .ok (.if_icmp .ge 27, 3) := by decide +kernel
theorem dX11_hanging_12 : decode cX11_hanging 12 = .ok (.iload_n 2, 1) := by decide +kernel
theorem dX11_hanging_13 : decode cX11_hanging 13 = .ok (.aload_n 0, 1) := by decide +kernel
theorem dX11_hanging_14 : decode cX11_hanging 14 = .ok (.getfield 100, 3) := by decide +kernel
theorem dX11_hanging_17 : decode cX11_hanging 17 = .ok (.iload_n 3, 1) := by decide +kernel
theorem dX11_hanging_18 : decode cX11_hanging 18 = .ok (.iaload, 1) := by decide +kernel
theorem dX11_hanging_19 : decode cX11_hanging 19 = .ok (.iload_n 1, 1) := by decide +kernel
theorem dX11_hanging_20 : decode cX11_hanging 20 = .ok (.if_icmp .ne 7, 3) := by decide +kernel
theorem dX11_hanging_23 : decode cX11_hanging 23 = .ok (.iconst 1, 1) := by decide +kernel
theorem dX11_hanging_24 : decode cX11_hanging 24 = .ok (.goto 4, 3) := by decide +kernel
theorem dX11_hanging_27 : decode cX11_hanging 27 = .ok (.iconst 0, 1) := by decide +kernel
theorem dX11_hanging_28 : decode cX11_hanging 28 = .ok (.iadd, 1) := by decide +kernel
theorem dX11_hanging_29 : decode cX11_hanging 29 = .ok (.istore_n 2, 1) := by decide +kernel
theorem dX11_hanging_30 : decode cX11_hanging 30 = .ok (.iinc 3 1, 3) := by decide +kernel
theorem dX11_hanging_33 : decode cX11_hanging 33 = .ok (.goto (-29), 3) := by decide +kernel
theorem dX11_hanging_36 : decode cX11_hanging 36 = .ok (.iload_n 2, 1) := by decide +kernel
theorem dX11_hanging_37 : decode cX11_hanging 37 = .ok (.ireturn, 1) := by decide +kernel
theorem dX11_partSize_0 : decode cX11_partSize 0 = .ok (.iconst 0, 1) := by decide +kernel
theorem dX11_partSize_1 : decode cX11_partSize 1 = .ok (.istore_n 2, 1) := by decide +kernel
theorem dX11_partSize_2 : decode cX11_partSize 2 = .ok (.iconst 0, 1) := by decide +kernel
theorem dX11_partSize_3 : decode cX11_partSize 3 = .ok (.istore_n 3, 1) := by decide +kernel
theorem dX11_partSize_4 : decode cX11_partSize 4 = .ok (.iload_n 3, 1) := by decide +kernel
theorem dX11_partSize_5 : decode cX11_partSize 5 = .ok (.aload_n 0, 1) := by decide +kernel
theorem dX11_partSize_6 : decode cX11_partSize 6 = .ok (.getfield 196, 3) := by decide +kernel
theorem dX11_partSize_9 : decode cX11_partSize 9 = .ok (.if_icmp .ge 26, 3) := by decide +kernel
theorem dX11_partSize_12 : decode cX11_partSize 12 = .ok (.iload_n 2, 1) := by decide +kernel
theorem dX11_partSize_13 : decode cX11_partSize 13 = .ok (.aload_n 0, 1) := by decide +kernel
theorem dX11_partSize_14 : decode cX11_partSize 14 = .ok (.iload_n 3, 1) := by decide +kernel
theorem dX11_partSize_15 : decode cX11_partSize 15 = .ok (.iload_n 1, 1) := by decide +kernel
theorem dX11_partSize_16 : decode cX11_partSize 16 = .ok (.invokevirtual 246, 3) := by decide +kernel
theorem dX11_partSize_19 : decode cX11_partSize 19 = .ok (.ifCond .eq 7, 3) := by decide +kernel
theorem dX11_partSize_22 : decode cX11_partSize 22 = .ok (.iconst 1, 1) := by decide +kernel
theorem dX11_partSize_23 : decode cX11_partSize 23 = .ok (.goto 4, 3) := by decide +kernel
theorem dX11_partSize_26 : decode cX11_partSize 26 = .ok (.iconst 0, 1) := by decide +kernel
theorem dX11_partSize_27 : decode cX11_partSize 27 = .ok (.iadd, 1) := by decide +kernel
theorem dX11_partSize_28 : decode cX11_partSize 28 = .ok (.istore_n 2, 1) := by decide +kernel
theorem dX11_partSize_29 : decode cX11_partSize 29 = .ok (.iinc 3 1, 3) := by decide +kernel
theorem dX11_partSize_32 : decode cX11_partSize 32 = .ok (.goto (-28), 3) := by decide +kernel
theorem dX11_partSize_35 : decode cX11_partSize 35 = .ok (.iload_n 2, 1) := by decide +kernel
theorem dX11_partSize_36 : decode cX11_partSize 36 = .ok (.ireturn, 1) := by decide +kernel
theorem dX11_partBegin_0 : decode cX11_partBegin 0 = .ok (.iconst 0, 1) := by decide +kernel
theorem dX11_partBegin_1 : decode cX11_partBegin 1 = .ok (.istore_n 2, 1) := by decide +kernel
theorem dX11_partBegin_2 : decode cX11_partBegin 2 = .ok (.aload_n 0, 1) := by decide +kernel
theorem dX11_partBegin_3 : decode cX11_partBegin 3 = .ok (.iload_n 2, 1) := by decide +kernel
theorem dX11_partBegin_4 : decode cX11_partBegin 4 = .ok (.iload_n 1, 1) := by decide +kernel
theorem dX11_partBegin_5 : decode cX11_partBegin 5 = .ok (.invokevirtual 246, 3) := by decide +kernel
theorem dX11_partBegin_8 : decode cX11_partBegin 8 = .ok (.ifCond .ne 9, 3) := by decide +kernel
theorem dX11_partBegin_11 : decode cX11_partBegin 11 = .ok (.iinc 2 1, 3) := by decide +kernel
theorem dX11_partBegin_14 : decode cX11_partBegin 14 = .ok (.goto (-12), 3) := by decide +kernel
theorem dX11_partBegin_17 : decode cX11_partBegin 17 = .ok (.iload_n 2, 1) := by decide +kernel
theorem dX11_partBegin_18 : decode cX11_partBegin 18 = .ok (.ireturn, 1) := by decide +kernel
theorem dX11_sentence_0 : decode cX11_sentence 0 = .ok (.aload_n 0, 1) := by decide +kernel
theorem dX11_sentence_1 : decode cX11_sentence 1 = .ok (.iload_n 1, 1) := by decide +kernel
theorem dX11_sentence_2 : decode cX11_sentence 2 = .ok (.invokevirtual 250, 3) := by decide +kernel
theorem dX11_sentence_5 : decode cX11_sentence 5 = .ok (.ifCond .ne 6, 3) := by decide +kernel
theorem dX11_sentence_8 : decode cX11_sentence 8 = .ok (.bipush (-2), 2) := by decide +kernel
theorem dX11_sentence_10 : decode cX11_sentence 10 = .ok (.ireturn, 1) := by decide +kernel
theorem dX11_sentence_11 : decode cX11_sentence 11 = .ok (.aload_n 0, 1) := by decide +kernel
theorem dX11_sentence_12 : decode cX11_sentence 12 = .ok (.invokevirtual 253, 3) := by decide +kernel
theorem dX11_sentence_15 : decode cX11_sentence 15 = .ok (.iload_n 2, 1) := by decide +kernel
theorem dX11_sentence_16 : decode cX11_sentence 16 = .ok (.tableswitch 107 0 7 #[48, 60, 67, 74, 81, 88, 94, 100], 48) := by decide +kernel
theorem dX11_sentence_64 : decode cX11_sentence 64 = .ok (.aload_n 0, 1) := by decide +kernel
theorem dX11_sentence_65 : decode cX11_sentence 65 = .ok (.getfield 47, 3) := by decide +kernel
theorem dX11_sentence_68 : decode cX11_sentence 68 = .ok (.aload_n 0, 1) := by decide +kernel
theorem dX11_sentence_69 : decode cX11_sentence 69 = .ok (.getfield 65, 3) := by decide +kernel
theorem dX11_sentence_72 : decode cX11_sentence 72 = .ok (.iload_n 1, 1) := by decide +kernel
theorem dX11_sentence_73 : decode cX11_sentence 73 = .ok (.iaload, 1) := by decide +kernel
theorem dX11_sentence_74 : decode cX11_sentence 74 = .ok (.iaload, 1) := by decide +kernel
theorem dX11_sentence_75 : decode cX11_sentence 75 = .ok (.ireturn, 1) := by decide +kernel
theorem dX11_sentence_76 : decode cX11_sentence 76 = .ok (.aload_n 0, 1) := by decide +kernel
theorem dX11_sentence_77 : decode cX11_sentence 77 = .ok (.getfield 78, 3) := by decide +kernel
theorem dX11_sentence_80 : decode cX11_sentence 80 = .ok (.iload_n 1, 1) := by decide +kernel
theorem dX11_sentence_81 : decode cX11_sentence 81 = .ok (.iaload, 1) := by decide +kernel
theorem dX11_sentence_82 : decode cX11_sentence 82 = .ok (.ireturn, 1) := by decide +kernel
theorem dX11_sentence_83 : decode cX11_sentence 83 = .ok (.aload_n 0, 1) := by decide +kernel
theorem dX11_sentence_84 : decode cX11_sentence 84 = .ok (.getfield 81, 3) := by decide +kernel
theorem dX11_sentence_87 : decode cX11_sentence 87 = .ok (.iload_n 1, 1) := by decide +kernel
theorem dX11_sentence_88 : decode cX11_sentence 88 = .ok (.iaload, 1) := by decide +kernel
theorem dX11_sentence_89 : decode cX11_sentence 89 = .ok (.ireturn, 1) := by decide +kernel
theorem dX11_sentence_90 : decode cX11_sentence 90 = .ok (.aload_n 0, 1) := by decide +kernel
theorem dX11_sentence_91 : decode cX11_sentence 91 = .ok (.getfield 62, 3) := by decide +kernel
theorem dX11_sentence_94 : decode cX11_sentence 94 = .ok (.iload_n 1, 1) := by decide +kernel
theorem dX11_sentence_95 : decode cX11_sentence 95 = .ok (.iaload, 1) := by decide +kernel
theorem dX11_sentence_96 : decode cX11_sentence 96 = .ok (.ireturn, 1) := by decide +kernel
theorem dX11_sentence_97 : decode cX11_sentence 97 = .ok (.aload_n 0, 1) := by decide +kernel
theorem dX11_sentence_98 : decode cX11_sentence 98 = .ok (.getfield 100, 3) := by decide +kernel
theorem dX11_sentence_101 : decode cX11_sentence 101 = .ok (.iload_n 1, 1) := by decide +kernel
theorem dX11_sentence_102 : decode cX11_sentence 102 = .ok (.iaload, 1) := by decide +kernel
theorem dX11_sentence_103 : decode cX11_sentence 103 = .ok (.ireturn, 1) := by decide +kernel
theorem dX11_sentence_104 : decode cX11_sentence 104 = .ok (.aload_n 0, 1) := by decide +kernel
theorem dX11_sentence_105 : decode cX11_sentence 105 = .ok (.iload_n 1, 1) := by decide +kernel
theorem dX11_sentence_106 : decode cX11_sentence 106 = .ok (.invokevirtual 256, 3) := by decide +kernel
theorem dX11_sentence_109 : decode cX11_sentence 109 = .ok (.ireturn, 1) := by decide +kernel
theorem dX11_sentence_110 : decode cX11_sentence 110 = .ok (.aload_n 0, 1) := by decide +kernel
theorem dX11_sentence_111 : decode cX11_sentence 111 = .ok (.iload_n 1, 1) := by decide +kernel
theorem dX11_sentence_112 : decode cX11_sentence 112 = .ok (.invokevirtual 259, 3) := by decide +kernel
theorem dX11_sentence_115 : decode cX11_sentence 115 = .ok (.ireturn, 1) := by decide +kernel
theorem dX11_sentence_116 : decode cX11_sentence 116 = .ok (.aload_n 0, 1) := by decide +kernel
theorem dX11_sentence_117 : decode cX11_sentence 117 = .ok (.getfield 65, 3) := by decide +kernel
theorem dX11_sentence_120 : decode cX11_sentence 120 = .ok (.iload_n 1, 1) := by decide +kernel
theorem dX11_sentence_121 : decode cX11_sentence 121 = .ok (.iaload, 1) := by decide +kernel
theorem dX11_sentence_122 : decode cX11_sentence 122 = .ok (.ireturn, 1) := by decide +kernel
theorem dX11_sentence_123 : decode cX11_sentence 123 = .ok (.bipush (-2), 2) := by decide +kernel
theorem dX11_sentence_125 : decode cX11_sentence 125 = .ok (.ireturn, 1) := by decide +kernel
theorem dX11_word_0 : decode cX11_word 0 = .ok (.aload_n 0, 1) := by decide +kernel
theorem dX11_word_1 : decode cX11_word 1 = .ok (.iload_n 1, 1) := by decide +kernel
theorem dX11_word_2 : decode cX11_word 2 = .ok (.invokevirtual 250, 3) := by decide +kernel
theorem dX11_word_5 : decode cX11_word 5 = .ok (.ifCond .eq 50, 3) := by decide +kernel
theorem dX11_word_8 : decode cX11_word 8 = .ok (.iload_n 2, 1) := by decide +kernel
theorem dX11_word_9 : decode cX11_word 9 = .ok (.iconst 0, 1) := by decide +kernel
theorem dX11_word_10 : decode cX11_word 10 = .ok (.aload_n 0, 1) := by decide +kernel
theorem dX11_word_11 : decode cX11_word 11 = .ok (.getfield 47, 3) := by decide +kernel
theorem dX11_word_14 : decode cX11_word 14 = .ok (.aload_n 0, 1) := by decide +kernel
theorem dX11_word_15 : decode cX11_word 15 = .ok (.getfield 65, 3) := by decide +kernel
theorem dX11_word_18 : decode cX11_word 18 = .ok (.iload_n 1, 1) := by decide +kernel
theorem dX11_word_19 : decode cX11_word 19 = .ok (.iaload, 1) := by decide +kernel
theorem dX11_word_20 : decode cX11_word 20 = .ok (.iaload, 1) := by decide +kernel
theorem dX11_word_21 : decode cX11_word 21 = .ok (.iconst 1, 1) := by decide +kernel
theorem dX11_word_22 : decode cX11_word 22 = .ok (.isub, 1) := by decide +kernel
theorem dX11_word_23 : decode cX11_word 23 = .ok (.invokestatic 139, 3) := by decide +kernel
theorem dX11_word_26 : decode cX11_word 26 = .ok (.ifCond .eq 29, 3) := by decide +kernel
theorem dX11_word_29 : decode cX11_word 29 = .ok (.iload_n 3, 1) := by decide +kernel
theorem dX11_word_30 : decode cX11_word 30 = .ok (.iconst 0, 1) := by decide +kernel
theorem dX11_word_31 : decode cX11_word 31 = .ok (.aload_n 0, 1) := by decide +kernel
theorem dX11_word_32 : decode cX11_word 32 = .ok (.getfield 44, 3) := by decide +kernel
theorem dX11_word_35 : decode cX11_word 35 = .ok (.bipush 40, 2) := by decide +kernel
theorem dX11_word_37 : decode cX11_word 37 = .ok (.aload_n 0, 1) := by decide +kernel
theorem dX11_word_38 : decode cX11_word 38 = .ok (.getfield 65, 3) := by decide +kernel
theorem dX11_word_41 : decode cX11_word 41 = .ok (.iload_n 1, 1) := by decide +kernel
theorem dX11_word_42 : decode cX11_word 42 = .ok (.iaload, 1) := by decide +kernel
theorem dX11_word_43 : decode cX11_word 43 = .ok (.imul, 1) := by decide +kernel
theorem dX11_word_44 : decode cX11_word 44 = .ok (.iload_n 2, 1) := by decide +kernel
theorem dX11_word_45 : decode cX11_word 45 = .ok (.iadd, 1) := by decide +kernel
theorem dX11_word_46 : decode cX11_word 46 = .ok (.iaload, 1) := by decide +kernel
theorem dX11_word_47 : decode cX11_word 47 = .ok (.iconst 1, 1) := by decide +kernel
theorem dX11_word_48 : decode cX11_word 48 = .ok (.isub, 1) := by decide +kernel
theorem dX11_word_49 : decode cX11_word 49 = .ok (.invokestatic 139, 3) := by decide +kernel
theorem dX11_word_52 : decode cX11_word 52 = .ok (.ifCond .ne 5, 3) := by decide +kernel
theorem dX11_word_55 : decode cX11_word 55 = .ok (.iconst (-1), 1) := by decide +kernel
theorem dX11_word_56 : decode cX11_word 56 = .ok (.ireturn, 1) := by decide +kernel
theorem dX11_word_57 : decode cX11_word 57 = .ok (.aload_n 0, 1) := by decide +kernel
theorem dX11_word_58 : decode cX11_word 58 = .ok (.getfield 41, 3) := by decide +kernel
theorem dX11_word_61 : decode cX11_word 61 = .ok (.bipush 16, 2) := by decide +kernel
theorem dX11_word_63 : decode cX11_word 63 = .ok (.bipush 40, 2) := by decide +kernel
theorem dX11_word_65 : decode cX11_word 65 = .ok (.aload_n 0, 1) := by decide +kernel
theorem dX11_word_66 : decode cX11_word 66 = .ok (.getfield 65, 3) := by decide +kernel
theorem dX11_word_69 : decode cX11_word 69 = .ok (.iload_n 1, 1) := by decide +kernel
theorem dX11_word_70 : decode cX11_word 70 = .ok (.iaload, 1) := by decide +kernel
theorem dX11_word_71 : decode cX11_word 71 = .ok (.imul, 1) := by decide +kernel
theorem dX11_word_72 : decode cX11_word 72 = .ok (.iload_n 2, 1) := by decide +kernel
theorem dX11_word_73 : decode cX11_word 73 = .ok (.iadd, 1) := by decide +kernel
theorem dX11_word_74 : decode cX11_word 74 = .ok (.imul, 1) := by decide +kernel
theorem dX11_word_75 : decode cX11_word 75 = .ok (.iload_n 3, 1) := by decide +kernel
theorem dX11_word_76 : decode cX11_word 76 = .ok (.iadd, 1) := by decide +kernel
theorem dX11_word_77 : decode cX11_word 77 = .ok (.baload, 1) := by decide +kernel
theorem dX11_word_78 : decode cX11_word 78 = .ok (.ireturn, 1) := by decide +kernel
theorem dX11_shared_0 : decode cX11_shared 0 = .ok (.aload_n 0, 1) := by decide +kernel
theorem dX11_shared_1 : decode cX11_shared 1 = .ok (.iload_n 1, 1) := by decide +kernel
theorem dX11_shared_2 : decode cX11_shared 2 = .ok (.invokevirtual 250, 3) := by decide +kernel
theorem dX11_shared_5 : decode cX11_shared 5 = .ok (.ifCond .eq 11, 3) := by decide +kernel
theorem dX11_shared_8 : decode cX11_shared 8 = .ok (.aload_n 0, 1) := by decide +kernel
theorem dX11_shared_9 : decode cX11_shared 9 = .ok (.iload_n 2, 1) := by decide +kernel
theorem dX11_shared_10 : decode cX11_shared 10 = .ok (.invokevirtual 250, 3) := by decide +kernel
theorem dX11_shared_13 : decode cX11_shared 13 = .ok (.ifCond .ne 6, 3) := by decide +kernel
theorem dX11_shared_16 : decode cX11_shared 16 = .ok (.bipush (-2), 2) := by decide +kernel
theorem dX11_shared_18 : decode cX11_shared 18 = .ok (.ireturn, 1) := by decide +kernel
theorem dX11_shared_19 : decode cX11_shared 19 = .ok (.aload_n 0, 1) := by decide +kernel
theorem dX11_shared_20 : decode cX11_shared 20 = .ok (.invokevirtual 253, 3) := by decide +kernel
theorem dX11_shared_23 : decode cX11_shared 23 = .ok (.aload_n 0, 1) := by decide +kernel
theorem dX11_shared_24 : decode cX11_shared 24 = .ok (.iload_n 1, 1) := by decide +kernel
theorem dX11_shared_25 : decode cX11_shared 25 = .ok (.iload_n 2, 1) := by decide +kernel
theorem dX11_shared_26 : decode cX11_shared 26 = .ok (.invokevirtual 215, 3) := by decide +kernel
theorem dX11_shared_29 : decode cX11_shared 29 = .ok (.ireturn, 1) := by decide +kernel
theorem dX11_cost_0 : decode cX11_cost 0 = .ok (.aload_n 0, 1) := by decide +kernel
theorem dX11_cost_1 : decode cX11_cost 1 = .ok (.iload_n 1, 1) := by decide +kernel
theorem dX11_cost_2 : decode cX11_cost 2 = .ok (.invokevirtual 250, 3) := by decide +kernel
theorem dX11_cost_5 : decode cX11_cost 5 = .ok (.ifCond .eq 16, 3) := by decide +kernel
theorem dX11_cost_8 : decode cX11_cost 8 = .ok (.aload_n 0, 1) := by decide +kernel
theorem dX11_cost_9 : decode cX11_cost 9 = .ok (.iload_n 2, 1) := by decide +kernel
theorem dX11_cost_10 : decode cX11_cost 10 = .ok (.invokevirtual 250, 3) := by decide +kernel
theorem dX11_cost_13 : decode cX11_cost 13 = .ok (.ifCond .eq 8, 3) := by decide +kernel
theorem dX11_cost_16 : decode cX11_cost 16 = .ok (.iload_n 1, 1) := by decide +kernel
theorem dX11_cost_17 : decode cX11_cost 17 = .ok (.iload_n 2, 1) := by decide +kernel
theorem dX11_cost_18 : decode cX11_cost 18 = .ok (.if_icmp .ne 6, 3) := by decide +kernel
theorem dX11_cost_21 : decode cX11_cost 21 = .ok (.bipush (-2), 2) := by decide +kernel
theorem dX11_cost_23 : decode cX11_cost 23 = .ok (.ireturn, 1) := by decide +kernel
theorem dX11_cost_24 : decode cX11_cost 24 = .ok (.aload_n 0, 1) := by decide +kernel
theorem dX11_cost_25 : decode cX11_cost 25 = .ok (.invokevirtual 253, 3) := by decide +kernel
theorem dX11_cost_28 : decode cX11_cost 28 = .ok (.aload_n 0, 1) := by decide +kernel
theorem dX11_cost_29 : decode cX11_cost 29 = .ok (.getfield 84, 3) := by decide +kernel
theorem dX11_cost_32 : decode cX11_cost 32 = .ok (.bipush 24, 2) := by decide +kernel
theorem dX11_cost_34 : decode cX11_cost 34 = .ok (.iload_n 1, 1) := by decide +kernel
theorem dX11_cost_35 : decode cX11_cost 35 = .ok (.imul, 1) := by decide +kernel
theorem dX11_cost_36 : decode cX11_cost 36 = .ok (.iload_n 2, 1) := by decide +kernel
theorem dX11_cost_37 : decode cX11_cost 37 = .ok (.iadd, 1) := by decide +kernel
theorem dX11_cost_38 : decode cX11_cost 38 = .ok (.iaload, 1) := by decide +kernel
theorem dX11_cost_39 : decode cX11_cost 39 = .ok (.ireturn, 1) := by decide +kernel
theorem dX11_tree_0 : decode cX11_tree 0 = .ok (.aload_n 0, 1) := by decide +kernel
theorem dX11_tree_1 : decode cX11_tree 1 = .ok (.getfield 196, 3) := by decide +kernel
theorem dX11_tree_4 : decode cX11_tree 4 = .ok (.ifCond .ne 5, 3) := by decide +kernel
theorem dX11_tree_7 : decode cX11_tree 7 = .ok (.iconst (-1), 1) := by decide +kernel
theorem dX11_tree_8 : decode cX11_tree 8 = .ok (.ireturn, 1) := by decide +kernel
theorem dX11_tree_9 : decode cX11_tree 9 = .ok (.aload_n 0, 1) := by decide +kernel
theorem dX11_tree_10 : decode cX11_tree 10 = .ok (.invokevirtual 253, 3) := by decide +kernel
theorem dX11_tree_13 : decode cX11_tree 13 = .ok (.aload_n 0, 1) := by decide +kernel
theorem dX11_tree_14 : decode cX11_tree 14 = .ok (.getfield 236, 3) := by decide +kernel
theorem dX11_tree_17 : decode cX11_tree 17 = .ok (.ireturn, 1) := by decide +kernel
theorem dX11_next_0 : decode cX11_next 0 = .ok (.aload_n 0, 1) := by decide +kernel
theorem dX11_next_1 : decode cX11_next 1 = .ok (.getfield 196, 3) := by decide +kernel
theorem dX11_next_4 : decode cX11_next 4 = .ok (.ifCond .ne 5, 3) := by decide +kernel
theorem dX11_next_7 : decode cX11_next 7 = .ok (.iconst (-1), 1) := by decide +kernel
theorem dX11_next_8 : decode cX11_next 8 = .ok (.ireturn, 1) := by decide +kernel
theorem dX11_next_9 : decode cX11_next 9 = .ok (.aload_n 0, 1) := by decide +kernel
theorem dX11_next_10 : decode cX11_next 10 = .ok (.invokevirtual 253, 3) := by decide +kernel
theorem dX11_next_13 : decode cX11_next 13 = .ok (.aload_n 0, 1) := by decide +kernel
theorem dX11_next_14 : decode cX11_next 14 = .ok (.getfield 243, 3) := by decide +kernel
theorem dX11_next_17 : decode cX11_next 17 = .ok (.ldc 218, 2) := by decide +kernel
theorem dX11_next_19 : decode cX11_next 19 = .ok (.if_icmp .lt 7, 3) := by decide +kernel
theorem dX11_next_22 : decode cX11_next 22 = .ok (.iconst (-1), 1) := by decide +kernel
theorem dX11_next_23 : decode cX11_next 23 = .ok (.goto 7, 3) := by decide +kernel
theorem dX11_next_26 : decode cX11_next 26 = .ok (.aload_n 0, 1) := by decide +kernel
theorem dX11_next_27 : decode cX11_next 27 = .ok (.getfield 243, 3) := by decide +kernel
theorem dX11_next_30 : decode cX11_next 30 = .ok (.ireturn, 1) := by decide +kernel
theorem dX11_findingOf_0 : decode cX11_findingOf 0 = .ok (.aload_n 0, 1) := by decide +kernel
theorem dX11_findingOf_1 : decode cX11_findingOf 1 = .ok (.getfield 81, 3) := by decide +kernel
theorem dX11_findingOf_4 : decode cX11_findingOf 4 = .ok (.iload_n 1, 1) := by decide +kernel
theorem dX11_findingOf_5 : decode cX11_findingOf 5 = .ok (.iaload, 1) := by decide +kernel
theorem dX11_findingOf_6 : decode cX11_findingOf 6 = .ok (.ifCond .eq 13, 3) := by decide +kernel
theorem dX11_findingOf_9 : decode cX11_findingOf 9 = .ok (.aload_n 0, 1) := by decide +kernel
theorem dX11_findingOf_10 : decode cX11_findingOf 10 = .ok (.getfield 81, 3) := by decide +kernel
theorem dX11_findingOf_13 : decode cX11_findingOf 13 = .ok (.iload_n 1, 1) := by decide +kernel
theorem dX11_findingOf_14 : decode cX11_findingOf 14 = .ok (.iaload, 1) := by decide +kernel
theorem dX11_findingOf_15 : decode cX11_findingOf 15 = .ok (.iconst 4, 1) := by decide +kernel
theorem dX11_findingOf_16 : decode cX11_findingOf 16 = .ok (.if_icmp .ne 7, 3) := by decide +kernel
theorem dX11_findingOf_19 : decode cX11_findingOf 19 = .ok (.iconst 1, 1) := by decide +kernel
theorem dX11_findingOf_20 : decode cX11_findingOf 20 = .ok (.goto 4, 3) := by decide +kernel
theorem dX11_findingOf_23 : decode cX11_findingOf 23 = .ok (.iconst 0, 1) := by decide +kernel
theorem dX11_findingOf_24 : decode cX11_findingOf 24 = .ok (.istore_n 2, 1) := by decide +kernel
theorem dX11_findingOf_25 : decode cX11_findingOf 25 = .ok (.iconst 0, 1) := by decide +kernel
theorem dX11_findingOf_26 : decode cX11_findingOf 26 = .ok (.istore_n 3, 1) := by decide +kernel
theorem dX11_findingOf_27 : decode cX11_findingOf 27 = .ok (.iconst 0, 1) := by decide +kernel
theorem dX11_findingOf_28 : decode cX11_findingOf 28 = .ok (.istore 4, 2) := by decide +kernel
theorem dX11_findingOf_30 : decode cX11_findingOf 30 = .ok (.iload 4, 2) := by decide +kernel
theorem dX11_findingOf_32 : decode cX11_findingOf 32 = .ok (.aload_n 0, 1) := by decide +kernel
theorem dX11_findingOf_33 : decode cX11_findingOf 33 = .ok (.getfield 196, 3) := by decide +kernel
theorem dX11_findingOf_36 : decode cX11_findingOf 36 = .ok (.if_icmp .ge 125, 3) := by decide +kernel
theorem dX11_findingOf_39 : decode cX11_findingOf 39 = .ok (.aload_n 0, 1) := by decide +kernel
theorem dX11_findingOf_40 : decode cX11_findingOf 40 = .ok (.getfield 100, 3) := by decide +kernel
theorem dX11_findingOf_43 : decode cX11_findingOf 43 = .ok (.iload 4, 2) := by decide +kernel
theorem dX11_findingOf_45 : decode cX11_findingOf 45 = .ok (.iaload, 1) := by decide +kernel
theorem dX11_findingOf_46 : decode cX11_findingOf 46 = .ok (.iload_n 1, 1) := by decide +kernel
theorem dX11_findingOf_47 : decode cX11_findingOf 47 = .ok (.if_icmp .ne 27, 3) := by decide +kernel
theorem dX11_findingOf_50 : decode cX11_findingOf 50 = .ok (.aload_n 0, 1) := by decide +kernel
theorem dX11_findingOf_51 : decode cX11_findingOf 51 = .ok (.getfield 81, 3) := by decide +kernel
theorem dX11_findingOf_54 : decode cX11_findingOf 54 = .ok (.iload 4, 2) := by decide +kernel
theorem dX11_findingOf_56 : decode cX11_findingOf 56 = .ok (.iaload, 1) := by decide +kernel
theorem dX11_findingOf_57 : decode cX11_findingOf 57 = .ok (.iconst 1, 1) := by decide +kernel
theorem dX11_findingOf_58 : decode cX11_findingOf 58 = .ok (.if_icmp .eq 14, 3) := by decide +kernel
theorem dX11_findingOf_61 : decode cX11_findingOf 61 = .ok (.aload_n 0, 1) := by decide +kernel
theorem dX11_findingOf_62 : decode cX11_findingOf 62 = .ok (.getfield 81, 3) := by decide +kernel
theorem dX11_findingOf_65 : decode cX11_findingOf 65 = .ok (.iload 4, 2) := by decide +kernel
theorem dX11_findingOf_67 : decode cX11_findingOf 67 = .ok (.iaload, 1) := by decide +kernel
theorem dX11_findingOf_68 : decode cX11_findingOf 68 = .ok (.iconst 3, 1) := by decide +kernel
theorem dX11_findingOf_69 : decode cX11_findingOf 69 = .ok (.if_icmp .ne 5, 3) := by decide +kernel
theorem dX11_findingOf_72 : decode cX11_findingOf 72 = .ok (.iconst 0, 1) := by decide +kernel
theorem dX11_findingOf_73 : decode cX11_findingOf 73 = .ok (.istore_n 2, 1) := by decide +kernel
theorem dX11_findingOf_74 : decode cX11_findingOf 74 = .ok (.iload 4, 2) := by decide +kernel
theorem dX11_findingOf_76 : decode cX11_findingOf 76 = .ok (.iload_n 1, 1) := by decide +kernel
theorem dX11_findingOf_77 : decode cX11_findingOf 77 = .ok (.if_icmp .ge 33, 3) := by decide +kernel
theorem dX11_findingOf_80 : decode cX11_findingOf 80 = .ok (.aload_n 0, 1) := by decide +kernel
theorem dX11_findingOf_81 : decode cX11_findingOf 81 = .ok (.getfield 100, 3) := by decide +kernel
theorem dX11_findingOf_84 : decode cX11_findingOf 84 = .ok (.iload_n 1, 1) := by decide +kernel
theorem dX11_findingOf_85 : decode cX11_findingOf 85 = .ok (.iaload, 1) := by decide +kernel
theorem dX11_findingOf_86 : decode cX11_findingOf 86 = .ok (.iconst (-1), 1) := by decide +kernel
theorem dX11_findingOf_87 : decode cX11_findingOf 87 = .ok (.if_icmp .eq 23, 3) := by decide +kernel
theorem dX11_findingOf_90 : decode cX11_findingOf 90 = .ok (.aload_n 0, 1) := by decide +kernel
theorem dX11_findingOf_91 : decode cX11_findingOf 91 = .ok (.getfield 100, 3) := by decide +kernel
theorem dX11_findingOf_94 : decode cX11_findingOf 94 = .ok (.iload 4, 2) := by decide +kernel
theorem dX11_findingOf_96 : decode cX11_findingOf 96 = .ok (.iaload, 1) := by decide +kernel
theorem dX11_findingOf_97 : decode cX11_findingOf 97 = .ok (.aload_n 0, 1) := by decide +kernel
theorem dX11_findingOf_98 : decode cX11_findingOf 98 = .ok (.getfield 100, 3) := by decide +kernel
theorem dX11_findingOf_101 : decode cX11_findingOf 101 = .ok (.iload_n 1, 1) := by decide +kernel
theorem dX11_findingOf_102 : decode cX11_findingOf 102 = .ok (.iaload, 1) := by decide +kernel
theorem dX11_findingOf_103 : decode cX11_findingOf 103 = .ok (.if_icmp .ne 7, 3) := by decide +kernel
theorem dX11_findingOf_106 : decode cX11_findingOf 106 = .ok (.iconst 1, 1) := by decide +kernel
theorem dX11_findingOf_107 : decode cX11_findingOf 107 = .ok (.goto 4, 3) := by decide +kernel
theorem dX11_findingOf_110 : decode cX11_findingOf 110 = .ok (.iconst 0, 1) := by decide +kernel
theorem dX11_findingOf_111 : decode cX11_findingOf 111 = .ok (.istore 5, 2) := by decide +kernel
theorem dX11_findingOf_113 : decode cX11_findingOf 113 = .ok (.iload_n 3, 1) := by decide +kernel
theorem dX11_findingOf_114 : decode cX11_findingOf 114 = .ok (.ifCond .ne 35, 3) := by decide +kernel
theorem dX11_findingOf_117 : decode cX11_findingOf 117 = .ok (.iload 5, 2) := by decide +kernel
theorem dX11_findingOf_119 : decode cX11_findingOf 119 = .ok (.ifCond .eq 34, 3) := by decide +kernel
theorem dX11_findingOf_122 : decode cX11_findingOf 122 = .ok (.aload_n 0, 1) := by decide +kernel
theorem dX11_findingOf_123 : decode cX11_findingOf 123 = .ok (.getfield 78, 3) := by decide +kernel
theorem dX11_findingOf_126 : decode cX11_findingOf 126 = .ok (.iload_n 1, 1) := by decide +kernel
theorem dX11_findingOf_127 : decode cX11_findingOf 127 = .ok (.iaload, 1) := by decide +kernel
theorem dX11_findingOf_128 : decode cX11_findingOf 128 = .ok (.ifCond .le 25, 3) := by decide +kernel
theorem dX11_findingOf_131 : decode cX11_findingOf 131 = .ok (.iconst 2, 1) := by decide +kernel
theorem dX11_findingOf_132 : decode cX11_findingOf 132 = .ok (.aload_n 0, 1) := by decide +kernel
theorem dX11_findingOf_133 : decode cX11_findingOf 133 = .ok (.iload_n 1, 1) := by decide +kernel
theorem dX11_findingOf_134 : decode cX11_findingOf 134 = .ok (.iload 4, 2) := by decide +kernel
theorem dX11_findingOf_136 : decode cX11_findingOf 136 = .ok (.invokevirtual 215, 3) := by decide +kernel
theorem dX11_findingOf_139 : decode cX11_findingOf 139 = .ok (.imul, 1) := by decide +kernel
theorem dX11_findingOf_140 : decode cX11_findingOf 140 = .ok (.aload_n 0, 1) := by decide +kernel
theorem dX11_findingOf_141 : decode cX11_findingOf 141 = .ok (.getfield 78, 3) := by decide +kernel
theorem dX11_findingOf_144 : decode cX11_findingOf 144 = .ok (.iload_n 1, 1) := by decide +kernel
theorem dX11_findingOf_145 : decode cX11_findingOf 145 = .ok (.iaload, 1) := by decide +kernel
theorem dX11_findingOf_146 : decode cX11_findingOf 146 = .ok (.if_icmp .lt 7, 3) := by decide +kernel
theorem dX11_findingOf_149 : decode cX11_findingOf 149 = .ok (.iconst 1, 1) := by decide +kernel
theorem dX11_findingOf_150 : decode cX11_findingOf 150 = .ok (.goto 4, 3) := by decide +kernel
theorem dX11_findingOf_153 : decode cX11_findingOf 153 = .ok (.iconst 0, 1) := by decide +kernel
theorem dX11_findingOf_154 : decode cX11_findingOf 154 = .ok (.istore_n 3, 1) := by decide +kernel
theorem dX11_findingOf_155 : decode cX11_findingOf 155 = .ok (.iinc 4 1, 3) := by decide +kernel
theorem dX11_findingOf_158 : decode cX11_findingOf 158 = .ok (.goto (-128), 3) := by decide +kernel
theorem dX11_findingOf_161 : decode cX11_findingOf 161 = .ok (.aload_n 0, 1) := by decide +kernel
theorem dX11_findingOf_162 : decode cX11_findingOf 162 = .ok (.getfield 78, 3) := by decide +kernel
theorem dX11_findingOf_165 : decode cX11_findingOf 165 = .ok (.iload_n 1, 1) := by decide +kernel
theorem dX11_findingOf_166 : decode cX11_findingOf 166 = .ok (.iaload, 1) := by decide +kernel
theorem dX11_findingOf_167 : decode cX11_findingOf 167 = .ok (.ifCond .le 7, 3) := by decide +kernel
theorem dX11_findingOf_170 : decode cX11_findingOf 170 = .ok (.iconst 1, 1) := by decide +kernel
theorem dX11_findingOf_171 : decode cX11_findingOf 171 = .ok (.goto 4, 3) := by decide +kernel
theorem dX11_findingOf_174 : decode cX11_findingOf 174 = .ok (.iconst 0, 1) := by decide +kernel
theorem dX11_findingOf_175 : decode cX11_findingOf 175 = .ok (.istore 4, 2) := by decide +kernel
theorem dX11_findingOf_177 : decode cX11_findingOf 177 = .ok (.bipush 40, 2) := by decide +kernel
theorem dX11_findingOf_179 : decode cX11_findingOf 179 = .ok (.iload_n 1, 1) := by decide +kernel
theorem dX11_findingOf_180 : decode cX11_findingOf 180 = .ok (.imul, 1) := by decide +kernel
theorem dX11_findingOf_181 : decode cX11_findingOf 181 = .ok (.istore 5, 2) := by decide +kernel
theorem dX11_findingOf_183 : decode cX11_findingOf 183 = .ok (.iload 5, 2) := by decide +kernel
theorem dX11_findingOf_185 : decode cX11_findingOf 185 = .ok (.bipush 40, 2) := by decide +kernel
theorem dX11_findingOf_187 : decode cX11_findingOf 187 = .ok (.iload_n 1, 1) := by decide +kernel
theorem dX11_findingOf_188 : decode cX11_findingOf 188 = .ok (.imul, 1) := by decide +kernel
theorem dX11_findingOf_189 : decode cX11_findingOf 189 = .ok (.aload_n 0, 1) := by decide +kernel
theorem dX11_findingOf_190 : decode cX11_findingOf 190 = .ok (.getfield 78, 3) := by decide +kernel
theorem dX11_findingOf_193 : decode cX11_findingOf 193 = .ok (.iload_n 1, 1) := by decide +kernel
theorem dX11_findingOf_194 : decode cX11_findingOf 194 = .ok (.iaload, 1) := by decide +kernel
theorem dX11_findingOf_195 : decode cX11_findingOf 195 = .ok (.iadd, 1) := by decide +kernel
theorem dX11_findingOf_196 : decode cX11_findingOf 196 = .ok (.if_icmp .ge 79, 3) := by decide +kernel
theorem dX11_findingOf_199 : decode cX11_findingOf 199 = .ok (.iconst 0, 1) := by decide +kernel
theorem dX11_findingOf_200 : decode cX11_findingOf 200 = .ok (.istore 6, 2) := by decide +kernel
theorem dX11_findingOf_202 : decode cX11_findingOf 202 = .ok (.iconst 0, 1) := by decide +kernel
theorem dX11_findingOf_203 : decode cX11_findingOf 203 = .ok (.istore 7, 2) := by decide +kernel
theorem dX11_findingOf_205 : decode cX11_findingOf 205 = .ok (.iload 7, 2) := by decide +kernel
theorem dX11_findingOf_207 : decode cX11_findingOf 207 = .ok (.iload_n 1, 1) := by decide +kernel
theorem dX11_findingOf_208 : decode cX11_findingOf 208 = .ok (.if_icmp .ge 44, 3) := by decide +kernel
theorem dX11_findingOf_211 : decode cX11_findingOf 211 = .ok (.iload 6, 2) := by decide +kernel
theorem dX11_findingOf_213 : decode cX11_findingOf 213 = .ok (.ifCond .ne 26, 3) := by decide +kernel
theorem dX11_findingOf_216 : decode cX11_findingOf 216 = .ok (.aload_n 0, 1) := by decide +kernel
theorem dX11_findingOf_217 : decode cX11_findingOf 217 = .ok (.iload 7, 2) := by decide +kernel
theorem dX11_findingOf_219 : decode cX11_findingOf 219 = .ok (.aload_n 0, 1) := by decide +kernel
theorem dX11_findingOf_220 : decode cX11_findingOf 220 = .ok (.getfield 72, 3) := by decide +kernel
theorem dX11_findingOf_223 : decode cX11_findingOf 223 = .ok (.iload 5, 2) := by decide +kernel
theorem dX11_findingOf_225 : decode cX11_findingOf 225 = .ok (.iaload, 1) := by decide +kernel
theorem dX11_findingOf_226 : decode cX11_findingOf 226 = .ok (.aload_n 0, 1) := by decide +kernel
theorem dX11_findingOf_227 : decode cX11_findingOf 227 = .ok (.getfield 75, 3) := by decide +kernel
theorem dX11_findingOf_230 : decode cX11_findingOf 230 = .ok (.iload 5, 2) := by decide +kernel
theorem dX11_findingOf_232 : decode cX11_findingOf 232 = .ok (.iaload, 1) := by decide +kernel
theorem dX11_findingOf_233 : decode cX11_findingOf 233 = .ok (.invokevirtual 212, 3) := by decide +kernel
theorem dX11_findingOf_236 : decode cX11_findingOf 236 = .ok (.ifCond .eq 7, 3) := by decide +kernel
theorem dX11_findingOf_239 : decode cX11_findingOf 239 = .ok (.iconst 1, 1) := by decide +kernel
theorem dX11_findingOf_240 : decode cX11_findingOf 240 = .ok (.goto 4, 3) := by decide +kernel
theorem dX11_findingOf_243 : decode cX11_findingOf 243 = .ok (.iconst 0, 1) := by decide +kernel
theorem dX11_findingOf_244 : decode cX11_findingOf 244 = .ok (.istore 6, 2) := by decide +kernel
theorem dX11_findingOf_246 : decode cX11_findingOf 246 = .ok (.iinc 7 1, 3) := by decide +kernel
theorem dX11_findingOf_249 : decode cX11_findingOf 249 = .ok (.goto (-44), 3) := by decide +kernel
theorem dX11_findingOf_252 : decode cX11_findingOf 252 = .ok (.iload 4, 2) := by decide +kernel
theorem dX11_findingOf_254 : decode cX11_findingOf 254 = .ok (.ifCond .eq 12, 3) := by decide +kernel
theorem dX11_findingOf_257 : decode cX11_findingOf 257 = .ok (.iload 6, 2) := by decide +kernel
theorem dX11_findingOf_259 : decode cX11_findingOf 259 = .ok (.ifCond .eq 7, 3) := by decide +kernel
theorem dX11_findingOf_262 : decode cX11_findingOf 262 = .ok (.iconst 1, 1) := by decide +kernel
theorem dX11_findingOf_263 : decode cX11_findingOf 263 = .ok (.goto 4, 3) := by decide +kernel
theorem dX11_findingOf_266 : decode cX11_findingOf 266 = .ok (.iconst 0, 1) := by decide +kernel
theorem dX11_findingOf_267 : decode cX11_findingOf 267 = .ok (.istore 4, 2) := by decide +kernel
theorem dX11_findingOf_269 : decode cX11_findingOf 269 = .ok (.iinc 5 1, 3) := by decide +kernel
theorem dX11_findingOf_272 : decode cX11_findingOf 272 = .ok (.goto (-89), 3) := by decide +kernel
theorem dX11_findingOf_275 : decode cX11_findingOf 275 = .ok (.aload_n 0, 1) := by decide +kernel
theorem dX11_findingOf_276 : decode cX11_findingOf 276 = .ok (.getfield 81, 3) := by decide +kernel
theorem dX11_findingOf_279 : decode cX11_findingOf 279 = .ok (.iload_n 1, 1) := by decide +kernel
theorem dX11_findingOf_280 : decode cX11_findingOf 280 = .ok (.iaload, 1) := by decide +kernel
theorem dX11_findingOf_281 : decode cX11_findingOf 281 = .ok (.iconst 2, 1) := by decide +kernel
theorem dX11_findingOf_282 : decode cX11_findingOf 282 = .ok (.if_icmp .ne 15, 3) := by decide +kernel
theorem dX11_findingOf_285 : decode cX11_findingOf 285 = .ok (.aload_n 0, 1) := by decide +kernel
theorem dX11_findingOf_286 : decode cX11_findingOf 286 = .ok (.iload_n 1, 1) := by decide +kernel
theorem dX11_findingOf_287 : decode cX11_findingOf 287 = .ok (.invokevirtual 256, 3) := by decide +kernel
theorem dX11_findingOf_290 : decode cX11_findingOf 290 = .ok (.ifCond .ne 7, 3) := by decide +kernel
theorem dX11_findingOf_293 : decode cX11_findingOf 293 = .ok (.iconst 1, 1) := by decide +kernel
theorem dX11_findingOf_294 : decode cX11_findingOf 294 = .ok (.goto 4, 3) := by decide +kernel
theorem dX11_findingOf_297 : decode cX11_findingOf 297 = .ok (.iconst 0, 1) := by decide +kernel
theorem dX11_findingOf_298 : decode cX11_findingOf 298 = .ok (.istore 5, 2) := by decide +kernel
theorem dX11_findingOf_300 : decode cX11_findingOf 300 = .ok (.iload_n 1, 1) := by decide +kernel
theorem dX11_findingOf_301 : decode cX11_findingOf 301 = .ok (.ifCond .ne 21, 3) := by decide +kernel
theorem dX11_findingOf_304 : decode cX11_findingOf 304 = .ok (.aload_n 0, 1) := by decide +kernel
theorem dX11_findingOf_305 : decode cX11_findingOf 305 = .ok (.getfield 81, 3) := by decide +kernel
theorem dX11_findingOf_308 : decode cX11_findingOf 308 = .ok (.iload_n 1, 1) := by decide +kernel
theorem dX11_findingOf_309 : decode cX11_findingOf 309 = .ok (.iaload, 1) := by decide +kernel
theorem dX11_findingOf_310 : decode cX11_findingOf 310 = .ok (.iconst 1, 1) := by decide +kernel
theorem dX11_findingOf_311 : decode cX11_findingOf 311 = .ok (.iconst 3, 1) := by decide +kernel
theorem dX11_findingOf_312 : decode cX11_findingOf 312 = .ok (.invokestatic 139, 3) := by decide +kernel
theorem dX11_findingOf_315 : decode cX11_findingOf 315 = .ok (.ifCond .eq 7, 3) := by decide +kernel
theorem dX11_findingOf_318 : decode cX11_findingOf 318 = .ok (.iconst 1, 1) := by decide +kernel
theorem dX11_findingOf_319 : decode cX11_findingOf 319 = .ok (.goto 4, 3) := by decide +kernel
theorem dX11_findingOf_322 : decode cX11_findingOf 322 = .ok (.iconst 0, 1) := by decide +kernel
theorem dX11_findingOf_323 : decode cX11_findingOf 323 = .ok (.istore 6, 2) := by decide +kernel
theorem dX11_findingOf_325 : decode cX11_findingOf 325 = .ok (.iload_n 2, 1) := by decide +kernel
theorem dX11_findingOf_326 : decode cX11_findingOf 326 = .ok (.ifCond .eq 7, 3) := by decide +kernel
theorem dX11_findingOf_329 : decode cX11_findingOf 329 = .ok (.iconst 1, 1) := by decide +kernel
theorem dX11_findingOf_330 : decode cX11_findingOf 330 = .ok (.goto 4, 3) := by decide +kernel
theorem dX11_findingOf_333 : decode cX11_findingOf 333 = .ok (.iconst 0, 1) := by decide +kernel
theorem dX11_findingOf_334 : decode cX11_findingOf 334 = .ok (.iload 5, 2) := by decide +kernel
theorem dX11_findingOf_336 : decode cX11_findingOf 336 = .ok (.ifCond .eq 7, 3) := by decide +kernel
theorem dX11_findingOf_339 : decode cX11_findingOf 339 = .ok (.iconst 2, 1) := by decide +kernel
theorem dX11_findingOf_340 : decode cX11_findingOf 340 = .ok (.goto 4, 3) := by decide +kernel
theorem dX11_findingOf_343 : decode cX11_findingOf 343 = .ok (.iconst 0, 1) := by decide +kernel
theorem dX11_findingOf_344 : decode cX11_findingOf 344 = .ok (.iadd, 1) := by decide +kernel
theorem dX11_findingOf_345 : decode cX11_findingOf 345 = .ok (.iload_n 3, 1) := by decide +kernel
theorem dX11_findingOf_346 : decode cX11_findingOf 346 = .ok (.ifCond .eq 7, 3) := by decide +kernel
theorem dX11_findingOf_349 : decode cX11_findingOf 349 = .ok (.iconst 4, 1) := by decide +kernel
theorem dX11_findingOf_350 : decode cX11_findingOf 350 = .ok (.goto 4, 3) := by decide +kernel
theorem dX11_findingOf_353 : decode cX11_findingOf 353 = .ok (.iconst 0, 1) := by decide +kernel
theorem dX11_findingOf_354 : decode cX11_findingOf 354 = .ok (.iadd, 1) := by decide +kernel
theorem dX11_findingOf_355 : decode cX11_findingOf 355 = .ok (.iload 4, 2) := by decide +kernel
theorem dX11_findingOf_357 : decode cX11_findingOf 357 = .ok (.ifCond .eq 8, 3) := by decide +kernel
theorem dX11_findingOf_360 : decode cX11_findingOf 360 = .ok (.bipush 8, 2) := by decide +kernel
theorem dX11_findingOf_362 : decode cX11_findingOf 362 = .ok (.goto 4, 3) := by decide +kernel
theorem dX11_findingOf_365 : decode cX11_findingOf 365 = .ok (.iconst 0, 1) := by decide +kernel
theorem dX11_findingOf_366 : decode cX11_findingOf 366 = .ok (.iadd, 1) := by decide +kernel
theorem dX11_findingOf_367 : decode cX11_findingOf 367 = .ok (.iload 6, 2) := by decide +kernel
theorem dX11_findingOf_369 : decode cX11_findingOf 369 = .ok (.ifCond .eq 8, 3) := by decide +kernel
theorem dX11_findingOf_372 : decode cX11_findingOf 372 = .ok (.bipush 16, 2) := by decide +kernel
theorem dX11_findingOf_374 : decode cX11_findingOf 374 = .ok (.goto 4, 3) := by decide +kernel
theorem dX11_findingOf_377 : decode cX11_findingOf 377 = .ok (.iconst 0, 1) := by decide +kernel
theorem dX11_findingOf_378 : decode cX11_findingOf 378 = .ok (.iadd, 1) := by decide +kernel
theorem dX11_findingOf_379 : decode cX11_findingOf 379 = .ok (.ireturn, 1) := by decide +kernel
theorem dX11_finding_0 : decode cX11_finding 0 = .ok (.aload_n 0, 1) := by decide +kernel
theorem dX11_finding_1 : decode cX11_finding 1 = .ok (.iload_n 1, 1) := by decide +kernel
theorem dX11_finding_2 : decode cX11_finding 2 = .ok (.invokevirtual 250, 3) := by decide +kernel
theorem dX11_finding_5 : decode cX11_finding 5 = .ok (.ifCond .ne 6, 3) := by decide +kernel
theorem dX11_finding_8 : decode cX11_finding 8 = .ok (.bipush (-2), 2) := by decide +kernel
theorem dX11_finding_10 : decode cX11_finding 10 = .ok (.ireturn, 1) := by decide +kernel
theorem dX11_finding_11 : decode cX11_finding 11 = .ok (.aload_n 0, 1) := by decide +kernel
theorem dX11_finding_12 : decode cX11_finding 12 = .ok (.invokevirtual 253, 3) := by decide +kernel
theorem dX11_finding_15 : decode cX11_finding 15 = .ok (.aload_n 0, 1) := by decide +kernel
theorem dX11_finding_16 : decode cX11_finding 16 = .ok (.iload_n 1, 1) := by decide +kernel
theorem dX11_finding_17 : decode cX11_finding 17 = .ok (.invokevirtual 262, 3) := by decide +kernel
theorem dX11_finding_20 : decode cX11_finding 20 = .ok (.ireturn, 1) := by decide +kernel
theorem dX11_isPoint_0 : decode cX11_isPoint 0 = .ok (.iload_n 0, 1) := by decide +kernel
theorem dX11_isPoint_1 : decode cX11_isPoint 1 = .ok (.bipush (-100), 2) := by decide +kernel
theorem dX11_isPoint_3 : decode cX11_isPoint 3 = .ok (.bipush 100, 2) := by decide +kernel
theorem dX11_isPoint_5 : decode cX11_isPoint 5 = .ok (.invokestatic 139, 3) := by decide +kernel
theorem dX11_isPoint_8 : decode cX11_isPoint 8 = .ok (.ireturn, 1) := by decide +kernel
theorem dX11_marks_0 : decode cX11_marks 0 = .ok (.iload_n 1, 1) := by decide +kernel
theorem dX11_marks_1 : decode cX11_marks 1 = .ok (.invokestatic 265, 3) := by decide +kernel
theorem dX11_marks_4 : decode cX11_marks 4 = .ok (.ifCond .eq 33, 3) := by decide +kernel
theorem dX11_marks_7 : decode cX11_marks 7 = .ok (.iload_n 2, 1) := by decide +kernel
theorem dX11_marks_8 : decode cX11_marks 8 = .ok (.invokestatic 265, 3) := by decide +kernel
theorem dX11_marks_11 : decode cX11_marks 11 = .ok (.ifCond .eq 26, 3) := by decide +kernel
theorem dX11_marks_14 : decode cX11_marks 14 = .ok (.iload_n 3, 1) := by decide +kernel
theorem dX11_marks_15 : decode cX11_marks 15 = .ok (.invokestatic 265, 3) := by decide +kernel
theorem dX11_marks_18 : decode cX11_marks 18 = .ok (.ifCond .eq 19, 3) := by decide +kernel
theorem dX11_marks_21 : decode cX11_marks 21 = .ok (.iload 4, 2) := by decide +kernel
theorem dX11_marks_23 : decode cX11_marks 23 = .ok (.invokestatic 265, 3) := by decide +kernel
theorem dX11_marks_26 : decode cX11_marks 26 = .ok (.ifCond .eq 11, 3) := by decide +kernel
theorem dX11_marks_29 : decode cX11_marks 29 = .ok (.iload 5, 2) := by decide +kernel
theorem dX11_marks_31 : decode cX11_marks 31 = .ok (.invokestatic 265, 3) := by decide +kernel
theorem dX11_marks_34 : decode cX11_marks 34 = .ok (.ifCond .ne 6, 3) := by decide +kernel
theorem dX11_marks_37 : decode cX11_marks 37 = .ok (.bipush (-2), 2) := by decide +kernel
theorem dX11_marks_39 : decode cX11_marks 39 = .ok (.ireturn, 1) := by decide +kernel
theorem dX11_marks_40 : decode cX11_marks 40 = .ok (.aload_n 0, 1) := by decide +kernel
theorem dX11_marks_41 : decode cX11_marks 41 = .ok (.getfield 196, 3) := by decide +kernel
theorem dX11_marks_44 : decode cX11_marks 44 = .ok (.ifCond .ne 5, 3) := by decide +kernel
theorem dX11_marks_47 : decode cX11_marks 47 = .ok (.iconst 0, 1) := by decide +kernel
theorem dX11_marks_48 : decode cX11_marks 48 = .ok (.ireturn, 1) := by decide +kernel
theorem dX11_marks_49 : decode cX11_marks 49 = .ok (.aload_n 0, 1) := by decide +kernel
theorem dX11_marks_50 : decode cX11_marks 50 = .ok (.invokevirtual 253, 3) := by decide +kernel
theorem dX11_marks_53 : decode cX11_marks 53 = .ok (.iconst 0, 1) := by decide +kernel
theorem dX11_marks_54 : decode cX11_marks 54 = .ok (.istore 6, 2) := by decide +kernel
theorem dX11_marks_56 : decode cX11_marks 56 = .ok (.iconst 0, 1) := by decide +kernel
theorem dX11_marks_57 : decode cX11_marks 57 = .ok (.istore 7, 2) := by decide +kernel
theorem dX11_marks_59 : decode cX11_marks 59 = .ok (.iload 7, 2) := by decide +kernel
theorem dX11_marks_61 : decode cX11_marks 61 = .ok (.aload_n 0, 1) := by decide +kernel
theorem dX11_marks_62 : decode cX11_marks 62 = .ok (.getfield 196, 3) := by decide +kernel
theorem dX11_marks_65 : decode cX11_marks 65 = .ok (.if_icmp .ge 66, 3) := by decide +kernel
theorem dX11_marks_68 : decode cX11_marks 68 = .ok (.aload_n 0, 1) := by decide +kernel
theorem dX11_marks_69 : decode cX11_marks 69 = .ok (.iload 7, 2) := by decide +kernel
theorem dX11_marks_71 : decode cX11_marks 71 = .ok (.invokevirtual 262, 3) := by decide +kernel
theorem dX11_marks_74 : decode cX11_marks 74 = .ok (.istore 8, 2) := by decide +kernel
theorem dX11_marks_76 : decode cX11_marks 76 = .ok (.iload 6, 2) := by decide +kernel
theorem dX11_marks_78 : decode cX11_marks 78 = .ok (.iload 8, 2) := by decide +kernel
theorem dX11_marks_80 : decode cX11_marks 80 = .ok (.iconst 1, 1) := by decide +kernel
theorem dX11_marks_81 : decode cX11_marks 81 = .ok (.iand, 1) := by decide +kernel
theorem dX11_marks_82 : decode cX11_marks 82 = .ok (.iload_n 1, 1) := by decide +kernel
theorem dX11_marks_83 : decode cX11_marks 83 = .ok (.imul, 1) := by decide +kernel
theorem dX11_marks_84 : decode cX11_marks 84 = .ok (.iload 8, 2) := by decide +kernel
theorem dX11_marks_86 : decode cX11_marks 86 = .ok (.iconst 1, 1) := by decide +kernel
theorem dX11_marks_87 : decode cX11_marks 87 = .ok (.ishr, 1) := by decide +kernel
theorem dX11_marks_88 : decode cX11_marks 88 = .ok (.iconst 1, 1) := by decide +kernel
theorem dX11_marks_89 : decode cX11_marks 89 = .ok (.iand, 1) := by decide +kernel
theorem dX11_marks_90 : decode cX11_marks 90 = .ok (.iload_n 2, 1) := by decide +kernel
theorem dX11_marks_91 : decode cX11_marks 91 = .ok (.imul, 1) := by decide +kernel
theorem dX11_marks_92 : decode cX11_marks 92 = .ok (.iadd, 1) := by decide +kernel
theorem dX11_marks_93 : decode cX11_marks 93 = .ok (.iload 8, 2) := by decide +kernel
theorem dX11_marks_95 : decode cX11_marks 95 = .ok (.iconst 2, 1) := by decide +kernel
theorem dX11_marks_96 : decode cX11_marks 96 = .ok (.ishr, 1) := by decide +kernel
theorem dX11_marks_97 : decode cX11_marks 97 = .ok (.iconst 1, 1) := by decide +kernel
theorem dX11_marks_98 : decode cX11_marks 98 = .ok (.iand, 1) := by decide +kernel
theorem dX11_marks_99 : decode cX11_marks 99 = .ok (.iload_n 3, 1) := by decide +kernel
theorem dX11_marks_100 : decode cX11_marks 100 = .ok (.imul, 1) := by decide +kernel
theorem dX11_marks_101 : decode cX11_marks 101 = .ok (.iadd, 1) := by decide +kernel
theorem dX11_marks_102 : decode cX11_marks 102 = .ok (.iload 8, 2) := by decide +kernel
theorem dX11_marks_104 : decode cX11_marks 104 = .ok (.iconst 3, 1) := by decide +kernel
theorem dX11_marks_105 : decode cX11_marks 105 = .ok (.ishr, 1) := by decide +kernel
theorem dX11_marks_106 : decode cX11_marks 106 = .ok (.iconst 1, 1) := by decide +kernel
theorem dX11_marks_107 : decode cX11_marks 107 = .ok (.iand, 1) := by decide +kernel
theorem dX11_marks_108 : decode cX11_marks 108 = .ok (.iload 4, 2) := by decide +kernel
theorem dX11_marks_110 : decode cX11_marks 110 = .ok (.imul, 1) := by decide +kernel
theorem dX11_marks_111 : decode cX11_marks 111 = .ok (.iadd, 1) := by decide +kernel
theorem dX11_marks_112 : decode cX11_marks 112 = .ok (.iload 8, 2) := by decide +kernel
theorem dX11_marks_114 : decode cX11_marks 114 = .ok (.iconst 4, 1) := by decide +kernel
theorem dX11_marks_115 : decode cX11_marks 115 = .ok (.ishr, 1) := by decide +kernel
theorem dX11_marks_116 : decode cX11_marks 116 = .ok (.iconst 1, 1) := by decide +kernel
theorem dX11_marks_117 : decode cX11_marks 117 = .ok (.iand, 1) := by decide +kernel
theorem dX11_marks_118 : decode cX11_marks 118 = .ok (.iload 5, 2) := by decide +kernel
theorem dX11_marks_120 : decode cX11_marks 120 = .ok (.imul, 1) := by decide +kernel
theorem dX11_marks_121 : decode cX11_marks 121 = .ok (.iadd, 1) := by decide +kernel
theorem dX11_marks_122 : decode cX11_marks 122 = .ok (.iadd, 1) := by decide +kernel
theorem dX11_marks_123 : decode cX11_marks 123 = .ok (.istore 6, 2) := by decide +kernel
theorem dX11_marks_125 : decode cX11_marks 125 = .ok (.iinc 7 1, 3) := by decide +kernel
theorem dX11_marks_128 : decode cX11_marks 128 = .ok (.goto (-69), 3) := by decide +kernel
theorem dX11_marks_131 : decode cX11_marks 131 = .ok (.iload 6, 2) := by decide +kernel
theorem dX11_marks_133 : decode cX11_marks 133 = .ok (.ireturn, 1) := by decide +kernel
theorem dX11_isAhead_0 : decode cX11_isAhead 0 = .ok (.iconst 1, 1) := by decide +kernel
theorem dX11_isAhead_1 : decode cX11_isAhead 1 = .ok (.iload_n 1, 1) := by decide +kernel
theorem dX11_isAhead_2 : decode cX11_isAhead 2 = .ok (.ishl, 1) := by decide +kernel
theorem dX11_isAhead_3 : decode cX11_isAhead 3 = .ok (.istore_n 3, 1) := by decide +kernel
theorem dX11_isAhead_4 : decode cX11_isAhead 4 = .ok (.iconst 1, 1) := by decide +kernel
theorem dX11_isAhead_5 : decode cX11_isAhead 5 = .ok (.istore 4, 2) := by decide +kernel
theorem dX11_isAhead_7 : decode cX11_isAhead 7 = .ok (.iload 4, 2) := by decide +kernel
theorem dX11_isAhead_9 : decode cX11_isAhead 9 = .ok (.ifCond .eq 67, 3) := by decide +kernel
theorem dX11_isAhead_12 : decode cX11_isAhead 12 = .ok (.iload_n 3, 1) := by decide +kernel
theorem dX11_isAhead_13 : decode cX11_isAhead 13 = .ok (.istore 5, 2) := by decide +kernel
theorem dX11_isAhead_15 : decode cX11_isAhead 15 = .ok (.iconst 0, 1) := by decide +kernel
theorem dX11_isAhead_16 : decode cX11_isAhead 16 = .ok (.istore 6, 2) := by decide +kernel
theorem dX11_isAhead_18 : decode cX11_isAhead 18 = .ok (.iload 6, 2) := by decide +kernel
theorem dX11_isAhead_20 : decode cX11_isAhead 20 = .ok (.aload_n 0, 1) := by decide +kernel
theorem dX11_isAhead_21 : decode cX11_isAhead 21 = .ok (.getfield 199, 3) := by decide +kernel
theorem dX11_isAhead_24 : decode cX11_isAhead 24 = .ok (.if_icmp .ge 36, 3) := by decide +kernel
theorem dX11_isAhead_27 : decode cX11_isAhead 27 = .ok (.iload_n 3, 1) := by decide +kernel
theorem dX11_isAhead_28 : decode cX11_isAhead 28 = .ok (.aload_n 0, 1) := by decide +kernel
theorem dX11_isAhead_29 : decode cX11_isAhead 29 = .ok (.getfield 103, 3) := by decide +kernel
theorem dX11_isAhead_32 : decode cX11_isAhead 32 = .ok (.iload 6, 2) := by decide +kernel
theorem dX11_isAhead_34 : decode cX11_isAhead 34 = .ok (.iaload, 1) := by decide +kernel
theorem dX11_isAhead_35 : decode cX11_isAhead 35 = .ok (.ishr, 1) := by decide +kernel
theorem dX11_isAhead_36 : decode cX11_isAhead 36 = .ok (.iconst 1, 1) := by decide +kernel
theorem dX11_isAhead_37 : decode cX11_isAhead 37 = .ok (.iand, 1) := by decide +kernel
theorem dX11_isAhead_38 : decode cX11_isAhead 38 = .ok (.iconst 1, 1) := by decide +kernel
theorem dX11_isAhead_39 : decode cX11_isAhead 39 = .ok (.if_icmp .ne 15, 3) := by decide +kernel
theorem dX11_isAhead_42 : decode cX11_isAhead 42 = .ok (.iload_n 3, 1) := by decide +kernel
theorem dX11_isAhead_43 : decode cX11_isAhead 43 = .ok (.iconst 1, 1) := by decide +kernel
theorem dX11_isAhead_44 : decode cX11_isAhead 44 = .ok (.aload_n 0, 1) := by decide +kernel
theorem dX11_isAhead_45 : decode cX11_isAhead 45 = .ok (.getfield 106, 3) := by decide +kernel
theorem dX11_isAhead_48 : decode cX11_isAhead 48 = .ok (.iload 6, 2) := by decide +kernel
theorem dX11_isAhead_50 : decode cX11_isAhead 50 = .ok (.iaload, 1) := by decide +kernel
theorem dX11_isAhead_51 : decode cX11_isAhead 51 = .ok (.ishl, 1) := by decide +kernel
theorem dX11_isAhead_52 : decode cX11_isAhead 52 = .ok (.ior, 1) := by decide +kernel
theorem dX11_isAhead_53 : decode cX11_isAhead 53 = .ok (.istore_n 3, 1) := by decide +kernel
theorem dX11_isAhead_54 : decode cX11_isAhead 54 = .ok (.iinc 6 1, 3) := by decide +kernel
theorem dX11_isAhead_57 : decode cX11_isAhead 57 = .ok (.goto (-39), 3) := by decide +kernel
theorem dX11_isAhead_60 : decode cX11_isAhead 60 = .ok (.iload_n 3, 1) := by decide +kernel
theorem dX11_isAhead_61 : decode cX11_isAhead 61 = .ok (.iload 5, 2) := by decide +kernel
theorem dX11_isAhead_63 : decode cX11_isAhead 63 = .ok (.if_icmp .eq 7, 3) := by decide +kernel
theorem dX11_isAhead_66 : decode cX11_isAhead 66 = .ok (.iconst 1, 1) := by decide +kernel
theorem dX11_isAhead_67 : decode cX11_isAhead 67 = .ok (.goto 4, 3) := by decide +kernel
theorem dX11_isAhead_70 : decode cX11_isAhead 70 = .ok (.iconst 0, 1) := by decide +kernel
theorem dX11_isAhead_71 : decode cX11_isAhead 71 = .ok (.istore 4, 2) := by decide +kernel
theorem dX11_isAhead_73 : decode cX11_isAhead 73 = .ok (.goto (-66), 3) := by decide +kernel
theorem dX11_isAhead_76 : decode cX11_isAhead 76 = .ok (.iload_n 3, 1) := by decide +kernel
theorem dX11_isAhead_77 : decode cX11_isAhead 77 = .ok (.iload_n 2, 1) := by decide +kernel
theorem dX11_isAhead_78 : decode cX11_isAhead 78 = .ok (.ishr, 1) := by decide +kernel
theorem dX11_isAhead_79 : decode cX11_isAhead 79 = .ok (.iconst 1, 1) := by decide +kernel
theorem dX11_isAhead_80 : decode cX11_isAhead 80 = .ok (.iand, 1) := by decide +kernel
theorem dX11_isAhead_81 : decode cX11_isAhead 81 = .ok (.iconst 1, 1) := by decide +kernel
theorem dX11_isAhead_82 : decode cX11_isAhead 82 = .ok (.if_icmp .ne 7, 3) := by decide +kernel
theorem dX11_isAhead_85 : decode cX11_isAhead 85 = .ok (.iconst 1, 1) := by decide +kernel
theorem dX11_isAhead_86 : decode cX11_isAhead 86 = .ok (.goto 4, 3) := by decide +kernel
theorem dX11_isAhead_89 : decode cX11_isAhead 89 = .ok (.iconst 0, 1) := by decide +kernel
theorem dX11_isAhead_90 : decode cX11_isAhead 90 = .ok (.ireturn, 1) := by decide +kernel
theorem dX11_pair_0 : decode cX11_pair 0 = .ok (.aload_n 0, 1) := by decide +kernel
theorem dX11_pair_1 : decode cX11_pair 1 = .ok (.iload_n 1, 1) := by decide +kernel
theorem dX11_pair_2 : decode cX11_pair 2 = .ok (.invokevirtual 250, 3) := by decide +kernel
theorem dX11_pair_5 : decode cX11_pair 5 = .ok (.ifCond .eq 35, 3) := by decide +kernel
theorem dX11_pair_8 : decode cX11_pair 8 = .ok (.aload_n 0, 1) := by decide +kernel
theorem dX11_pair_9 : decode cX11_pair 9 = .ok (.iload_n 2, 1) := by decide +kernel
theorem dX11_pair_10 : decode cX11_pair 10 = .ok (.invokevirtual 250, 3) := by decide +kernel
theorem dX11_pair_13 : decode cX11_pair 13 = .ok (.ifCond .eq 27, 3) := by decide +kernel
theorem dX11_pair_16 : decode cX11_pair 16 = .ok (.iload_n 1, 1) := by decide +kernel
theorem dX11_pair_17 : decode cX11_pair 17 = .ok (.iload_n 2, 1) := by decide +kernel
theorem dX11_pair_18 : decode cX11_pair 18 = .ok (.if_icmp .eq 22, 3) := by decide +kernel
theorem dX11_pair_21 : decode cX11_pair 21 = .ok (.aload_n 0, 1) := by decide +kernel
theorem dX11_pair_22 : decode cX11_pair 22 = .ok (.aload_n 0, 1) := by decide +kernel
theorem dX11_pair_23 : decode cX11_pair 23 = .ok (.getfield 65, 3) := by decide +kernel
theorem dX11_pair_26 : decode cX11_pair 26 = .ok (.iload_n 2, 1) := by decide +kernel
theorem dX11_pair_27 : decode cX11_pair 27 = .ok (.iaload, 1) := by decide +kernel
theorem dX11_pair_28 : decode cX11_pair 28 = .ok (.aload_n 0, 1) := by decide +kernel
theorem dX11_pair_29 : decode cX11_pair 29 = .ok (.getfield 65, 3) := by decide +kernel
theorem dX11_pair_32 : decode cX11_pair 32 = .ok (.iload_n 1, 1) := by decide +kernel
theorem dX11_pair_33 : decode cX11_pair 33 = .ok (.iaload, 1) := by decide +kernel
theorem dX11_pair_34 : decode cX11_pair 34 = .ok (.invokevirtual 268, 3) := by decide +kernel
theorem dX11_pair_37 : decode cX11_pair 37 = .ok (.ifCond .eq 6, 3) := by decide +kernel
theorem dX11_pair_40 : decode cX11_pair 40 = .ok (.bipush (-2), 2) := by decide +kernel
theorem dX11_pair_42 : decode cX11_pair 42 = .ok (.ireturn, 1) := by decide +kernel
theorem dX11_pair_43 : decode cX11_pair 43 = .ok (.iconst 0, 1) := by decide +kernel
theorem dX11_pair_44 : decode cX11_pair 44 = .ok (.istore_n 3, 1) := by decide +kernel
theorem dX11_pair_45 : decode cX11_pair 45 = .ok (.iload_n 3, 1) := by decide +kernel
theorem dX11_pair_46 : decode cX11_pair 46 = .ok (.aload_n 0, 1) := by decide +kernel
theorem dX11_pair_47 : decode cX11_pair 47 = .ok (.getfield 199, 3) := by decide +kernel
theorem dX11_pair_50 : decode cX11_pair 50 = .ok (.if_icmp .ge 44, 3) := by decide +kernel
theorem dX11_pair_53 : decode cX11_pair 53 = .ok (.aload_n 0, 1) := by decide +kernel
theorem dX11_pair_54 : decode cX11_pair 54 = .ok (.getfield 103, 3) := by decide +kernel
theorem dX11_pair_57 : decode cX11_pair 57 = .ok (.iload_n 3, 1) := by decide +kernel
theorem dX11_pair_58 : decode cX11_pair 58 = .ok (.iaload, 1) := by decide +kernel
theorem dX11_pair_59 : decode cX11_pair 59 = .ok (.aload_n 0, 1) := by decide +kernel
theorem dX11_pair_60 : decode cX11_pair 60 = .ok (.getfield 65, 3) := by decide +kernel
theorem dX11_pair_63 : decode cX11_pair 63 = .ok (.iload_n 1, 1) := by decide +kernel
theorem dX11_pair_64 : decode cX11_pair 64 = .ok (.iaload, 1) := by decide +kernel
theorem dX11_pair_65 : decode cX11_pair 65 = .ok (.if_icmp .ne 23, 3) := by decide +kernel
theorem dX11_pair_68 : decode cX11_pair 68 = .ok (.aload_n 0, 1) := by decide +kernel
theorem dX11_pair_69 : decode cX11_pair 69 = .ok (.getfield 106, 3) := by decide +kernel
theorem dX11_pair_72 : decode cX11_pair 72 = .ok (.iload_n 3, 1) := by decide +kernel
theorem dX11_pair_73 : decode cX11_pair 73 = .ok (.iaload, 1) := by decide +kernel
theorem dX11_pair_74 : decode cX11_pair 74 = .ok (.aload_n 0, 1) := by decide +kernel
theorem dX11_pair_75 : decode cX11_pair 75 = .ok (.getfield 65, 3) := by decide +kernel
theorem dX11_pair_78 : decode cX11_pair 78 = .ok (.iload_n 2, 1) := by decide +kernel
theorem dX11_pair_79 : decode cX11_pair 79 = .ok (.iaload, 1) := by decide +kernel
theorem dX11_pair_80 : decode cX11_pair 80 = .ok (.if_icmp .ne 8, 3) := by decide +kernel
theorem dX11_pair_83 : decode cX11_pair 83 = .ok (.aload_n 0, 1) := by decide +kernel
theorem dX11_pair_84 : decode cX11_pair 84 = .ok (.getfield 199, 3) := by decide +kernel
theorem dX11_pair_87 : decode cX11_pair 87 = .ok (.ireturn, 1) := by decide +kernel
theorem dX11_pair_88 : decode cX11_pair 88 = .ok (.iinc 3 1, 3) := by decide +kernel
theorem dX11_pair_91 : decode cX11_pair 91 = .ok (.goto (-46), 3) := by decide +kernel
theorem dX11_pair_94 : decode cX11_pair 94 = .ok (.aload_n 0, 1) := by decide +kernel
theorem dX11_pair_95 : decode cX11_pair 95 = .ok (.getfield 199, 3) := by decide +kernel
theorem dX11_pair_98 : decode cX11_pair 98 = .ok (.bipush 20, 2) := by decide +kernel
theorem dX11_pair_100 : decode cX11_pair 100 = .ok (.if_icmp .ne 6, 3) := by decide +kernel
theorem dX11_pair_103 : decode cX11_pair 103 = .ok (.bipush (-3), 2) := by decide +kernel
theorem dX11_pair_105 : decode cX11_pair 105 = .ok (.ireturn, 1) := by decide +kernel
theorem dX11_pair_106 : decode cX11_pair 106 = .ok (.aload_n 0, 1) := by decide +kernel
theorem dX11_pair_107 : decode cX11_pair 107 = .ok (.getfield 103, 3) := by decide +kernel
theorem dX11_pair_110 : decode cX11_pair 110 = .ok (.aload_n 0, 1) := by decide +kernel
theorem dX11_pair_111 : decode cX11_pair 111 = .ok (.getfield 199, 3) := by decide +kernel
theorem dX11_pair_114 : decode cX11_pair 114 = .ok (.aload_n 0, 1) := by decide +kernel
theorem dX11_pair_115 : decode cX11_pair 115 = .ok (.getfield 65, 3) := by decide +kernel
theorem dX11_pair_118 : decode cX11_pair 118 = .ok (.iload_n 1, 1) := by decide +kernel
theorem dX11_pair_119 : decode cX11_pair 119 = .ok (.iaload, 1) := by decide +kernel
theorem dX11_pair_120 : decode cX11_pair 120 = .ok (.iastore, 1) := by decide +kernel
theorem dX11_pair_121 : decode cX11_pair 121 = .ok (.aload_n 0, 1) := by decide +kernel
theorem dX11_pair_122 : decode cX11_pair 122 = .ok (.getfield 106, 3) := by decide +kernel
theorem dX11_pair_125 : decode cX11_pair 125 = .ok (.aload_n 0, 1) := by decide +kernel
theorem dX11_pair_126 : decode cX11_pair 126 = .ok (.getfield 199, 3) := by decide +kernel
theorem dX11_pair_129 : decode cX11_pair 129 = .ok (.aload_n 0, 1) := by decide +kernel
theorem dX11_pair_130 : decode cX11_pair 130 = .ok (.getfield 65, 3) := by decide +kernel
theorem dX11_pair_133 : decode cX11_pair 133 = .ok (.iload_n 2, 1) := by decide +kernel
theorem dX11_pair_134 : decode cX11_pair 134 = .ok (.iaload, 1) := by decide +kernel
theorem dX11_pair_135 : decode cX11_pair 135 = .ok (.iastore, 1) := by decide +kernel
theorem dX11_pair_136 : decode cX11_pair 136 = .ok (.aload_n 0, 1) := by decide +kernel
theorem dX11_pair_137 : decode cX11_pair 137 = .ok (.dup, 1) := by decide +kernel
theorem dX11_pair_138 : decode cX11_pair 138 = .ok (.getfield 199, 3) := by decide +kernel
theorem dX11_pair_141 : decode cX11_pair 141 = .ok (.iconst 1, 1) := by decide +kernel
theorem dX11_pair_142 : decode cX11_pair 142 = .ok (.iadd, 1) := by decide +kernel
theorem dX11_pair_143 : decode cX11_pair 143 = .ok (.putfield 199, 3) := by decide +kernel
theorem dX11_pair_146 : decode cX11_pair 146 = .ok (.aload_n 0, 1) := by decide +kernel
theorem dX11_pair_147 : decode cX11_pair 147 = .ok (.getfield 199, 3) := by decide +kernel
theorem dX11_pair_150 : decode cX11_pair 150 = .ok (.ireturn, 1) := by decide +kernel
theorem dX11_itemOf_0 : decode cX11_itemOf 0 = .ok (.iload_n 1, 1) := by decide +kernel
theorem dX11_itemOf_1 : decode cX11_itemOf 1 = .ok (.iload_n 2, 1) := by decide +kernel
theorem dX11_itemOf_2 : decode cX11_itemOf 2 = .ok (.if_icmp .ne 5, 3) := by decide +kernel
theorem dX11_itemOf_5 : decode cX11_itemOf 5 = .ok (.iconst 0, 1) := by decide +kernel
theorem dX11_itemOf_6 : decode cX11_itemOf 6 = .ok (.ireturn, 1) := by decide +kernel
theorem dX11_itemOf_7 : decode cX11_itemOf 7 = .ok (.iconst 1, 1) := by decide +kernel
theorem dX11_itemOf_8 : decode cX11_itemOf 8 = .ok (.istore_n 3, 1) := by decide +kernel
theorem dX11_itemOf_9 : decode cX11_itemOf 9 = .ok (.iload_n 3, 1) := by decide +kernel
theorem dX11_itemOf_10 : decode cX11_itemOf 10 = .ok (.aload_n 0, 1) := by decide +kernel
theorem dX11_itemOf_11 : decode cX11_itemOf 11 = .ok (.getfield 271, 3) := by decide +kernel
theorem dX11_itemOf_14 : decode cX11_itemOf 14 = .ok (.if_icmp .ge 25, 3) := by decide +kernel
theorem dX11_itemOf_17 : decode cX11_itemOf 17 = .ok (.aload_n 0, 1) := by decide +kernel
theorem dX11_itemOf_18 : decode cX11_itemOf 18 = .ok (.iload_n 1, 1) := by decide +kernel
theorem dX11_itemOf_19 : decode cX11_itemOf 19 = .ok (.aload_n 0, 1) := by decide +kernel
theorem dX11_itemOf_20 : decode cX11_itemOf 20 = .ok (.getfield 109, 3) := by decide +kernel
theorem dX11_itemOf_23 : decode cX11_itemOf 23 = .ok (.iload_n 3, 1) := by decide +kernel
theorem dX11_itemOf_24 : decode cX11_itemOf 24 = .ok (.iaload, 1) := by decide +kernel
theorem dX11_itemOf_25 : decode cX11_itemOf 25 = .ok (.invokevirtual 246, 3) := by decide +kernel
theorem dX11_itemOf_28 : decode cX11_itemOf 28 = .ok (.ifCond .eq 5, 3) := by decide +kernel
theorem dX11_itemOf_31 : decode cX11_itemOf 31 = .ok (.iload_n 3, 1) := by decide +kernel
theorem dX11_itemOf_32 : decode cX11_itemOf 32 = .ok (.ireturn, 1) := by decide +kernel
theorem dX11_itemOf_33 : decode cX11_itemOf 33 = .ok (.iinc 3 1, 3) := by decide +kernel
theorem dX11_itemOf_36 : decode cX11_itemOf 36 = .ok (.goto (-27), 3) := by decide +kernel
theorem dX11_itemOf_39 : decode cX11_itemOf 39 = .ok (.iconst (-1), 1) := by decide +kernel
theorem dX11_itemOf_40 : decode cX11_itemOf 40 = .ok (.ireturn, 1) := by decide +kernel
theorem dX11_takeItems_0 : decode cX11_takeItems 0 = .ok (.aload_n 0, 1) := by decide +kernel
theorem dX11_takeItems_1 : decode cX11_takeItems 1 = .ok (.iload_n 1, 1) := by decide +kernel
theorem dX11_takeItems_2 : decode cX11_takeItems 2 = .ok (.invokevirtual 256, 3) := by decide +kernel
theorem dX11_takeItems_5 : decode cX11_takeItems 5 = .ok (.bipush 9, 2) := by decide +kernel
theorem dX11_takeItems_7 : decode cX11_takeItems 7 = .ok (.if_icmp .le 5, 3) := by decide +kernel
theorem dX11_takeItems_10 : decode cX11_takeItems 10 = .ok (.iconst 0, 1) := by decide +kernel
theorem dX11_takeItems_11 : decode cX11_takeItems 11 = .ok (.ireturn, 1) := by decide +kernel
theorem dX11_takeItems_12 : decode cX11_takeItems 12 = .ok (.aload_n 0, 1) := by decide +kernel
theorem dX11_takeItems_13 : decode cX11_takeItems 13 = .ok (.iconst 1, 1) := by decide +kernel
theorem dX11_takeItems_14 : decode cX11_takeItems 14 = .ok (.putfield 271, 3) := by decide +kernel
theorem dX11_takeItems_17 : decode cX11_takeItems 17 = .ok (.aload_n 0, 1) := by decide +kernel
theorem dX11_takeItems_18 : decode cX11_takeItems 18 = .ok (.getfield 109, 3) := by decide +kernel
theorem dX11_takeItems_21 : decode cX11_takeItems 21 = .ok (.iconst 0, 1) := by decide +kernel
theorem dX11_takeItems_22 : decode cX11_takeItems 22 = .ok (.iload_n 1, 1) := by decide +kernel
theorem dX11_takeItems_23 : decode cX11_takeItems 23 = .ok (.iastore, 1) := by decide +kernel
theorem dX11_takeItems_24 : decode cX11_takeItems 24 = .ok (.aload_n 0, 1) := by decide +kernel
theorem dX11_takeItems_25 : decode cX11_takeItems 25 = .ok (.getfield 112, 3) := by decide +kernel
theorem dX11_takeItems_28 : decode cX11_takeItems 28 = .ok (.iconst 0, 1) := by decide +kernel
theorem dX11_takeItems_29 : decode cX11_takeItems 29 = .ok (.iconst 1, 1) := by decide +kernel
theorem dX11_takeItems_30 : decode cX11_takeItems 30 = .ok (.iastore, 1) := by decide +kernel
theorem dX11_takeItems_31 : decode cX11_takeItems 31 = .ok (.aload_n 0, 1) := by decide +kernel
theorem dX11_takeItems_32 : decode cX11_takeItems 32 = .ok (.getfield 115, 3) := by decide +kernel
theorem dX11_takeItems_35 : decode cX11_takeItems 35 = .ok (.iconst 0, 1) := by decide +kernel
theorem dX11_takeItems_36 : decode cX11_takeItems 36 = .ok (.iconst 0, 1) := by decide +kernel
theorem dX11_takeItems_37 : decode cX11_takeItems 37 = .ok (.iastore, 1) := by decide +kernel
theorem dX11_takeItems_38 : decode cX11_takeItems 38 = .ok (.iconst 0, 1) := by decide +kernel
theorem dX11_takeItems_39 : decode cX11_takeItems 39 = .ok (.istore_n 2, 1) := by decide +kernel
theorem dX11_takeItems_40 : decode cX11_takeItems 40 = .ok (.iload_n 2, 1) := by decide +kernel
theorem dX11_takeItems_41 : decode cX11_takeItems 41 = .ok (.aload_n 0, 1) := by decide +kernel
theorem dX11_takeItems_42 : decode cX11_takeItems 42 = .ok (.getfield 196, 3) := by decide +kernel
theorem dX11_takeItems_45 : decode cX11_takeItems 45 = .ok (.if_icmp .ge 72, 3) := by decide +kernel
theorem dX11_takeItems_48 : decode cX11_takeItems 48 = .ok (.aload_n 0, 1) := by decide +kernel
theorem dX11_takeItems_49 : decode cX11_takeItems 49 = .ok (.getfield 100, 3) := by decide +kernel
theorem dX11_takeItems_52 : decode cX11_takeItems 52 = .ok (.iload_n 2, 1) := by decide +kernel
theorem dX11_takeItems_53 : decode cX11_takeItems 53 = .ok (.iaload, 1) := by decide +kernel
theorem dX11_takeItems_54 : decode cX11_takeItems 54 = .ok (.iload_n 1, 1) := by decide +kernel
theorem dX11_takeItems_55 : decode cX11_takeItems 55 = .ok (.if_icmp .eq 6, 3) := by decide +kernel
theorem dX11_takeItems_58 : decode cX11_takeItems 58 = .ok (.goto 53, 3) := by decide +kernel
theorem dX11_takeItems_61 : decode cX11_takeItems 61 = .ok (.aload_n 0, 1) := by decide +kernel
theorem dX11_takeItems_62 : decode cX11_takeItems 62 = .ok (.getfield 109, 3) := by decide +kernel
theorem dX11_takeItems_65 : decode cX11_takeItems 65 = .ok (.aload_n 0, 1) := by decide +kernel
theorem dX11_takeItems_66 : decode cX11_takeItems 66 = .ok (.getfield 271, 3) := by decide +kernel
theorem dX11_takeItems_69 : decode cX11_takeItems 69 = .ok (.iload_n 2, 1) := by decide +kernel
theorem dX11_takeItems_70 : decode cX11_takeItems 70 = .ok (.iastore, 1) := by decide +kernel
theorem dX11_takeItems_71 : decode cX11_takeItems 71 = .ok (.aload_n 0, 1) := by decide +kernel
theorem dX11_takeItems_72 : decode cX11_takeItems 72 = .ok (.getfield 112, 3) := by decide +kernel
theorem dX11_takeItems_75 : decode cX11_takeItems 75 = .ok (.aload_n 0, 1) := by decide +kernel
theorem dX11_takeItems_76 : decode cX11_takeItems 76 = .ok (.getfield 271, 3) := by decide +kernel
theorem dX11_takeItems_79 : decode cX11_takeItems 79 = .ok (.aload_n 0, 1) := by decide +kernel
theorem dX11_takeItems_80 : decode cX11_takeItems 80 = .ok (.iload_n 2, 1) := by decide +kernel
theorem dX11_takeItems_81 : decode cX11_takeItems 81 = .ok (.invokevirtual 259, 3) := by decide +kernel
theorem dX11_takeItems_84 : decode cX11_takeItems 84 = .ok (.iastore, 1) := by decide +kernel
theorem dX11_takeItems_85 : decode cX11_takeItems 85 = .ok (.aload_n 0, 1) := by decide +kernel
theorem dX11_takeItems_86 : decode cX11_takeItems 86 = .ok (.getfield 115, 3) := by decide +kernel
theorem dX11_takeItems_89 : decode cX11_takeItems 89 = .ok (.aload_n 0, 1) := by decide +kernel
theorem dX11_takeItems_90 : decode cX11_takeItems 90 = .ok (.getfield 271, 3) := by decide +kernel
theorem dX11_takeItems_93 : decode cX11_takeItems 93 = .ok (.iload_n 2, 1) := by decide +kernel
theorem dX11_takeItems_94 : decode cX11_takeItems 94 = .ok (.aload_n 0, 1) := by decide +kernel
theorem dX11_takeItems_95 : decode cX11_takeItems 95 = .ok (.iload_n 2, 1) := by decide +kernel
theorem dX11_takeItems_96 : decode cX11_takeItems 96 = .ok (.invokevirtual 274, 3) := by decide +kernel
theorem dX11_takeItems_99 : decode cX11_takeItems 99 = .ok (.isub, 1) := by decide +kernel
theorem dX11_takeItems_100 : decode cX11_takeItems 100 = .ok (.iastore, 1) := by decide +kernel
theorem dX11_takeItems_101 : decode cX11_takeItems 101 = .ok (.aload_n 0, 1) := by decide +kernel
theorem dX11_takeItems_102 : decode cX11_takeItems 102 = .ok (.dup, 1) := by decide +kernel
theorem dX11_takeItems_103 : decode cX11_takeItems 103 = .ok (.getfield 271, 3) := by decide +kernel
theorem dX11_takeItems_106 : decode cX11_takeItems 106 = .ok (.iconst 1, 1) := by decide +kernel
theorem dX11_takeItems_107 : decode cX11_takeItems 107 = .ok (.iadd, 1) := by decide +kernel
theorem dX11_takeItems_108 : decode cX11_takeItems 108 = .ok (.putfield 271, 3) := by decide +kernel
theorem dX11_takeItems_111 : decode cX11_takeItems 111 = .ok (.iinc 2 1, 3) := by decide +kernel
theorem dX11_takeItems_114 : decode cX11_takeItems 114 = .ok (.goto (-74), 3) := by decide +kernel
theorem dX11_takeItems_117 : decode cX11_takeItems 117 = .ok (.iconst 0, 1) := by decide +kernel
theorem dX11_takeItems_118 : decode cX11_takeItems 118 = .ok (.istore_n 2, 1) := by decide +kernel
theorem dX11_takeItems_119 : decode cX11_takeItems 119 = .ok (.iload_n 2, 1) := by decide +kernel
theorem dX11_takeItems_120 : decode cX11_takeItems 120 = .ok (.aload_n 0, 1) := by decide +kernel
theorem dX11_takeItems_121 : decode cX11_takeItems 121 = .ok (.getfield 271, 3) := by decide +kernel
theorem dX11_takeItems_124 : decode cX11_takeItems 124 = .ok (.if_icmp .ge 43, 3) := by decide +kernel
theorem dX11_takeItems_127 : decode cX11_takeItems 127 = .ok (.aload_n 0, 1) := by decide +kernel
theorem dX11_takeItems_128 : decode cX11_takeItems 128 = .ok (.getfield 118, 3) := by decide +kernel
theorem dX11_takeItems_131 : decode cX11_takeItems 131 = .ok (.iload_n 2, 1) := by decide +kernel
theorem dX11_takeItems_132 : decode cX11_takeItems 132 = .ok (.iload_n 2, 1) := by decide +kernel
