section PD7
theorem dL_law_111 : decode cL_law 111 = .ok (.bipush 6, 2) := by decide +kernel
theorem dL_law_113 : decode cL_law 113 = .ok (.invokevirtual 47, 3) := by decide +kernel
theorem dL_law_116 : decode cL_law 116 = .ok (.iload 8, 2) := by decide +kernel
theorem dL_law_118 : decode cL_law 118 = .ok (.if_icmp .eq 5, 3) := by decide +kernel
theorem dL_law_121 : decode cL_law 121 = .ok (.iconst 0, 1) := by decide +kernel
theorem dL_law_122 : decode cL_law 122 = .ok (.ireturn, 1) := by decide +kernel
theorem dL_law_123 : decode cL_law 123 = .ok (.aload_n 1, 1) := by decide +kernel
theorem dL_law_124 : decode cL_law 124 = .ok (.bipush 6, 2) := by decide +kernel
theorem dL_law_126 : decode cL_law 126 = .ok (.invokevirtual 47, 3) := by decide +kernel
theorem dL_law_129 : decode cL_law 129 = .ok (.iload 8, 2) := by decide +kernel
theorem dL_law_131 : decode cL_law 131 = .ok (.if_icmp .le 15, 3) := by decide +kernel
theorem dL_law_134 : decode cL_law 134 = .ok (.aload 4, 2) := by decide +kernel
theorem dL_law_136 : decode cL_law 136 = .ok (.iload 8, 2) := by decide +kernel
theorem dL_law_138 : decode cL_law 138 = .ok (.aload_n 1, 1) := by decide +kernel
theorem dL_law_139 : decode cL_law 139 = .ok (.iload 8, 2) := by decide +kernel
theorem dL_law_141 : decode cL_law 141 = .ok (.iconst 5, 1) := by decide +kernel
theorem dL_law_142 : decode cL_law 142 = .ok (.invokevirtual 116, 3) := by decide +kernel
theorem dL_law_145 : decode cL_law 145 = .ok (.iastore, 1) := by decide +kernel
theorem dL_law_146 : decode cL_law 146 = .ok (.iload 7, 2) := by decide +kernel
theorem dL_law_148 : decode cL_law 148 = .ok (.iconst 4, 1) := by decide +kernel
theorem dL_law_149 : decode cL_law 149 = .ok (.ishr, 1) := by decide +kernel
theorem dL_law_150 : decode cL_law 150 = .ok (.iconst 3, 1) := by decide +kernel
theorem dL_law_151 : decode cL_law 151 = .ok (.invokestatic 18, 3) := by decide +kernel
theorem dL_law_154 : decode cL_law 154 = .ok (.ifCond .ne 35, 3) := by decide +kernel
theorem dL_law_157 : decode cL_law 157 = .ok (.iload_n 2, 1) := by decide +kernel
theorem dL_law_158 : decode cL_law 158 = .ok (.iconst 1, 1) := by decide +kernel
theorem dL_law_159 : decode cL_law 159 = .ok (.iload 7, 2) := by decide +kernel
theorem dL_law_161 : decode cL_law 161 = .ok (.bipush 10, 2) := by decide +kernel
theorem dL_law_163 : decode cL_law 163 = .ok (.ishr, 1) := by decide +kernel
theorem dL_law_164 : decode cL_law 164 = .ok (.bipush 110, 2) := by decide +kernel
theorem dL_law_166 : decode cL_law 166 = .ok (.invokestatic 18, 3) := by decide +kernel
theorem dL_law_169 : decode cL_law 169 = .ok (.iadd, 1) := by decide +kernel
theorem dL_law_170 : decode cL_law 170 = .ok (.iadd, 1) := by decide +kernel
theorem dL_law_171 : decode cL_law 171 = .ok (.istore_n 2, 1) := by decide +kernel
theorem dL_law_172 : decode cL_law 172 = .ok (.aload_n 1, 1) := by decide +kernel
theorem dL_law_173 : decode cL_law 173 = .ok (.iload_n 2, 1) := by decide +kernel
theorem dL_law_174 : decode cL_law 174 = .ok (.aload_n 1, 1) := by decide +kernel
theorem dL_law_175 : decode cL_law 175 = .ok (.iconst 0, 1) := by decide +kernel
theorem dL_law_176 : decode cL_law 176 = .ok (.invokevirtual 47, 3) := by decide +kernel
theorem dL_law_179 : decode cL_law 179 = .ok (.isub, 1) := by decide +kernel
theorem dL_law_180 : decode cL_law 180 = .ok (.invokevirtual 119, 3) := by decide +kernel
theorem dL_law_183 : decode cL_law 183 = .ok (.iload_n 2, 1) := by decide +kernel
theorem dL_law_184 : decode cL_law 184 = .ok (.if_icmp .eq 5, 3) := by decide +kernel
theorem dL_law_187 : decode cL_law 187 = .ok (.iconst 0, 1) := by decide +kernel
theorem dL_law_188 : decode cL_law 188 = .ok (.ireturn, 1) := by decide +kernel
theorem dL_law_189 : decode cL_law 189 = .ok (.aload_n 1, 1) := by decide +kernel
theorem dL_law_190 : decode cL_law 190 = .ok (.iconst 0, 1) := by decide +kernel
theorem dL_law_191 : decode cL_law 191 = .ok (.invokevirtual 47, 3) := by decide +kernel
theorem dL_law_194 : decode cL_law 194 = .ok (.iload_n 2, 1) := by decide +kernel
theorem dL_law_195 : decode cL_law 195 = .ok (.if_icmp .ne 16, 3) := by decide +kernel
theorem dL_law_198 : decode cL_law 198 = .ok (.aload_n 1, 1) := by decide +kernel
theorem dL_law_199 : decode cL_law 199 = .ok (.bipush 6, 2) := by decide +kernel
theorem dL_law_201 : decode cL_law 201 = .ok (.invokevirtual 47, 3) := by decide +kernel
theorem dL_law_204 : decode cL_law 204 = .ok (.iload 8, 2) := by decide +kernel
theorem dL_law_206 : decode cL_law 206 = .ok (.iconst 1, 1) := by decide +kernel
theorem dL_law_207 : decode cL_law 207 = .ok (.iadd, 1) := by decide +kernel
theorem dL_law_208 : decode cL_law 208 = .ok (.if_icmp .le 5, 3) := by decide +kernel
theorem dL_law_211 : decode cL_law 211 = .ok (.iconst 0, 1) := by decide +kernel
theorem dL_law_212 : decode cL_law 212 = .ok (.ireturn, 1) := by decide +kernel
theorem dL_law_213 : decode cL_law 213 = .ok (.iconst 0, 1) := by decide +kernel
theorem dL_law_214 : decode cL_law 214 = .ok (.istore 11, 2) := by decide +kernel
theorem dL_law_216 : decode cL_law 216 = .ok (.iload 11, 2) := by decide +kernel
theorem dL_law_218 : decode cL_law 218 = .ok (.aload_n 1, 1) := by decide +kernel
theorem dL_law_219 : decode cL_law 219 = .ok (.bipush 6, 2) := by decide +kernel
theorem dL_law_221 : decode cL_law 221 = .ok (.invokevirtual 47, 3) := by decide +kernel
theorem dL_law_224 : decode cL_law 224 = .ok (.if_icmp .ge 69, 3) := by decide +kernel
theorem dL_law_227 : decode cL_law 227 = .ok (.aload_n 1, 1) := by decide +kernel
theorem dL_law_228 : decode cL_law 228 = .ok (.iload 11, 2) := by decide +kernel
theorem dL_law_230 : decode cL_law 230 = .ok (.bipush 11, 2) := by decide +kernel
theorem dL_law_232 : decode cL_law 232 = .ok (.invokevirtual 116, 3) := by decide +kernel
theorem dL_law_235 : decode cL_law 235 = .ok (.istore 12, 2) := by decide +kernel
theorem dL_law_237 : decode cL_law 237 = .ok (.aload_n 3, 1) := by decide +kernel
theorem dL_law_238 : decode cL_law 238 = .ok (.iload 11, 2) := by decide +kernel
theorem dL_law_240 : decode cL_law 240 = .ok (.iaload, 1) := by decide +kernel
theorem dL_law_241 : decode cL_law 241 = .ok (.iload 12, 2) := by decide +kernel
theorem dL_law_243 : decode cL_law 243 = .ok (.iconst (-1), 1) := by decide +kernel
theorem dL_law_244 : decode cL_law 244 = .ok (.ixor, 1) := by decide +kernel
theorem dL_law_245 : decode cL_law 245 = .ok (.iand, 1) := by decide +kernel
theorem dL_law_246 : decode cL_law 246 = .ok (.bipush 61, 2) := by decide +kernel
theorem dL_law_248 : decode cL_law 248 = .ok (.iand, 1) := by decide +kernel
theorem dL_law_249 : decode cL_law 249 = .ok (.ifCond .ne 18, 3) := by decide +kernel
theorem dL_law_252 : decode cL_law 252 = .ok (.aload_n 1, 1) := by decide +kernel
theorem dL_law_253 : decode cL_law 253 = .ok (.iload 11, 2) := by decide +kernel
theorem dL_law_255 : decode cL_law 255 = .ok (.iconst 5, 1) := by decide +kernel
theorem dL_law_256 : decode cL_law 256 = .ok (.invokevirtual 116, 3) := by decide +kernel
theorem dL_law_259 : decode cL_law 259 = .ok (.aload 4, 2) := by decide +kernel
theorem dL_law_261 : decode cL_law 261 = .ok (.iload 11, 2) := by decide +kernel
theorem dL_law_263 : decode cL_law 263 = .ok (.iaload, 1) := by decide +kernel
theorem dL_law_264 : decode cL_law 264 = .ok (.if_icmp .le 5, 3) := by decide +kernel
theorem dL_law_267 : decode cL_law 267 = .ok (.iconst 0, 1) := by decide +kernel
theorem dL_law_268 : decode cL_law 268 = .ok (.ireturn, 1) := by decide +kernel
theorem dL_law_269 : decode cL_law 269 = .ok (.aload_n 3, 1) := by decide +kernel
theorem dL_law_270 : decode cL_law 270 = .ok (.iload 11, 2) := by decide +kernel
theorem dL_law_272 : decode cL_law 272 = .ok (.iload 12, 2) := by decide +kernel
theorem dL_law_274 : decode cL_law 274 = .ok (.iastore, 1) := by decide +kernel
theorem dL_law_275 : decode cL_law 275 = .ok (.aload 4, 2) := by decide +kernel
theorem dL_law_277 : decode cL_law 277 = .ok (.iload 11, 2) := by decide +kernel
theorem dL_law_279 : decode cL_law 279 = .ok (.aload_n 1, 1) := by decide +kernel
theorem dL_law_280 : decode cL_law 280 = .ok (.iload 11, 2) := by decide +kernel
theorem dL_law_282 : decode cL_law 282 = .ok (.iconst 5, 1) := by decide +kernel
theorem dL_law_283 : decode cL_law 283 = .ok (.invokevirtual 116, 3) := by decide +kernel
theorem dL_law_286 : decode cL_law 286 = .ok (.iastore, 1) := by decide +kernel
theorem dL_law_287 : decode cL_law 287 = .ok (.iinc 11 1, 3) := by decide +kernel
theorem dL_law_290 : decode cL_law 290 = .ok (.goto (-74), 3) := by decide +kernel
theorem dL_law_293 : decode cL_law 293 = .ok (.iconst 0, 1) := by decide +kernel
theorem dL_law_294 : decode cL_law 294 = .ok (.istore 11, 2) := by decide +kernel
theorem dL_law_296 : decode cL_law 296 = .ok (.iload 11, 2) := by decide +kernel
theorem dL_law_298 : decode cL_law 298 = .ok (.iconst 3, 1) := by decide +kernel
theorem dL_law_299 : decode cL_law 299 = .ok (.if_icmp .ge 50, 3) := by decide +kernel
theorem dL_law_302 : decode cL_law 302 = .ok (.aload 5, 2) := by decide +kernel
theorem dL_law_304 : decode cL_law 304 = .ok (.iload 11, 2) := by decide +kernel
theorem dL_law_306 : decode cL_law 306 = .ok (.baload, 1) := by decide +kernel
theorem dL_law_307 : decode cL_law 307 = .ok (.ifCond .eq 15, 3) := by decide +kernel
theorem dL_law_310 : decode cL_law 310 = .ok (.aload_n 1, 1) := by decide +kernel
theorem dL_law_311 : decode cL_law 311 = .ok (.iload 11, 2) := by decide +kernel
theorem dL_law_313 : decode cL_law 313 = .ok (.iconst 4, 1) := by decide +kernel
theorem dL_law_314 : decode cL_law 314 = .ok (.invokevirtual 122, 3) := by decide +kernel
theorem dL_law_317 : decode cL_law 317 = .ok (.ifCond .ne 5, 3) := by decide +kernel
theorem dL_law_320 : decode cL_law 320 = .ok (.iconst 0, 1) := by decide +kernel
theorem dL_law_321 : decode cL_law 321 = .ok (.ireturn, 1) := by decide +kernel
theorem dL_law_322 : decode cL_law 322 = .ok (.aload 5, 2) := by decide +kernel
theorem dL_law_324 : decode cL_law 324 = .ok (.iload 11, 2) := by decide +kernel
theorem dL_law_326 : decode cL_law 326 = .ok (.aload_n 1, 1) := by decide +kernel
theorem dL_law_327 : decode cL_law 327 = .ok (.iload 11, 2) := by decide +kernel
theorem dL_law_329 : decode cL_law 329 = .ok (.iconst 4, 1) := by decide +kernel
theorem dL_law_330 : decode cL_law 330 = .ok (.invokevirtual 122, 3) := by decide +kernel
theorem dL_law_333 : decode cL_law 333 = .ok (.iconst 1, 1) := by decide +kernel
theorem dL_law_334 : decode cL_law 334 = .ok (.if_icmp .ne 7, 3) := by decide +kernel
theorem dL_law_337 : decode cL_law 337 = .ok (.iconst 1, 1) := by decide +kernel
theorem dL_law_338 : decode cL_law 338 = .ok (.goto 4, 3) := by decide +kernel
theorem dL_law_341 : decode cL_law 341 = .ok (.iconst 0, 1) := by decide +kernel
theorem dL_law_342 : decode cL_law 342 = .ok (.bastore, 1) := by decide +kernel
theorem dL_law_343 : decode cL_law 343 = .ok (.iinc 11 1, 3) := by decide +kernel
theorem dL_law_346 : decode cL_law 346 = .ok (.goto (-50), 3) := by decide +kernel
theorem dL_law_349 : decode cL_law 349 = .ok (.aload_n 1, 1) := by decide +kernel
theorem dL_law_350 : decode cL_law 350 = .ok (.invokestatic 125, 3) := by decide +kernel
theorem dL_law_353 : decode cL_law 353 = .ok (.ifCond .ne 5, 3) := by decide +kernel
theorem dL_law_356 : decode cL_law 356 = .ok (.iconst 0, 1) := by decide +kernel
theorem dL_law_357 : decode cL_law 357 = .ok (.ireturn, 1) := by decide +kernel
theorem dL_law_358 : decode cL_law 358 = .ok (.iinc 6 1, 3) := by decide +kernel
theorem dL_law_361 : decode cL_law 361 = .ok (.goto (-335), 3) := by decide +kernel
theorem dL_law_364 : decode cL_law 364 = .ok (.aload_n 1, 1) := by decide +kernel
theorem dL_law_365 : decode cL_law 365 = .ok (.invokevirtual 129, 3) := by decide +kernel
theorem dL_law_368 : decode cL_law 368 = .ok (.lstore 6, 2) := by decide +kernel
theorem dL_law_370 : decode cL_law 370 = .ok (.aload_n 1, 1) := by decide +kernel
theorem dL_law_371 : decode cL_law 371 = .ok (.invokevirtual 133, 3) := by decide +kernel
theorem dL_law_374 : decode cL_law 374 = .ok (.ifCond .eq 17, 3) := by decide +kernel
theorem dL_law_377 : decode cL_law 377 = .ok (.aload_n 1, 1) := by decide +kernel
theorem dL_law_378 : decode cL_law 378 = .ok (.invokevirtual 129, 3) := by decide +kernel
theorem dL_law_381 : decode cL_law 381 = .ok (.lload 6, 2) := by decide +kernel
theorem dL_law_383 : decode cL_law 383 = .ok (.lcmp, 1) := by decide +kernel
theorem dL_law_384 : decode cL_law 384 = .ok (.ifCond .ne 7, 3) := by decide +kernel
theorem dL_law_387 : decode cL_law 387 = .ok (.iconst 1, 1) := by decide +kernel
theorem dL_law_388 : decode cL_law 388 = .ok (.goto 4, 3) := by decide +kernel
theorem dL_law_391 : decode cL_law 391 = .ok (.iconst 0, 1) := by decide +kernel
theorem dL_law_392 : decode cL_law 392 = .ok (.ireturn, 1) := by decide +kernel
theorem dL_isSo_0 : decode cL_isSo 0 = .ok (.aload_n 0, 1) := by decide +kernel
theorem dL_isSo_1 : decode cL_isSo 1 = .ok (.bipush 7, 2) := by decide +kernel
theorem dL_isSo_3 : decode cL_isSo 3 = .ok (.invokevirtual 47, 3) := by decide +kernel
theorem dL_isSo_6 : decode cL_isSo 6 = .ok (.i2l, 1) := by decide +kernel
theorem dL_isSo_7 : decode cL_isSo 7 = .ok (.aload_n 0, 1) := by decide +kernel
theorem dL_isSo_8 : decode cL_isSo 8 = .ok (.bipush 8, 2) := by decide +kernel
theorem dL_isSo_10 : decode cL_isSo 10 = .ok (.invokevirtual 47, 3) := by decide +kernel
theorem dL_isSo_13 : decode cL_isSo 13 = .ok (.i2l, 1) := by decide +kernel
theorem dL_isSo_14 : decode cL_isSo 14 = .ok (.ladd, 1) := by decide +kernel
theorem dL_isSo_15 : decode cL_isSo 15 = .ok (.aload_n 0, 1) := by decide +kernel
theorem dL_isSo_16 : decode cL_isSo 16 = .ok (.bipush 9, 2) := by decide +kernel
theorem dL_isSo_18 : decode cL_isSo 18 = .ok (.invokevirtual 47, 3) := by decide +kernel
theorem dL_isSo_21 : decode cL_isSo 21 = .ok (.i2l, 1) := by decide +kernel
theorem dL_isSo_22 : decode cL_isSo 22 = .ok (.ladd, 1) := by decide +kernel
theorem dL_isSo_23 : decode cL_isSo 23 = .ok (.aload_n 0, 1) := by decide +kernel
theorem dL_isSo_24 : decode cL_isSo 24 = .ok (.bipush 10, 2) := by decide +kernel
theorem dL_isSo_26 : decode cL_isSo 26 = .ok (.invokevirtual 47, 3) := by decide +kernel
theorem dL_isSo_29 : decode cL_isSo 29 = .ok (.i2l, 1) := by decide +kernel
theorem dL_isSo_30 : decode cL_isSo 30 = .ok (.ladd, 1) := by decide +kernel
theorem dL_isSo_31 : decode cL_isSo 31 = .ok (.lstore_n 1, 1) := by decide +kernel
theorem dL_isSo_32 : decode cL_isSo 32 = .ok (.iconst 0, 1) := by decide +kernel
theorem dL_isSo_33 : decode cL_isSo 33 = .ok (.istore_n 3, 1) := by decide +kernel
theorem dL_isSo_34 : decode cL_isSo 34 = .ok (.iload_n 3, 1) := by decide +kernel
theorem dL_isSo_35 : decode cL_isSo 35 = .ok (.iconst 3, 1) := by decide +kernel
theorem dL_isSo_36 : decode cL_isSo 36 = .ok (.if_icmp .ge 19, 3) := by decide +kernel
theorem dL_isSo_39 : decode cL_isSo 39 = .ok (.lload_n 1, 1) := by decide +kernel
theorem dL_isSo_40 : decode cL_isSo 40 = .ok (.aload_n 0, 1) := by decide +kernel
theorem dL_isSo_41 : decode cL_isSo 41 = .ok (.iload_n 3, 1) := by decide +kernel
theorem dL_isSo_42 : decode cL_isSo 42 = .ok (.iconst 0, 1) := by decide +kernel
theorem dL_isSo_43 : decode cL_isSo 43 = .ok (.invokevirtual 137, 3) := by decide +kernel
theorem dL_isSo_46 : decode cL_isSo 46 = .ok (.i2l, 1) := by decide +kernel
theorem dL_isSo_47 : decode cL_isSo 47 = .ok (.ladd, 1) := by decide +kernel
theorem dL_isSo_48 : decode cL_isSo 48 = .ok (.lstore_n 1, 1) := by decide +kernel
theorem dL_isSo_49 : decode cL_isSo 49 = .ok (.iinc 3 1, 3) := by decide +kernel
theorem dL_isSo_52 : decode cL_isSo 52 = .ok (.goto (-18), 3) := by decide +kernel
theorem dL_isSo_55 : decode cL_isSo 55 = .ok (.iconst 0, 1) := by decide +kernel
theorem dL_isSo_56 : decode cL_isSo 56 = .ok (.istore_n 3, 1) := by decide +kernel
theorem dL_isSo_57 : decode cL_isSo 57 = .ok (.iload_n 3, 1) := by decide +kernel
theorem dL_isSo_58 : decode cL_isSo 58 = .ok (.bipush 6, 2) := by decide +kernel
theorem dL_isSo_60 : decode cL_isSo 60 = .ok (.if_icmp .ge 30, 3) := by decide +kernel
theorem dL_isSo_63 : decode cL_isSo 63 = .ok (.lload_n 1, 1) := by decide +kernel
theorem dL_isSo_64 : decode cL_isSo 64 = .ok (.aload_n 0, 1) := by decide +kernel
theorem dL_isSo_65 : decode cL_isSo 65 = .ok (.iload_n 3, 1) := by decide +kernel
theorem dL_isSo_66 : decode cL_isSo 66 = .ok (.iconst 3, 1) := by decide +kernel
theorem dL_isSo_67 : decode cL_isSo 67 = .ok (.invokevirtual 140, 3) := by decide +kernel
theorem dL_isSo_70 : decode cL_isSo 70 = .ok (.i2l, 1) := by decide +kernel
theorem dL_isSo_71 : decode cL_isSo 71 = .ok (.ladd, 1) := by decide +kernel
theorem dL_isSo_72 : decode cL_isSo 72 = .ok (.lstore_n 1, 1) := by decide +kernel
theorem dL_isSo_73 : decode cL_isSo 73 = .ok (.aload_n 0, 1) := by decide +kernel
theorem dL_isSo_74 : decode cL_isSo 74 = .ok (.iload_n 3, 1) := by decide +kernel
theorem dL_isSo_75 : decode cL_isSo 75 = .ok (.iconst 3, 1) := by decide +kernel
theorem dL_isSo_76 : decode cL_isSo 76 = .ok (.invokevirtual 140, 3) := by decide +kernel
theorem dL_isSo_79 : decode cL_isSo 79 = .ok (.ifCond .ge 5, 3) := by decide +kernel
theorem dL_isSo_82 : decode cL_isSo 82 = .ok (.iconst 0, 1) := by decide +kernel
theorem dL_isSo_83 : decode cL_isSo 83 = .ok (.ireturn, 1) := by decide +kernel
theorem dL_isSo_84 : decode cL_isSo 84 = .ok (.iinc 3 1, 3) := by decide +kernel
theorem dL_isSo_87 : decode cL_isSo 87 = .ok (.goto (-30), 3) := by decide +kernel
theorem dL_isSo_90 : decode cL_isSo 90 = .ok (.lload_n 1, 1) := by decide +kernel
theorem dL_isSo_91 : decode cL_isSo 91 = .ok (.lconst 0, 1) := by decide +kernel
theorem dL_isSo_92 : decode cL_isSo 92 = .ok (.lcmp, 1) := by decide +kernel
theorem dL_isSo_93 : decode cL_isSo 93 = .ok (.ifCond .ne 18, 3) := by decide +kernel
theorem dL_isSo_96 : decode cL_isSo 96 = .ok (.aload_n 0, 1) := by decide +kernel
theorem dL_isSo_97 : decode cL_isSo 97 = .ok (.bipush 14, 2) := by decide +kernel
theorem dL_isSo_99 : decode cL_isSo 99 = .ok (.invokevirtual 47, 3) := by decide +kernel
theorem dL_isSo_102 : decode cL_isSo 102 = .ok (.aload_n 0, 1) := by decide +kernel
theorem dL_isSo_103 : decode cL_isSo 103 = .ok (.bipush 7, 2) := by decide +kernel
theorem dL_isSo_105 : decode cL_isSo 105 = .ok (.invokevirtual 47, 3) := by decide +kernel
theorem dL_isSo_108 : decode cL_isSo 108 = .ok (.if_icmp .eq 5, 3) := by decide +kernel
theorem dL_isSo_111 : decode cL_isSo 111 = .ok (.iconst 0, 1) := by decide +kernel
theorem dL_isSo_112 : decode cL_isSo 112 = .ok (.ireturn, 1) := by decide +kernel
theorem dL_isSo_113 : decode cL_isSo 113 = .ok (.iconst 3, 1) := by decide +kernel
theorem dL_isSo_114 : decode cL_isSo 114 = .ok (.newarray .int, 2) := by decide +kernel
theorem dL_isSo_116 : decode cL_isSo 116 = .ok (.astore_n 3, 1) := by decide +kernel
theorem dL_isSo_117 : decode cL_isSo 117 = .ok (.iconst 0, 1) := by decide +kernel
theorem dL_isSo_118 : decode cL_isSo 118 = .ok (.istore 4, 2) := by decide +kernel
theorem dL_isSo_120 : decode cL_isSo 120 = .ok (.iload 4, 2) := by decide +kernel
theorem dL_isSo_122 : decode cL_isSo 122 = .ok (.aload_n 0, 1) := by decide +kernel
theorem dL_isSo_123 : decode cL_isSo 123 = .ok (.bipush 6, 2) := by decide +kernel
theorem dL_isSo_125 : decode cL_isSo 125 = .ok (.invokevirtual 47, 3) := by decide +kernel
theorem dL_isSo_128 : decode cL_isSo 128 = .ok (.if_icmp .ge 281, 3) := by decide +kernel
theorem dL_isSo_131 : decode cL_isSo 131 = .ok (.aload_n 0, 1) := by decide +kernel
theorem dL_isSo_132 : decode cL_isSo 132 = .ok (.iload 4, 2) := by decide +kernel
theorem dL_isSo_134 : decode cL_isSo 134 = .ok (.bipush 11, 2) := by decide +kernel
theorem dL_isSo_136 : decode cL_isSo 136 = .ok (.invokevirtual 116, 3) := by decide +kernel
theorem dL_isSo_139 : decode cL_isSo 139 = .ok (.istore 5, 2) := by decide +kernel
theorem dL_isSo_141 : decode cL_isSo 141 = .ok (.aload_n 3, 1) := by decide +kernel
theorem dL_isSo_142 : decode cL_isSo 142 = .ok (.aload_n 0, 1) := by decide +kernel
theorem dL_isSo_143 : decode cL_isSo 143 = .ok (.iload 4, 2) := by decide +kernel
theorem dL_isSo_145 : decode cL_isSo 145 = .ok (.iconst 0, 1) := by decide +kernel
theorem dL_isSo_146 : decode cL_isSo 146 = .ok (.invokevirtual 116, 3) := by decide +kernel
theorem dL_isSo_149 : decode cL_isSo 149 = .ok (.dup2, 1) := by decide +kernel
theorem dL_isSo_150 : decode cL_isSo 150 = .ok (.iaload, 1) := by decide +kernel
theorem dL_isSo_151 : decode cL_isSo 151 = .ok (.iconst 1, 1) := by decide +kernel
theorem dL_isSo_152 : decode cL_isSo 152 = .ok (.iadd, 1) := by decide +kernel
theorem dL_isSo_153 : decode cL_isSo 153 = .ok (.iastore, 1) := by decide +kernel
theorem dL_isSo_154 : decode cL_isSo 154 = .ok (.aload_n 0, 1) := by decide +kernel
theorem dL_isSo_155 : decode cL_isSo 155 = .ok (.iload 4, 2) := by decide +kernel
theorem dL_isSo_157 : decode cL_isSo 157 = .ok (.iconst 5, 1) := by decide +kernel
theorem dL_isSo_158 : decode cL_isSo 158 = .ok (.invokevirtual 116, 3) := by decide +kernel
theorem dL_isSo_161 : decode cL_isSo 161 = .ok (.istore 6, 2) := by decide +kernel
theorem dL_isSo_163 : decode cL_isSo 163 = .ok (.iload 6, 2) := by decide +kernel
theorem dL_isSo_165 : decode cL_isSo 165 = .ok (.ifCond .lt 87, 3) := by decide +kernel
theorem dL_isSo_168 : decode cL_isSo 168 = .ok (.iload 6, 2) := by decide +kernel
theorem dL_isSo_170 : decode cL_isSo 170 = .ok (.aload_n 0, 1) := by decide +kernel
theorem dL_isSo_171 : decode cL_isSo 171 = .ok (.iload 4, 2) := by decide +kernel
theorem dL_isSo_173 : decode cL_isSo 173 = .ok (.iconst 2, 1) := by decide +kernel
theorem dL_isSo_174 : decode cL_isSo 174 = .ok (.invokevirtual 116, 3) := by decide +kernel
theorem dL_isSo_177 : decode cL_isSo 177 = .ok (.if_icmp .gt 75, 3) := by decide +kernel
theorem dL_isSo_180 : decode cL_isSo 180 = .ok (.aload_n 0, 1) := by decide +kernel
theorem dL_isSo_181 : decode cL_isSo 181 = .ok (.iload 4, 2) := by decide +kernel
theorem dL_isSo_183 : decode cL_isSo 183 = .ok (.bipush 6, 2) := by decide +kernel
theorem dL_isSo_185 : decode cL_isSo 185 = .ok (.invokevirtual 116, 3) := by decide +kernel
theorem dL_isSo_188 : decode cL_isSo 188 = .ok (.aload_n 0, 1) := by decide +kernel
theorem dL_isSo_189 : decode cL_isSo 189 = .ok (.iload 4, 2) := by decide +kernel
theorem dL_isSo_191 : decode cL_isSo 191 = .ok (.iconst 2, 1) := by decide +kernel
theorem dL_isSo_192 : decode cL_isSo 192 = .ok (.invokevirtual 116, 3) := by decide +kernel
theorem dL_isSo_195 : decode cL_isSo 195 = .ok (.if_icmp .gt 57, 3) := by decide +kernel
theorem dL_isSo_198 : decode cL_isSo 198 = .ok (.iload 5, 2) := by decide +kernel
theorem dL_isSo_200 : decode cL_isSo 200 = .ok (.bipush 16, 2) := by decide +kernel
theorem dL_isSo_202 : decode cL_isSo 202 = .ok (.iand, 1) := by decide +kernel
theorem dL_isSo_203 : decode cL_isSo 203 = .ok (.ifCond .le 11, 3) := by decide +kernel
theorem dL_isSo_206 : decode cL_isSo 206 = .ok (.iload 5, 2) := by decide +kernel
theorem dL_isSo_208 : decode cL_isSo 208 = .ok (.bipush 32, 2) := by decide +kernel
theorem dL_isSo_210 : decode cL_isSo 210 = .ok (.iand, 1) := by decide +kernel
theorem dL_isSo_211 : decode cL_isSo 211 = .ok (.ifCond .eq 41, 3) := by decide +kernel
theorem dL_isSo_214 : decode cL_isSo 214 = .ok (.aload_n 0, 1) := by decide +kernel
theorem dL_isSo_215 : decode cL_isSo 215 = .ok (.iload 4, 2) := by decide +kernel
theorem dL_isSo_217 : decode cL_isSo 217 = .ok (.bipush 10, 2) := by decide +kernel
theorem dL_isSo_219 : decode cL_isSo 219 = .ok (.invokevirtual 116, 3) := by decide +kernel
theorem dL_isSo_222 : decode cL_isSo 222 = .ok (.ifCond .lt 30, 3) := by decide +kernel
theorem dL_isSo_225 : decode cL_isSo 225 = .ok (.aload_n 0, 1) := by decide +kernel
theorem dL_isSo_226 : decode cL_isSo 226 = .ok (.iload 4, 2) := by decide +kernel
theorem dL_isSo_228 : decode cL_isSo 228 = .ok (.bipush 10, 2) := by decide +kernel
theorem dL_isSo_230 : decode cL_isSo 230 = .ok (.invokevirtual 116, 3) := by decide +kernel
theorem dL_isSo_233 : decode cL_isSo 233 = .ok (.iconst 2, 1) := by decide +kernel
theorem dL_isSo_234 : decode cL_isSo 234 = .ok (.if_icmp .gt 18, 3) := by decide +kernel
theorem dL_isSo_237 : decode cL_isSo 237 = .ok (.aload_n 0, 1) := by decide +kernel
theorem dL_isSo_238 : decode cL_isSo 238 = .ok (.iload 4, 2) := by decide +kernel
theorem dL_isSo_240 : decode cL_isSo 240 = .ok (.iconst 3, 1) := by decide +kernel
theorem dL_isSo_241 : decode cL_isSo 241 = .ok (.invokevirtual 116, 3) := by decide +kernel
theorem dL_isSo_244 : decode cL_isSo 244 = .ok (.aload_n 0, 1) := by decide +kernel
theorem dL_isSo_245 : decode cL_isSo 245 = .ok (.iconst 0, 1) := by decide +kernel
theorem dL_isSo_246 : decode cL_isSo 246 = .ok (.invokevirtual 47, 3) := by decide +kernel
theorem dL_isSo_249 : decode cL_isSo 249 = .ok (.if_icmp .le 5, 3) := by decide +kernel
theorem dL_isSo_252 : decode cL_isSo 252 = .ok (.iconst 0, 1) := by decide +kernel
theorem dL_isSo_253 : decode cL_isSo 253 = .ok (.ireturn, 1) := by decide +kernel
theorem dL_isSo_254 : decode cL_isSo 254 = .ok (.iload 5, 2) := by decide +kernel
theorem dL_isSo_256 : decode cL_isSo 256 = .ok (.iconst 4, 1) := by decide +kernel
theorem dL_isSo_257 : decode cL_isSo 257 = .ok (.iand, 1) := by decide +kernel
theorem dL_isSo_258 : decode cL_isSo 258 = .ok (.ifCond .ne 6, 3) := by decide +kernel
theorem dL_isSo_261 : decode cL_isSo 261 = .ok (.goto 142, 3) := by decide +kernel
theorem dL_isSo_264 : decode cL_isSo 264 = .ok (.iconst 0, 1) := by decide +kernel
theorem dL_isSo_265 : decode cL_isSo 265 = .ok (.istore 7, 2) := by decide +kernel
theorem dL_isSo_267 : decode cL_isSo 267 = .ok (.iconst 0, 1) := by decide +kernel
theorem dL_isSo_268 : decode cL_isSo 268 = .ok (.istore 8, 2) := by decide +kernel
theorem dL_isSo_270 : decode cL_isSo 270 = .ok (.iconst 0, 1) := by decide +kernel
theorem dL_isSo_271 : decode cL_isSo 271 = .ok (.istore 9, 2) := by decide +kernel
theorem dL_isSo_273 : decode cL_isSo 273 = .ok (.iload 9, 2) := by decide +kernel
theorem dL_isSo_275 : decode cL_isSo 275 = .ok (.iconst 3, 1) := by decide +kernel
theorem dL_isSo_276 : decode cL_isSo 276 = .ok (.if_icmp .ge 63, 3) := by decide +kernel
theorem dL_isSo_279 : decode cL_isSo 279 = .ok (.iload 7, 2) := by decide +kernel
theorem dL_isSo_281 : decode cL_isSo 281 = .ok (.aload_n 0, 1) := by decide +kernel
theorem dL_isSo_282 : decode cL_isSo 282 = .ok (.iload 4, 2) := by decide +kernel
theorem dL_isSo_284 : decode cL_isSo 284 = .ok (.iload 9, 2) := by decide +kernel
theorem dL_isSo_286 : decode cL_isSo 286 = .ok (.iconst 0, 1) := by decide +kernel
theorem dL_isSo_287 : decode cL_isSo 287 = .ok (.invokevirtual 143, 3) := by decide +kernel
theorem dL_isSo_290 : decode cL_isSo 290 = .ok (.iadd, 1) := by decide +kernel
theorem dL_isSo_291 : decode cL_isSo 291 = .ok (.istore 7, 2) := by decide +kernel
theorem dL_isSo_293 : decode cL_isSo 293 = .ok (.iload 8, 2) := by decide +kernel
theorem dL_isSo_295 : decode cL_isSo 295 = .ok (.aload_n 0, 1) := by decide +kernel
theorem dL_isSo_296 : decode cL_isSo 296 = .ok (.iload 4, 2) := by decide +kernel
theorem dL_isSo_298 : decode cL_isSo 298 = .ok (.iload 9, 2) := by decide +kernel
theorem dL_isSo_300 : decode cL_isSo 300 = .ok (.iconst 1, 1) := by decide +kernel
theorem dL_isSo_301 : decode cL_isSo 301 = .ok (.invokevirtual 143, 3) := by decide +kernel
theorem dL_isSo_304 : decode cL_isSo 304 = .ok (.iadd, 1) := by decide +kernel
theorem dL_isSo_305 : decode cL_isSo 305 = .ok (.istore 8, 2) := by decide +kernel
theorem dL_isSo_307 : decode cL_isSo 307 = .ok (.aload_n 0, 1) := by decide +kernel
theorem dL_isSo_308 : decode cL_isSo 308 = .ok (.iload 4, 2) := by decide +kernel
theorem dL_isSo_310 : decode cL_isSo 310 = .ok (.iload 9, 2) := by decide +kernel
theorem dL_isSo_312 : decode cL_isSo 312 = .ok (.iconst 1, 1) := by decide +kernel
theorem dL_isSo_313 : decode cL_isSo 313 = .ok (.invokevirtual 143, 3) := by decide +kernel
theorem dL_isSo_316 : decode cL_isSo 316 = .ok (.ifCond .lt 15, 3) := by decide +kernel
theorem dL_isSo_319 : decode cL_isSo 319 = .ok (.aload_n 0, 1) := by decide +kernel
theorem dL_isSo_320 : decode cL_isSo 320 = .ok (.iload 4, 2) := by decide +kernel
theorem dL_isSo_322 : decode cL_isSo 322 = .ok (.iload 9, 2) := by decide +kernel
theorem dL_isSo_324 : decode cL_isSo 324 = .ok (.iconst 0, 1) := by decide +kernel
theorem dL_isSo_325 : decode cL_isSo 325 = .ok (.invokevirtual 143, 3) := by decide +kernel
theorem dL_isSo_328 : decode cL_isSo 328 = .ok (.ifCond .ge 5, 3) := by decide +kernel
theorem dL_isSo_331 : decode cL_isSo 331 = .ok (.iconst 0, 1) := by decide +kernel
theorem dL_isSo_332 : decode cL_isSo 332 = .ok (.ireturn, 1) := by decide +kernel
theorem dL_isSo_333 : decode cL_isSo 333 = .ok (.iinc 9 1, 3) := by decide +kernel
theorem dL_isSo_336 : decode cL_isSo 336 = .ok (.goto (-63), 3) := by decide +kernel
theorem dL_isSo_339 : decode cL_isSo 339 = .ok (.iload 7, 2) := by decide +kernel
theorem dL_isSo_341 : decode cL_isSo 341 = .ok (.aload_n 0, 1) := by decide +kernel
theorem dL_isSo_342 : decode cL_isSo 342 = .ok (.iload 4, 2) := by decide +kernel
theorem dL_isSo_344 : decode cL_isSo 344 = .ok (.bipush 12, 2) := by decide +kernel
theorem dL_isSo_346 : decode cL_isSo 346 = .ok (.invokevirtual 116, 3) := by decide +kernel
theorem dL_isSo_349 : decode cL_isSo 349 = .ok (.if_icmp .ne 52, 3) := by decide +kernel
theorem dL_isSo_352 : decode cL_isSo 352 = .ok (.iload 8, 2) := by decide +kernel
theorem dL_isSo_354 : decode cL_isSo 354 = .ok (.aload_n 0, 1) := by decide +kernel
theorem dL_isSo_355 : decode cL_isSo 355 = .ok (.iload 4, 2) := by decide +kernel
theorem dL_isSo_357 : decode cL_isSo 357 = .ok (.bipush 14, 2) := by decide +kernel
theorem dL_isSo_359 : decode cL_isSo 359 = .ok (.invokevirtual 116, 3) := by decide +kernel
theorem dL_isSo_362 : decode cL_isSo 362 = .ok (.if_icmp .ne 39, 3) := by decide +kernel
theorem dL_isSo_365 : decode cL_isSo 365 = .ok (.iload 5, 2) := by decide +kernel
theorem dL_isSo_367 : decode cL_isSo 367 = .ok (.iconst 1, 1) := by decide +kernel
theorem dL_isSo_368 : decode cL_isSo 368 = .ok (.iand, 1) := by decide +kernel
theorem dL_isSo_369 : decode cL_isSo 369 = .ok (.ifCond .eq 32, 3) := by decide +kernel
theorem dL_isSo_372 : decode cL_isSo 372 = .ok (.aload_n 0, 1) := by decide +kernel
theorem dL_isSo_373 : decode cL_isSo 373 = .ok (.iload 4, 2) := by decide +kernel
theorem dL_isSo_375 : decode cL_isSo 375 = .ok (.bipush 13, 2) := by decide +kernel
theorem dL_isSo_377 : decode cL_isSo 377 = .ok (.invokevirtual 116, 3) := by decide +kernel
theorem dL_isSo_380 : decode cL_isSo 380 = .ok (.iload 7, 2) := by decide +kernel
theorem dL_isSo_382 : decode cL_isSo 382 = .ok (.if_icmp .gt 19, 3) := by decide +kernel
theorem dL_isSo_385 : decode cL_isSo 385 = .ok (.iload 6, 2) := by decide +kernel
theorem dL_isSo_387 : decode cL_isSo 387 = .ok (.aload_n 0, 1) := by decide +kernel
theorem dL_isSo_388 : decode cL_isSo 388 = .ok (.iload 4, 2) := by decide +kernel
theorem dL_isSo_390 : decode cL_isSo 390 = .ok (.bipush 14, 2) := by decide +kernel
theorem dL_isSo_392 : decode cL_isSo 392 = .ok (.invokevirtual 116, 3) := by decide +kernel
theorem dL_isSo_395 : decode cL_isSo 395 = .ok (.iadd, 1) := by decide +kernel
theorem dL_isSo_396 : decode cL_isSo 396 = .ok (.iload 7, 2) := by decide +kernel
theorem dL_isSo_398 : decode cL_isSo 398 = .ok (.if_icmp .le 5, 3) := by decide +kernel
theorem dL_isSo_401 : decode cL_isSo 401 = .ok (.iconst 0, 1) := by decide +kernel
theorem dL_isSo_402 : decode cL_isSo 402 = .ok (.ireturn, 1) := by decide +kernel
theorem dL_isSo_403 : decode cL_isSo 403 = .ok (.iinc 4 1, 3) := by decide +kernel
theorem dL_isSo_406 : decode cL_isSo 406 = .ok (.goto (-286), 3) := by decide +kernel
theorem dL_isSo_409 : decode cL_isSo 409 = .ok (.iconst 0, 1) := by decide +kernel
theorem dL_isSo_410 : decode cL_isSo 410 = .ok (.istore 4, 2) := by decide +kernel
theorem dL_isSo_412 : decode cL_isSo 412 = .ok (.iload 4, 2) := by decide +kernel
theorem dL_isSo_414 : decode cL_isSo 414 = .ok (.iconst 3, 1) := by decide +kernel
theorem dL_isSo_415 : decode cL_isSo 415 = .ok (.if_icmp .ge 25, 3) := by decide +kernel
theorem dL_isSo_418 : decode cL_isSo 418 = .ok (.aload_n 0, 1) := by decide +kernel
theorem dL_isSo_419 : decode cL_isSo 419 = .ok (.iload 4, 2) := by decide +kernel
theorem dL_isSo_421 : decode cL_isSo 421 = .ok (.iconst 5, 1) := by decide +kernel
theorem dL_isSo_422 : decode cL_isSo 422 = .ok (.invokevirtual 122, 3) := by decide +kernel
theorem dL_isSo_425 : decode cL_isSo 425 = .ok (.aload_n 3, 1) := by decide +kernel
theorem dL_isSo_426 : decode cL_isSo 426 = .ok (.iload 4, 2) := by decide +kernel
theorem dL_isSo_428 : decode cL_isSo 428 = .ok (.iaload, 1) := by decide +kernel
theorem dL_isSo_429 : decode cL_isSo 429 = .ok (.if_icmp .eq 5, 3) := by decide +kernel
theorem dL_isSo_432 : decode cL_isSo 432 = .ok (.iconst 0, 1) := by decide +kernel
theorem dL_isSo_433 : decode cL_isSo 433 = .ok (.ireturn, 1) := by decide +kernel
theorem dL_isSo_434 : decode cL_isSo 434 = .ok (.iinc 4 1, 3) := by decide +kernel
theorem dL_isSo_437 : decode cL_isSo 437 = .ok (.goto (-25), 3) := by decide +kernel
theorem dL_isSo_440 : decode cL_isSo 440 = .ok (.aload_n 0, 1) := by decide +kernel
theorem dL_isSo_441 : decode cL_isSo 441 = .ok (.invokevirtual 133, 3) := by decide +kernel
theorem dL_isSo_444 : decode cL_isSo 444 = .ok (.ireturn, 1) := by decide +kernel
theorem dJxa1e45_init_da8c8_0 : decode cJxa1e45_init_da8c8 0 = .ok (.aload_n 0, 1) := by decide +kernel
theorem dJxa1e45_init_da8c8_1 : decode cJxa1e45_init_da8c8 1 = .ok (.invokespecial 1, 3) := by decide +kernel
theorem dJxa1e45_init_da8c8_4 : decode cJxa1e45_init_da8c8 4 = .ok (.return_, 1) := by decide +kernel
theorem dJxc12de_init_da8c8_0 : decode cJxc12de_init_da8c8 0 = .ok (.aload_n 0, 1) := by decide +kernel
theorem dJxc12de_init_da8c8_1 : decode cJxc12de_init_da8c8 1 = .ok (.invokespecial 1, 3) := by decide +kernel
theorem dJxc12de_init_da8c8_4 : decode cJxc12de_init_da8c8 4 = .ok (.aload_n 0, 1) := by decide +kernel
theorem dJxc12de_init_da8c8_5 : decode cJxc12de_init_da8c8 5 = .ok (.iconst 0, 1) := by decide +kernel
theorem dJxc12de_init_da8c8_6 : decode cJxc12de_init_da8c8 6 = .ok (.putfield 7, 3) := by decide +kernel
theorem dJxc12de_init_da8c8_9 : decode cJxc12de_init_da8c8 9 = .ok (.return_, 1) := by decide +kernel
theorem dJx4a65c_init_da8c8_0 : decode cJx4a65c_init_da8c8 0 = .ok (.aload_n 0, 1) := by decide +kernel
theorem dJx4a65c_init_da8c8_1 : decode cJx4a65c_init_da8c8 1 = .ok (.invokespecial 1, 3) := by decide +kernel
theorem dJx4a65c_init_da8c8_4 : decode cJx4a65c_init_da8c8 4 = .ok (.aload_n 0, 1) := by decide +kernel
theorem dJx4a65c_init_da8c8_5 : decode cJx4a65c_init_da8c8 5 = .ok (.getstatic 39, 3) := by decide +kernel
theorem dJx4a65c_init_da8c8_8 : decode cJx4a65c_init_da8c8 8 = .ok (.putfield 9, 3) := by decide +kernel
theorem dJx4a65c_init_da8c8_11 : decode cJx4a65c_init_da8c8 11 = .ok (.return_, 1) := by decide +kernel
theorem dJx4a65c_grow_92f84_0 : decode cJx4a65c_grow_92f84 0 = .ok (.aload_n 0, 1) := by decide +kernel
theorem dJx4a65c_grow_92f84_1 : decode cJx4a65c_grow_92f84 1 = .ok (.getfield 9, 3) := by decide +kernel
theorem dJx4a65c_grow_92f84_4 : decode cJx4a65c_grow_92f84 4 = .ok (.arraylength, 1) := by decide +kernel
theorem dJx4a65c_grow_92f84_5 : decode cJx4a65c_grow_92f84 5 = .ok (.istore_n 2, 1) := by decide +kernel
theorem dJx4a65c_grow_92f84_6 : decode cJx4a65c_grow_92f84 6 = .ok (.iload_n 2, 1) := by decide +kernel
theorem dJx4a65c_grow_92f84_7 : decode cJx4a65c_grow_92f84 7 = .ok (.ifCond .gt 13, 3) := by decide +kernel
theorem dJx4a65c_grow_92f84_10 : decode cJx4a65c_grow_92f84 10 = .ok (.aload_n 0, 1) := by decide +kernel
theorem dJx4a65c_grow_92f84_11 : decode cJx4a65c_grow_92f84 11 = .ok (.getfield 9, 3) := by decide +kernel
theorem dJx4a65c_grow_92f84_14 : decode cJx4a65c_grow_92f84 14 = .ok (.getstatic 39, 3) := by decide +kernel
theorem dJx4a65c_grow_92f84_17 : decode cJx4a65c_grow_92f84 17 = .ok (.if_acmp .eq 28, 3) := by decide +kernel
theorem dJx4a65c_grow_92f84_20 : decode cJx4a65c_grow_92f84 20 = .ok (.iload_n 2, 1) := by decide +kernel
theorem dJx4a65c_grow_92f84_21 : decode cJx4a65c_grow_92f84 21 = .ok (.iload_n 1, 1) := by decide +kernel
theorem dJx4a65c_grow_92f84_22 : decode cJx4a65c_grow_92f84 22 = .ok (.iload_n 2, 1) := by decide +kernel
theorem dJx4a65c_grow_92f84_23 : decode cJx4a65c_grow_92f84 23 = .ok (.isub, 1) := by decide +kernel
theorem dJx4a65c_grow_92f84_24 : decode cJx4a65c_grow_92f84 24 = .ok (.iload_n 2, 1) := by decide +kernel
theorem dJx4a65c_grow_92f84_25 : decode cJx4a65c_grow_92f84 25 = .ok (.iconst 1, 1) := by decide +kernel
theorem dJx4a65c_grow_92f84_26 : decode cJx4a65c_grow_92f84 26 = .ok (.ishr, 1) := by decide +kernel
theorem dJx4a65c_grow_92f84_27 : decode cJx4a65c_grow_92f84 27 = .ok (.invokestatic 73, 3) := by decide +kernel
theorem dJx4a65c_grow_92f84_30 : decode cJx4a65c_grow_92f84 30 = .ok (.istore_n 3, 1) := by decide +kernel
theorem dJx4a65c_grow_92f84_31 : decode cJx4a65c_grow_92f84 31 = .ok (.aload_n 0, 1) := by decide +kernel
theorem dJx4a65c_grow_92f84_32 : decode cJx4a65c_grow_92f84 32 = .ok (.aload_n 0, 1) := by decide +kernel
theorem dJx4a65c_grow_92f84_33 : decode cJx4a65c_grow_92f84 33 = .ok (.getfield 9, 3) := by decide +kernel
theorem dJx4a65c_grow_92f84_36 : decode cJx4a65c_grow_92f84 36 = .ok (.iload_n 3, 1) := by decide +kernel
theorem dJx4a65c_grow_92f84_37 : decode cJx4a65c_grow_92f84 37 = .ok (.invokestatic 66, 3) := by decide +kernel
theorem dJx4a65c_grow_92f84_40 : decode cJx4a65c_grow_92f84 40 = .ok (.dup_x1, 1) := by decide +kernel
theorem dJx4a65c_grow_92f84_41 : decode cJx4a65c_grow_92f84 41 = .ok (.putfield 9, 3) := by decide +kernel
theorem dJx4a65c_grow_92f84_44 : decode cJx4a65c_grow_92f84 44 = .ok (.areturn, 1) := by decide +kernel
theorem dJx4a65c_grow_92f84_45 : decode cJx4a65c_grow_92f84 45 = .ok (.aload_n 0, 1) := by decide +kernel
theorem dJx4a65c_grow_92f84_46 : decode cJx4a65c_grow_92f84 46 = .ok (.bipush 10, 2) := by decide +kernel
theorem dJx4a65c_grow_92f84_48 : decode cJx4a65c_grow_92f84 48 = .ok (.iload_n 1, 1) := by decide +kernel
theorem dJx4a65c_grow_92f84_49 : decode cJx4a65c_grow_92f84 49 = .ok (.invokestatic 79, 3) := by decide +kernel
theorem dJx4a65c_grow_92f84_52 : decode cJx4a65c_grow_92f84 52 = .ok (.anewarray 7, 3) := by decide +kernel
theorem dJx4a65c_grow_92f84_55 : decode cJx4a65c_grow_92f84 55 = .ok (.dup_x1, 1) := by decide +kernel
theorem dJx4a65c_grow_92f84_56 : decode cJx4a65c_grow_92f84 56 = .ok (.putfield 9, 3) := by decide +kernel
theorem dJx4a65c_grow_92f84_59 : decode cJx4a65c_grow_92f84 59 = .ok (.areturn, 1) := by decide +kernel
theorem dJx4a65c_grow_d5877_0 : decode cJx4a65c_grow_d5877 0 = .ok (.aload_n 0, 1) := by decide +kernel
theorem dJx4a65c_grow_d5877_1 : decode cJx4a65c_grow_d5877 1 = .ok (.aload_n 0, 1) := by decide +kernel
theorem dJx4a65c_grow_d5877_2 : decode cJx4a65c_grow_d5877 2 = .ok (.getfield 48, 3) := by decide +kernel
theorem dJx4a65c_grow_d5877_5 : decode cJx4a65c_grow_d5877 5 = .ok (.iconst 1, 1) := by decide +kernel
theorem dJx4a65c_grow_d5877_6 : decode cJx4a65c_grow_d5877 6 = .ok (.iadd, 1) := by decide +kernel
theorem dJx4a65c_grow_d5877_7 : decode cJx4a65c_grow_d5877 7 = .ok (.invokevirtual 69, 3) := by decide +kernel
theorem dJx4a65c_grow_d5877_10 : decode cJx4a65c_grow_d5877 10 = .ok (.areturn, 1) := by decide +kernel
theorem dJx4a65c_size_8abf5_0 : decode cJx4a65c_size_8abf5 0 = .ok (.aload_n 0, 1) := by decide +kernel
theorem dJx4a65c_size_8abf5_1 : decode cJx4a65c_size_8abf5 1 = .ok (.getfield 48, 3) := by decide +kernel
theorem dJx4a65c_size_8abf5_4 : decode cJx4a65c_size_8abf5 4 = .ok (.ireturn, 1) := by decide +kernel
theorem dJx4a65c_isEmpty_aae02_0 : decode cJx4a65c_isEmpty_aae02 0 = .ok (.aload_n 0, 1) := by decide +kernel
theorem dJx4a65c_isEmpty_aae02_1 : decode cJx4a65c_isEmpty_aae02 1 = .ok (.getfield 48, 3) := by decide +kernel
theorem dJx4a65c_isEmpty_aae02_4 : decode cJx4a65c_isEmpty_aae02 4 = .ok (.ifCond .ne 7, 3) := by decide +kernel
theorem dJx4a65c_isEmpty_aae02_7 : decode cJx4a65c_isEmpty_aae02 7 = .ok (.iconst 1, 1) := by decide +kernel
theorem dJx4a65c_isEmpty_aae02_8 : decode cJx4a65c_isEmpty_aae02 8 = .ok (.goto 4, 3) := by decide +kernel
theorem dJx4a65c_isEmpty_aae02_11 : decode cJx4a65c_isEmpty_aae02 11 = .ok (.iconst 0, 1) := by decide +kernel
theorem dJx4a65c_isEmpty_aae02_12 : decode cJx4a65c_isEmpty_aae02 12 = .ok (.ireturn, 1) := by decide +kernel
theorem dJx4a65c_elementData_915e3_0 : decode cJx4a65c_elementData_915e3 0 = .ok (.aload_n 0, 1) := by decide +kernel
theorem dJx4a65c_elementData_915e3_1 : decode cJx4a65c_elementData_915e3 1 = .ok (.getfield 9, 3) := by decide +kernel
theorem dJx4a65c_elementData_915e3_4 : decode cJx4a65c_elementData_915e3 4 = .ok (.iload_n 1, 1) := by decide +kernel
theorem dJx4a65c_elementData_915e3_5 : decode cJx4a65c_elementData_915e3 5 = .ok (.aaload, 1) := by decide +kernel
theorem dJx4a65c_elementData_915e3_6 : decode cJx4a65c_elementData_915e3 6 = .ok (.areturn, 1) := by decide +kernel
theorem dJx4a65c_get_915e3_0 : decode cJx4a65c_get_915e3 0 = .ok (.iload_n 1, 1) := by decide +kernel
theorem dJx4a65c_get_915e3_1 : decode cJx4a65c_get_915e3 1 = .ok (.aload_n 0, 1) := by decide +kernel
theorem dJx4a65c_get_915e3_2 : decode cJx4a65c_get_915e3 2 = .ok (.getfield 48, 3) := by decide +kernel
theorem dJx4a65c_get_915e3_5 : decode cJx4a65c_get_915e3 5 = .ok (.invokestatic 118, 3) := by decide +kernel
theorem dJx4a65c_get_915e3_8 : decode cJx4a65c_get_915e3 8 = .ok (.pop, 1) := by decide +kernel
theorem dJx4a65c_get_915e3_9 : decode cJx4a65c_get_915e3 9 = .ok (.aload_n 0, 1) := by decide +kernel
theorem dJx4a65c_get_915e3_10 : decode cJx4a65c_get_915e3 10 = .ok (.iload_n 1, 1) := by decide +kernel
theorem dJx4a65c_get_915e3_11 : decode cJx4a65c_get_915e3 11 = .ok (.invokevirtual 123, 3) := by decide +kernel
theorem dJx4a65c_get_915e3_14 : decode cJx4a65c_get_915e3 14 = .ok (.areturn, 1) := by decide +kernel
theorem dJx4a65c_add_72be8_0 : decode cJx4a65c_add_72be8 0 = .ok (.iload_n 3, 1) := by decide +kernel
theorem dJx4a65c_add_72be8_1 : decode cJx4a65c_add_72be8 1 = .ok (.aload_n 2, 1) := by decide +kernel
theorem dJx4a65c_add_72be8_2 : decode cJx4a65c_add_72be8 2 = .ok (.arraylength, 1) := by decide +kernel
theorem dJx4a65c_add_72be8_3 : decode cJx4a65c_add_72be8 3 = .ok (.if_icmp .ne 8, 3) := by decide +kernel
theorem dJx4a65c_add_72be8_6 : decode cJx4a65c_add_72be8 6 = .ok (.aload_n 0, 1) := by decide +kernel
theorem dJx4a65c_add_72be8_7 : decode cJx4a65c_add_72be8 7 = .ok (.invokevirtual 129, 3) := by decide +kernel
theorem dJx4a65c_add_72be8_10 : decode cJx4a65c_add_72be8 10 = .ok (.astore_n 2, 1) := by decide +kernel
theorem dJx4a65c_add_72be8_11 : decode cJx4a65c_add_72be8 11 = .ok (.aload_n 2, 1) := by decide +kernel
theorem dJx4a65c_add_72be8_12 : decode cJx4a65c_add_72be8 12 = .ok (.iload_n 3, 1) := by decide +kernel
theorem dJx4a65c_add_72be8_13 : decode cJx4a65c_add_72be8 13 = .ok (.aload_n 1, 1) := by decide +kernel
theorem dJx4a65c_add_72be8_14 : decode cJx4a65c_add_72be8 14 = .ok (.aastore, 1) := by decide +kernel
theorem dJx4a65c_add_72be8_15 : decode cJx4a65c_add_72be8 15 = .ok (.aload_n 0, 1) := by decide +kernel
theorem dJx4a65c_add_72be8_16 : decode cJx4a65c_add_72be8 16 = .ok (.iload_n 3, 1) := by decide +kernel
theorem dJx4a65c_add_72be8_17 : decode cJx4a65c_add_72be8 17 = .ok (.iconst 1, 1) := by decide +kernel
theorem dJx4a65c_add_72be8_18 : decode cJx4a65c_add_72be8 18 = .ok (.iadd, 1) := by decide +kernel
theorem dJx4a65c_add_72be8_19 : decode cJx4a65c_add_72be8 19 = .ok (.putfield 48, 3) := by decide +kernel
theorem dJx4a65c_add_72be8_22 : decode cJx4a65c_add_72be8 22 = .ok (.return_, 1) := by decide +kernel
theorem dJx4a65c_add_9ea2d_0 : decode cJx4a65c_add_9ea2d 0 = .ok (.aload_n 0, 1) := by decide +kernel
theorem dJx4a65c_add_9ea2d_1 : decode cJx4a65c_add_9ea2d 1 = .ok (.dup, 1) := by decide +kernel
theorem dJx4a65c_add_9ea2d_2 : decode cJx4a65c_add_9ea2d 2 = .ok (.getfield 63, 3) := by decide +kernel
theorem dJx4a65c_add_9ea2d_5 : decode cJx4a65c_add_9ea2d 5 = .ok (.iconst 1, 1) := by decide +kernel
theorem dJx4a65c_add_9ea2d_6 : decode cJx4a65c_add_9ea2d 6 = .ok (.iadd, 1) := by decide +kernel
theorem dJx4a65c_add_9ea2d_7 : decode cJx4a65c_add_9ea2d 7 = .ok (.putfield 63, 3) := by decide +kernel
theorem dJx4a65c_add_9ea2d_10 : decode cJx4a65c_add_9ea2d 10 = .ok (.aload_n 0, 1) := by decide +kernel
theorem dJx4a65c_add_9ea2d_11 : decode cJx4a65c_add_9ea2d 11 = .ok (.aload_n 1, 1) := by decide +kernel
theorem dJx4a65c_add_9ea2d_12 : decode cJx4a65c_add_9ea2d 12 = .ok (.aload_n 0, 1) := by decide +kernel
theorem dJx4a65c_add_9ea2d_13 : decode cJx4a65c_add_9ea2d 13 = .ok (.getfield 9, 3) := by decide +kernel
theorem dJx4a65c_add_9ea2d_16 : decode cJx4a65c_add_9ea2d 16 = .ok (.aload_n 0, 1) := by decide +kernel
theorem dJx4a65c_add_9ea2d_17 : decode cJx4a65c_add_9ea2d 17 = .ok (.getfield 48, 3) := by decide +kernel
theorem dJx4a65c_add_9ea2d_20 : decode cJx4a65c_add_9ea2d 20 = .ok (.invokevirtual 131, 3) := by decide +kernel
theorem dJx4a65c_add_9ea2d_23 : decode cJx4a65c_add_9ea2d 23 = .ok (.iconst 1, 1) := by decide +kernel
theorem dJx4a65c_add_9ea2d_24 : decode cJx4a65c_add_9ea2d 24 = .ok (.ireturn, 1) := by decide +kernel
theorem dJ15_checkIndex_7cf53_0 : decode cJ15_checkIndex_7cf53 0 = .ok (.iload_n 0, 1) := by decide +kernel
theorem dJ15_checkIndex_7cf53_1 : decode cJ15_checkIndex_7cf53 1 = .ok (.iload_n 1, 1) := by decide +kernel
theorem dJ15_checkIndex_7cf53_2 : decode cJ15_checkIndex_7cf53 2 = .ok (.aconst_null, 1) := by decide +kernel
theorem dJ15_checkIndex_7cf53_3 : decode cJ15_checkIndex_7cf53 3 = .ok (.invokestatic 105, 3) := by decide +kernel
theorem dJ15_checkIndex_7cf53_6 : decode cJ15_checkIndex_7cf53 6 = .ok (.ireturn, 1) := by decide +kernel
theorem dJ8_newLength_cabcc_0 : decode cJ8_newLength_cabcc 0 = .ok (.iload_n 0, 1) := by decide +kernel
theorem dJ8_newLength_cabcc_1 : decode cJ8_newLength_cabcc 1 = .ok (.iload_n 1, 1) := by decide +kernel
theorem dJ8_newLength_cabcc_2 : decode cJ8_newLength_cabcc 2 = .ok (.iload_n 2, 1) := by decide +kernel
theorem dJ8_newLength_cabcc_3 : decode cJ8_newLength_cabcc 3 = .ok (.invokestatic 194, 3) := by decide +kernel
theorem dJ8_newLength_cabcc_6 : decode cJ8_newLength_cabcc 6 = .ok (.iadd, 1) := by decide +kernel
theorem dJ8_newLength_cabcc_7 : decode cJ8_newLength_cabcc 7 = .ok (.istore_n 3, 1) := by decide +kernel
theorem dJ8_newLength_cabcc_8 : decode cJ8_newLength_cabcc 8 = .ok (.iconst 0, 1) := by decide +kernel
theorem dJ8_newLength_cabcc_9 : decode cJ8_newLength_cabcc 9 = .ok (.iload_n 3, 1) := by decide +kernel
theorem dJ8_newLength_cabcc_10 : decode cJ8_newLength_cabcc 10 = .ok (.if_icmp .ge 11, 3) := by decide +kernel
theorem dJ8_newLength_cabcc_13 : decode cJ8_newLength_cabcc 13 = .ok (.iload_n 3, 1) := by decide +kernel
theorem dJ8_newLength_cabcc_14 : decode cJ8_newLength_cabcc 14 = .ok (.ldc 200, 2) := by decide +kernel
theorem dJ8_newLength_cabcc_16 : decode cJ8_newLength_cabcc 16 = .ok (.if_icmp .gt 5, 3) := by decide +kernel
theorem dJ8_newLength_cabcc_19 : decode cJ8_newLength_cabcc 19 = .ok (.iload_n 3, 1) := by decide +kernel
theorem dJ8_newLength_cabcc_20 : decode cJ8_newLength_cabcc 20 = .ok (.ireturn, 1) := by decide +kernel
theorem dJ8_newLength_cabcc_21 : decode cJ8_newLength_cabcc 21 = .ok (.iload_n 0, 1) := by decide +kernel
theorem dJ8_newLength_cabcc_22 : decode cJ8_newLength_cabcc 22 = .ok (.iload_n 1, 1) := by decide +kernel
theorem dJ8_newLength_cabcc_23 : decode cJ8_newLength_cabcc 23 = .ok (.invokestatic 201, 3) := by decide +kernel
theorem dJ8_newLength_cabcc_26 : decode cJ8_newLength_cabcc 26 = .ok (.ireturn, 1) := by decide +kernel
theorem dJ3_checkIndex_8e157_0 : decode cJ3_checkIndex_8e157 0 = .ok (.iload_n 0, 1) := by decide +kernel
theorem dJ3_checkIndex_8e157_1 : decode cJ3_checkIndex_8e157 1 = .ok (.ifCond .lt 8, 3) := by decide +kernel
theorem dJ3_checkIndex_8e157_4 : decode cJ3_checkIndex_8e157 4 = .ok (.iload_n 0, 1) := by decide +kernel
theorem dJ3_checkIndex_8e157_5 : decode cJ3_checkIndex_8e157 5 = .ok (.iload_n 1, 1) := by decide +kernel
theorem dJ3_checkIndex_8e157_6 : decode cJ3_checkIndex_8e157 6 = .ok (.if_icmp .lt 10, 3) := by decide +kernel
theorem dJ3_checkIndex_8e157_9 : decode cJ3_checkIndex_8e157 9 = .ok (.aload_n 2, 1) := by decide +kernel
theorem dJ3_checkIndex_8e157_10 : decode cJ3_checkIndex_8e157 10 = .ok (.iload_n 0, 1) := by decide +kernel
theorem dJ3_checkIndex_8e157_11 : decode cJ3_checkIndex_8e157 11 = .ok (.iload_n 1, 1) := by decide +kernel
theorem dJ3_checkIndex_8e157_12 : decode cJ3_checkIndex_8e157 12 = .ok (.invokestatic 95, 3) := by decide +kernel
theorem dJ3_checkIndex_8e157_15 : decode cJ3_checkIndex_8e157 15 = .ok (.athrow, 1) := by decide +kernel
theorem dJ3_checkIndex_8e157_16 : decode cJ3_checkIndex_8e157 16 = .ok (.iload_n 0, 1) := by decide +kernel
theorem dJ3_checkIndex_8e157_17 : decode cJ3_checkIndex_8e157 17 = .ok (.ireturn, 1) := by decide +kernel
theorem dJ7_copyOf_1904c_0 : decode cJ7_copyOf_1904c 0 = .ok (.aload_n 0, 1) := by decide +kernel
theorem dJ7_copyOf_1904c_1 : decode cJ7_copyOf_1904c 1 = .ok (.iload_n 1, 1) := by decide +kernel
theorem dJ7_copyOf_1904c_2 : decode cJ7_copyOf_1904c 2 = .ok (.aload_n 0, 1) := by decide +kernel
theorem dJ7_copyOf_1904c_3 : decode cJ7_copyOf_1904c 3 = .ok (.invokevirtual 86, 3) := by decide +kernel
theorem dJ7_copyOf_1904c_6 : decode cJ7_copyOf_1904c 6 = .ok (.invokestatic 300, 3) := by decide +kernel
theorem dJ7_copyOf_1904c_9 : decode cJ7_copyOf_1904c 9 = .ok (.areturn, 1) := by decide +kernel
theorem dJ7_copyOf_6403c_0 : decode cJ7_copyOf_6403c 0 = .ok (.aload_n 2, 1) := by decide +kernel
theorem dJ7_copyOf_6403c_1 : decode cJ7_copyOf_6403c 1 = .ok (.ldc 110, 2) := by decide +kernel
theorem dJ7_copyOf_6403c_3 : decode cJ7_copyOf_6403c 3 = .ok (.if_acmp .ne 10, 3) := by decide +kernel
theorem dJ7_copyOf_6403c_6 : decode cJ7_copyOf_6403c 6 = .ok (.iload_n 1, 1) := by decide +kernel
theorem dJ7_copyOf_6403c_7 : decode cJ7_copyOf_6403c 7 = .ok (.anewarray 2, 3) := by decide +kernel
theorem dJ7_copyOf_6403c_10 : decode cJ7_copyOf_6403c 10 = .ok (.goto 14, 3) := by decide +kernel
theorem dJ7_copyOf_6403c_13 : decode cJ7_copyOf_6403c 13 = .ok (.aload_n 2, 1) := by decide +kernel
theorem dJ7_copyOf_6403c_14 : decode cJ7_copyOf_6403c 14 = .ok (.invokevirtual 90, 3) := by decide +kernel
theorem dJ7_copyOf_6403c_17 : decode cJ7_copyOf_6403c 17 = .ok (.iload_n 1, 1) := by decide +kernel
theorem dJ7_copyOf_6403c_18 : decode cJ7_copyOf_6403c 18 = .ok (.invokestatic 95, 3) := by decide +kernel
theorem dJ7_copyOf_6403c_21 : decode cJ7_copyOf_6403c 21 = .ok (.checkcast 110, 3) := by decide +kernel
theorem dJ7_copyOf_6403c_24 : decode cJ7_copyOf_6403c 24 = .ok (.astore_n 3, 1) := by decide +kernel
theorem dJ7_copyOf_6403c_25 : decode cJ7_copyOf_6403c 25 = .ok (.aload_n 0, 1) := by decide +kernel
theorem dJ7_copyOf_6403c_26 : decode cJ7_copyOf_6403c 26 = .ok (.iconst 0, 1) := by decide +kernel
theorem dJ7_copyOf_6403c_27 : decode cJ7_copyOf_6403c 27 = .ok (.aload_n 3, 1) := by decide +kernel
theorem dJ7_copyOf_6403c_28 : decode cJ7_copyOf_6403c 28 = .ok (.iconst 0, 1) := by decide +kernel
theorem dJ7_copyOf_6403c_29 : decode cJ7_copyOf_6403c 29 = .ok (.aload_n 0, 1) := by decide +kernel
theorem dJ7_copyOf_6403c_30 : decode cJ7_copyOf_6403c 30 = .ok (.arraylength, 1) := by decide +kernel
theorem dJ7_copyOf_6403c_31 : decode cJ7_copyOf_6403c 31 = .ok (.iload_n 1, 1) := by decide +kernel
theorem dJ7_copyOf_6403c_32 : decode cJ7_copyOf_6403c 32 = .ok (.invokestatic 304, 3) := by decide +kernel
theorem dJ7_copyOf_6403c_35 : decode cJ7_copyOf_6403c 35 = .ok (.invokestatic 150, 3) := by decide +kernel
theorem dJ7_copyOf_6403c_38 : decode cJ7_copyOf_6403c 38 = .ok (.aload_n 3, 1) := by decide +kernel
theorem dJ7_copyOf_6403c_39 : decode cJ7_copyOf_6403c 39 = .ok (.areturn, 1) := by decide +kernel
theorem dJ4_init_da8c8_0 : decode cJ4_init_da8c8 0 = .ok (.aload_n 0, 1) := by decide +kernel
theorem dJ4_init_da8c8_1 : decode cJ4_init_da8c8 1 = .ok (.bipush 16, 2) := by decide +kernel
theorem dJ4_init_da8c8_3 : decode cJ4_init_da8c8 3 = .ok (.invokespecial 1, 3) := by decide +kernel
theorem dJ4_init_da8c8_6 : decode cJ4_init_da8c8 6 = .ok (.return_, 1) := by decide +kernel
theorem dJ5_init_d00df_0 : decode cJ5_init_d00df 0 = .ok (.aload_n 0, 1) := by decide +kernel
theorem dJ5_init_d00df_1 : decode cJ5_init_d00df 1 = .ok (.invokespecial 3, 3) := by decide +kernel
theorem dJ5_init_d00df_4 : decode cJ5_init_d00df 4 = .ok (.getstatic 18, 3) := by decide +kernel
theorem dJ5_init_d00df_7 : decode cJ5_init_d00df 7 = .ok (.ifCond .eq 18, 3) := by decide +kernel
theorem dJ5_init_d00df_10 : decode cJ5_init_d00df 10 = .ok (.aload_n 0, 1) := by decide +kernel
theorem dJ5_init_d00df_11 : decode cJ5_init_d00df 11 = .ok (.iload_n 1, 1) := by decide +kernel
theorem dJ5_init_d00df_12 : decode cJ5_init_d00df 12 = .ok (.newarray .byte, 2) := by decide +kernel
theorem dJ5_init_d00df_14 : decode cJ5_init_d00df 14 = .ok (.putfield 15, 3) := by decide +kernel
theorem dJ5_init_d00df_17 : decode cJ5_init_d00df 17 = .ok (.aload_n 0, 1) := by decide +kernel
theorem dJ5_init_d00df_18 : decode cJ5_init_d00df 18 = .ok (.iconst 0, 1) := by decide +kernel
theorem dJ5_init_d00df_19 : decode cJ5_init_d00df 19 = .ok (.putfield 22, 3) := by decide +kernel
theorem dJ5_init_d00df_22 : decode cJ5_init_d00df 22 = .ok (.goto 16, 3) := by decide +kernel
theorem dJ5_init_d00df_25 : decode cJ5_init_d00df 25 = .ok (.aload_n 0, 1) := by decide +kernel
theorem dJ5_init_d00df_26 : decode cJ5_init_d00df 26 = .ok (.iload_n 1, 1) := by decide +kernel
theorem dJ5_init_d00df_27 : decode cJ5_init_d00df 27 = .ok (.invokestatic 26, 3) := by decide +kernel
theorem dJ5_init_d00df_30 : decode cJ5_init_d00df 30 = .ok (.putfield 15, 3) := by decide +kernel
theorem dJ5_init_d00df_33 : decode cJ5_init_d00df 33 = .ok (.aload_n 0, 1) := by decide +kernel
end PD7
