theorem dL_asks_301 : decode cL_asks 301 = .ok (.invokestatic 197, 3) := by decide +kernel
theorem dL_asks_304 : decode cL_asks 304 = .ok (.i2l, 1) := by decide +kernel
theorem dL_asks_305 : decode cL_asks 305 = .ok (.ladd, 1) := by decide +kernel
theorem dL_asks_306 : decode cL_asks 306 = .ok (.lmul, 1) := by decide +kernel
theorem dL_asks_307 : decode cL_asks 307 = .ok (.aload_n 0, 1) := by decide +kernel
theorem dL_asks_308 : decode cL_asks 308 = .ok (.iload 5, 2) := by decide +kernel
theorem dL_asks_310 : decode cL_asks 310 = .ok (.iload_n 3, 1) := by decide +kernel
theorem dL_asks_311 : decode cL_asks 311 = .ok (.iload 4, 2) := by decide +kernel
theorem dL_asks_313 : decode cL_asks 313 = .ok (.invokestatic 199, 3) := by decide +kernel
theorem dL_asks_316 : decode cL_asks 316 = .ok (.i2l, 1) := by decide +kernel
theorem dL_asks_317 : decode cL_asks 317 = .ok (.ladd, 1) := by decide +kernel
theorem dL_asks_318 : decode cL_asks 318 = .ok (.lstore_n 1, 1) := by decide +kernel
theorem dL_asks_319 : decode cL_asks 319 = .ok (.iinc 5 1, 3) := by decide +kernel
theorem dL_asks_322 : decode cL_asks 322 = .ok (.goto (-41), 3) := by decide +kernel
theorem dL_asks_325 : decode cL_asks 325 = .ok (.iinc 4 3, 3) := by decide +kernel
theorem dL_asks_328 : decode cL_asks 328 = .ok (.goto (-57), 3) := by decide +kernel
theorem dL_asks_331 : decode cL_asks 331 = .ok (.iinc 3 1, 3) := by decide +kernel
theorem dL_asks_334 : decode cL_asks 334 = .ok (.goto (-101), 3) := by decide +kernel
theorem dL_asks_337 : decode cL_asks 337 = .ok (.iconst 0, 1) := by decide +kernel
theorem dL_asks_338 : decode cL_asks 338 = .ok (.istore_n 3, 1) := by decide +kernel
theorem dL_asks_339 : decode cL_asks 339 = .ok (.iload_n 3, 1) := by decide +kernel
theorem dL_asks_340 : decode cL_asks 340 = .ok (.iconst 3, 1) := by decide +kernel
theorem dL_asks_341 : decode cL_asks 341 = .ok (.if_icmp .ge 24, 3) := by decide +kernel
theorem dL_asks_344 : decode cL_asks 344 = .ok (.ldc2_w 159, 3) := by decide +kernel
theorem dL_asks_347 : decode cL_asks 347 = .ok (.lload_n 1, 1) := by decide +kernel
theorem dL_asks_348 : decode cL_asks 348 = .ok (.lmul, 1) := by decide +kernel
theorem dL_asks_349 : decode cL_asks 349 = .ok (.aload_n 0, 1) := by decide +kernel
theorem dL_asks_350 : decode cL_asks 350 = .ok (.iload_n 3, 1) := by decide +kernel
theorem dL_asks_351 : decode cL_asks 351 = .ok (.iconst 1, 1) := by decide +kernel
theorem dL_asks_352 : decode cL_asks 352 = .ok (.iconst 1, 1) := by decide +kernel
theorem dL_asks_353 : decode cL_asks 353 = .ok (.invokestatic 201, 3) := by decide +kernel
theorem dL_asks_356 : decode cL_asks 356 = .ok (.i2l, 1) := by decide +kernel
theorem dL_asks_357 : decode cL_asks 357 = .ok (.ladd, 1) := by decide +kernel
theorem dL_asks_358 : decode cL_asks 358 = .ok (.lstore_n 1, 1) := by decide +kernel
theorem dL_asks_359 : decode cL_asks 359 = .ok (.iinc 3 1, 3) := by decide +kernel
theorem dL_asks_362 : decode cL_asks 362 = .ok (.goto (-23), 3) := by decide +kernel
theorem dL_asks_365 : decode cL_asks 365 = .ok (.ldc2_w 159, 3) := by decide +kernel
theorem dL_asks_368 : decode cL_asks 368 = .ok (.lload_n 1, 1) := by decide +kernel
theorem dL_asks_369 : decode cL_asks 369 = .ok (.lmul, 1) := by decide +kernel
theorem dL_asks_370 : decode cL_asks 370 = .ok (.aload_n 0, 1) := by decide +kernel
theorem dL_asks_371 : decode cL_asks 371 = .ok (.invokevirtual 203, 3) := by decide +kernel
theorem dL_asks_374 : decode cL_asks 374 = .ok (.i2l, 1) := by decide +kernel
theorem dL_asks_375 : decode cL_asks 375 = .ok (.ladd, 1) := by decide +kernel
theorem dL_asks_376 : decode cL_asks 376 = .ok (.lreturn, 1) := by decide +kernel
theorem dL_changes_0 : decode cL_changes 0 = .ok (.iload_n 1, 1) := by decide +kernel
theorem dL_changes_1 : decode cL_changes 1 = .ok (.iconst 4, 1) := by decide +kernel
theorem dL_changes_2 : decode cL_changes 2 = .ok (.ishr, 1) := by decide +kernel
theorem dL_changes_3 : decode cL_changes 3 = .ok (.aload_n 0, 1) := by decide +kernel
theorem dL_changes_4 : decode cL_changes 4 = .ok (.iconst 1, 1) := by decide +kernel
theorem dL_changes_5 : decode cL_changes 5 = .ok (.invokestatic 179, 3) := by decide +kernel
theorem dL_changes_8 : decode cL_changes 8 = .ok (.iconst 1, 1) := by decide +kernel
theorem dL_changes_9 : decode cL_changes 9 = .ok (.iadd, 1) := by decide +kernel
theorem dL_changes_10 : decode cL_changes 10 = .ok (.invokestatic 147, 3) := by decide +kernel
theorem dL_changes_13 : decode cL_changes 13 = .ok (.istore_n 2, 1) := by decide +kernel
theorem dL_changes_14 : decode cL_changes 14 = .ok (.iload_n 1, 1) := by decide +kernel
theorem dL_changes_15 : decode cL_changes 15 = .ok (.bipush 16, 2) := by decide +kernel
theorem dL_changes_17 : decode cL_changes 17 = .ok (.invokestatic 147, 3) := by decide +kernel
theorem dL_changes_20 : decode cL_changes 20 = .ok (.tableswitch 264 0 12 #[68, 89, 89, 137, 137, 151, 151, 165, 165, 200, 230, 230, 230], 68) := by decide +kernel
theorem dL_changes_88 : decode cL_changes 88 = .ok (.aload_n 0, 1) := by decide +kernel
theorem dL_changes_89 : decode cL_changes 89 = .ok (.iload_n 1, 1) := by decide +kernel
theorem dL_changes_90 : decode cL_changes 90 = .ok (.iconst 4, 1) := by decide +kernel
theorem dL_changes_91 : decode cL_changes 91 = .ok (.ishr, 1) := by decide +kernel
theorem dL_changes_92 : decode cL_changes 92 = .ok (.bipush 6, 2) := by decide +kernel
theorem dL_changes_94 : decode cL_changes 94 = .ok (.invokestatic 147, 3) := by decide +kernel
theorem dL_changes_97 : decode cL_changes 97 = .ok (.invokestatic 150, 3) := by decide +kernel
theorem dL_changes_100 : decode cL_changes 100 = .ok (.ifCond .lt 7, 3) := by decide +kernel
theorem dL_changes_103 : decode cL_changes 103 = .ok (.iconst 1, 1) := by decide +kernel
theorem dL_changes_104 : decode cL_changes 104 = .ok (.goto 4, 3) := by decide +kernel
theorem dL_changes_107 : decode cL_changes 107 = .ok (.iconst 0, 1) := by decide +kernel
theorem dL_changes_108 : decode cL_changes 108 = .ok (.ireturn, 1) := by decide +kernel
theorem dL_changes_109 : decode cL_changes 109 = .ok (.aload_n 0, 1) := by decide +kernel
theorem dL_changes_110 : decode cL_changes 110 = .ok (.iload_n 2, 1) := by decide +kernel
theorem dL_changes_111 : decode cL_changes 111 = .ok (.iload_n 1, 1) := by decide +kernel
theorem dL_changes_112 : decode cL_changes 112 = .ok (.bipush 6, 2) := by decide +kernel
theorem dL_changes_114 : decode cL_changes 114 = .ok (.ishr, 1) := by decide +kernel
theorem dL_changes_115 : decode cL_changes 115 = .ok (.iconst 4, 1) := by decide +kernel
theorem dL_changes_116 : decode cL_changes 116 = .ok (.invokestatic 147, 3) := by decide +kernel
theorem dL_changes_119 : decode cL_changes 119 = .ok (.iload_n 1, 1) := by decide +kernel
theorem dL_changes_120 : decode cL_changes 120 = .ok (.bipush 7, 2) := by decide +kernel
theorem dL_changes_122 : decode cL_changes 122 = .ok (.ishr, 1) := by decide +kernel
theorem dL_changes_123 : decode cL_changes 123 = .ok (.bipush 6, 2) := by decide +kernel
theorem dL_changes_125 : decode cL_changes 125 = .ok (.invokestatic 147, 3) := by decide +kernel
theorem dL_changes_128 : decode cL_changes 128 = .ok (.iload_n 1, 1) := by decide +kernel
theorem dL_changes_129 : decode cL_changes 129 = .ok (.bipush 8, 2) := by decide +kernel
theorem dL_changes_131 : decode cL_changes 131 = .ok (.ishr, 1) := by decide +kernel
theorem dL_changes_132 : decode cL_changes 132 = .ok (.bipush 22, 2) := by decide +kernel
theorem dL_changes_134 : decode cL_changes 134 = .ok (.invokestatic 147, 3) := by decide +kernel
theorem dL_changes_137 : decode cL_changes 137 = .ok (.iload_n 1, 1) := by decide +kernel
theorem dL_changes_138 : decode cL_changes 138 = .ok (.bipush 9, 2) := by decide +kernel
theorem dL_changes_140 : decode cL_changes 140 = .ok (.ishr, 1) := by decide +kernel
theorem dL_changes_141 : decode cL_changes 141 = .ok (.iconst 4, 1) := by decide +kernel
theorem dL_changes_142 : decode cL_changes 142 = .ok (.invokestatic 147, 3) := by decide +kernel
theorem dL_changes_145 : decode cL_changes 145 = .ok (.invokestatic 152, 3) := by decide +kernel
theorem dL_changes_148 : decode cL_changes 148 = .ok (.ifCond .lt 7, 3) := by decide +kernel
theorem dL_changes_151 : decode cL_changes 151 = .ok (.iconst 1, 1) := by decide +kernel
theorem dL_changes_152 : decode cL_changes 152 = .ok (.goto 4, 3) := by decide +kernel
theorem dL_changes_155 : decode cL_changes 155 = .ok (.iconst 0, 1) := by decide +kernel
theorem dL_changes_156 : decode cL_changes 156 = .ok (.ireturn, 1) := by decide +kernel
theorem dL_changes_157 : decode cL_changes 157 = .ok (.aload_n 0, 1) := by decide +kernel
theorem dL_changes_158 : decode cL_changes 158 = .ok (.iload_n 2, 1) := by decide +kernel
theorem dL_changes_159 : decode cL_changes 159 = .ok (.invokestatic 155, 3) := by decide +kernel
theorem dL_changes_162 : decode cL_changes 162 = .ok (.ifCond .lt 7, 3) := by decide +kernel
theorem dL_changes_165 : decode cL_changes 165 = .ok (.iconst 1, 1) := by decide +kernel
theorem dL_changes_166 : decode cL_changes 166 = .ok (.goto 4, 3) := by decide +kernel
theorem dL_changes_169 : decode cL_changes 169 = .ok (.iconst 0, 1) := by decide +kernel
theorem dL_changes_170 : decode cL_changes 170 = .ok (.ireturn, 1) := by decide +kernel
theorem dL_changes_171 : decode cL_changes 171 = .ok (.aload_n 0, 1) := by decide +kernel
theorem dL_changes_172 : decode cL_changes 172 = .ok (.iload_n 2, 1) := by decide +kernel
theorem dL_changes_173 : decode cL_changes 173 = .ok (.invokestatic 206, 3) := by decide +kernel
theorem dL_changes_176 : decode cL_changes 176 = .ok (.ifCond .lt 7, 3) := by decide +kernel
theorem dL_changes_179 : decode cL_changes 179 = .ok (.iconst 1, 1) := by decide +kernel
theorem dL_changes_180 : decode cL_changes 180 = .ok (.goto 4, 3) := by decide +kernel
theorem dL_changes_183 : decode cL_changes 183 = .ok (.iconst 0, 1) := by decide +kernel
theorem dL_changes_184 : decode cL_changes 184 = .ok (.ireturn, 1) := by decide +kernel
theorem dL_changes_185 : decode cL_changes 185 = .ok (.aload_n 0, 1) := by decide +kernel
theorem dL_changes_186 : decode cL_changes 186 = .ok (.iload_n 1, 1) := by decide +kernel
theorem dL_changes_187 : decode cL_changes 187 = .ok (.iconst 4, 1) := by decide +kernel
theorem dL_changes_188 : decode cL_changes 188 = .ok (.ishr, 1) := by decide +kernel
theorem dL_changes_189 : decode cL_changes 189 = .ok (.bipush 6, 2) := by decide +kernel
theorem dL_changes_191 : decode cL_changes 191 = .ok (.invokestatic 147, 3) := by decide +kernel
theorem dL_changes_194 : decode cL_changes 194 = .ok (.iload_n 1, 1) := by decide +kernel
theorem dL_changes_195 : decode cL_changes 195 = .ok (.bipush 8, 2) := by decide +kernel
theorem dL_changes_197 : decode cL_changes 197 = .ok (.ishr, 1) := by decide +kernel
theorem dL_changes_198 : decode cL_changes 198 = .ok (.iconst 1, 1) := by decide +kernel
theorem dL_changes_199 : decode cL_changes 199 = .ok (.iand, 1) := by decide +kernel
theorem dL_changes_200 : decode cL_changes 200 = .ok (.ifCond .ne 7, 3) := by decide +kernel
theorem dL_changes_203 : decode cL_changes 203 = .ok (.iconst 1, 1) := by decide +kernel
theorem dL_changes_204 : decode cL_changes 204 = .ok (.goto 4, 3) := by decide +kernel
theorem dL_changes_207 : decode cL_changes 207 = .ok (.iconst 0, 1) := by decide +kernel
theorem dL_changes_208 : decode cL_changes 208 = .ok (.invokestatic 208, 3) := by decide +kernel
theorem dL_changes_211 : decode cL_changes 211 = .ok (.ifCond .lt 7, 3) := by decide +kernel
theorem dL_changes_214 : decode cL_changes 214 = .ok (.iconst 1, 1) := by decide +kernel
theorem dL_changes_215 : decode cL_changes 215 = .ok (.goto 4, 3) := by decide +kernel
theorem dL_changes_218 : decode cL_changes 218 = .ok (.iconst 0, 1) := by decide +kernel
theorem dL_changes_219 : decode cL_changes 219 = .ok (.ireturn, 1) := by decide +kernel
theorem dL_changes_220 : decode cL_changes 220 = .ok (.aload_n 0, 1) := by decide +kernel
theorem dL_changes_221 : decode cL_changes 221 = .ok (.iload_n 1, 1) := by decide +kernel
theorem dL_changes_222 : decode cL_changes 222 = .ok (.iconst 4, 1) := by decide +kernel
theorem dL_changes_223 : decode cL_changes 223 = .ok (.ishr, 1) := by decide +kernel
theorem dL_changes_224 : decode cL_changes 224 = .ok (.bipush 6, 2) := by decide +kernel
theorem dL_changes_226 : decode cL_changes 226 = .ok (.invokestatic 147, 3) := by decide +kernel
theorem dL_changes_229 : decode cL_changes 229 = .ok (.iload_n 1, 1) := by decide +kernel
theorem dL_changes_230 : decode cL_changes 230 = .ok (.bipush 7, 2) := by decide +kernel
theorem dL_changes_232 : decode cL_changes 232 = .ok (.ishr, 1) := by decide +kernel
theorem dL_changes_233 : decode cL_changes 233 = .ok (.bipush 7, 2) := by decide +kernel
theorem dL_changes_235 : decode cL_changes 235 = .ok (.invokestatic 147, 3) := by decide +kernel
theorem dL_changes_238 : decode cL_changes 238 = .ok (.invokestatic 211, 3) := by decide +kernel
theorem dL_changes_241 : decode cL_changes 241 = .ok (.ifCond .lt 7, 3) := by decide +kernel
theorem dL_changes_244 : decode cL_changes 244 = .ok (.iconst 1, 1) := by decide +kernel
theorem dL_changes_245 : decode cL_changes 245 = .ok (.goto 4, 3) := by decide +kernel
theorem dL_changes_248 : decode cL_changes 248 = .ok (.iconst 0, 1) := by decide +kernel
theorem dL_changes_249 : decode cL_changes 249 = .ok (.ireturn, 1) := by decide +kernel
theorem dL_changes_250 : decode cL_changes 250 = .ok (.aload_n 0, 1) := by decide +kernel
theorem dL_changes_251 : decode cL_changes 251 = .ok (.iload_n 1, 1) := by decide +kernel
theorem dL_changes_252 : decode cL_changes 252 = .ok (.iconst 4, 1) := by decide +kernel
theorem dL_changes_253 : decode cL_changes 253 = .ok (.ishr, 1) := by decide +kernel
theorem dL_changes_254 : decode cL_changes 254 = .ok (.iload_n 1, 1) := by decide +kernel
theorem dL_changes_255 : decode cL_changes 255 = .ok (.bipush 9, 2) := by decide +kernel
theorem dL_changes_257 : decode cL_changes 257 = .ok (.ishr, 1) := by decide +kernel
theorem dL_changes_258 : decode cL_changes 258 = .ok (.iconst 1, 1) := by decide +kernel
theorem dL_changes_259 : decode cL_changes 259 = .ok (.iand, 1) := by decide +kernel
theorem dL_changes_260 : decode cL_changes 260 = .ok (.ifCond .ne 7, 3) := by decide +kernel
theorem dL_changes_263 : decode cL_changes 263 = .ok (.iconst 5, 1) := by decide +kernel
theorem dL_changes_264 : decode cL_changes 264 = .ok (.goto 5, 3) := by decide +kernel
theorem dL_changes_267 : decode cL_changes 267 = .ok (.bipush 42, 2) := by decide +kernel
theorem dL_changes_269 : decode cL_changes 269 = .ok (.invokestatic 147, 3) := by decide +kernel
theorem dL_changes_272 : decode cL_changes 272 = .ok (.invokestatic 157, 3) := by decide +kernel
theorem dL_changes_275 : decode cL_changes 275 = .ok (.ifCond .lt 7, 3) := by decide +kernel
theorem dL_changes_278 : decode cL_changes 278 = .ok (.iconst 1, 1) := by decide +kernel
theorem dL_changes_279 : decode cL_changes 279 = .ok (.goto 4, 3) := by decide +kernel
theorem dL_changes_282 : decode cL_changes 282 = .ok (.iconst 0, 1) := by decide +kernel
theorem dL_changes_283 : decode cL_changes 283 = .ok (.ireturn, 1) := by decide +kernel
theorem dL_changes_284 : decode cL_changes 284 = .ok (.aload_n 0, 1) := by decide +kernel
theorem dL_changes_285 : decode cL_changes 285 = .ok (.iload_n 1, 1) := by decide +kernel
theorem dL_changes_286 : decode cL_changes 286 = .ok (.bipush 6, 2) := by decide +kernel
theorem dL_changes_288 : decode cL_changes 288 = .ok (.ishr, 1) := by decide +kernel
theorem dL_changes_289 : decode cL_changes 289 = .ok (.iconst 1, 1) := by decide +kernel
theorem dL_changes_290 : decode cL_changes 290 = .ok (.iand, 1) := by decide +kernel
theorem dL_changes_291 : decode cL_changes 291 = .ok (.ifCond .ne 47, 3) := by decide +kernel
theorem dL_changes_294 : decode cL_changes 294 = .ok (.new 213, 3) := by decide +kernel
theorem dL_changes_297 : decode cL_changes 297 = .ok (.dup, 1) := by decide +kernel
theorem dL_changes_298 : decode cL_changes 298 = .ok (.invokespecial 215, 3) := by decide +kernel
theorem dL_changes_301 : decode cL_changes 301 = .ok (.ldc 216, 2) := by decide +kernel
theorem dL_changes_303 : decode cL_changes 303 = .ok (.invokevirtual 218, 3) := by decide +kernel
theorem dL_changes_306 : decode cL_changes 306 = .ok (.iload_n 1, 1) := by decide +kernel
theorem dL_changes_307 : decode cL_changes 307 = .ok (.iconst 3, 1) := by decide +kernel
theorem dL_changes_308 : decode cL_changes 308 = .ok (.ishr, 1) := by decide +kernel
theorem dL_changes_309 : decode cL_changes 309 = .ok (.bipush 6, 2) := by decide +kernel
theorem dL_changes_311 : decode cL_changes 311 = .ok (.invokestatic 147, 3) := by decide +kernel
theorem dL_changes_314 : decode cL_changes 314 = .ok (.invokevirtual 222, 3) := by decide +kernel
theorem dL_changes_317 : decode cL_changes 317 = .ok (.ldc 225, 2) := by decide +kernel
theorem dL_changes_319 : decode cL_changes 319 = .ok (.invokevirtual 218, 3) := by decide +kernel
theorem dL_changes_322 : decode cL_changes 322 = .ok (.iload_n 1, 1) := by decide +kernel
theorem dL_changes_323 : decode cL_changes 323 = .ok (.iconst 5, 1) := by decide +kernel
theorem dL_changes_324 : decode cL_changes 324 = .ok (.ishr, 1) := by decide +kernel
theorem dL_changes_325 : decode cL_changes 325 = .ok (.iconst 4, 1) := by decide +kernel
theorem dL_changes_326 : decode cL_changes 326 = .ok (.invokestatic 147, 3) := by decide +kernel
theorem dL_changes_329 : decode cL_changes 329 = .ok (.invokevirtual 222, 3) := by decide +kernel
theorem dL_changes_332 : decode cL_changes 332 = .ok (.invokevirtual 227, 3) := by decide +kernel
theorem dL_changes_335 : decode cL_changes 335 = .ok (.goto 43, 3) := by decide +kernel
theorem dL_changes_338 : decode cL_changes 338 = .ok (.new 213, 3) := by decide +kernel
theorem dL_changes_341 : decode cL_changes 341 = .ok (.dup, 1) := by decide +kernel
theorem dL_changes_342 : decode cL_changes 342 = .ok (.invokespecial 215, 3) := by decide +kernel
theorem dL_changes_345 : decode cL_changes 345 = .ok (.ldc 231, 2) := by decide +kernel
theorem dL_changes_347 : decode cL_changes 347 = .ok (.invokevirtual 218, 3) := by decide +kernel
theorem dL_changes_350 : decode cL_changes 350 = .ok (.iload_n 1, 1) := by decide +kernel
theorem dL_changes_351 : decode cL_changes 351 = .ok (.iconst 3, 1) := by decide +kernel
theorem dL_changes_352 : decode cL_changes 352 = .ok (.ishr, 1) := by decide +kernel
theorem dL_changes_353 : decode cL_changes 353 = .ok (.bipush 6, 2) := by decide +kernel
theorem dL_changes_355 : decode cL_changes 355 = .ok (.invokestatic 147, 3) := by decide +kernel
theorem dL_changes_358 : decode cL_changes 358 = .ok (.invokevirtual 222, 3) := by decide +kernel
theorem dL_changes_361 : decode cL_changes 361 = .ok (.ldc 233, 2) := by decide +kernel
theorem dL_changes_363 : decode cL_changes 363 = .ok (.invokevirtual 218, 3) := by decide +kernel
theorem dL_changes_366 : decode cL_changes 366 = .ok (.iload_n 2, 1) := by decide +kernel
theorem dL_changes_367 : decode cL_changes 367 = .ok (.invokevirtual 222, 3) := by decide +kernel
theorem dL_changes_370 : decode cL_changes 370 = .ok (.ldc 235, 2) := by decide +kernel
theorem dL_changes_372 : decode cL_changes 372 = .ok (.invokevirtual 218, 3) := by decide +kernel
theorem dL_changes_375 : decode cL_changes 375 = .ok (.invokevirtual 227, 3) := by decide +kernel
theorem dL_changes_378 : decode cL_changes 378 = .ok (.invokestatic 237, 3) := by decide +kernel
theorem dL_changes_381 : decode cL_changes 381 = .ok (.ifCond .lt 7, 3) := by decide +kernel
theorem dL_changes_384 : decode cL_changes 384 = .ok (.iconst 1, 1) := by decide +kernel
theorem dL_changes_385 : decode cL_changes 385 = .ok (.goto 4, 3) := by decide +kernel
theorem dL_changes_388 : decode cL_changes 388 = .ok (.iconst 0, 1) := by decide +kernel
theorem dL_changes_389 : decode cL_changes 389 = .ok (.ireturn, 1) := by decide +kernel
theorem dL_refused_0 : decode cL_refused 0 = .ok (.aload_n 0, 1) := by decide +kernel
theorem dL_refused_1 : decode cL_refused 1 = .ok (.invokestatic 241, 3) := by decide +kernel
theorem dL_refused_4 : decode cL_refused 4 = .ok (.lstore_n 1, 1) := by decide +kernel
theorem dL_refused_5 : decode cL_refused 5 = .ok (.aload_n 0, 1) := by decide +kernel
theorem dL_refused_6 : decode cL_refused 6 = .ok (.iconst 1, 1) := by decide +kernel
theorem dL_refused_7 : decode cL_refused 7 = .ok (.invokestatic 179, 3) := by decide +kernel
theorem dL_refused_10 : decode cL_refused 10 = .ok (.istore_n 3, 1) := by decide +kernel
theorem dL_refused_11 : decode cL_refused 11 = .ok (.aload_n 0, 1) := by decide +kernel
theorem dL_refused_12 : decode cL_refused 12 = .ok (.iconst 1, 1) := by decide +kernel
theorem dL_refused_13 : decode cL_refused 13 = .ok (.invokestatic 135, 3) := by decide +kernel
theorem dL_refused_16 : decode cL_refused 16 = .ok (.istore 4, 2) := by decide +kernel
theorem dL_refused_18 : decode cL_refused 18 = .ok (.aload_n 0, 1) := by decide +kernel
theorem dL_refused_19 : decode cL_refused 19 = .ok (.iconst 5, 1) := by decide +kernel
theorem dL_refused_20 : decode cL_refused 20 = .ok (.invokestatic 150, 3) := by decide +kernel
theorem dL_refused_23 : decode cL_refused 23 = .ok (.sipush (-1001), 3) := by decide +kernel
theorem dL_refused_26 : decode cL_refused 26 = .ok (.if_icmp .ne 287, 3) := by decide +kernel
theorem dL_refused_29 : decode cL_refused 29 = .ok (.aload_n 0, 1) := by decide +kernel
theorem dL_refused_30 : decode cL_refused 30 = .ok (.iconst (-1), 1) := by decide +kernel
theorem dL_refused_31 : decode cL_refused 31 = .ok (.invokestatic 150, 3) := by decide +kernel
theorem dL_refused_34 : decode cL_refused 34 = .ok (.sipush (-1001), 3) := by decide +kernel
theorem dL_refused_37 : decode cL_refused 37 = .ok (.if_icmp .ne 276, 3) := by decide +kernel
theorem dL_refused_40 : decode cL_refused 40 = .ok (.aload_n 0, 1) := by decide +kernel
theorem dL_refused_41 : decode cL_refused 41 = .ok (.iload_n 3, 1) := by decide +kernel
theorem dL_refused_42 : decode cL_refused 42 = .ok (.bipush 9, 2) := by decide +kernel
theorem dL_refused_44 : decode cL_refused 44 = .ok (.iconst 0, 1) := by decide +kernel
theorem dL_refused_45 : decode cL_refused 45 = .ok (.iconst 0, 1) := by decide +kernel
theorem dL_refused_46 : decode cL_refused 46 = .ok (.iconst 0, 1) := by decide +kernel
theorem dL_refused_47 : decode cL_refused 47 = .ok (.invokestatic 152, 3) := by decide +kernel
theorem dL_refused_50 : decode cL_refused 50 = .ok (.sipush (-1001), 3) := by decide +kernel
theorem dL_refused_53 : decode cL_refused 53 = .ok (.if_icmp .ne 260, 3) := by decide +kernel
theorem dL_refused_56 : decode cL_refused 56 = .ok (.aload_n 0, 1) := by decide +kernel
theorem dL_refused_57 : decode cL_refused 57 = .ok (.iconst 0, 1) := by decide +kernel
theorem dL_refused_58 : decode cL_refused 58 = .ok (.bipush 9, 2) := by decide +kernel
theorem dL_refused_60 : decode cL_refused 60 = .ok (.iconst 5, 1) := by decide +kernel
theorem dL_refused_61 : decode cL_refused 61 = .ok (.iconst 0, 1) := by decide +kernel
theorem dL_refused_62 : decode cL_refused 62 = .ok (.iconst 0, 1) := by decide +kernel
theorem dL_refused_63 : decode cL_refused 63 = .ok (.invokestatic 152, 3) := by decide +kernel
theorem dL_refused_66 : decode cL_refused 66 = .ok (.sipush (-1001), 3) := by decide +kernel
theorem dL_refused_69 : decode cL_refused 69 = .ok (.if_icmp .ne 244, 3) := by decide +kernel
theorem dL_refused_72 : decode cL_refused 72 = .ok (.aload_n 0, 1) := by decide +kernel
theorem dL_refused_73 : decode cL_refused 73 = .ok (.iconst 0, 1) := by decide +kernel
theorem dL_refused_74 : decode cL_refused 74 = .ok (.bipush 9, 2) := by decide +kernel
theorem dL_refused_76 : decode cL_refused 76 = .ok (.iconst 0, 1) := by decide +kernel
theorem dL_refused_77 : decode cL_refused 77 = .ok (.bipush 20, 2) := by decide +kernel
theorem dL_refused_79 : decode cL_refused 79 = .ok (.iconst 0, 1) := by decide +kernel
theorem dL_refused_80 : decode cL_refused 80 = .ok (.invokestatic 152, 3) := by decide +kernel
theorem dL_refused_83 : decode cL_refused 83 = .ok (.sipush (-1001), 3) := by decide +kernel
theorem dL_refused_86 : decode cL_refused 86 = .ok (.if_icmp .ne 227, 3) := by decide +kernel
theorem dL_refused_89 : decode cL_refused 89 = .ok (.aload_n 0, 1) := by decide +kernel
theorem dL_refused_90 : decode cL_refused 90 = .ok (.iconst 0, 1) := by decide +kernel
theorem dL_refused_91 : decode cL_refused 91 = .ok (.bipush 9, 2) := by decide +kernel
theorem dL_refused_93 : decode cL_refused 93 = .ok (.iconst 0, 1) := by decide +kernel
theorem dL_refused_94 : decode cL_refused 94 = .ok (.iconst (-1), 1) := by decide +kernel
theorem dL_refused_95 : decode cL_refused 95 = .ok (.iconst 0, 1) := by decide +kernel
theorem dL_refused_96 : decode cL_refused 96 = .ok (.invokestatic 152, 3) := by decide +kernel
theorem dL_refused_99 : decode cL_refused 99 = .ok (.sipush (-1001), 3) := by decide +kernel
theorem dL_refused_102 : decode cL_refused 102 = .ok (.if_icmp .ne 211, 3) := by decide +kernel
theorem dL_refused_105 : decode cL_refused 105 = .ok (.aload_n 0, 1) := by decide +kernel
theorem dL_refused_106 : decode cL_refused 106 = .ok (.iconst 0, 1) := by decide +kernel
theorem dL_refused_107 : decode cL_refused 107 = .ok (.iconst 3, 1) := by decide +kernel
theorem dL_refused_108 : decode cL_refused 108 = .ok (.iconst 0, 1) := by decide +kernel
theorem dL_refused_109 : decode cL_refused 109 = .ok (.iconst 0, 1) := by decide +kernel
theorem dL_refused_110 : decode cL_refused 110 = .ok (.iconst 1, 1) := by decide +kernel
theorem dL_refused_111 : decode cL_refused 111 = .ok (.invokestatic 152, 3) := by decide +kernel
theorem dL_refused_114 : decode cL_refused 114 = .ok (.sipush (-1002), 3) := by decide +kernel
theorem dL_refused_117 : decode cL_refused 117 = .ok (.if_icmp .ne 196, 3) := by decide +kernel
theorem dL_refused_120 : decode cL_refused 120 = .ok (.aload_n 0, 1) := by decide +kernel
theorem dL_refused_121 : decode cL_refused 121 = .ok (.iconst 0, 1) := by decide +kernel
theorem dL_refused_122 : decode cL_refused 122 = .ok (.iconst 0, 1) := by decide +kernel
theorem dL_refused_123 : decode cL_refused 123 = .ok (.iconst 0, 1) := by decide +kernel
theorem dL_refused_124 : decode cL_refused 124 = .ok (.iconst 0, 1) := by decide +kernel
theorem dL_refused_125 : decode cL_refused 125 = .ok (.iconst 2, 1) := by decide +kernel
theorem dL_refused_126 : decode cL_refused 126 = .ok (.invokestatic 152, 3) := by decide +kernel
theorem dL_refused_129 : decode cL_refused 129 = .ok (.sipush (-1002), 3) := by decide +kernel
theorem dL_refused_132 : decode cL_refused 132 = .ok (.if_icmp .ne 181, 3) := by decide +kernel
theorem dL_refused_135 : decode cL_refused 135 = .ok (.aload_n 0, 1) := by decide +kernel
theorem dL_refused_136 : decode cL_refused 136 = .ok (.iconst 0, 1) := by decide +kernel
theorem dL_refused_137 : decode cL_refused 137 = .ok (.iconst 1, 1) := by decide +kernel
theorem dL_refused_138 : decode cL_refused 138 = .ok (.iconst 0, 1) := by decide +kernel
theorem dL_refused_139 : decode cL_refused 139 = .ok (.iconst 0, 1) := by decide +kernel
theorem dL_refused_140 : decode cL_refused 140 = .ok (.iconst 5, 1) := by decide +kernel
theorem dL_refused_141 : decode cL_refused 141 = .ok (.invokestatic 152, 3) := by decide +kernel
theorem dL_refused_144 : decode cL_refused 144 = .ok (.sipush (-1002), 3) := by decide +kernel
theorem dL_refused_147 : decode cL_refused 147 = .ok (.if_icmp .ne 166, 3) := by decide +kernel
theorem dL_refused_150 : decode cL_refused 150 = .ok (.aload_n 0, 1) := by decide +kernel
theorem dL_refused_151 : decode cL_refused 151 = .ok (.iconst 0, 1) := by decide +kernel
theorem dL_refused_152 : decode cL_refused 152 = .ok (.iconst 2, 1) := by decide +kernel
theorem dL_refused_153 : decode cL_refused 153 = .ok (.iconst 0, 1) := by decide +kernel
theorem dL_refused_154 : decode cL_refused 154 = .ok (.iconst 0, 1) := by decide +kernel
theorem dL_refused_155 : decode cL_refused 155 = .ok (.bipush 13, 2) := by decide +kernel
theorem dL_refused_157 : decode cL_refused 157 = .ok (.invokestatic 152, 3) := by decide +kernel
theorem dL_refused_160 : decode cL_refused 160 = .ok (.sipush (-1002), 3) := by decide +kernel
theorem dL_refused_163 : decode cL_refused 163 = .ok (.if_icmp .ne 150, 3) := by decide +kernel
theorem dL_refused_166 : decode cL_refused 166 = .ok (.aload_n 0, 1) := by decide +kernel
theorem dL_refused_167 : decode cL_refused 167 = .ok (.iconst 0, 1) := by decide +kernel
theorem dL_refused_168 : decode cL_refused 168 = .ok (.iconst 2, 1) := by decide +kernel
theorem dL_refused_169 : decode cL_refused 169 = .ok (.iconst 0, 1) := by decide +kernel
theorem dL_refused_170 : decode cL_refused 170 = .ok (.iconst 0, 1) := by decide +kernel
theorem dL_refused_171 : decode cL_refused 171 = .ok (.iconst 0, 1) := by decide +kernel
theorem dL_refused_172 : decode cL_refused 172 = .ok (.invokestatic 152, 3) := by decide +kernel
theorem dL_refused_175 : decode cL_refused 175 = .ok (.sipush (-1002), 3) := by decide +kernel
theorem dL_refused_178 : decode cL_refused 178 = .ok (.if_icmp .ne 135, 3) := by decide +kernel
theorem dL_refused_181 : decode cL_refused 181 = .ok (.aload_n 0, 1) := by decide +kernel
theorem dL_refused_182 : decode cL_refused 182 = .ok (.iload_n 3, 1) := by decide +kernel
theorem dL_refused_183 : decode cL_refused 183 = .ok (.invokestatic 155, 3) := by decide +kernel
theorem dL_refused_186 : decode cL_refused 186 = .ok (.sipush (-1001), 3) := by decide +kernel
theorem dL_refused_189 : decode cL_refused 189 = .ok (.if_icmp .ne 124, 3) := by decide +kernel
theorem dL_refused_192 : decode cL_refused 192 = .ok (.aload_n 0, 1) := by decide +kernel
theorem dL_refused_193 : decode cL_refused 193 = .ok (.iconst (-1), 1) := by decide +kernel
theorem dL_refused_194 : decode cL_refused 194 = .ok (.invokestatic 155, 3) := by decide +kernel
theorem dL_refused_197 : decode cL_refused 197 = .ok (.sipush (-1001), 3) := by decide +kernel
theorem dL_refused_200 : decode cL_refused 200 = .ok (.if_icmp .ne 113, 3) := by decide +kernel
theorem dL_refused_203 : decode cL_refused 203 = .ok (.aload_n 0, 1) := by decide +kernel
theorem dL_refused_204 : decode cL_refused 204 = .ok (.iload_n 3, 1) := by decide +kernel
theorem dL_refused_205 : decode cL_refused 205 = .ok (.invokestatic 206, 3) := by decide +kernel
theorem dL_refused_208 : decode cL_refused 208 = .ok (.sipush (-1001), 3) := by decide +kernel
theorem dL_refused_211 : decode cL_refused 211 = .ok (.if_icmp .ne 102, 3) := by decide +kernel
theorem dL_refused_214 : decode cL_refused 214 = .ok (.aload_n 0, 1) := by decide +kernel
theorem dL_refused_215 : decode cL_refused 215 = .ok (.iconst 5, 1) := by decide +kernel
theorem dL_refused_216 : decode cL_refused 216 = .ok (.iconst 1, 1) := by decide +kernel
theorem dL_refused_217 : decode cL_refused 217 = .ok (.invokestatic 208, 3) := by decide +kernel
theorem dL_refused_220 : decode cL_refused 220 = .ok (.sipush (-1001), 3) := by decide +kernel
theorem dL_refused_223 : decode cL_refused 223 = .ok (.if_icmp .ne 90, 3) := by decide +kernel
theorem dL_refused_226 : decode cL_refused 226 = .ok (.aload_n 0, 1) := by decide +kernel
theorem dL_refused_227 : decode cL_refused 227 = .ok (.iconst (-1), 1) := by decide +kernel
theorem dL_refused_228 : decode cL_refused 228 = .ok (.iconst 0, 1) := by decide +kernel
theorem dL_refused_229 : decode cL_refused 229 = .ok (.invokestatic 208, 3) := by decide +kernel
theorem dL_refused_232 : decode cL_refused 232 = .ok (.sipush (-1001), 3) := by decide +kernel
theorem dL_refused_235 : decode cL_refused 235 = .ok (.if_icmp .ne 78, 3) := by decide +kernel
theorem dL_refused_238 : decode cL_refused 238 = .ok (.aload_n 0, 1) := by decide +kernel
theorem dL_refused_239 : decode cL_refused 239 = .ok (.iconst 5, 1) := by decide +kernel
theorem dL_refused_240 : decode cL_refused 240 = .ok (.bipush 9, 2) := by decide +kernel
theorem dL_refused_242 : decode cL_refused 242 = .ok (.invokestatic 211, 3) := by decide +kernel
theorem dL_refused_245 : decode cL_refused 245 = .ok (.sipush (-1001), 3) := by decide +kernel
theorem dL_refused_248 : decode cL_refused 248 = .ok (.if_icmp .ne 65, 3) := by decide +kernel
theorem dL_refused_251 : decode cL_refused 251 = .ok (.aload_n 0, 1) := by decide +kernel
theorem dL_refused_252 : decode cL_refused 252 = .ok (.iconst 0, 1) := by decide +kernel
theorem dL_refused_253 : decode cL_refused 253 = .ok (.iconst 0, 1) := by decide +kernel
theorem dL_refused_254 : decode cL_refused 254 = .ok (.invokestatic 211, 3) := by decide +kernel
theorem dL_refused_257 : decode cL_refused 257 = .ok (.sipush (-1002), 3) := by decide +kernel
theorem dL_refused_260 : decode cL_refused 260 = .ok (.if_icmp .ne 53, 3) := by decide +kernel
theorem dL_refused_263 : decode cL_refused 263 = .ok (.aload_n 0, 1) := by decide +kernel
theorem dL_refused_264 : decode cL_refused 264 = .ok (.iconst 0, 1) := by decide +kernel
theorem dL_refused_265 : decode cL_refused 265 = .ok (.bipush 6, 2) := by decide +kernel
theorem dL_refused_267 : decode cL_refused 267 = .ok (.invokestatic 211, 3) := by decide +kernel
theorem dL_refused_270 : decode cL_refused 270 = .ok (.sipush (-1002), 3) := by decide +kernel
theorem dL_refused_273 : decode cL_refused 273 = .ok (.if_icmp .ne 40, 3) := by decide +kernel
theorem dL_refused_276 : decode cL_refused 276 = .ok (.aload_n 0, 1) := by decide +kernel
theorem dL_refused_277 : decode cL_refused 277 = .ok (.iconst 0, 1) := by decide +kernel
theorem dL_refused_278 : decode cL_refused 278 = .ok (.invokestatic 157, 3) := by decide +kernel
theorem dL_refused_281 : decode cL_refused 281 = .ok (.sipush (-1001), 3) := by decide +kernel
theorem dL_refused_284 : decode cL_refused 284 = .ok (.if_icmp .ne 29, 3) := by decide +kernel
theorem dL_refused_287 : decode cL_refused 287 = .ok (.aload_n 0, 1) := by decide +kernel
theorem dL_refused_288 : decode cL_refused 288 = .ok (.bipush 41, 2) := by decide +kernel
theorem dL_refused_290 : decode cL_refused 290 = .ok (.invokestatic 157, 3) := by decide +kernel
theorem dL_refused_293 : decode cL_refused 293 = .ok (.sipush (-1001), 3) := by decide +kernel
theorem dL_refused_296 : decode cL_refused 296 = .ok (.if_icmp .ne 17, 3) := by decide +kernel
theorem dL_refused_299 : decode cL_refused 299 = .ok (.aload_n 0, 1) := by decide +kernel
theorem dL_refused_300 : decode cL_refused 300 = .ok (.iconst 1, 1) := by decide +kernel
theorem dL_refused_301 : decode cL_refused 301 = .ok (.invokestatic 135, 3) := by decide +kernel
theorem dL_refused_304 : decode cL_refused 304 = .ok (.iload 4, 2) := by decide +kernel
theorem dL_refused_306 : decode cL_refused 306 = .ok (.if_icmp .ne 7, 3) := by decide +kernel
theorem dL_refused_309 : decode cL_refused 309 = .ok (.iconst 1, 1) := by decide +kernel
theorem dL_refused_310 : decode cL_refused 310 = .ok (.goto 4, 3) := by decide +kernel
theorem dL_refused_313 : decode cL_refused 313 = .ok (.iconst 0, 1) := by decide +kernel
theorem dL_refused_314 : decode cL_refused 314 = .ok (.istore 5, 2) := by decide +kernel
theorem dL_refused_316 : decode cL_refused 316 = .ok (.iload 5, 2) := by decide +kernel
theorem dL_refused_318 : decode cL_refused 318 = .ok (.ifCond .eq 370, 3) := by decide +kernel
theorem dL_refused_321 : decode cL_refused 321 = .ok (.aload_n 0, 1) := by decide +kernel
theorem dL_refused_322 : decode cL_refused 322 = .ok (.iload_n 3, 1) := by decide +kernel
theorem dL_refused_323 : decode cL_refused 323 = .ok (.bipush 9, 2) := by decide +kernel
theorem dL_refused_325 : decode cL_refused 325 = .ok (.invokestatic 181, 3) := by decide +kernel
theorem dL_refused_328 : decode cL_refused 328 = .ok (.sipush (-1001), 3) := by decide +kernel
theorem dL_refused_331 : decode cL_refused 331 = .ok (.if_icmp .ne 357, 3) := by decide +kernel
theorem dL_refused_334 : decode cL_refused 334 = .ok (.aload_n 0, 1) := by decide +kernel
theorem dL_refused_335 : decode cL_refused 335 = .ok (.iconst 0, 1) := by decide +kernel
theorem dL_refused_336 : decode cL_refused 336 = .ok (.bipush 9, 2) := by decide +kernel
theorem dL_refused_338 : decode cL_refused 338 = .ok (.invokestatic 181, 3) := by decide +kernel
theorem dL_refused_341 : decode cL_refused 341 = .ok (.sipush (-1002), 3) := by decide +kernel
theorem dL_refused_344 : decode cL_refused 344 = .ok (.if_icmp .ne 344, 3) := by decide +kernel
theorem dL_refused_347 : decode cL_refused 347 = .ok (.aload_n 0, 1) := by decide +kernel
theorem dL_refused_348 : decode cL_refused 348 = .ok (.iconst 0, 1) := by decide +kernel
theorem dL_refused_349 : decode cL_refused 349 = .ok (.iconst (-1), 1) := by decide +kernel
theorem dL_refused_350 : decode cL_refused 350 = .ok (.invokestatic 181, 3) := by decide +kernel
theorem dL_refused_353 : decode cL_refused 353 = .ok (.sipush (-1002), 3) := by decide +kernel
theorem dL_refused_356 : decode cL_refused 356 = .ok (.if_icmp .ne 332, 3) := by decide +kernel
theorem dL_refused_359 : decode cL_refused 359 = .ok (.aload_n 0, 1) := by decide +kernel
theorem dL_refused_360 : decode cL_refused 360 = .ok (.iload_n 3, 1) := by decide +kernel
theorem dL_refused_361 : decode cL_refused 361 = .ok (.iconst 0, 1) := by decide +kernel
theorem dL_refused_362 : decode cL_refused 362 = .ok (.iconst 0, 1) := by decide +kernel
theorem dL_refused_363 : decode cL_refused 363 = .ok (.invokestatic 184, 3) := by decide +kernel
theorem dL_refused_366 : decode cL_refused 366 = .ok (.sipush (-1001), 3) := by decide +kernel
theorem dL_refused_369 : decode cL_refused 369 = .ok (.if_icmp .ne 319, 3) := by decide +kernel
theorem dL_refused_372 : decode cL_refused 372 = .ok (.aload_n 0, 1) := by decide +kernel
theorem dL_refused_373 : decode cL_refused 373 = .ok (.iconst 0, 1) := by decide +kernel
theorem dL_refused_374 : decode cL_refused 374 = .ok (.aload_n 0, 1) := by decide +kernel
theorem dL_refused_375 : decode cL_refused 375 = .ok (.iconst 0, 1) := by decide +kernel
theorem dL_refused_376 : decode cL_refused 376 = .ok (.iconst 2, 1) := by decide +kernel
theorem dL_refused_377 : decode cL_refused 377 = .ok (.invokestatic 181, 3) := by decide +kernel
theorem dL_refused_380 : decode cL_refused 380 = .ok (.bipush 9, 2) := by decide +kernel
theorem dL_refused_382 : decode cL_refused 382 = .ok (.invokestatic 184, 3) := by decide +kernel
theorem dL_refused_385 : decode cL_refused 385 = .ok (.sipush (-1001), 3) := by decide +kernel
theorem dL_refused_388 : decode cL_refused 388 = .ok (.if_icmp .ne 300, 3) := by decide +kernel
theorem dL_refused_391 : decode cL_refused 391 = .ok (.aload_n 0, 1) := by decide +kernel
theorem dL_refused_392 : decode cL_refused 392 = .ok (.iconst 0, 1) := by decide +kernel
theorem dL_refused_393 : decode cL_refused 393 = .ok (.iconst 0, 1) := by decide +kernel
theorem dL_refused_394 : decode cL_refused 394 = .ok (.iconst 5, 1) := by decide +kernel
theorem dL_refused_395 : decode cL_refused 395 = .ok (.invokestatic 184, 3) := by decide +kernel
theorem dL_refused_398 : decode cL_refused 398 = .ok (.sipush (-1002), 3) := by decide +kernel
theorem dL_refused_401 : decode cL_refused 401 = .ok (.if_icmp .ne 287, 3) := by decide +kernel
theorem dL_refused_404 : decode cL_refused 404 = .ok (.aload_n 0, 1) := by decide +kernel
theorem dL_refused_405 : decode cL_refused 405 = .ok (.iconst 0, 1) := by decide +kernel
theorem dL_refused_406 : decode cL_refused 406 = .ok (.iconst 0, 1) := by decide +kernel
theorem dL_refused_407 : decode cL_refused 407 = .ok (.iconst (-1), 1) := by decide +kernel
theorem dL_refused_408 : decode cL_refused 408 = .ok (.invokestatic 184, 3) := by decide +kernel
theorem dL_refused_411 : decode cL_refused 411 = .ok (.sipush (-1002), 3) := by decide +kernel
theorem dL_refused_414 : decode cL_refused 414 = .ok (.if_icmp .ne 274, 3) := by decide +kernel
theorem dL_refused_417 : decode cL_refused 417 = .ok (.aload_n 0, 1) := by decide +kernel
theorem dL_refused_418 : decode cL_refused 418 = .ok (.iconst 5, 1) := by decide +kernel
theorem dL_refused_419 : decode cL_refused 419 = .ok (.bipush 9, 2) := by decide +kernel
theorem dL_refused_421 : decode cL_refused 421 = .ok (.invokestatic 195, 3) := by decide +kernel
theorem dL_refused_424 : decode cL_refused 424 = .ok (.sipush (-1001), 3) := by decide +kernel
theorem dL_refused_427 : decode cL_refused 427 = .ok (.if_icmp .ne 261, 3) := by decide +kernel
theorem dL_refused_430 : decode cL_refused 430 = .ok (.aload_n 0, 1) := by decide +kernel
theorem dL_refused_431 : decode cL_refused 431 = .ok (.iconst 0, 1) := by decide +kernel
theorem dL_refused_432 : decode cL_refused 432 = .ok (.iconst 4, 1) := by decide +kernel
theorem dL_refused_433 : decode cL_refused 433 = .ok (.invokestatic 195, 3) := by decide +kernel
theorem dL_refused_436 : decode cL_refused 436 = .ok (.sipush (-1002), 3) := by decide +kernel
theorem dL_refused_439 : decode cL_refused 439 = .ok (.if_icmp .ne 249, 3) := by decide +kernel
theorem dL_refused_442 : decode cL_refused 442 = .ok (.aload_n 0, 1) := by decide +kernel
theorem dL_refused_443 : decode cL_refused 443 = .ok (.iconst 0, 1) := by decide +kernel
theorem dL_refused_444 : decode cL_refused 444 = .ok (.iconst (-1), 1) := by decide +kernel
theorem dL_refused_445 : decode cL_refused 445 = .ok (.invokestatic 195, 3) := by decide +kernel
theorem dL_refused_448 : decode cL_refused 448 = .ok (.sipush (-1002), 3) := by decide +kernel
theorem dL_refused_451 : decode cL_refused 451 = .ok (.if_icmp .ne 237, 3) := by decide +kernel
theorem dL_refused_454 : decode cL_refused 454 = .ok (.aload_n 0, 1) := by decide +kernel
theorem dL_refused_455 : decode cL_refused 455 = .ok (.iconst 3, 1) := by decide +kernel
theorem dL_refused_456 : decode cL_refused 456 = .ok (.iconst 0, 1) := by decide +kernel
theorem dL_refused_457 : decode cL_refused 457 = .ok (.iconst 0, 1) := by decide +kernel
theorem dL_refused_458 : decode cL_refused 458 = .ok (.invokestatic 197, 3) := by decide +kernel
theorem dL_refused_461 : decode cL_refused 461 = .ok (.sipush (-1001), 3) := by decide +kernel
theorem dL_refused_464 : decode cL_refused 464 = .ok (.if_icmp .ne 224, 3) := by decide +kernel
theorem dL_refused_467 : decode cL_refused 467 = .ok (.aload_n 0, 1) := by decide +kernel
theorem dL_refused_468 : decode cL_refused 468 = .ok (.iconst 0, 1) := by decide +kernel
theorem dL_refused_469 : decode cL_refused 469 = .ok (.iconst (-1), 1) := by decide +kernel
theorem dL_refused_470 : decode cL_refused 470 = .ok (.iconst 0, 1) := by decide +kernel
theorem dL_refused_471 : decode cL_refused 471 = .ok (.invokestatic 197, 3) := by decide +kernel
theorem dL_refused_474 : decode cL_refused 474 = .ok (.sipush (-1001), 3) := by decide +kernel
theorem dL_refused_477 : decode cL_refused 477 = .ok (.if_icmp .ne 211, 3) := by decide +kernel
theorem dL_refused_480 : decode cL_refused 480 = .ok (.aload_n 0, 1) := by decide +kernel
theorem dL_refused_481 : decode cL_refused 481 = .ok (.iconst 0, 1) := by decide +kernel
theorem dL_refused_482 : decode cL_refused 482 = .ok (.iconst 0, 1) := by decide +kernel
theorem dL_refused_483 : decode cL_refused 483 = .ok (.bipush 20, 2) := by decide +kernel
theorem dL_refused_485 : decode cL_refused 485 = .ok (.invokestatic 199, 3) := by decide +kernel
theorem dL_refused_488 : decode cL_refused 488 = .ok (.sipush (-1001), 3) := by decide +kernel
theorem dL_refused_491 : decode cL_refused 491 = .ok (.if_icmp .ne 197, 3) := by decide +kernel
theorem dL_refused_494 : decode cL_refused 494 = .ok (.aload_n 0, 1) := by decide +kernel
theorem dL_refused_495 : decode cL_refused 495 = .ok (.iload_n 3, 1) := by decide +kernel
theorem dL_refused_496 : decode cL_refused 496 = .ok (.invokestatic 187, 3) := by decide +kernel
theorem dL_refused_499 : decode cL_refused 499 = .ok (.sipush (-1001), 3) := by decide +kernel
theorem dL_refused_502 : decode cL_refused 502 = .ok (.if_icmp .ne 186, 3) := by decide +kernel
theorem dL_refused_505 : decode cL_refused 505 = .ok (.aload_n 0, 1) := by decide +kernel
theorem dL_refused_506 : decode cL_refused 506 = .ok (.iconst (-1), 1) := by decide +kernel
theorem dL_refused_507 : decode cL_refused 507 = .ok (.invokestatic 189, 3) := by decide +kernel
theorem dL_refused_510 : decode cL_refused 510 = .ok (.sipush (-1001), 3) := by decide +kernel
theorem dL_refused_513 : decode cL_refused 513 = .ok (.if_icmp .ne 175, 3) := by decide +kernel
theorem dL_refused_516 : decode cL_refused 516 = .ok (.aload_n 0, 1) := by decide +kernel
theorem dL_refused_517 : decode cL_refused 517 = .ok (.iload_n 3, 1) := by decide +kernel
theorem dL_refused_518 : decode cL_refused 518 = .ok (.invokestatic 191, 3) := by decide +kernel
theorem dL_refused_521 : decode cL_refused 521 = .ok (.sipush (-1001), 3) := by decide +kernel
theorem dL_refused_524 : decode cL_refused 524 = .ok (.if_icmp .ne 164, 3) := by decide +kernel
theorem dL_refused_527 : decode cL_refused 527 = .ok (.aload_n 0, 1) := by decide +kernel
theorem dL_refused_528 : decode cL_refused 528 = .ok (.iconst 3, 1) := by decide +kernel
theorem dL_refused_529 : decode cL_refused 529 = .ok (.iconst 0, 1) := by decide +kernel
theorem dL_refused_530 : decode cL_refused 530 = .ok (.bipush 99, 2) := by decide +kernel
theorem dL_refused_532 : decode cL_refused 532 = .ok (.invokestatic 201, 3) := by decide +kernel
theorem dL_refused_535 : decode cL_refused 535 = .ok (.sipush (-1001), 3) := by decide +kernel
theorem dL_refused_538 : decode cL_refused 538 = .ok (.if_icmp .ne 150, 3) := by decide +kernel
theorem dL_refused_541 : decode cL_refused 541 = .ok (.aload_n 0, 1) := by decide +kernel
theorem dL_refused_542 : decode cL_refused 542 = .ok (.iconst 0, 1) := by decide +kernel
theorem dL_refused_543 : decode cL_refused 543 = .ok (.iconst (-1), 1) := by decide +kernel
theorem dL_refused_544 : decode cL_refused 544 = .ok (.bipush 99, 2) := by decide +kernel
theorem dL_refused_546 : decode cL_refused 546 = .ok (.invokestatic 201, 3) := by decide +kernel
theorem dL_refused_549 : decode cL_refused 549 = .ok (.sipush (-1001), 3) := by decide +kernel
theorem dL_refused_552 : decode cL_refused 552 = .ok (.if_icmp .ne 136, 3) := by decide +kernel
theorem dL_refused_555 : decode cL_refused 555 = .ok (.aload_n 0, 1) := by decide +kernel
theorem dL_refused_556 : decode cL_refused 556 = .ok (.iconst 0, 1) := by decide +kernel
theorem dL_refused_557 : decode cL_refused 557 = .ok (.iconst 0, 1) := by decide +kernel
theorem dL_refused_558 : decode cL_refused 558 = .ok (.iconst 0, 1) := by decide +kernel
theorem dL_refused_559 : decode cL_refused 559 = .ok (.invokestatic 201, 3) := by decide +kernel
theorem dL_refused_562 : decode cL_refused 562 = .ok (.sipush (-1002), 3) := by decide +kernel
theorem dL_refused_565 : decode cL_refused 565 = .ok (.if_icmp .ne 123, 3) := by decide +kernel
theorem dL_refused_568 : decode cL_refused 568 = .ok (.aload_n 0, 1) := by decide +kernel
theorem dL_refused_569 : decode cL_refused 569 = .ok (.iconst 0, 1) := by decide +kernel
theorem dL_refused_570 : decode cL_refused 570 = .ok (.iconst 0, 1) := by decide +kernel
theorem dL_refused_571 : decode cL_refused 571 = .ok (.bipush 13, 2) := by decide +kernel
theorem dL_refused_573 : decode cL_refused 573 = .ok (.invokestatic 201, 3) := by decide +kernel
theorem dL_refused_576 : decode cL_refused 576 = .ok (.sipush (-1002), 3) := by decide +kernel
theorem dL_refused_579 : decode cL_refused 579 = .ok (.if_icmp .ne 109, 3) := by decide +kernel
theorem dL_refused_582 : decode cL_refused 582 = .ok (.aload_n 0, 1) := by decide +kernel
theorem dL_refused_583 : decode cL_refused 583 = .ok (.iconst 0, 1) := by decide +kernel
theorem dL_refused_584 : decode cL_refused 584 = .ok (.iconst 0, 1) := by decide +kernel
theorem dL_refused_585 : decode cL_refused 585 = .ok (.iconst 2, 1) := by decide +kernel
theorem dL_refused_586 : decode cL_refused 586 = .ok (.invokestatic 201, 3) := by decide +kernel
theorem dL_refused_589 : decode cL_refused 589 = .ok (.sipush (-1003), 3) := by decide +kernel
theorem dL_refused_592 : decode cL_refused 592 = .ok (.if_icmp .ne 96, 3) := by decide +kernel
theorem dL_refused_595 : decode cL_refused 595 = .ok (.aload_n 0, 1) := by decide +kernel
theorem dL_refused_596 : decode cL_refused 596 = .ok (.iload_n 3, 1) := by decide +kernel
theorem dL_refused_597 : decode cL_refused 597 = .ok (.invokestatic 193, 3) := by decide +kernel
theorem dL_refused_600 : decode cL_refused 600 = .ok (.sipush (-1001), 3) := by decide +kernel
theorem dL_refused_603 : decode cL_refused 603 = .ok (.if_icmp .ne 85, 3) := by decide +kernel
theorem dL_refused_606 : decode cL_refused 606 = .ok (.aload_n 0, 1) := by decide +kernel
theorem dL_refused_607 : decode cL_refused 607 = .ok (.iconst (-1), 1) := by decide +kernel
theorem dL_refused_608 : decode cL_refused 608 = .ok (.invokestatic 193, 3) := by decide +kernel
theorem dL_refused_611 : decode cL_refused 611 = .ok (.sipush (-1001), 3) := by decide +kernel
theorem dL_refused_614 : decode cL_refused 614 = .ok (.if_icmp .ne 74, 3) := by decide +kernel
theorem dL_refused_617 : decode cL_refused 617 = .ok (.aload_n 0, 1) := by decide +kernel
theorem dL_refused_618 : decode cL_refused 618 = .ok (.iload_n 3, 1) := by decide +kernel
theorem dL_refused_619 : decode cL_refused 619 = .ok (.invokestatic 138, 3) := by decide +kernel
theorem dL_refused_622 : decode cL_refused 622 = .ok (.sipush (-1001), 3) := by decide +kernel
theorem dL_refused_625 : decode cL_refused 625 = .ok (.if_icmp .ne 63, 3) := by decide +kernel
theorem dL_refused_628 : decode cL_refused 628 = .ok (.aload_n 0, 1) := by decide +kernel
theorem dL_refused_629 : decode cL_refused 629 = .ok (.iconst (-1), 1) := by decide +kernel
theorem dL_refused_630 : decode cL_refused 630 = .ok (.invokestatic 141, 3) := by decide +kernel
theorem dL_refused_633 : decode cL_refused 633 = .ok (.sipush (-1001), 3) := by decide +kernel
theorem dL_refused_636 : decode cL_refused 636 = .ok (.if_icmp .ne 52, 3) := by decide +kernel
theorem dL_refused_639 : decode cL_refused 639 = .ok (.aload_n 0, 1) := by decide +kernel
theorem dL_refused_640 : decode cL_refused 640 = .ok (.bipush 100, 2) := by decide +kernel
theorem dL_refused_642 : decode cL_refused 642 = .ok (.invokestatic 141, 3) := by decide +kernel
theorem dL_refused_645 : decode cL_refused 645 = .ok (.sipush (-1001), 3) := by decide +kernel
theorem dL_refused_648 : decode cL_refused 648 = .ok (.if_icmp .ne 40, 3) := by decide +kernel
theorem dL_refused_651 : decode cL_refused 651 = .ok (.aload_n 0, 1) := by decide +kernel
theorem dL_refused_652 : decode cL_refused 652 = .ok (.bipush 18, 2) := by decide +kernel
theorem dL_refused_654 : decode cL_refused 654 = .ok (.invokestatic 179, 3) := by decide +kernel
theorem dL_refused_657 : decode cL_refused 657 = .ok (.sipush (-1001), 3) := by decide +kernel
theorem dL_refused_660 : decode cL_refused 660 = .ok (.if_icmp .ne 28, 3) := by decide +kernel
theorem dL_refused_663 : decode cL_refused 663 = .ok (.aload_n 0, 1) := by decide +kernel
theorem dL_refused_664 : decode cL_refused 664 = .ok (.iconst (-1), 1) := by decide +kernel
theorem dL_refused_665 : decode cL_refused 665 = .ok (.invokestatic 179, 3) := by decide +kernel
theorem dL_refused_668 : decode cL_refused 668 = .ok (.sipush (-1001), 3) := by decide +kernel
theorem dL_refused_671 : decode cL_refused 671 = .ok (.if_icmp .ne 17, 3) := by decide +kernel
theorem dL_refused_674 : decode cL_refused 674 = .ok (.aload_n 0, 1) := by decide +kernel
theorem dL_refused_675 : decode cL_refused 675 = .ok (.iconst 1, 1) := by decide +kernel
theorem dL_refused_676 : decode cL_refused 676 = .ok (.invokestatic 135, 3) := by decide +kernel
theorem dL_refused_679 : decode cL_refused 679 = .ok (.iload 4, 2) := by decide +kernel
theorem dL_refused_681 : decode cL_refused 681 = .ok (.if_icmp .ne 7, 3) := by decide +kernel
theorem dL_refused_684 : decode cL_refused 684 = .ok (.iconst 1, 1) := by decide +kernel
theorem dL_refused_685 : decode cL_refused 685 = .ok (.goto 4, 3) := by decide +kernel
theorem dL_refused_688 : decode cL_refused 688 = .ok (.iconst 0, 1) := by decide +kernel
theorem dL_refused_689 : decode cL_refused 689 = .ok (.istore 5, 2) := by decide +kernel
theorem dL_refused_691 : decode cL_refused 691 = .ok (.iload 5, 2) := by decide +kernel
theorem dL_refused_693 : decode cL_refused 693 = .ok (.ifCond .eq 102, 3) := by decide +kernel
theorem dL_refused_696 : decode cL_refused 696 = .ok (.aload_n 0, 1) := by decide +kernel
theorem dL_refused_697 : decode cL_refused 697 = .ok (.iconst 0, 1) := by decide +kernel
theorem dL_refused_698 : decode cL_refused 698 = .ok (.invokestatic 155, 3) := by decide +kernel
theorem dL_refused_701 : decode cL_refused 701 = .ok (.sipush (-1002), 3) := by decide +kernel
theorem dL_refused_704 : decode cL_refused 704 = .ok (.if_icmp .ne 91, 3) := by decide +kernel
theorem dL_refused_707 : decode cL_refused 707 = .ok (.aload_n 0, 1) := by decide +kernel
theorem dL_refused_708 : decode cL_refused 708 = .ok (.iconst 2, 1) := by decide +kernel
theorem dL_refused_709 : decode cL_refused 709 = .ok (.aload_n 0, 1) := by decide +kernel
theorem dL_refused_710 : decode cL_refused 710 = .ok (.iconst 0, 1) := by decide +kernel
theorem dL_refused_711 : decode cL_refused 711 = .ok (.iconst 0, 1) := by decide +kernel
theorem dL_refused_712 : decode cL_refused 712 = .ok (.invokestatic 181, 3) := by decide +kernel
theorem dL_refused_715 : decode cL_refused 715 = .ok (.invokestatic 245, 3) := by decide +kernel
theorem dL_refused_718 : decode cL_refused 718 = .ok (.ifCond .eq 77, 3) := by decide +kernel
theorem dL_refused_721 : decode cL_refused 721 = .ok (.aload_n 0, 1) := by decide +kernel
theorem dL_refused_722 : decode cL_refused 722 = .ok (.iconst 0, 1) := by decide +kernel
theorem dL_refused_723 : decode cL_refused 723 = .ok (.iconst 0, 1) := by decide +kernel
theorem dL_refused_724 : decode cL_refused 724 = .ok (.iconst 0, 1) := by decide +kernel
theorem dL_refused_725 : decode cL_refused 725 = .ok (.iconst 0, 1) := by decide +kernel
theorem dL_refused_726 : decode cL_refused 726 = .ok (.iconst 1, 1) := by decide +kernel
theorem dL_refused_727 : decode cL_refused 727 = .ok (.invokestatic 152, 3) := by decide +kernel
theorem dL_refused_730 : decode cL_refused 730 = .ok (.sipush (-1003), 3) := by decide +kernel
theorem dL_refused_733 : decode cL_refused 733 = .ok (.if_icmp .ne 62, 3) := by decide +kernel
theorem dL_refused_736 : decode cL_refused 736 = .ok (.aload_n 0, 1) := by decide +kernel
theorem dL_refused_737 : decode cL_refused 737 = .ok (.iconst 2, 1) := by decide +kernel
