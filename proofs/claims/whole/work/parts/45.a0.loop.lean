/-! names of 45 -/
theorem d_L_0 : decode code 0 = .ok (.new 8, 3) := by decide +kernel
theorem d_L_3 : decode code 3 = .ok (.dup, 1) := by decide +kernel
theorem d_L_4 : decode code 4 = .ok (.invokespecial 33, 3) := by decide +kernel
theorem d_L_7 : decode code 7 = .ok (.astore_n 1, 1) := by decide +kernel
theorem d_L_8 : decode code 8 = .ok (.new 34, 3) := by decide +kernel
theorem d_L_11 : decode code 11 = .ok (.dup, 1) := by decide +kernel
theorem d_L_12 : decode code 12 = .ok (.invokespecial 36, 3) := by decide +kernel
theorem d_L_15 : decode code 15 = .ok (.astore_n 2, 1) := by decide +kernel
theorem d_L_16 : decode code 16 = .ok (.iconst 1, 1) := by decide +kernel
theorem d_L_17 : decode code 17 = .ok (.newarray .long, 2) := by decide +kernel
theorem d_L_19 : decode code 19 = .ok (.astore_n 3, 1) := by decide +kernel
theorem d_L_20 : decode code 20 = .ok (.iconst 0, 1) := by decide +kernel
theorem d_L_21 : decode code 21 = .ok (.istore 4, 2) := by decide +kernel
theorem d_L_23 : decode code 23 = .ok (.iload 4, 2) := by decide +kernel
theorem d_L_25 : decode code 25 = .ok (.aload_n 0, 1) := by decide +kernel
theorem d_L_26 : decode code 26 = .ok (.arraylength, 1) := by decide +kernel
theorem d_L_27 : decode code 27 = .ok (.iconst 5, 1) := by decide +kernel
theorem d_L_28 : decode code 28 = .ok (.isub, 1) := by decide +kernel
theorem d_L_29 : decode code 29 = .ok (.if_icmp .gt (472), 3) := by decide +kernel
theorem d_L_32 : decode code 32 = .ok (.aload_n 0, 1) := by decide +kernel
theorem d_L_33 : decode code 33 = .ok (.iload 4, 2) := by decide +kernel
theorem d_L_35 : decode code 35 = .ok (.iaload, 1) := by decide +kernel
theorem d_L_36 : decode code 36 = .ok (.bipush (15), 2) := by decide +kernel
theorem d_L_38 : decode code 38 = .ok (.iand, 1) := by decide +kernel
theorem d_L_39 : decode code 39 = .ok (.tableswitch (456) (0) (9) #[(53), (121), (182), (195), (208), (257), (306), (350), (406), (431)], 53) := by decide +kernel
theorem d_L_92 : decode code 92 = .ok (.aload_n 1, 1) := by decide +kernel
theorem d_L_93 : decode code 93 = .ok (.aload_n 0, 1) := by decide +kernel
theorem d_L_94 : decode code 94 = .ok (.iload 4, 2) := by decide +kernel
theorem d_L_96 : decode code 96 = .ok (.iconst 1, 1) := by decide +kernel
theorem d_L_97 : decode code 97 = .ok (.iadd, 1) := by decide +kernel
theorem d_L_98 : decode code 98 = .ok (.iaload, 1) := by decide +kernel
theorem d_L_99 : decode code 99 = .ok (.aload_n 0, 1) := by decide +kernel
theorem d_L_100 : decode code 100 = .ok (.iload 4, 2) := by decide +kernel
theorem d_L_102 : decode code 102 = .ok (.iconst 2, 1) := by decide +kernel
theorem d_L_103 : decode code 103 = .ok (.iadd, 1) := by decide +kernel
theorem d_L_104 : decode code 104 = .ok (.iaload, 1) := by decide +kernel
theorem d_L_105 : decode code 105 = .ok (.aload_n 3, 1) := by decide +kernel
theorem d_L_106 : decode code 106 = .ok (.invokestatic 37, 3) := by decide +kernel
theorem d_L_109 : decode code 109 = .ok (.istore 5, 2) := by decide +kernel
theorem d_L_111 : decode code 111 = .ok (.aload_n 2, 1) := by decide +kernel
theorem d_L_112 : decode code 112 = .ok (.aload_n 0, 1) := by decide +kernel
theorem d_L_113 : decode code 113 = .ok (.iload 4, 2) := by decide +kernel
theorem d_L_115 : decode code 115 = .ok (.iconst 1, 1) := by decide +kernel
theorem d_L_116 : decode code 116 = .ok (.iadd, 1) := by decide +kernel
theorem d_L_117 : decode code 117 = .ok (.iaload, 1) := by decide +kernel
theorem d_L_118 : decode code 118 = .ok (.aload_n 0, 1) := by decide +kernel
theorem d_L_119 : decode code 119 = .ok (.iload 4, 2) := by decide +kernel
theorem d_L_121 : decode code 121 = .ok (.iconst 2, 1) := by decide +kernel
theorem d_L_122 : decode code 122 = .ok (.iadd, 1) := by decide +kernel
theorem d_L_123 : decode code 123 = .ok (.iaload, 1) := by decide +kernel
theorem d_L_124 : decode code 124 = .ok (.invokevirtual 42, 3) := by decide +kernel
theorem d_L_127 : decode code 127 = .ok (.istore 6, 2) := by decide +kernel
theorem d_L_129 : decode code 129 = .ok (.aload_n 2, 1) := by decide +kernel
theorem d_L_130 : decode code 130 = .ok (.invokevirtual 43, 3) := by decide +kernel
theorem d_L_133 : decode code 133 = .ok (.iload 5, 2) := by decide +kernel
theorem d_L_135 : decode code 135 = .ok (.if_icmp .eq (5), 3) := by decide +kernel
theorem d_L_138 : decode code 138 = .ok (.iconst 0, 1) := by decide +kernel
theorem d_L_139 : decode code 139 = .ok (.ireturn, 1) := by decide +kernel
theorem d_L_140 : decode code 140 = .ok (.iload 5, 2) := by decide +kernel
theorem d_L_142 : decode code 142 = .ok (.ifCond .ne (15), 3) := by decide +kernel
theorem d_L_145 : decode code 145 = .ok (.aload_n 3, 1) := by decide +kernel
theorem d_L_146 : decode code 146 = .ok (.iconst 0, 1) := by decide +kernel
theorem d_L_147 : decode code 147 = .ok (.laload, 1) := by decide +kernel
theorem d_L_148 : decode code 148 = .ok (.iload 6, 2) := by decide +kernel
theorem d_L_150 : decode code 150 = .ok (.i2l, 1) := by decide +kernel
theorem d_L_151 : decode code 151 = .ok (.lcmp, 1) := by decide +kernel
theorem d_L_152 : decode code 152 = .ok (.ifCond .eq (5), 3) := by decide +kernel
theorem d_L_155 : decode code 155 = .ok (.iconst 0, 1) := by decide +kernel
theorem d_L_156 : decode code 156 = .ok (.ireturn, 1) := by decide +kernel
theorem d_L_157 : decode code 157 = .ok (.goto (338), 3) := by decide +kernel
theorem d_L_160 : decode code 160 = .ok (.aload_n 1, 1) := by decide +kernel
theorem d_L_161 : decode code 161 = .ok (.aload_n 0, 1) := by decide +kernel
theorem d_L_162 : decode code 162 = .ok (.iload 4, 2) := by decide +kernel
theorem d_L_164 : decode code 164 = .ok (.iconst 1, 1) := by decide +kernel
theorem d_L_165 : decode code 165 = .ok (.iadd, 1) := by decide +kernel
theorem d_L_166 : decode code 166 = .ok (.iaload, 1) := by decide +kernel
theorem d_L_167 : decode code 167 = .ok (.aload_n 0, 1) := by decide +kernel
theorem d_L_168 : decode code 168 = .ok (.iload 4, 2) := by decide +kernel
theorem d_L_170 : decode code 170 = .ok (.iconst 2, 1) := by decide +kernel
theorem d_L_171 : decode code 171 = .ok (.iadd, 1) := by decide +kernel
theorem d_L_172 : decode code 172 = .ok (.iaload, 1) := by decide +kernel
theorem d_L_173 : decode code 173 = .ok (.aload_n 0, 1) := by decide +kernel
theorem d_L_174 : decode code 174 = .ok (.iload 4, 2) := by decide +kernel
theorem d_L_176 : decode code 176 = .ok (.iconst 3, 1) := by decide +kernel
theorem d_L_177 : decode code 177 = .ok (.iadd, 1) := by decide +kernel
theorem d_L_178 : decode code 178 = .ok (.iaload, 1) := by decide +kernel
theorem d_L_179 : decode code 179 = .ok (.aload_n 0, 1) := by decide +kernel
theorem d_L_180 : decode code 180 = .ok (.iload 4, 2) := by decide +kernel
theorem d_L_182 : decode code 182 = .ok (.iconst 4, 1) := by decide +kernel
theorem d_L_183 : decode code 183 = .ok (.iadd, 1) := by decide +kernel
theorem d_L_184 : decode code 184 = .ok (.iaload, 1) := by decide +kernel
theorem d_L_185 : decode code 185 = .ok (.invokevirtual 46, 3) := by decide +kernel
theorem d_L_188 : decode code 188 = .ok (.aload_n 2, 1) := by decide +kernel
theorem d_L_189 : decode code 189 = .ok (.aload_n 0, 1) := by decide +kernel
theorem d_L_190 : decode code 190 = .ok (.iload 4, 2) := by decide +kernel
theorem d_L_192 : decode code 192 = .ok (.iconst 1, 1) := by decide +kernel
theorem d_L_193 : decode code 193 = .ok (.iadd, 1) := by decide +kernel
theorem d_L_194 : decode code 194 = .ok (.iaload, 1) := by decide +kernel
theorem d_L_195 : decode code 195 = .ok (.aload_n 0, 1) := by decide +kernel
theorem d_L_196 : decode code 196 = .ok (.iload 4, 2) := by decide +kernel
theorem d_L_198 : decode code 198 = .ok (.iconst 2, 1) := by decide +kernel
theorem d_L_199 : decode code 199 = .ok (.iadd, 1) := by decide +kernel
theorem d_L_200 : decode code 200 = .ok (.iaload, 1) := by decide +kernel
theorem d_L_201 : decode code 201 = .ok (.aload_n 0, 1) := by decide +kernel
theorem d_L_202 : decode code 202 = .ok (.iload 4, 2) := by decide +kernel
theorem d_L_204 : decode code 204 = .ok (.iconst 3, 1) := by decide +kernel
theorem d_L_205 : decode code 205 = .ok (.iadd, 1) := by decide +kernel
theorem d_L_206 : decode code 206 = .ok (.iaload, 1) := by decide +kernel
theorem d_L_207 : decode code 207 = .ok (.aload_n 0, 1) := by decide +kernel
theorem d_L_208 : decode code 208 = .ok (.iload 4, 2) := by decide +kernel
theorem d_L_210 : decode code 210 = .ok (.iconst 4, 1) := by decide +kernel
theorem d_L_211 : decode code 211 = .ok (.iadd, 1) := by decide +kernel
theorem d_L_212 : decode code 212 = .ok (.iaload, 1) := by decide +kernel
theorem d_L_213 : decode code 213 = .ok (.invokevirtual 50, 3) := by decide +kernel
theorem d_L_216 : decode code 216 = .ok (.if_icmp .eq (279), 3) := by decide +kernel
theorem d_L_219 : decode code 219 = .ok (.iconst 0, 1) := by decide +kernel
theorem d_L_220 : decode code 220 = .ok (.ireturn, 1) := by decide +kernel
theorem d_L_221 : decode code 221 = .ok (.aload_n 1, 1) := by decide +kernel
theorem d_L_222 : decode code 222 = .ok (.invokevirtual 51, 3) := by decide +kernel
theorem d_L_225 : decode code 225 = .ok (.aload_n 2, 1) := by decide +kernel
theorem d_L_226 : decode code 226 = .ok (.invokevirtual 54, 3) := by decide +kernel
theorem d_L_229 : decode code 229 = .ok (.if_icmp .eq (266), 3) := by decide +kernel
theorem d_L_232 : decode code 232 = .ok (.iconst 0, 1) := by decide +kernel
theorem d_L_233 : decode code 233 = .ok (.ireturn, 1) := by decide +kernel
theorem d_L_234 : decode code 234 = .ok (.aload_n 1, 1) := by decide +kernel
theorem d_L_235 : decode code 235 = .ok (.invokevirtual 55, 3) := by decide +kernel
theorem d_L_238 : decode code 238 = .ok (.aload_n 2, 1) := by decide +kernel
theorem d_L_239 : decode code 239 = .ok (.invokevirtual 59, 3) := by decide +kernel
theorem d_L_242 : decode code 242 = .ok (.if_icmp .eq (253), 3) := by decide +kernel
theorem d_L_245 : decode code 245 = .ok (.iconst 0, 1) := by decide +kernel
theorem d_L_246 : decode code 246 = .ok (.ireturn, 1) := by decide +kernel
theorem d_L_247 : decode code 247 = .ok (.aload_n 1, 1) := by decide +kernel
theorem d_L_248 : decode code 248 = .ok (.aload_n 0, 1) := by decide +kernel
theorem d_L_249 : decode code 249 = .ok (.iload 4, 2) := by decide +kernel
theorem d_L_251 : decode code 251 = .ok (.iconst 1, 1) := by decide +kernel
theorem d_L_252 : decode code 252 = .ok (.iadd, 1) := by decide +kernel
theorem d_L_253 : decode code 253 = .ok (.iaload, 1) := by decide +kernel
theorem d_L_254 : decode code 254 = .ok (.aload_n 0, 1) := by decide +kernel
theorem d_L_255 : decode code 255 = .ok (.iload 4, 2) := by decide +kernel
theorem d_L_257 : decode code 257 = .ok (.iconst 2, 1) := by decide +kernel
theorem d_L_258 : decode code 258 = .ok (.iadd, 1) := by decide +kernel
theorem d_L_259 : decode code 259 = .ok (.iaload, 1) := by decide +kernel
theorem d_L_260 : decode code 260 = .ok (.aload_n 0, 1) := by decide +kernel
theorem d_L_261 : decode code 261 = .ok (.iload 4, 2) := by decide +kernel
theorem d_L_263 : decode code 263 = .ok (.iconst 3, 1) := by decide +kernel
theorem d_L_264 : decode code 264 = .ok (.iadd, 1) := by decide +kernel
theorem d_L_265 : decode code 265 = .ok (.iaload, 1) := by decide +kernel
theorem d_L_266 : decode code 266 = .ok (.invokevirtual 60, 3) := by decide +kernel
theorem d_L_269 : decode code 269 = .ok (.aload_n 2, 1) := by decide +kernel
theorem d_L_270 : decode code 270 = .ok (.aload_n 0, 1) := by decide +kernel
theorem d_L_271 : decode code 271 = .ok (.iload 4, 2) := by decide +kernel
theorem d_L_273 : decode code 273 = .ok (.iconst 1, 1) := by decide +kernel
theorem d_L_274 : decode code 274 = .ok (.iadd, 1) := by decide +kernel
theorem d_L_275 : decode code 275 = .ok (.iaload, 1) := by decide +kernel
theorem d_L_276 : decode code 276 = .ok (.aload_n 0, 1) := by decide +kernel
theorem d_L_277 : decode code 277 = .ok (.iload 4, 2) := by decide +kernel
theorem d_L_279 : decode code 279 = .ok (.iconst 2, 1) := by decide +kernel
theorem d_L_280 : decode code 280 = .ok (.iadd, 1) := by decide +kernel
theorem d_L_281 : decode code 281 = .ok (.iaload, 1) := by decide +kernel
theorem d_L_282 : decode code 282 = .ok (.aload_n 0, 1) := by decide +kernel
theorem d_L_283 : decode code 283 = .ok (.iload 4, 2) := by decide +kernel
theorem d_L_285 : decode code 285 = .ok (.iconst 3, 1) := by decide +kernel
theorem d_L_286 : decode code 286 = .ok (.iadd, 1) := by decide +kernel
theorem d_L_287 : decode code 287 = .ok (.iaload, 1) := by decide +kernel
theorem d_L_288 : decode code 288 = .ok (.invokevirtual 64, 3) := by decide +kernel
theorem d_L_291 : decode code 291 = .ok (.if_icmp .eq (204), 3) := by decide +kernel
theorem d_L_294 : decode code 294 = .ok (.iconst 0, 1) := by decide +kernel
theorem d_L_295 : decode code 295 = .ok (.ireturn, 1) := by decide +kernel
theorem d_L_296 : decode code 296 = .ok (.aload_n 1, 1) := by decide +kernel
theorem d_L_297 : decode code 297 = .ok (.aload_n 0, 1) := by decide +kernel
theorem d_L_298 : decode code 298 = .ok (.iload 4, 2) := by decide +kernel
theorem d_L_300 : decode code 300 = .ok (.iconst 1, 1) := by decide +kernel
theorem d_L_301 : decode code 301 = .ok (.iadd, 1) := by decide +kernel
theorem d_L_302 : decode code 302 = .ok (.iaload, 1) := by decide +kernel
theorem d_L_303 : decode code 303 = .ok (.aload_n 0, 1) := by decide +kernel
theorem d_L_304 : decode code 304 = .ok (.iload 4, 2) := by decide +kernel
theorem d_L_306 : decode code 306 = .ok (.iconst 2, 1) := by decide +kernel
theorem d_L_307 : decode code 307 = .ok (.iadd, 1) := by decide +kernel
theorem d_L_308 : decode code 308 = .ok (.iaload, 1) := by decide +kernel
theorem d_L_309 : decode code 309 = .ok (.aload_n 0, 1) := by decide +kernel
theorem d_L_310 : decode code 310 = .ok (.iload 4, 2) := by decide +kernel
theorem d_L_312 : decode code 312 = .ok (.iconst 3, 1) := by decide +kernel
theorem d_L_313 : decode code 313 = .ok (.iadd, 1) := by decide +kernel
theorem d_L_314 : decode code 314 = .ok (.iaload, 1) := by decide +kernel
theorem d_L_315 : decode code 315 = .ok (.invokevirtual 65, 3) := by decide +kernel
theorem d_L_318 : decode code 318 = .ok (.aload_n 2, 1) := by decide +kernel
theorem d_L_319 : decode code 319 = .ok (.aload_n 0, 1) := by decide +kernel
theorem d_L_320 : decode code 320 = .ok (.iload 4, 2) := by decide +kernel
theorem d_L_322 : decode code 322 = .ok (.iconst 1, 1) := by decide +kernel
theorem d_L_323 : decode code 323 = .ok (.iadd, 1) := by decide +kernel
theorem d_L_324 : decode code 324 = .ok (.iaload, 1) := by decide +kernel
theorem d_L_325 : decode code 325 = .ok (.aload_n 0, 1) := by decide +kernel
theorem d_L_326 : decode code 326 = .ok (.iload 4, 2) := by decide +kernel
theorem d_L_328 : decode code 328 = .ok (.iconst 2, 1) := by decide +kernel
theorem d_L_329 : decode code 329 = .ok (.iadd, 1) := by decide +kernel
theorem d_L_330 : decode code 330 = .ok (.iaload, 1) := by decide +kernel
theorem d_L_331 : decode code 331 = .ok (.aload_n 0, 1) := by decide +kernel
theorem d_L_332 : decode code 332 = .ok (.iload 4, 2) := by decide +kernel
theorem d_L_334 : decode code 334 = .ok (.iconst 3, 1) := by decide +kernel
theorem d_L_335 : decode code 335 = .ok (.iadd, 1) := by decide +kernel
theorem d_L_336 : decode code 336 = .ok (.iaload, 1) := by decide +kernel
theorem d_L_337 : decode code 337 = .ok (.invokevirtual 69, 3) := by decide +kernel
theorem d_L_340 : decode code 340 = .ok (.if_icmp .eq (155), 3) := by decide +kernel
theorem d_L_343 : decode code 343 = .ok (.iconst 0, 1) := by decide +kernel
theorem d_L_344 : decode code 344 = .ok (.ireturn, 1) := by decide +kernel
theorem d_L_345 : decode code 345 = .ok (.aload_n 1, 1) := by decide +kernel
theorem d_L_346 : decode code 346 = .ok (.aload_n 3, 1) := by decide +kernel
theorem d_L_347 : decode code 347 = .ok (.invokestatic 70, 3) := by decide +kernel
theorem d_L_350 : decode code 350 = .ok (.istore 5, 2) := by decide +kernel
theorem d_L_352 : decode code 352 = .ok (.aload_n 2, 1) := by decide +kernel
theorem d_L_353 : decode code 353 = .ok (.invokevirtual 73, 3) := by decide +kernel
theorem d_L_356 : decode code 356 = .ok (.istore 6, 2) := by decide +kernel
theorem d_L_358 : decode code 358 = .ok (.aload_n 2, 1) := by decide +kernel
theorem d_L_359 : decode code 359 = .ok (.invokevirtual 43, 3) := by decide +kernel
theorem d_L_362 : decode code 362 = .ok (.iload 5, 2) := by decide +kernel
theorem d_L_364 : decode code 364 = .ok (.if_icmp .eq (5), 3) := by decide +kernel
theorem d_L_367 : decode code 367 = .ok (.iconst 0, 1) := by decide +kernel
theorem d_L_368 : decode code 368 = .ok (.ireturn, 1) := by decide +kernel
theorem d_L_369 : decode code 369 = .ok (.iload 5, 2) := by decide +kernel
theorem d_L_371 : decode code 371 = .ok (.ifCond .ne (15), 3) := by decide +kernel
theorem d_L_374 : decode code 374 = .ok (.aload_n 3, 1) := by decide +kernel
theorem d_L_375 : decode code 375 = .ok (.iconst 0, 1) := by decide +kernel
theorem d_L_376 : decode code 376 = .ok (.laload, 1) := by decide +kernel
theorem d_L_377 : decode code 377 = .ok (.iload 6, 2) := by decide +kernel
theorem d_L_379 : decode code 379 = .ok (.i2l, 1) := by decide +kernel
theorem d_L_380 : decode code 380 = .ok (.lcmp, 1) := by decide +kernel
theorem d_L_381 : decode code 381 = .ok (.ifCond .eq (5), 3) := by decide +kernel
theorem d_L_384 : decode code 384 = .ok (.iconst 0, 1) := by decide +kernel
theorem d_L_385 : decode code 385 = .ok (.ireturn, 1) := by decide +kernel
theorem d_L_386 : decode code 386 = .ok (.goto (109), 3) := by decide +kernel
theorem d_L_389 : decode code 389 = .ok (.aload_n 1, 1) := by decide +kernel
theorem d_L_390 : decode code 390 = .ok (.aload_n 0, 1) := by decide +kernel
theorem d_L_391 : decode code 391 = .ok (.iload 4, 2) := by decide +kernel
theorem d_L_393 : decode code 393 = .ok (.iconst 1, 1) := by decide +kernel
theorem d_L_394 : decode code 394 = .ok (.iadd, 1) := by decide +kernel
theorem d_L_395 : decode code 395 = .ok (.iaload, 1) := by decide +kernel
theorem d_L_396 : decode code 396 = .ok (.aload_n 3, 1) := by decide +kernel
theorem d_L_397 : decode code 397 = .ok (.invokestatic 74, 3) := by decide +kernel
theorem d_L_400 : decode code 400 = .ok (.istore 5, 2) := by decide +kernel
theorem d_L_402 : decode code 402 = .ok (.aload_n 2, 1) := by decide +kernel
theorem d_L_403 : decode code 403 = .ok (.aload_n 0, 1) := by decide +kernel
theorem d_L_404 : decode code 404 = .ok (.iload 4, 2) := by decide +kernel
theorem d_L_406 : decode code 406 = .ok (.iconst 1, 1) := by decide +kernel
theorem d_L_407 : decode code 407 = .ok (.iadd, 1) := by decide +kernel
theorem d_L_408 : decode code 408 = .ok (.iaload, 1) := by decide +kernel
theorem d_L_409 : decode code 409 = .ok (.invokevirtual 77, 3) := by decide +kernel
theorem d_L_412 : decode code 412 = .ok (.istore 6, 2) := by decide +kernel
theorem d_L_414 : decode code 414 = .ok (.aload_n 2, 1) := by decide +kernel
theorem d_L_415 : decode code 415 = .ok (.invokevirtual 43, 3) := by decide +kernel
theorem d_L_418 : decode code 418 = .ok (.iload 5, 2) := by decide +kernel
theorem d_L_420 : decode code 420 = .ok (.if_icmp .eq (5), 3) := by decide +kernel
theorem d_L_423 : decode code 423 = .ok (.iconst 0, 1) := by decide +kernel
theorem d_L_424 : decode code 424 = .ok (.ireturn, 1) := by decide +kernel
theorem d_L_425 : decode code 425 = .ok (.iload 5, 2) := by decide +kernel
theorem d_L_427 : decode code 427 = .ok (.ifCond .ne (15), 3) := by decide +kernel
theorem d_L_430 : decode code 430 = .ok (.aload_n 3, 1) := by decide +kernel
theorem d_L_431 : decode code 431 = .ok (.iconst 0, 1) := by decide +kernel
theorem d_L_432 : decode code 432 = .ok (.laload, 1) := by decide +kernel
theorem d_L_433 : decode code 433 = .ok (.iload 6, 2) := by decide +kernel
theorem d_L_435 : decode code 435 = .ok (.i2l, 1) := by decide +kernel
theorem d_L_436 : decode code 436 = .ok (.lcmp, 1) := by decide +kernel
theorem d_L_437 : decode code 437 = .ok (.ifCond .eq (5), 3) := by decide +kernel
theorem d_L_440 : decode code 440 = .ok (.iconst 0, 1) := by decide +kernel
theorem d_L_441 : decode code 441 = .ok (.ireturn, 1) := by decide +kernel
theorem d_L_442 : decode code 442 = .ok (.goto (53), 3) := by decide +kernel
theorem d_L_445 : decode code 445 = .ok (.aload_n 1, 1) := by decide +kernel
theorem d_L_446 : decode code 446 = .ok (.aload_n 0, 1) := by decide +kernel
theorem d_L_447 : decode code 447 = .ok (.iload 4, 2) := by decide +kernel
theorem d_L_449 : decode code 449 = .ok (.iconst 1, 1) := by decide +kernel
theorem d_L_450 : decode code 450 = .ok (.iadd, 1) := by decide +kernel
theorem d_L_451 : decode code 451 = .ok (.iaload, 1) := by decide +kernel
theorem d_L_452 : decode code 452 = .ok (.invokevirtual 78, 3) := by decide +kernel
theorem d_L_455 : decode code 455 = .ok (.aload_n 2, 1) := by decide +kernel
theorem d_L_456 : decode code 456 = .ok (.aload_n 0, 1) := by decide +kernel
theorem d_L_457 : decode code 457 = .ok (.iload 4, 2) := by decide +kernel
theorem d_L_459 : decode code 459 = .ok (.iconst 1, 1) := by decide +kernel
theorem d_L_460 : decode code 460 = .ok (.iadd, 1) := by decide +kernel
theorem d_L_461 : decode code 461 = .ok (.iaload, 1) := by decide +kernel
theorem d_L_462 : decode code 462 = .ok (.invokevirtual 81, 3) := by decide +kernel
theorem d_L_465 : decode code 465 = .ok (.if_icmp .eq (30), 3) := by decide +kernel
theorem d_L_468 : decode code 468 = .ok (.iconst 0, 1) := by decide +kernel
theorem d_L_469 : decode code 469 = .ok (.ireturn, 1) := by decide +kernel
theorem d_L_470 : decode code 470 = .ok (.aload_n 1, 1) := by decide +kernel
theorem d_L_471 : decode code 471 = .ok (.aload_n 0, 1) := by decide +kernel
theorem d_L_472 : decode code 472 = .ok (.iload 4, 2) := by decide +kernel
theorem d_L_474 : decode code 474 = .ok (.iconst 1, 1) := by decide +kernel
theorem d_L_475 : decode code 475 = .ok (.iadd, 1) := by decide +kernel
theorem d_L_476 : decode code 476 = .ok (.iaload, 1) := by decide +kernel
theorem d_L_477 : decode code 477 = .ok (.invokevirtual 82, 3) := by decide +kernel
theorem d_L_480 : decode code 480 = .ok (.aload_n 2, 1) := by decide +kernel
theorem d_L_481 : decode code 481 = .ok (.aload_n 0, 1) := by decide +kernel
theorem d_L_482 : decode code 482 = .ok (.iload 4, 2) := by decide +kernel
theorem d_L_484 : decode code 484 = .ok (.iconst 1, 1) := by decide +kernel
theorem d_L_485 : decode code 485 = .ok (.iadd, 1) := by decide +kernel
theorem d_L_486 : decode code 486 = .ok (.iaload, 1) := by decide +kernel
theorem d_L_487 : decode code 487 = .ok (.invokevirtual 85, 3) := by decide +kernel
theorem d_L_490 : decode code 490 = .ok (.if_icmp .eq (5), 3) := by decide +kernel
theorem d_L_493 : decode code 493 = .ok (.iconst 0, 1) := by decide +kernel
theorem d_L_494 : decode code 494 = .ok (.ireturn, 1) := by decide +kernel
theorem d_L_495 : decode code 495 = .ok (.iinc 4 (5), 3) := by decide +kernel
theorem d_L_498 : decode code 498 = .ok (.goto (-475), 3) := by decide +kernel
theorem d_L_501 : decode code 501 = .ok (.iconst 1, 1) := by decide +kernel
theorem d_L_502 : decode code 502 = .ok (.ireturn, 1) := by decide +kernel
theorem k_La_42 {R : Room} {s : State} {args : Array Value} {Ts : List Cond} (hts : ∀ w ∈ Ts, w.before args s = true) (hsub : ∀ w ∈ wG, w ∈ Ts) (hR : rm_Mo_add.frames + 1 ≤ R.frames ∧ 8 + (3 + 11) + rm_Mo_add.locals ≤ R.locals) : CallW R s args "FrameVerifierLaw" "FrameVerifierModel" 42 y_Mo_add b_Mo_add 3 (some .int) w_Mo_add rm_Mo_add 0 0 2 := ⟨cb_G hts hsub m_Mo_add g_Mo_add (wg_t 827 (by decide +kernel) (by decide +kernel) : Cond.methodLink "FrameVerifierLaw" 42 y_Mo_add ∈ wG) q_Mo_add rfl rfl hR, hts _ (hsub _ s_Mo_add), hts _ (hsub _ e_Mo_add)⟩
theorem k_La_43 {R : Room} {s : State} {args : Array Value} {Ts : List Cond} (hts : ∀ w ∈ Ts, w.before args s = true) (hsub : ∀ w ∈ wG, w ∈ Ts) (hR : rm_Mo_thrown.frames + 1 ≤ R.frames ∧ 8 + (1 + 11) + rm_Mo_thrown.locals ≤ R.locals) : CallW R s args "FrameVerifierLaw" "FrameVerifierModel" 43 y_Mo_thrown b_Mo_thrown 1 (some .int) w_Mo_thrown rm_Mo_thrown 0 0 0 := ⟨cb_G hts hsub m_Mo_thrown g_Mo_thrown (wg_t 823 (by decide +kernel) (by decide +kernel) : Cond.methodLink "FrameVerifierLaw" 43 y_Mo_thrown ∈ wG) q_Mo_thrown rfl rfl hR, hts _ (hsub _ s_Mo_thrown), hts _ (hsub _ e_Mo_thrown)⟩
theorem k_La_46 {R : Room} {s : State} {args : Array Value} {Ts : List Cond} (hts : ∀ w ∈ Ts, w.before args s = true) (hsub : ∀ w ∈ wG, w ∈ Ts) (hR : rm_FV_routine.frames + 1 ≤ R.frames ∧ 8 + (5 + 11) + rm_FV_routine.locals ≤ R.locals) : CallW R s args "FrameVerifierLaw" "FrameVerifier" 46 y_FV_routine b_FV_routine 5 (some .boolean) w_FV_routine rm_FV_routine 0 0 4 := ⟨cb_G hts hsub m_FV_routine g_FV_routine (wg_t 156 (by decide +kernel) (by decide +kernel) : Cond.methodLink "FrameVerifierLaw" 46 y_FV_routine ∈ wG) q_FV_routine rfl rfl hR, hts _ (hsub _ s_FV_routine), hts _ (hsub _ e_FV_routine)⟩
theorem k_La_50 {R : Room} {s : State} {args : Array Value} {Ts : List Cond} (hts : ∀ w ∈ Ts, w.before args s = true) (hsub : ∀ w ∈ wG, w ∈ Ts) (hR : rm_Mo_routine.frames + 1 ≤ R.frames ∧ 8 + (5 + 11) + rm_Mo_routine.locals ≤ R.locals) : CallW R s args "FrameVerifierLaw" "FrameVerifierModel" 50 y_Mo_routine b_Mo_routine 5 (some .boolean) w_Mo_routine rm_Mo_routine 0 0 4 := ⟨cb_G hts hsub m_Mo_routine g_Mo_routine (wg_t 831 (by decide +kernel) (by decide +kernel) : Cond.methodLink "FrameVerifierLaw" 50 y_Mo_routine ∈ wG) q_Mo_routine rfl rfl hR, hts _ (hsub _ s_Mo_routine), hts _ (hsub _ e_Mo_routine)⟩
theorem k_La_51 {R : Room} {s : State} {args : Array Value} {Ts : List Cond} (hts : ∀ w ∈ Ts, w.before args s = true) (hsub : ∀ w ∈ wG, w ∈ Ts) (hR : rm_FV_verify.frames + 1 ≤ R.frames ∧ 8 + (3 + 11) + rm_FV_verify.locals ≤ R.locals) : CallW R s args "FrameVerifierLaw" "FrameVerifier" 51 y_FV_verify b_FV_verify 3 (some .int) w_FV_verify rm_FV_verify 0 0 0 := ⟨cb_G hts hsub m_FV_verify g_FV_verify (wg_t 172 (by decide +kernel) (by decide +kernel) : Cond.methodLink "FrameVerifierLaw" 51 y_FV_verify ∈ wG) q_FV_verify rfl rfl hR, hts _ (hsub _ s_FV_verify), hts _ (hsub _ e_FV_verify)⟩
theorem k_La_54 {R : Room} {s : State} {args : Array Value} {Ts : List Cond} (hts : ∀ w ∈ Ts, w.before args s = true) (hsub : ∀ w ∈ wG, w ∈ Ts) (hR : rm_Mo_verify.frames + 1 ≤ R.frames ∧ 8 + (4 + 11) + rm_Mo_verify.locals ≤ R.locals) : CallW R s args "FrameVerifierLaw" "FrameVerifierModel" 54 y_Mo_verify b_Mo_verify 4 (some .int) w_Mo_verify rm_Mo_verify 0 0 0 := ⟨cb_G hts hsub m_Mo_verify g_Mo_verify (wg_t 835 (by decide +kernel) (by decide +kernel) : Cond.methodLink "FrameVerifierLaw" 54 y_Mo_verify ∈ wG) q_Mo_verify rfl rfl hR, hts _ (hsub _ s_Mo_verify), hts _ (hsub _ e_Mo_verify)⟩
theorem k_La_55 {R : Room} {s : State} {args : Array Value} {Ts : List Cond} (hts : ∀ w ∈ Ts, w.before args s = true) (hsub : ∀ w ∈ wG, w ∈ Ts) (hR : rm_FV_isVerified.frames + 1 ≤ R.frames ∧ 8 + (1 + 11) + rm_FV_isVerified.locals ≤ R.locals) : CallW R s args "FrameVerifierLaw" "FrameVerifier" 55 y_FV_isVerified b_FV_isVerified 1 (some .boolean) w_FV_isVerified rm_FV_isVerified 0 0 0 := ⟨cb_G hts hsub m_FV_isVerified g_FV_isVerified (wg_t 369 (by decide +kernel) (by decide +kernel) : Cond.methodLink "FrameVerifierLaw" 55 y_FV_isVerified ∈ wG) q_FV_isVerified rfl rfl hR, hts _ (hsub _ s_FV_isVerified), hts _ (hsub _ e_FV_isVerified)⟩
theorem k_La_59 {R : Room} {s : State} {args : Array Value} {Ts : List Cond} (hts : ∀ w ∈ Ts, w.before args s = true) (hsub : ∀ w ∈ wG, w ∈ Ts) (hR : rm_Mo_isVerified.frames + 1 ≤ R.frames ∧ 8 + (1 + 11) + rm_Mo_isVerified.locals ≤ R.locals) : CallW R s args "FrameVerifierLaw" "FrameVerifierModel" 59 y_Mo_isVerified b_Mo_isVerified 1 (some .boolean) w_Mo_isVerified rm_Mo_isVerified 0 0 0 := ⟨cb_G hts hsub m_Mo_isVerified g_Mo_isVerified (wg_t 895 (by decide +kernel) (by decide +kernel) : Cond.methodLink "FrameVerifierLaw" 59 y_Mo_isVerified ∈ wG) q_Mo_isVerified rfl rfl hR, hts _ (hsub _ s_Mo_isVerified), hts _ (hsub _ e_Mo_isVerified)⟩
theorem k_La_60 {R : Room} {s : State} {args : Array Value} {Ts : List Cond} (hts : ∀ w ∈ Ts, w.before args s = true) (hsub : ∀ w ∈ wG, w ∈ Ts) (hR : rm_FV_type.frames + 1 ≤ R.frames ∧ 8 + (5 + 11) + rm_FV_type.locals ≤ R.locals) : CallW R s args "FrameVerifierLaw" "FrameVerifier" 60 y_FV_type b_FV_type 5 (some .int) w_FV_type rm_FV_type 0 0 3 := ⟨cb_G hts hsub m_FV_type g_FV_type (wg_t 373 (by decide +kernel) (by decide +kernel) : Cond.methodLink "FrameVerifierLaw" 60 y_FV_type ∈ wG) q_FV_type rfl rfl hR, hts _ (hsub _ s_FV_type), hts _ (hsub _ e_FV_type)⟩
theorem k_La_64 {R : Room} {s : State} {args : Array Value} {Ts : List Cond} (hts : ∀ w ∈ Ts, w.before args s = true) (hsub : ∀ w ∈ wG, w ∈ Ts) (hR : rm_Mo_type.frames + 1 ≤ R.frames ∧ 8 + (6 + 11) + rm_Mo_type.locals ≤ R.locals) : CallW R s args "FrameVerifierLaw" "FrameVerifierModel" 64 y_Mo_type b_Mo_type 6 (some .int) w_Mo_type rm_Mo_type 0 0 3 := ⟨cb_G hts hsub m_Mo_type g_Mo_type (wg_t 899 (by decide +kernel) (by decide +kernel) : Cond.methodLink "FrameVerifierLaw" 64 y_Mo_type ∈ wG) q_Mo_type rfl rfl hR, hts _ (hsub _ s_Mo_type), hts _ (hsub _ e_Mo_type)⟩
theorem k_La_65 {R : Room} {s : State} {args : Array Value} {Ts : List Cond} (hts : ∀ w ∈ Ts, w.before args s = true) (hsub : ∀ w ∈ wG, w ∈ Ts) (hR : rm_FV_start.frames + 1 ≤ R.frames ∧ 8 + (4 + 11) + rm_FV_start.locals ≤ R.locals) : CallW R s args "FrameVerifierLaw" "FrameVerifier" 65 y_FV_start b_FV_start 4 (some .boolean) w_FV_start rm_FV_start 0 0 3 := ⟨cb_G hts hsub m_FV_start g_FV_start (wg_t 384 (by decide +kernel) (by decide +kernel) : Cond.methodLink "FrameVerifierLaw" 65 y_FV_start ∈ wG) q_FV_start rfl rfl hR, hts _ (hsub _ s_FV_start), hts _ (hsub _ e_FV_start)⟩
theorem k_La_69 {R : Room} {s : State} {args : Array Value} {Ts : List Cond} (hts : ∀ w ∈ Ts, w.before args s = true) (hsub : ∀ w ∈ wG, w ∈ Ts) (hR : rm_Mo_start.frames + 1 ≤ R.frames ∧ 8 + (5 + 11) + rm_Mo_start.locals ≤ R.locals) : CallW R s args "FrameVerifierLaw" "FrameVerifierModel" 69 y_Mo_start b_Mo_start 5 (some .boolean) w_Mo_start rm_Mo_start 0 0 3 := ⟨cb_G hts hsub m_Mo_start g_Mo_start (wg_t 903 (by decide +kernel) (by decide +kernel) : Cond.methodLink "FrameVerifierLaw" 69 y_Mo_start ∈ wG) q_Mo_start rfl rfl hR, hts _ (hsub _ s_Mo_start), hts _ (hsub _ e_Mo_start)⟩
theorem k_La_73 {R : Room} {s : State} {args : Array Value} {Ts : List Cond} (hts : ∀ w ∈ Ts, w.before args s = true) (hsub : ∀ w ∈ wG, w ∈ Ts) (hR : rm_Mo_step.frames + 1 ≤ R.frames ∧ 8 + (2 + 11) + rm_Mo_step.locals ≤ R.locals) : CallW R s args "FrameVerifierLaw" "FrameVerifierModel" 73 y_Mo_step b_Mo_step 2 (some .int) w_Mo_step rm_Mo_step 0 0 0 := ⟨cb_G hts hsub m_Mo_step g_Mo_step (wg_t 911 (by decide +kernel) (by decide +kernel) : Cond.methodLink "FrameVerifierLaw" 73 y_Mo_step ∈ wG) q_Mo_step rfl rfl hR, hts _ (hsub _ s_Mo_step), hts _ (hsub _ e_Mo_step)⟩
theorem k_La_77 {R : Room} {s : State} {args : Array Value} {Ts : List Cond} (hts : ∀ w ∈ Ts, w.before args s = true) (hsub : ∀ w ∈ wG, w ∈ Ts) (hR : rm_Mo_steps.frames + 1 ≤ R.frames ∧ 8 + (3 + 11) + rm_Mo_steps.locals ≤ R.locals) : CallW R s args "FrameVerifierLaw" "FrameVerifierModel" 77 y_Mo_steps b_Mo_steps 3 (some .int) w_Mo_steps rm_Mo_steps 0 0 1 := ⟨cb_G hts hsub m_Mo_steps g_Mo_steps (wg_t 972 (by decide +kernel) (by decide +kernel) : Cond.methodLink "FrameVerifierLaw" 77 y_Mo_steps ∈ wG) q_Mo_steps rfl rfl hR, hts _ (hsub _ s_Mo_steps), hts _ (hsub _ e_Mo_steps)⟩
theorem k_La_78 {R : Room} {s : State} {args : Array Value} {Ts : List Cond} (hts : ∀ w ∈ Ts, w.before args s = true) (hsub : ∀ w ∈ wG, w ∈ Ts) (hR : rm_FV_about.frames + 1 ≤ R.frames ∧ 8 + (2 + 11) + rm_FV_about.locals ≤ R.locals) : CallW R s args "FrameVerifierLaw" "FrameVerifier" 78 y_FV_about b_FV_about 2 (some .int) w_FV_about rm_FV_about 0 0 1 := ⟨cb_G hts hsub m_FV_about g_FV_about (wg_t 410 (by decide +kernel) (by decide +kernel) : Cond.methodLink "FrameVerifierLaw" 78 y_FV_about ∈ wG) q_FV_about rfl rfl hR, hts _ (hsub _ s_FV_about), hts _ (hsub _ e_FV_about)⟩
theorem k_La_81 {R : Room} {s : State} {args : Array Value} {Ts : List Cond} (hts : ∀ w ∈ Ts, w.before args s = true) (hsub : ∀ w ∈ wG, w ∈ Ts) (hR : rm_Mo_about.frames + 1 ≤ R.frames ∧ 8 + (5 + 11) + rm_Mo_about.locals ≤ R.locals) : CallW R s args "FrameVerifierLaw" "FrameVerifierModel" 81 y_Mo_about b_Mo_about 5 (some .int) w_Mo_about rm_Mo_about 0 0 1 := ⟨cb_G hts hsub m_Mo_about g_Mo_about (wg_t 976 (by decide +kernel) (by decide +kernel) : Cond.methodLink "FrameVerifierLaw" 81 y_Mo_about ∈ wG) q_Mo_about rfl rfl hR, hts _ (hsub _ s_Mo_about), hts _ (hsub _ e_Mo_about)⟩
theorem k_La_82 {R : Room} {s : State} {args : Array Value} {Ts : List Cond} (hts : ∀ w ∈ Ts, w.before args s = true) (hsub : ∀ w ∈ wG, w ∈ Ts) (hR : rm_FV_local.frames + 1 ≤ R.frames ∧ 8 + (2 + 11) + rm_FV_local.locals ≤ R.locals) : CallW R s args "FrameVerifierLaw" "FrameVerifier" 82 y_FV_local b_FV_local 2 (some .int) w_FV_local rm_FV_local 0 0 1 := ⟨cb_G hts hsub m_FV_local g_FV_local (wg_t 432 (by decide +kernel) (by decide +kernel) : Cond.methodLink "FrameVerifierLaw" 82 y_FV_local ∈ wG) q_FV_local rfl rfl hR, hts _ (hsub _ s_FV_local), hts _ (hsub _ e_FV_local)⟩
theorem k_La_85 {R : Room} {s : State} {args : Array Value} {Ts : List Cond} (hts : ∀ w ∈ Ts, w.before args s = true) (hsub : ∀ w ∈ wG, w ∈ Ts) (hR : rm_Mo_local.frames + 1 ≤ R.frames ∧ 8 + (2 + 11) + rm_Mo_local.locals ≤ R.locals) : CallW R s args "FrameVerifierLaw" "FrameVerifierModel" 85 y_Mo_local b_Mo_local 2 (some .int) w_Mo_local rm_Mo_local 0 0 1 := ⟨cb_G hts hsub m_Mo_local g_Mo_local (wg_t 980 (by decide +kernel) (by decide +kernel) : Cond.methodLink "FrameVerifierLaw" 85 y_Mo_local ∈ wG) q_Mo_local rfl rfl hR, hts _ (hsub _ s_Mo_local), hts _ (hsub _ e_Mo_local)⟩
theorem wd_437 : (Jvm.Cond.methodLink "FrameVerifierLaw" (37 : Nat) ({ cls := "FrameVerifierLaw", name := "add", desc := "(LFrameVerifier;II[J)I" } : Jvm.MethodName)) ∈ wG := wg_t 437 (by decide +kernel) (by decide +kernel)
theorem wd_515 : (Jvm.Cond.methodLink "FrameVerifierLaw" (70 : Nat) ({ cls := "FrameVerifierLaw", name := "step", desc := "(LFrameVerifier;[J)I" } : Jvm.MethodName)) ∈ wG := wg_t 515 (by decide +kernel) (by decide +kernel)
theorem wd_712 : (Jvm.Cond.methodLink "FrameVerifierLaw" (74 : Nat) ({ cls := "FrameVerifierLaw", name := "steps", desc := "(LFrameVerifier;I[J)I" } : Jvm.MethodName)) ∈ wG := wg_t 712 (by decide +kernel) (by decide +kernel)
