abbrev cd_L_law : ByteArray := code
theorem dx_L_law_0 : decode cd_L_law 0 = .ok (.new 8, 3) := by decide +kernel
theorem dx_L_law_3 : decode cd_L_law 3 = .ok (.dup, 1) := by decide +kernel
theorem dx_L_law_4 : decode cd_L_law 4 = .ok (.invokespecial 62, 3) := by decide +kernel
theorem dx_L_law_7 : decode cd_L_law 7 = .ok (.astore_n 1, 1) := by decide +kernel
theorem dx_L_law_8 : decode cd_L_law 8 = .ok (.new 63, 3) := by decide +kernel
theorem dx_L_law_11 : decode cd_L_law 11 = .ok (.dup, 1) := by decide +kernel
theorem dx_L_law_12 : decode cd_L_law 12 = .ok (.invokespecial 65, 3) := by decide +kernel
theorem dx_L_law_15 : decode cd_L_law 15 = .ok (.astore_n 2, 1) := by decide +kernel
theorem dx_L_law_16 : decode cd_L_law 16 = .ok (.iconst 1, 1) := by decide +kernel
theorem dx_L_law_17 : decode cd_L_law 17 = .ok (.newarray .long, 2) := by decide +kernel
theorem dx_L_law_19 : decode cd_L_law 19 = .ok (.astore_n 3, 1) := by decide +kernel
theorem dx_L_law_20 : decode cd_L_law 20 = .ok (.iconst 0, 1) := by decide +kernel
theorem dx_L_law_21 : decode cd_L_law 21 = .ok (.istore 4, 2) := by decide +kernel
theorem dx_L_law_23 : decode cd_L_law 23 = .ok (.iload 4, 2) := by decide +kernel
theorem dx_L_law_25 : decode cd_L_law 25 = .ok (.aload_n 0, 1) := by decide +kernel
theorem dx_L_law_26 : decode cd_L_law 26 = .ok (.arraylength, 1) := by decide +kernel
theorem dx_L_law_27 : decode cd_L_law 27 = .ok (.iconst 4, 1) := by decide +kernel
theorem dx_L_law_28 : decode cd_L_law 28 = .ok (.isub, 1) := by decide +kernel
theorem dx_L_law_29 : decode cd_L_law 29 = .ok (.if_icmp .gt 942, 3) := by decide +kernel
theorem dx_L_law_32 : decode cd_L_law 32 = .ok (.aload_n 0, 1) := by decide +kernel
theorem dx_L_law_33 : decode cd_L_law 33 = .ok (.iload 4, 2) := by decide +kernel
theorem dx_L_law_35 : decode cd_L_law 35 = .ok (.iaload, 1) := by decide +kernel
theorem dx_L_law_36 : decode cd_L_law 36 = .ok (.bipush 15, 2) := by decide +kernel
theorem dx_L_law_38 : decode cd_L_law 38 = .ok (.iand, 1) := by decide +kernel
theorem dx_L_law_39 : decode cd_L_law 39 = .ok (.tableswitch 926 0 13 #[69, 113, 193, 261, 274, 330, 386, 461, 517, 572, 628, 684, 784, 859], 69) := by decide +kernel
theorem dx_L_law_108 : decode cd_L_law 108 = .ok (.aload_n 1, 1) := by decide +kernel
theorem dx_L_law_109 : decode cd_L_law 109 = .ok (.aload_n 3, 1) := by decide +kernel
theorem dx_L_law_110 : decode cd_L_law 110 = .ok (.invokestatic 66, 3) := by decide +kernel
theorem dx_L_law_113 : decode cd_L_law 113 = .ok (.istore 5, 2) := by decide +kernel
theorem dx_L_law_115 : decode cd_L_law 115 = .ok (.aload_n 2, 1) := by decide +kernel
theorem dx_L_law_116 : decode cd_L_law 116 = .ok (.invokevirtual 71, 3) := by decide +kernel
theorem dx_L_law_119 : decode cd_L_law 119 = .ok (.istore 6, 2) := by decide +kernel
theorem dx_L_law_121 : decode cd_L_law 121 = .ok (.aload_n 2, 1) := by decide +kernel
theorem dx_L_law_122 : decode cd_L_law 122 = .ok (.invokevirtual 72, 3) := by decide +kernel
theorem dx_L_law_125 : decode cd_L_law 125 = .ok (.iload 5, 2) := by decide +kernel
theorem dx_L_law_127 : decode cd_L_law 127 = .ok (.if_icmp .eq 5, 3) := by decide +kernel
theorem dx_L_law_130 : decode cd_L_law 130 = .ok (.iconst 0, 1) := by decide +kernel
theorem dx_L_law_131 : decode cd_L_law 131 = .ok (.ireturn, 1) := by decide +kernel
theorem dx_L_law_132 : decode cd_L_law 132 = .ok (.iload 5, 2) := by decide +kernel
theorem dx_L_law_134 : decode cd_L_law 134 = .ok (.ifCond .ne 15, 3) := by decide +kernel
theorem dx_L_law_137 : decode cd_L_law 137 = .ok (.aload_n 3, 1) := by decide +kernel
theorem dx_L_law_138 : decode cd_L_law 138 = .ok (.iconst 0, 1) := by decide +kernel
theorem dx_L_law_139 : decode cd_L_law 139 = .ok (.laload, 1) := by decide +kernel
theorem dx_L_law_140 : decode cd_L_law 140 = .ok (.iload 6, 2) := by decide +kernel
theorem dx_L_law_142 : decode cd_L_law 142 = .ok (.i2l, 1) := by decide +kernel
theorem dx_L_law_143 : decode cd_L_law 143 = .ok (.lcmp, 1) := by decide +kernel
theorem dx_L_law_144 : decode cd_L_law 144 = .ok (.ifCond .eq 5, 3) := by decide +kernel
theorem dx_L_law_147 : decode cd_L_law 147 = .ok (.iconst 0, 1) := by decide +kernel
theorem dx_L_law_148 : decode cd_L_law 148 = .ok (.ireturn, 1) := by decide +kernel
theorem dx_L_law_149 : decode cd_L_law 149 = .ok (.goto 816, 3) := by decide +kernel
theorem dx_L_law_152 : decode cd_L_law 152 = .ok (.aload_n 1, 1) := by decide +kernel
theorem dx_L_law_153 : decode cd_L_law 153 = .ok (.aload_n 0, 1) := by decide +kernel
theorem dx_L_law_154 : decode cd_L_law 154 = .ok (.iload 4, 2) := by decide +kernel
theorem dx_L_law_156 : decode cd_L_law 156 = .ok (.iconst 1, 1) := by decide +kernel
theorem dx_L_law_157 : decode cd_L_law 157 = .ok (.iadd, 1) := by decide +kernel
theorem dx_L_law_158 : decode cd_L_law 158 = .ok (.iaload, 1) := by decide +kernel
theorem dx_L_law_159 : decode cd_L_law 159 = .ok (.aload_n 0, 1) := by decide +kernel
theorem dx_L_law_160 : decode cd_L_law 160 = .ok (.iload 4, 2) := by decide +kernel
theorem dx_L_law_162 : decode cd_L_law 162 = .ok (.iconst 2, 1) := by decide +kernel
theorem dx_L_law_163 : decode cd_L_law 163 = .ok (.iadd, 1) := by decide +kernel
theorem dx_L_law_164 : decode cd_L_law 164 = .ok (.iaload, 1) := by decide +kernel
theorem dx_L_law_165 : decode cd_L_law 165 = .ok (.aload_n 0, 1) := by decide +kernel
theorem dx_L_law_166 : decode cd_L_law 166 = .ok (.iload 4, 2) := by decide +kernel
theorem dx_L_law_168 : decode cd_L_law 168 = .ok (.iconst 3, 1) := by decide +kernel
theorem dx_L_law_169 : decode cd_L_law 169 = .ok (.iadd, 1) := by decide +kernel
theorem dx_L_law_170 : decode cd_L_law 170 = .ok (.iaload, 1) := by decide +kernel
theorem dx_L_law_171 : decode cd_L_law 171 = .ok (.aload_n 3, 1) := by decide +kernel
theorem dx_L_law_172 : decode cd_L_law 172 = .ok (.invokestatic 75, 3) := by decide +kernel
theorem dx_L_law_175 : decode cd_L_law 175 = .ok (.istore 5, 2) := by decide +kernel
theorem dx_L_law_177 : decode cd_L_law 177 = .ok (.aload_n 2, 1) := by decide +kernel
theorem dx_L_law_178 : decode cd_L_law 178 = .ok (.aload_n 0, 1) := by decide +kernel
theorem dx_L_law_179 : decode cd_L_law 179 = .ok (.iload 4, 2) := by decide +kernel
theorem dx_L_law_181 : decode cd_L_law 181 = .ok (.iconst 1, 1) := by decide +kernel
theorem dx_L_law_182 : decode cd_L_law 182 = .ok (.iadd, 1) := by decide +kernel
theorem dx_L_law_183 : decode cd_L_law 183 = .ok (.iaload, 1) := by decide +kernel
theorem dx_L_law_184 : decode cd_L_law 184 = .ok (.aload_n 0, 1) := by decide +kernel
theorem dx_L_law_185 : decode cd_L_law 185 = .ok (.iload 4, 2) := by decide +kernel
theorem dx_L_law_187 : decode cd_L_law 187 = .ok (.iconst 2, 1) := by decide +kernel
theorem dx_L_law_188 : decode cd_L_law 188 = .ok (.iadd, 1) := by decide +kernel
theorem dx_L_law_189 : decode cd_L_law 189 = .ok (.iaload, 1) := by decide +kernel
theorem dx_L_law_190 : decode cd_L_law 190 = .ok (.aload_n 0, 1) := by decide +kernel
theorem dx_L_law_191 : decode cd_L_law 191 = .ok (.iload 4, 2) := by decide +kernel
theorem dx_L_law_193 : decode cd_L_law 193 = .ok (.iconst 3, 1) := by decide +kernel
theorem dx_L_law_194 : decode cd_L_law 194 = .ok (.iadd, 1) := by decide +kernel
theorem dx_L_law_195 : decode cd_L_law 195 = .ok (.iaload, 1) := by decide +kernel
theorem dx_L_law_196 : decode cd_L_law 196 = .ok (.invokevirtual 78, 3) := by decide +kernel
theorem dx_L_law_199 : decode cd_L_law 199 = .ok (.istore 6, 2) := by decide +kernel
theorem dx_L_law_201 : decode cd_L_law 201 = .ok (.aload_n 2, 1) := by decide +kernel
theorem dx_L_law_202 : decode cd_L_law 202 = .ok (.invokevirtual 72, 3) := by decide +kernel
theorem dx_L_law_205 : decode cd_L_law 205 = .ok (.iload 5, 2) := by decide +kernel
theorem dx_L_law_207 : decode cd_L_law 207 = .ok (.if_icmp .eq 5, 3) := by decide +kernel
theorem dx_L_law_210 : decode cd_L_law 210 = .ok (.iconst 0, 1) := by decide +kernel
theorem dx_L_law_211 : decode cd_L_law 211 = .ok (.ireturn, 1) := by decide +kernel
theorem dx_L_law_212 : decode cd_L_law 212 = .ok (.iload 5, 2) := by decide +kernel
theorem dx_L_law_214 : decode cd_L_law 214 = .ok (.ifCond .ne 15, 3) := by decide +kernel
theorem dx_L_law_217 : decode cd_L_law 217 = .ok (.aload_n 3, 1) := by decide +kernel
theorem dx_L_law_218 : decode cd_L_law 218 = .ok (.iconst 0, 1) := by decide +kernel
theorem dx_L_law_219 : decode cd_L_law 219 = .ok (.laload, 1) := by decide +kernel
theorem dx_L_law_220 : decode cd_L_law 220 = .ok (.iload 6, 2) := by decide +kernel
theorem dx_L_law_222 : decode cd_L_law 222 = .ok (.i2l, 1) := by decide +kernel
theorem dx_L_law_223 : decode cd_L_law 223 = .ok (.lcmp, 1) := by decide +kernel
theorem dx_L_law_224 : decode cd_L_law 224 = .ok (.ifCond .eq 5, 3) := by decide +kernel
theorem dx_L_law_227 : decode cd_L_law 227 = .ok (.iconst 0, 1) := by decide +kernel
theorem dx_L_law_228 : decode cd_L_law 228 = .ok (.ireturn, 1) := by decide +kernel
theorem dx_L_law_229 : decode cd_L_law 229 = .ok (.goto 736, 3) := by decide +kernel
theorem dx_L_law_232 : decode cd_L_law 232 = .ok (.aload_n 1, 1) := by decide +kernel
theorem dx_L_law_233 : decode cd_L_law 233 = .ok (.aload_n 0, 1) := by decide +kernel
theorem dx_L_law_234 : decode cd_L_law 234 = .ok (.iload 4, 2) := by decide +kernel
theorem dx_L_law_236 : decode cd_L_law 236 = .ok (.iconst 1, 1) := by decide +kernel
theorem dx_L_law_237 : decode cd_L_law 237 = .ok (.iadd, 1) := by decide +kernel
theorem dx_L_law_238 : decode cd_L_law 238 = .ok (.iaload, 1) := by decide +kernel
theorem dx_L_law_239 : decode cd_L_law 239 = .ok (.aload_n 0, 1) := by decide +kernel
theorem dx_L_law_240 : decode cd_L_law 240 = .ok (.iload 4, 2) := by decide +kernel
theorem dx_L_law_242 : decode cd_L_law 242 = .ok (.iconst 2, 1) := by decide +kernel
theorem dx_L_law_243 : decode cd_L_law 243 = .ok (.iadd, 1) := by decide +kernel
theorem dx_L_law_244 : decode cd_L_law 244 = .ok (.iaload, 1) := by decide +kernel
theorem dx_L_law_245 : decode cd_L_law 245 = .ok (.aload_n 3, 1) := by decide +kernel
theorem dx_L_law_246 : decode cd_L_law 246 = .ok (.invokestatic 79, 3) := by decide +kernel
theorem dx_L_law_249 : decode cd_L_law 249 = .ok (.istore 5, 2) := by decide +kernel
theorem dx_L_law_251 : decode cd_L_law 251 = .ok (.aload_n 2, 1) := by decide +kernel
theorem dx_L_law_252 : decode cd_L_law 252 = .ok (.aload_n 0, 1) := by decide +kernel
theorem dx_L_law_253 : decode cd_L_law 253 = .ok (.iload 4, 2) := by decide +kernel
theorem dx_L_law_255 : decode cd_L_law 255 = .ok (.iconst 1, 1) := by decide +kernel
theorem dx_L_law_256 : decode cd_L_law 256 = .ok (.iadd, 1) := by decide +kernel
theorem dx_L_law_257 : decode cd_L_law 257 = .ok (.iaload, 1) := by decide +kernel
theorem dx_L_law_258 : decode cd_L_law 258 = .ok (.aload_n 0, 1) := by decide +kernel
theorem dx_L_law_259 : decode cd_L_law 259 = .ok (.iload 4, 2) := by decide +kernel
theorem dx_L_law_261 : decode cd_L_law 261 = .ok (.iconst 2, 1) := by decide +kernel
theorem dx_L_law_262 : decode cd_L_law 262 = .ok (.iadd, 1) := by decide +kernel
theorem dx_L_law_263 : decode cd_L_law 263 = .ok (.iaload, 1) := by decide +kernel
theorem dx_L_law_264 : decode cd_L_law 264 = .ok (.invokevirtual 82, 3) := by decide +kernel
theorem dx_L_law_267 : decode cd_L_law 267 = .ok (.istore 6, 2) := by decide +kernel
theorem dx_L_law_269 : decode cd_L_law 269 = .ok (.aload_n 2, 1) := by decide +kernel
theorem dx_L_law_270 : decode cd_L_law 270 = .ok (.invokevirtual 72, 3) := by decide +kernel
theorem dx_L_law_273 : decode cd_L_law 273 = .ok (.iload 5, 2) := by decide +kernel
theorem dx_L_law_275 : decode cd_L_law 275 = .ok (.if_icmp .eq 5, 3) := by decide +kernel
theorem dx_L_law_278 : decode cd_L_law 278 = .ok (.iconst 0, 1) := by decide +kernel
theorem dx_L_law_279 : decode cd_L_law 279 = .ok (.ireturn, 1) := by decide +kernel
theorem dx_L_law_280 : decode cd_L_law 280 = .ok (.iload 5, 2) := by decide +kernel
theorem dx_L_law_282 : decode cd_L_law 282 = .ok (.ifCond .ne 15, 3) := by decide +kernel
theorem dx_L_law_285 : decode cd_L_law 285 = .ok (.aload_n 3, 1) := by decide +kernel
theorem dx_L_law_286 : decode cd_L_law 286 = .ok (.iconst 0, 1) := by decide +kernel
theorem dx_L_law_287 : decode cd_L_law 287 = .ok (.laload, 1) := by decide +kernel
theorem dx_L_law_288 : decode cd_L_law 288 = .ok (.iload 6, 2) := by decide +kernel
theorem dx_L_law_290 : decode cd_L_law 290 = .ok (.i2l, 1) := by decide +kernel
theorem dx_L_law_291 : decode cd_L_law 291 = .ok (.lcmp, 1) := by decide +kernel
theorem dx_L_law_292 : decode cd_L_law 292 = .ok (.ifCond .eq 5, 3) := by decide +kernel
theorem dx_L_law_295 : decode cd_L_law 295 = .ok (.iconst 0, 1) := by decide +kernel
theorem dx_L_law_296 : decode cd_L_law 296 = .ok (.ireturn, 1) := by decide +kernel
theorem dx_L_law_297 : decode cd_L_law 297 = .ok (.goto 668, 3) := by decide +kernel
theorem dx_L_law_300 : decode cd_L_law 300 = .ok (.aload_n 1, 1) := by decide +kernel
theorem dx_L_law_301 : decode cd_L_law 301 = .ok (.invokevirtual 83, 3) := by decide +kernel
theorem dx_L_law_304 : decode cd_L_law 304 = .ok (.aload_n 2, 1) := by decide +kernel
theorem dx_L_law_305 : decode cd_L_law 305 = .ok (.invokevirtual 86, 3) := by decide +kernel
theorem dx_L_law_308 : decode cd_L_law 308 = .ok (.if_icmp .eq 657, 3) := by decide +kernel
theorem dx_L_law_311 : decode cd_L_law 311 = .ok (.iconst 0, 1) := by decide +kernel
theorem dx_L_law_312 : decode cd_L_law 312 = .ok (.ireturn, 1) := by decide +kernel
theorem dx_L_law_313 : decode cd_L_law 313 = .ok (.aload_n 1, 1) := by decide +kernel
theorem dx_L_law_314 : decode cd_L_law 314 = .ok (.aload_n 0, 1) := by decide +kernel
theorem dx_L_law_315 : decode cd_L_law 315 = .ok (.iload 4, 2) := by decide +kernel
theorem dx_L_law_317 : decode cd_L_law 317 = .ok (.iconst 1, 1) := by decide +kernel
theorem dx_L_law_318 : decode cd_L_law 318 = .ok (.iadd, 1) := by decide +kernel
theorem dx_L_law_319 : decode cd_L_law 319 = .ok (.iaload, 1) := by decide +kernel
theorem dx_L_law_320 : decode cd_L_law 320 = .ok (.aload_n 3, 1) := by decide +kernel
theorem dx_L_law_321 : decode cd_L_law 321 = .ok (.invokestatic 87, 3) := by decide +kernel
theorem dx_L_law_324 : decode cd_L_law 324 = .ok (.istore 5, 2) := by decide +kernel
theorem dx_L_law_326 : decode cd_L_law 326 = .ok (.aload_n 2, 1) := by decide +kernel
theorem dx_L_law_327 : decode cd_L_law 327 = .ok (.aload_n 0, 1) := by decide +kernel
theorem dx_L_law_328 : decode cd_L_law 328 = .ok (.iload 4, 2) := by decide +kernel
theorem dx_L_law_330 : decode cd_L_law 330 = .ok (.iconst 1, 1) := by decide +kernel
theorem dx_L_law_331 : decode cd_L_law 331 = .ok (.iadd, 1) := by decide +kernel
theorem dx_L_law_332 : decode cd_L_law 332 = .ok (.iaload, 1) := by decide +kernel
theorem dx_L_law_333 : decode cd_L_law 333 = .ok (.invokevirtual 90, 3) := by decide +kernel
theorem dx_L_law_336 : decode cd_L_law 336 = .ok (.istore 6, 2) := by decide +kernel
theorem dx_L_law_338 : decode cd_L_law 338 = .ok (.aload_n 2, 1) := by decide +kernel
theorem dx_L_law_339 : decode cd_L_law 339 = .ok (.invokevirtual 72, 3) := by decide +kernel
theorem dx_L_law_342 : decode cd_L_law 342 = .ok (.iload 5, 2) := by decide +kernel
theorem dx_L_law_344 : decode cd_L_law 344 = .ok (.if_icmp .eq 5, 3) := by decide +kernel
theorem dx_L_law_347 : decode cd_L_law 347 = .ok (.iconst 0, 1) := by decide +kernel
theorem dx_L_law_348 : decode cd_L_law 348 = .ok (.ireturn, 1) := by decide +kernel
theorem dx_L_law_349 : decode cd_L_law 349 = .ok (.iload 5, 2) := by decide +kernel
theorem dx_L_law_351 : decode cd_L_law 351 = .ok (.ifCond .ne 15, 3) := by decide +kernel
theorem dx_L_law_354 : decode cd_L_law 354 = .ok (.aload_n 3, 1) := by decide +kernel
theorem dx_L_law_355 : decode cd_L_law 355 = .ok (.iconst 0, 1) := by decide +kernel
theorem dx_L_law_356 : decode cd_L_law 356 = .ok (.laload, 1) := by decide +kernel
theorem dx_L_law_357 : decode cd_L_law 357 = .ok (.iload 6, 2) := by decide +kernel
theorem dx_L_law_359 : decode cd_L_law 359 = .ok (.i2l, 1) := by decide +kernel
theorem dx_L_law_360 : decode cd_L_law 360 = .ok (.lcmp, 1) := by decide +kernel
theorem dx_L_law_361 : decode cd_L_law 361 = .ok (.ifCond .eq 5, 3) := by decide +kernel
theorem dx_L_law_364 : decode cd_L_law 364 = .ok (.iconst 0, 1) := by decide +kernel
theorem dx_L_law_365 : decode cd_L_law 365 = .ok (.ireturn, 1) := by decide +kernel
theorem dx_L_law_366 : decode cd_L_law 366 = .ok (.goto 599, 3) := by decide +kernel
theorem dx_L_law_369 : decode cd_L_law 369 = .ok (.aload_n 1, 1) := by decide +kernel
theorem dx_L_law_370 : decode cd_L_law 370 = .ok (.aload_n 0, 1) := by decide +kernel
theorem dx_L_law_371 : decode cd_L_law 371 = .ok (.iload 4, 2) := by decide +kernel
theorem dx_L_law_373 : decode cd_L_law 373 = .ok (.iconst 1, 1) := by decide +kernel
theorem dx_L_law_374 : decode cd_L_law 374 = .ok (.iadd, 1) := by decide +kernel
theorem dx_L_law_375 : decode cd_L_law 375 = .ok (.iaload, 1) := by decide +kernel
theorem dx_L_law_376 : decode cd_L_law 376 = .ok (.aload_n 3, 1) := by decide +kernel
theorem dx_L_law_377 : decode cd_L_law 377 = .ok (.invokestatic 91, 3) := by decide +kernel
theorem dx_L_law_380 : decode cd_L_law 380 = .ok (.istore 5, 2) := by decide +kernel
theorem dx_L_law_382 : decode cd_L_law 382 = .ok (.aload_n 2, 1) := by decide +kernel
theorem dx_L_law_383 : decode cd_L_law 383 = .ok (.aload_n 0, 1) := by decide +kernel
theorem dx_L_law_384 : decode cd_L_law 384 = .ok (.iload 4, 2) := by decide +kernel
theorem dx_L_law_386 : decode cd_L_law 386 = .ok (.iconst 1, 1) := by decide +kernel
theorem dx_L_law_387 : decode cd_L_law 387 = .ok (.iadd, 1) := by decide +kernel
theorem dx_L_law_388 : decode cd_L_law 388 = .ok (.iaload, 1) := by decide +kernel
theorem dx_L_law_389 : decode cd_L_law 389 = .ok (.invokevirtual 93, 3) := by decide +kernel
theorem dx_L_law_392 : decode cd_L_law 392 = .ok (.istore 6, 2) := by decide +kernel
theorem dx_L_law_394 : decode cd_L_law 394 = .ok (.aload_n 2, 1) := by decide +kernel
theorem dx_L_law_395 : decode cd_L_law 395 = .ok (.invokevirtual 72, 3) := by decide +kernel
theorem dx_L_law_398 : decode cd_L_law 398 = .ok (.iload 5, 2) := by decide +kernel
theorem dx_L_law_400 : decode cd_L_law 400 = .ok (.if_icmp .eq 5, 3) := by decide +kernel
theorem dx_L_law_403 : decode cd_L_law 403 = .ok (.iconst 0, 1) := by decide +kernel
theorem dx_L_law_404 : decode cd_L_law 404 = .ok (.ireturn, 1) := by decide +kernel
theorem dx_L_law_405 : decode cd_L_law 405 = .ok (.iload 5, 2) := by decide +kernel
theorem dx_L_law_407 : decode cd_L_law 407 = .ok (.ifCond .ne 15, 3) := by decide +kernel
theorem dx_L_law_410 : decode cd_L_law 410 = .ok (.aload_n 3, 1) := by decide +kernel
theorem dx_L_law_411 : decode cd_L_law 411 = .ok (.iconst 0, 1) := by decide +kernel
theorem dx_L_law_412 : decode cd_L_law 412 = .ok (.laload, 1) := by decide +kernel
theorem dx_L_law_413 : decode cd_L_law 413 = .ok (.iload 6, 2) := by decide +kernel
theorem dx_L_law_415 : decode cd_L_law 415 = .ok (.i2l, 1) := by decide +kernel
theorem dx_L_law_416 : decode cd_L_law 416 = .ok (.lcmp, 1) := by decide +kernel
theorem dx_L_law_417 : decode cd_L_law 417 = .ok (.ifCond .eq 5, 3) := by decide +kernel
theorem dx_L_law_420 : decode cd_L_law 420 = .ok (.iconst 0, 1) := by decide +kernel
theorem dx_L_law_421 : decode cd_L_law 421 = .ok (.ireturn, 1) := by decide +kernel
theorem dx_L_law_422 : decode cd_L_law 422 = .ok (.goto 543, 3) := by decide +kernel
theorem dx_L_law_425 : decode cd_L_law 425 = .ok (.aload_n 1, 1) := by decide +kernel
theorem dx_L_law_426 : decode cd_L_law 426 = .ok (.aload_n 0, 1) := by decide +kernel
theorem dx_L_law_427 : decode cd_L_law 427 = .ok (.iload 4, 2) := by decide +kernel
theorem dx_L_law_429 : decode cd_L_law 429 = .ok (.iconst 1, 1) := by decide +kernel
theorem dx_L_law_430 : decode cd_L_law 430 = .ok (.iadd, 1) := by decide +kernel
theorem dx_L_law_431 : decode cd_L_law 431 = .ok (.iaload, 1) := by decide +kernel
theorem dx_L_law_432 : decode cd_L_law 432 = .ok (.aload_n 0, 1) := by decide +kernel
theorem dx_L_law_433 : decode cd_L_law 433 = .ok (.iload 4, 2) := by decide +kernel
theorem dx_L_law_435 : decode cd_L_law 435 = .ok (.iconst 2, 1) := by decide +kernel
theorem dx_L_law_436 : decode cd_L_law 436 = .ok (.iadd, 1) := by decide +kernel
theorem dx_L_law_437 : decode cd_L_law 437 = .ok (.iaload, 1) := by decide +kernel
theorem dx_L_law_438 : decode cd_L_law 438 = .ok (.aload_n 3, 1) := by decide +kernel
theorem dx_L_law_439 : decode cd_L_law 439 = .ok (.invokestatic 94, 3) := by decide +kernel
theorem dx_L_law_442 : decode cd_L_law 442 = .ok (.istore 5, 2) := by decide +kernel
theorem dx_L_law_444 : decode cd_L_law 444 = .ok (.aload_n 2, 1) := by decide +kernel
theorem dx_L_law_445 : decode cd_L_law 445 = .ok (.aload_n 0, 1) := by decide +kernel
theorem dx_L_law_446 : decode cd_L_law 446 = .ok (.iload 4, 2) := by decide +kernel
theorem dx_L_law_448 : decode cd_L_law 448 = .ok (.iconst 1, 1) := by decide +kernel
theorem dx_L_law_449 : decode cd_L_law 449 = .ok (.iadd, 1) := by decide +kernel
theorem dx_L_law_450 : decode cd_L_law 450 = .ok (.iaload, 1) := by decide +kernel
theorem dx_L_law_451 : decode cd_L_law 451 = .ok (.aload_n 0, 1) := by decide +kernel
theorem dx_L_law_452 : decode cd_L_law 452 = .ok (.iload 4, 2) := by decide +kernel
theorem dx_L_law_454 : decode cd_L_law 454 = .ok (.iconst 2, 1) := by decide +kernel
theorem dx_L_law_455 : decode cd_L_law 455 = .ok (.iadd, 1) := by decide +kernel
theorem dx_L_law_456 : decode cd_L_law 456 = .ok (.iaload, 1) := by decide +kernel
theorem dx_L_law_457 : decode cd_L_law 457 = .ok (.invokevirtual 96, 3) := by decide +kernel
theorem dx_L_law_460 : decode cd_L_law 460 = .ok (.istore 6, 2) := by decide +kernel
theorem dx_L_law_462 : decode cd_L_law 462 = .ok (.aload_n 2, 1) := by decide +kernel
theorem dx_L_law_463 : decode cd_L_law 463 = .ok (.invokevirtual 72, 3) := by decide +kernel
theorem dx_L_law_466 : decode cd_L_law 466 = .ok (.iload 5, 2) := by decide +kernel
theorem dx_L_law_468 : decode cd_L_law 468 = .ok (.if_icmp .eq 5, 3) := by decide +kernel
theorem dx_L_law_471 : decode cd_L_law 471 = .ok (.iconst 0, 1) := by decide +kernel
theorem dx_L_law_472 : decode cd_L_law 472 = .ok (.ireturn, 1) := by decide +kernel
theorem dx_L_law_473 : decode cd_L_law 473 = .ok (.iload 5, 2) := by decide +kernel
theorem dx_L_law_475 : decode cd_L_law 475 = .ok (.ifCond .ne 22, 3) := by decide +kernel
theorem dx_L_law_478 : decode cd_L_law 478 = .ok (.aload_n 3, 1) := by decide +kernel
theorem dx_L_law_479 : decode cd_L_law 479 = .ok (.iconst 0, 1) := by decide +kernel
theorem dx_L_law_480 : decode cd_L_law 480 = .ok (.laload, 1) := by decide +kernel
theorem dx_L_law_481 : decode cd_L_law 481 = .ok (.iload 6, 2) := by decide +kernel
theorem dx_L_law_483 : decode cd_L_law 483 = .ok (.ifCond .eq 7, 3) := by decide +kernel
theorem dx_L_law_486 : decode cd_L_law 486 = .ok (.lconst 1, 1) := by decide +kernel
theorem dx_L_law_487 : decode cd_L_law 487 = .ok (.goto 4, 3) := by decide +kernel
theorem dx_L_law_490 : decode cd_L_law 490 = .ok (.lconst 0, 1) := by decide +kernel
theorem dx_L_law_491 : decode cd_L_law 491 = .ok (.lcmp, 1) := by decide +kernel
theorem dx_L_law_492 : decode cd_L_law 492 = .ok (.ifCond .eq 5, 3) := by decide +kernel
theorem dx_L_law_495 : decode cd_L_law 495 = .ok (.iconst 0, 1) := by decide +kernel
theorem dx_L_law_496 : decode cd_L_law 496 = .ok (.ireturn, 1) := by decide +kernel
theorem dx_L_law_497 : decode cd_L_law 497 = .ok (.goto 468, 3) := by decide +kernel
theorem dx_L_law_500 : decode cd_L_law 500 = .ok (.aload_n 1, 1) := by decide +kernel
theorem dx_L_law_501 : decode cd_L_law 501 = .ok (.aload_n 0, 1) := by decide +kernel
theorem dx_L_law_502 : decode cd_L_law 502 = .ok (.iload 4, 2) := by decide +kernel
theorem dx_L_law_504 : decode cd_L_law 504 = .ok (.iconst 1, 1) := by decide +kernel
theorem dx_L_law_505 : decode cd_L_law 505 = .ok (.iadd, 1) := by decide +kernel
theorem dx_L_law_506 : decode cd_L_law 506 = .ok (.iaload, 1) := by decide +kernel
theorem dx_L_law_507 : decode cd_L_law 507 = .ok (.aload_n 3, 1) := by decide +kernel
theorem dx_L_law_508 : decode cd_L_law 508 = .ok (.invokestatic 97, 3) := by decide +kernel
theorem dx_L_law_511 : decode cd_L_law 511 = .ok (.istore 5, 2) := by decide +kernel
theorem dx_L_law_513 : decode cd_L_law 513 = .ok (.aload_n 2, 1) := by decide +kernel
theorem dx_L_law_514 : decode cd_L_law 514 = .ok (.aload_n 0, 1) := by decide +kernel
theorem dx_L_law_515 : decode cd_L_law 515 = .ok (.iload 4, 2) := by decide +kernel
theorem dx_L_law_517 : decode cd_L_law 517 = .ok (.iconst 1, 1) := by decide +kernel
theorem dx_L_law_518 : decode cd_L_law 518 = .ok (.iadd, 1) := by decide +kernel
theorem dx_L_law_519 : decode cd_L_law 519 = .ok (.iaload, 1) := by decide +kernel
theorem dx_L_law_520 : decode cd_L_law 520 = .ok (.invokevirtual 99, 3) := by decide +kernel
theorem dx_L_law_523 : decode cd_L_law 523 = .ok (.istore 6, 2) := by decide +kernel
theorem dx_L_law_525 : decode cd_L_law 525 = .ok (.aload_n 2, 1) := by decide +kernel
theorem dx_L_law_526 : decode cd_L_law 526 = .ok (.invokevirtual 72, 3) := by decide +kernel
theorem dx_L_law_529 : decode cd_L_law 529 = .ok (.iload 5, 2) := by decide +kernel
theorem dx_L_law_531 : decode cd_L_law 531 = .ok (.if_icmp .eq 5, 3) := by decide +kernel
theorem dx_L_law_534 : decode cd_L_law 534 = .ok (.iconst 0, 1) := by decide +kernel
theorem dx_L_law_535 : decode cd_L_law 535 = .ok (.ireturn, 1) := by decide +kernel
theorem dx_L_law_536 : decode cd_L_law 536 = .ok (.iload 5, 2) := by decide +kernel
theorem dx_L_law_538 : decode cd_L_law 538 = .ok (.ifCond .ne 15, 3) := by decide +kernel
theorem dx_L_law_541 : decode cd_L_law 541 = .ok (.aload_n 3, 1) := by decide +kernel
theorem dx_L_law_542 : decode cd_L_law 542 = .ok (.iconst 0, 1) := by decide +kernel
theorem dx_L_law_543 : decode cd_L_law 543 = .ok (.laload, 1) := by decide +kernel
theorem dx_L_law_544 : decode cd_L_law 544 = .ok (.iload 6, 2) := by decide +kernel
theorem dx_L_law_546 : decode cd_L_law 546 = .ok (.i2l, 1) := by decide +kernel
theorem dx_L_law_547 : decode cd_L_law 547 = .ok (.lcmp, 1) := by decide +kernel
theorem dx_L_law_548 : decode cd_L_law 548 = .ok (.ifCond .eq 5, 3) := by decide +kernel
theorem dx_L_law_551 : decode cd_L_law 551 = .ok (.iconst 0, 1) := by decide +kernel
theorem dx_L_law_552 : decode cd_L_law 552 = .ok (.ireturn, 1) := by decide +kernel
theorem dx_L_law_553 : decode cd_L_law 553 = .ok (.goto 412, 3) := by decide +kernel
theorem dx_L_law_556 : decode cd_L_law 556 = .ok (.aload_n 1, 1) := by decide +kernel
theorem dx_L_law_557 : decode cd_L_law 557 = .ok (.aload_n 0, 1) := by decide +kernel
theorem dx_L_law_558 : decode cd_L_law 558 = .ok (.iload 4, 2) := by decide +kernel
theorem dx_L_law_560 : decode cd_L_law 560 = .ok (.iconst 1, 1) := by decide +kernel
theorem dx_L_law_561 : decode cd_L_law 561 = .ok (.iadd, 1) := by decide +kernel
theorem dx_L_law_562 : decode cd_L_law 562 = .ok (.iaload, 1) := by decide +kernel
theorem dx_L_law_563 : decode cd_L_law 563 = .ok (.aload_n 3, 1) := by decide +kernel
theorem dx_L_law_564 : decode cd_L_law 564 = .ok (.invokestatic 100, 3) := by decide +kernel
theorem dx_L_law_567 : decode cd_L_law 567 = .ok (.istore 5, 2) := by decide +kernel
theorem dx_L_law_569 : decode cd_L_law 569 = .ok (.aload_n 2, 1) := by decide +kernel
theorem dx_L_law_570 : decode cd_L_law 570 = .ok (.aload_n 0, 1) := by decide +kernel
theorem dx_L_law_571 : decode cd_L_law 571 = .ok (.iload 4, 2) := by decide +kernel
theorem dx_L_law_573 : decode cd_L_law 573 = .ok (.iconst 1, 1) := by decide +kernel
theorem dx_L_law_574 : decode cd_L_law 574 = .ok (.iadd, 1) := by decide +kernel
theorem dx_L_law_575 : decode cd_L_law 575 = .ok (.iaload, 1) := by decide +kernel
theorem dx_L_law_576 : decode cd_L_law 576 = .ok (.invokevirtual 102, 3) := by decide +kernel
theorem dx_L_law_579 : decode cd_L_law 579 = .ok (.lstore 6, 2) := by decide +kernel
theorem dx_L_law_581 : decode cd_L_law 581 = .ok (.aload_n 2, 1) := by decide +kernel
theorem dx_L_law_582 : decode cd_L_law 582 = .ok (.invokevirtual 72, 3) := by decide +kernel
theorem dx_L_law_585 : decode cd_L_law 585 = .ok (.iload 5, 2) := by decide +kernel
theorem dx_L_law_587 : decode cd_L_law 587 = .ok (.if_icmp .eq 5, 3) := by decide +kernel
theorem dx_L_law_590 : decode cd_L_law 590 = .ok (.iconst 0, 1) := by decide +kernel
theorem dx_L_law_591 : decode cd_L_law 591 = .ok (.ireturn, 1) := by decide +kernel
theorem dx_L_law_592 : decode cd_L_law 592 = .ok (.iload 5, 2) := by decide +kernel
theorem dx_L_law_594 : decode cd_L_law 594 = .ok (.ifCond .ne 14, 3) := by decide +kernel
theorem dx_L_law_597 : decode cd_L_law 597 = .ok (.aload_n 3, 1) := by decide +kernel
theorem dx_L_law_598 : decode cd_L_law 598 = .ok (.iconst 0, 1) := by decide +kernel
theorem dx_L_law_599 : decode cd_L_law 599 = .ok (.laload, 1) := by decide +kernel
theorem dx_L_law_600 : decode cd_L_law 600 = .ok (.lload 6, 2) := by decide +kernel
theorem dx_L_law_602 : decode cd_L_law 602 = .ok (.lcmp, 1) := by decide +kernel
theorem dx_L_law_603 : decode cd_L_law 603 = .ok (.ifCond .eq 5, 3) := by decide +kernel
theorem dx_L_law_606 : decode cd_L_law 606 = .ok (.iconst 0, 1) := by decide +kernel
theorem dx_L_law_607 : decode cd_L_law 607 = .ok (.ireturn, 1) := by decide +kernel
theorem dx_L_law_608 : decode cd_L_law 608 = .ok (.goto 357, 3) := by decide +kernel
theorem dx_L_law_611 : decode cd_L_law 611 = .ok (.aload_n 1, 1) := by decide +kernel
theorem dx_L_law_612 : decode cd_L_law 612 = .ok (.aload_n 0, 1) := by decide +kernel
theorem dx_L_law_613 : decode cd_L_law 613 = .ok (.iload 4, 2) := by decide +kernel
theorem dx_L_law_615 : decode cd_L_law 615 = .ok (.iconst 1, 1) := by decide +kernel
theorem dx_L_law_616 : decode cd_L_law 616 = .ok (.iadd, 1) := by decide +kernel
theorem dx_L_law_617 : decode cd_L_law 617 = .ok (.iaload, 1) := by decide +kernel
theorem dx_L_law_618 : decode cd_L_law 618 = .ok (.aload_n 3, 1) := by decide +kernel
theorem dx_L_law_619 : decode cd_L_law 619 = .ok (.invokestatic 103, 3) := by decide +kernel
theorem dx_L_law_622 : decode cd_L_law 622 = .ok (.istore 5, 2) := by decide +kernel
theorem dx_L_law_624 : decode cd_L_law 624 = .ok (.aload_n 2, 1) := by decide +kernel
theorem dx_L_law_625 : decode cd_L_law 625 = .ok (.aload_n 0, 1) := by decide +kernel
theorem dx_L_law_626 : decode cd_L_law 626 = .ok (.iload 4, 2) := by decide +kernel
theorem dx_L_law_628 : decode cd_L_law 628 = .ok (.iconst 1, 1) := by decide +kernel
theorem dx_L_law_629 : decode cd_L_law 629 = .ok (.iadd, 1) := by decide +kernel
theorem dx_L_law_630 : decode cd_L_law 630 = .ok (.iaload, 1) := by decide +kernel
theorem dx_L_law_631 : decode cd_L_law 631 = .ok (.invokevirtual 105, 3) := by decide +kernel
theorem dx_L_law_634 : decode cd_L_law 634 = .ok (.istore 6, 2) := by decide +kernel
theorem dx_L_law_636 : decode cd_L_law 636 = .ok (.aload_n 2, 1) := by decide +kernel
theorem dx_L_law_637 : decode cd_L_law 637 = .ok (.invokevirtual 72, 3) := by decide +kernel
theorem dx_L_law_640 : decode cd_L_law 640 = .ok (.iload 5, 2) := by decide +kernel
theorem dx_L_law_642 : decode cd_L_law 642 = .ok (.if_icmp .eq 5, 3) := by decide +kernel
theorem dx_L_law_645 : decode cd_L_law 645 = .ok (.iconst 0, 1) := by decide +kernel
theorem dx_L_law_646 : decode cd_L_law 646 = .ok (.ireturn, 1) := by decide +kernel
theorem dx_L_law_647 : decode cd_L_law 647 = .ok (.iload 5, 2) := by decide +kernel
theorem dx_L_law_649 : decode cd_L_law 649 = .ok (.ifCond .ne 15, 3) := by decide +kernel
theorem dx_L_law_652 : decode cd_L_law 652 = .ok (.aload_n 3, 1) := by decide +kernel
theorem dx_L_law_653 : decode cd_L_law 653 = .ok (.iconst 0, 1) := by decide +kernel
theorem dx_L_law_654 : decode cd_L_law 654 = .ok (.laload, 1) := by decide +kernel
theorem dx_L_law_655 : decode cd_L_law 655 = .ok (.iload 6, 2) := by decide +kernel
theorem dx_L_law_657 : decode cd_L_law 657 = .ok (.i2l, 1) := by decide +kernel
theorem dx_L_law_658 : decode cd_L_law 658 = .ok (.lcmp, 1) := by decide +kernel
theorem dx_L_law_659 : decode cd_L_law 659 = .ok (.ifCond .eq 5, 3) := by decide +kernel
theorem dx_L_law_662 : decode cd_L_law 662 = .ok (.iconst 0, 1) := by decide +kernel
theorem dx_L_law_663 : decode cd_L_law 663 = .ok (.ireturn, 1) := by decide +kernel
theorem dx_L_law_664 : decode cd_L_law 664 = .ok (.goto 301, 3) := by decide +kernel
theorem dx_L_law_667 : decode cd_L_law 667 = .ok (.aload_n 1, 1) := by decide +kernel
theorem dx_L_law_668 : decode cd_L_law 668 = .ok (.aload_n 0, 1) := by decide +kernel
theorem dx_L_law_669 : decode cd_L_law 669 = .ok (.iload 4, 2) := by decide +kernel
theorem dx_L_law_671 : decode cd_L_law 671 = .ok (.iconst 1, 1) := by decide +kernel
theorem dx_L_law_672 : decode cd_L_law 672 = .ok (.iadd, 1) := by decide +kernel
theorem dx_L_law_673 : decode cd_L_law 673 = .ok (.iaload, 1) := by decide +kernel
theorem dx_L_law_674 : decode cd_L_law 674 = .ok (.aload_n 3, 1) := by decide +kernel
theorem dx_L_law_675 : decode cd_L_law 675 = .ok (.invokestatic 106, 3) := by decide +kernel
theorem dx_L_law_678 : decode cd_L_law 678 = .ok (.istore 5, 2) := by decide +kernel
theorem dx_L_law_680 : decode cd_L_law 680 = .ok (.aload_n 2, 1) := by decide +kernel
theorem dx_L_law_681 : decode cd_L_law 681 = .ok (.aload_n 0, 1) := by decide +kernel
theorem dx_L_law_682 : decode cd_L_law 682 = .ok (.iload 4, 2) := by decide +kernel
theorem dx_L_law_684 : decode cd_L_law 684 = .ok (.iconst 1, 1) := by decide +kernel
theorem dx_L_law_685 : decode cd_L_law 685 = .ok (.iadd, 1) := by decide +kernel
theorem dx_L_law_686 : decode cd_L_law 686 = .ok (.iaload, 1) := by decide +kernel
theorem dx_L_law_687 : decode cd_L_law 687 = .ok (.invokevirtual 108, 3) := by decide +kernel
theorem dx_L_law_690 : decode cd_L_law 690 = .ok (.istore 6, 2) := by decide +kernel
theorem dx_L_law_692 : decode cd_L_law 692 = .ok (.aload_n 2, 1) := by decide +kernel
theorem dx_L_law_693 : decode cd_L_law 693 = .ok (.invokevirtual 72, 3) := by decide +kernel
theorem dx_L_law_696 : decode cd_L_law 696 = .ok (.iload 5, 2) := by decide +kernel
theorem dx_L_law_698 : decode cd_L_law 698 = .ok (.if_icmp .eq 5, 3) := by decide +kernel
theorem dx_L_law_701 : decode cd_L_law 701 = .ok (.iconst 0, 1) := by decide +kernel
theorem dx_L_law_702 : decode cd_L_law 702 = .ok (.ireturn, 1) := by decide +kernel
theorem dx_L_law_703 : decode cd_L_law 703 = .ok (.iload 5, 2) := by decide +kernel
theorem dx_L_law_705 : decode cd_L_law 705 = .ok (.ifCond .ne 15, 3) := by decide +kernel
theorem dx_L_law_708 : decode cd_L_law 708 = .ok (.aload_n 3, 1) := by decide +kernel
theorem dx_L_law_709 : decode cd_L_law 709 = .ok (.iconst 0, 1) := by decide +kernel
theorem dx_L_law_710 : decode cd_L_law 710 = .ok (.laload, 1) := by decide +kernel
theorem dx_L_law_711 : decode cd_L_law 711 = .ok (.iload 6, 2) := by decide +kernel
theorem dx_L_law_713 : decode cd_L_law 713 = .ok (.i2l, 1) := by decide +kernel
theorem dx_L_law_714 : decode cd_L_law 714 = .ok (.lcmp, 1) := by decide +kernel
theorem dx_L_law_715 : decode cd_L_law 715 = .ok (.ifCond .eq 5, 3) := by decide +kernel
theorem dx_L_law_718 : decode cd_L_law 718 = .ok (.iconst 0, 1) := by decide +kernel
theorem dx_L_law_719 : decode cd_L_law 719 = .ok (.ireturn, 1) := by decide +kernel
theorem dx_L_law_720 : decode cd_L_law 720 = .ok (.goto 245, 3) := by decide +kernel
theorem dx_L_law_723 : decode cd_L_law 723 = .ok (.aload_n 1, 1) := by decide +kernel
theorem dx_L_law_724 : decode cd_L_law 724 = .ok (.aload_n 0, 1) := by decide +kernel
theorem dx_L_law_725 : decode cd_L_law 725 = .ok (.iload 4, 2) := by decide +kernel
theorem dx_L_law_727 : decode cd_L_law 727 = .ok (.iconst 1, 1) := by decide +kernel
theorem dx_L_law_728 : decode cd_L_law 728 = .ok (.iadd, 1) := by decide +kernel
theorem dx_L_law_729 : decode cd_L_law 729 = .ok (.iaload, 1) := by decide +kernel
theorem dx_L_law_730 : decode cd_L_law 730 = .ok (.aload_n 0, 1) := by decide +kernel
theorem dx_L_law_731 : decode cd_L_law 731 = .ok (.iload 4, 2) := by decide +kernel
theorem dx_L_law_733 : decode cd_L_law 733 = .ok (.iconst 2, 1) := by decide +kernel
theorem dx_L_law_734 : decode cd_L_law 734 = .ok (.iadd, 1) := by decide +kernel
theorem dx_L_law_735 : decode cd_L_law 735 = .ok (.iaload, 1) := by decide +kernel
theorem dx_L_law_736 : decode cd_L_law 736 = .ok (.i2l, 1) := by decide +kernel
theorem dx_L_law_737 : decode cd_L_law 737 = .ok (.bipush 32, 2) := by decide +kernel
theorem dx_L_law_739 : decode cd_L_law 739 = .ok (.lshl, 1) := by decide +kernel
theorem dx_L_law_740 : decode cd_L_law 740 = .ok (.aload_n 0, 1) := by decide +kernel
theorem dx_L_law_741 : decode cd_L_law 741 = .ok (.iload 4, 2) := by decide +kernel
theorem dx_L_law_743 : decode cd_L_law 743 = .ok (.iconst 3, 1) := by decide +kernel
theorem dx_L_law_744 : decode cd_L_law 744 = .ok (.iadd, 1) := by decide +kernel
theorem dx_L_law_745 : decode cd_L_law 745 = .ok (.iaload, 1) := by decide +kernel
theorem dx_L_law_746 : decode cd_L_law 746 = .ok (.i2l, 1) := by decide +kernel
theorem dx_L_law_747 : decode cd_L_law 747 = .ok (.ldc2_w 109, 3) := by decide +kernel
theorem dx_L_law_750 : decode cd_L_law 750 = .ok (.land, 1) := by decide +kernel
theorem dx_L_law_751 : decode cd_L_law 751 = .ok (.lor, 1) := by decide +kernel
theorem dx_L_law_752 : decode cd_L_law 752 = .ok (.aload_n 3, 1) := by decide +kernel
theorem dx_L_law_753 : decode cd_L_law 753 = .ok (.invokestatic 111, 3) := by decide +kernel
theorem dx_L_law_756 : decode cd_L_law 756 = .ok (.istore 5, 2) := by decide +kernel
theorem dx_L_law_758 : decode cd_L_law 758 = .ok (.aload_n 2, 1) := by decide +kernel
theorem dx_L_law_759 : decode cd_L_law 759 = .ok (.aload_n 0, 1) := by decide +kernel
theorem dx_L_law_760 : decode cd_L_law 760 = .ok (.iload 4, 2) := by decide +kernel
theorem dx_L_law_762 : decode cd_L_law 762 = .ok (.iconst 1, 1) := by decide +kernel
theorem dx_L_law_763 : decode cd_L_law 763 = .ok (.iadd, 1) := by decide +kernel
theorem dx_L_law_764 : decode cd_L_law 764 = .ok (.iaload, 1) := by decide +kernel
theorem dx_L_law_765 : decode cd_L_law 765 = .ok (.aload_n 0, 1) := by decide +kernel
theorem dx_L_law_766 : decode cd_L_law 766 = .ok (.iload 4, 2) := by decide +kernel
theorem dx_L_law_768 : decode cd_L_law 768 = .ok (.iconst 2, 1) := by decide +kernel
theorem dx_L_law_769 : decode cd_L_law 769 = .ok (.iadd, 1) := by decide +kernel
theorem dx_L_law_770 : decode cd_L_law 770 = .ok (.iaload, 1) := by decide +kernel
theorem dx_L_law_771 : decode cd_L_law 771 = .ok (.i2l, 1) := by decide +kernel
theorem dx_L_law_772 : decode cd_L_law 772 = .ok (.bipush 32, 2) := by decide +kernel
theorem dx_L_law_774 : decode cd_L_law 774 = .ok (.lshl, 1) := by decide +kernel
theorem dx_L_law_775 : decode cd_L_law 775 = .ok (.aload_n 0, 1) := by decide +kernel
theorem dx_L_law_776 : decode cd_L_law 776 = .ok (.iload 4, 2) := by decide +kernel
theorem dx_L_law_778 : decode cd_L_law 778 = .ok (.iconst 3, 1) := by decide +kernel
theorem dx_L_law_779 : decode cd_L_law 779 = .ok (.iadd, 1) := by decide +kernel
theorem dx_L_law_780 : decode cd_L_law 780 = .ok (.iaload, 1) := by decide +kernel
theorem dx_L_law_781 : decode cd_L_law 781 = .ok (.i2l, 1) := by decide +kernel
theorem dx_L_law_782 : decode cd_L_law 782 = .ok (.ldc2_w 109, 3) := by decide +kernel
theorem dx_L_law_785 : decode cd_L_law 785 = .ok (.land, 1) := by decide +kernel
theorem dx_L_law_786 : decode cd_L_law 786 = .ok (.lor, 1) := by decide +kernel
theorem dx_L_law_787 : decode cd_L_law 787 = .ok (.invokevirtual 114, 3) := by decide +kernel
theorem dx_L_law_790 : decode cd_L_law 790 = .ok (.istore 6, 2) := by decide +kernel
theorem dx_L_law_792 : decode cd_L_law 792 = .ok (.aload_n 2, 1) := by decide +kernel
theorem dx_L_law_793 : decode cd_L_law 793 = .ok (.invokevirtual 72, 3) := by decide +kernel
theorem dx_L_law_796 : decode cd_L_law 796 = .ok (.iload 5, 2) := by decide +kernel
theorem dx_L_law_798 : decode cd_L_law 798 = .ok (.if_icmp .eq 5, 3) := by decide +kernel
theorem dx_L_law_801 : decode cd_L_law 801 = .ok (.iconst 0, 1) := by decide +kernel
theorem dx_L_law_802 : decode cd_L_law 802 = .ok (.ireturn, 1) := by decide +kernel
theorem dx_L_law_803 : decode cd_L_law 803 = .ok (.iload 5, 2) := by decide +kernel
theorem dx_L_law_805 : decode cd_L_law 805 = .ok (.ifCond .ne 15, 3) := by decide +kernel
theorem dx_L_law_808 : decode cd_L_law 808 = .ok (.aload_n 3, 1) := by decide +kernel
theorem dx_L_law_809 : decode cd_L_law 809 = .ok (.iconst 0, 1) := by decide +kernel
theorem dx_L_law_810 : decode cd_L_law 810 = .ok (.laload, 1) := by decide +kernel
theorem dx_L_law_811 : decode cd_L_law 811 = .ok (.iload 6, 2) := by decide +kernel
theorem dx_L_law_813 : decode cd_L_law 813 = .ok (.i2l, 1) := by decide +kernel
theorem dx_L_law_814 : decode cd_L_law 814 = .ok (.lcmp, 1) := by decide +kernel
theorem dx_L_law_815 : decode cd_L_law 815 = .ok (.ifCond .eq 5, 3) := by decide +kernel
theorem dx_L_law_818 : decode cd_L_law 818 = .ok (.iconst 0, 1) := by decide +kernel
theorem dx_L_law_819 : decode cd_L_law 819 = .ok (.ireturn, 1) := by decide +kernel
theorem dx_L_law_820 : decode cd_L_law 820 = .ok (.goto 145, 3) := by decide +kernel
theorem dx_L_law_823 : decode cd_L_law 823 = .ok (.aload_n 1, 1) := by decide +kernel
theorem dx_L_law_824 : decode cd_L_law 824 = .ok (.aload_n 0, 1) := by decide +kernel
theorem dx_L_law_825 : decode cd_L_law 825 = .ok (.iload 4, 2) := by decide +kernel
theorem dx_L_law_827 : decode cd_L_law 827 = .ok (.iconst 1, 1) := by decide +kernel
theorem dx_L_law_828 : decode cd_L_law 828 = .ok (.iadd, 1) := by decide +kernel
theorem dx_L_law_829 : decode cd_L_law 829 = .ok (.iaload, 1) := by decide +kernel
theorem dx_L_law_830 : decode cd_L_law 830 = .ok (.aload_n 0, 1) := by decide +kernel
theorem dx_L_law_831 : decode cd_L_law 831 = .ok (.iload 4, 2) := by decide +kernel
theorem dx_L_law_833 : decode cd_L_law 833 = .ok (.iconst 2, 1) := by decide +kernel
theorem dx_L_law_834 : decode cd_L_law 834 = .ok (.iadd, 1) := by decide +kernel
theorem dx_L_law_835 : decode cd_L_law 835 = .ok (.iaload, 1) := by decide +kernel
theorem dx_L_law_836 : decode cd_L_law 836 = .ok (.aload_n 3, 1) := by decide +kernel
theorem dx_L_law_837 : decode cd_L_law 837 = .ok (.invokestatic 115, 3) := by decide +kernel
theorem dx_L_law_840 : decode cd_L_law 840 = .ok (.istore 5, 2) := by decide +kernel
theorem dx_L_law_842 : decode cd_L_law 842 = .ok (.aload_n 2, 1) := by decide +kernel
theorem dx_L_law_843 : decode cd_L_law 843 = .ok (.aload_n 0, 1) := by decide +kernel
theorem dx_L_law_844 : decode cd_L_law 844 = .ok (.iload 4, 2) := by decide +kernel
theorem dx_L_law_846 : decode cd_L_law 846 = .ok (.iconst 1, 1) := by decide +kernel
theorem dx_L_law_847 : decode cd_L_law 847 = .ok (.iadd, 1) := by decide +kernel
theorem dx_L_law_848 : decode cd_L_law 848 = .ok (.iaload, 1) := by decide +kernel
theorem dx_L_law_849 : decode cd_L_law 849 = .ok (.aload_n 0, 1) := by decide +kernel
theorem dx_L_law_850 : decode cd_L_law 850 = .ok (.iload 4, 2) := by decide +kernel
theorem dx_L_law_852 : decode cd_L_law 852 = .ok (.iconst 2, 1) := by decide +kernel
theorem dx_L_law_853 : decode cd_L_law 853 = .ok (.iadd, 1) := by decide +kernel
theorem dx_L_law_854 : decode cd_L_law 854 = .ok (.iaload, 1) := by decide +kernel
theorem dx_L_law_855 : decode cd_L_law 855 = .ok (.invokevirtual 117, 3) := by decide +kernel
theorem dx_L_law_858 : decode cd_L_law 858 = .ok (.istore 6, 2) := by decide +kernel
theorem dx_L_law_860 : decode cd_L_law 860 = .ok (.aload_n 2, 1) := by decide +kernel
theorem dx_L_law_861 : decode cd_L_law 861 = .ok (.invokevirtual 72, 3) := by decide +kernel
theorem dx_L_law_864 : decode cd_L_law 864 = .ok (.iload 5, 2) := by decide +kernel
theorem dx_L_law_866 : decode cd_L_law 866 = .ok (.if_icmp .eq 5, 3) := by decide +kernel
theorem dx_L_law_869 : decode cd_L_law 869 = .ok (.iconst 0, 1) := by decide +kernel
theorem dx_L_law_870 : decode cd_L_law 870 = .ok (.ireturn, 1) := by decide +kernel
theorem dx_L_law_871 : decode cd_L_law 871 = .ok (.iload 5, 2) := by decide +kernel
theorem dx_L_law_873 : decode cd_L_law 873 = .ok (.ifCond .ne 22, 3) := by decide +kernel
theorem dx_L_law_876 : decode cd_L_law 876 = .ok (.aload_n 3, 1) := by decide +kernel
theorem dx_L_law_877 : decode cd_L_law 877 = .ok (.iconst 0, 1) := by decide +kernel
theorem dx_L_law_878 : decode cd_L_law 878 = .ok (.laload, 1) := by decide +kernel
theorem dx_L_law_879 : decode cd_L_law 879 = .ok (.iload 6, 2) := by decide +kernel
theorem dx_L_law_881 : decode cd_L_law 881 = .ok (.ifCond .eq 7, 3) := by decide +kernel
theorem dx_L_law_884 : decode cd_L_law 884 = .ok (.lconst 1, 1) := by decide +kernel
theorem dx_L_law_885 : decode cd_L_law 885 = .ok (.goto 4, 3) := by decide +kernel
theorem dx_L_law_888 : decode cd_L_law 888 = .ok (.lconst 0, 1) := by decide +kernel
theorem dx_L_law_889 : decode cd_L_law 889 = .ok (.lcmp, 1) := by decide +kernel
theorem dx_L_law_890 : decode cd_L_law 890 = .ok (.ifCond .eq 5, 3) := by decide +kernel
theorem dx_L_law_893 : decode cd_L_law 893 = .ok (.iconst 0, 1) := by decide +kernel
theorem dx_L_law_894 : decode cd_L_law 894 = .ok (.ireturn, 1) := by decide +kernel
theorem dx_L_law_895 : decode cd_L_law 895 = .ok (.goto 70, 3) := by decide +kernel
theorem dx_L_law_898 : decode cd_L_law 898 = .ok (.aload_n 1, 1) := by decide +kernel
theorem dx_L_law_899 : decode cd_L_law 899 = .ok (.aload_n 0, 1) := by decide +kernel
theorem dx_L_law_900 : decode cd_L_law 900 = .ok (.iload 4, 2) := by decide +kernel
theorem dx_L_law_902 : decode cd_L_law 902 = .ok (.iconst 1, 1) := by decide +kernel
theorem dx_L_law_903 : decode cd_L_law 903 = .ok (.iadd, 1) := by decide +kernel
theorem dx_L_law_904 : decode cd_L_law 904 = .ok (.iaload, 1) := by decide +kernel
theorem dx_L_law_905 : decode cd_L_law 905 = .ok (.aload_n 0, 1) := by decide +kernel
theorem dx_L_law_906 : decode cd_L_law 906 = .ok (.iload 4, 2) := by decide +kernel
theorem dx_L_law_908 : decode cd_L_law 908 = .ok (.iconst 2, 1) := by decide +kernel
theorem dx_L_law_909 : decode cd_L_law 909 = .ok (.iadd, 1) := by decide +kernel
theorem dx_L_law_910 : decode cd_L_law 910 = .ok (.iaload, 1) := by decide +kernel
theorem dx_L_law_911 : decode cd_L_law 911 = .ok (.aload_n 3, 1) := by decide +kernel
theorem dx_L_law_912 : decode cd_L_law 912 = .ok (.invokestatic 118, 3) := by decide +kernel
theorem dx_L_law_915 : decode cd_L_law 915 = .ok (.istore 5, 2) := by decide +kernel
theorem dx_L_law_917 : decode cd_L_law 917 = .ok (.aload_n 2, 1) := by decide +kernel
theorem dx_L_law_918 : decode cd_L_law 918 = .ok (.aload_n 0, 1) := by decide +kernel
theorem dx_L_law_919 : decode cd_L_law 919 = .ok (.iload 4, 2) := by decide +kernel
theorem dx_L_law_921 : decode cd_L_law 921 = .ok (.iconst 1, 1) := by decide +kernel
theorem dx_L_law_922 : decode cd_L_law 922 = .ok (.iadd, 1) := by decide +kernel
theorem dx_L_law_923 : decode cd_L_law 923 = .ok (.iaload, 1) := by decide +kernel
theorem dx_L_law_924 : decode cd_L_law 924 = .ok (.aload_n 0, 1) := by decide +kernel
theorem dx_L_law_925 : decode cd_L_law 925 = .ok (.iload 4, 2) := by decide +kernel
theorem dx_L_law_927 : decode cd_L_law 927 = .ok (.iconst 2, 1) := by decide +kernel
theorem dx_L_law_928 : decode cd_L_law 928 = .ok (.iadd, 1) := by decide +kernel
theorem dx_L_law_929 : decode cd_L_law 929 = .ok (.iaload, 1) := by decide +kernel
theorem dx_L_law_930 : decode cd_L_law 930 = .ok (.invokevirtual 120, 3) := by decide +kernel
theorem dx_L_law_933 : decode cd_L_law 933 = .ok (.lstore 6, 2) := by decide +kernel
theorem dx_L_law_935 : decode cd_L_law 935 = .ok (.aload_n 2, 1) := by decide +kernel
theorem dx_L_law_936 : decode cd_L_law 936 = .ok (.invokevirtual 72, 3) := by decide +kernel
theorem dx_L_law_939 : decode cd_L_law 939 = .ok (.iload 5, 2) := by decide +kernel
theorem dx_L_law_941 : decode cd_L_law 941 = .ok (.if_icmp .eq 5, 3) := by decide +kernel
theorem dx_L_law_944 : decode cd_L_law 944 = .ok (.iconst 0, 1) := by decide +kernel
theorem dx_L_law_945 : decode cd_L_law 945 = .ok (.ireturn, 1) := by decide +kernel
theorem dx_L_law_946 : decode cd_L_law 946 = .ok (.iload 5, 2) := by decide +kernel
theorem dx_L_law_948 : decode cd_L_law 948 = .ok (.ifCond .ne 14, 3) := by decide +kernel
theorem dx_L_law_951 : decode cd_L_law 951 = .ok (.aload_n 3, 1) := by decide +kernel
theorem dx_L_law_952 : decode cd_L_law 952 = .ok (.iconst 0, 1) := by decide +kernel
theorem dx_L_law_953 : decode cd_L_law 953 = .ok (.laload, 1) := by decide +kernel
theorem dx_L_law_954 : decode cd_L_law 954 = .ok (.lload 6, 2) := by decide +kernel
theorem dx_L_law_956 : decode cd_L_law 956 = .ok (.lcmp, 1) := by decide +kernel
theorem dx_L_law_957 : decode cd_L_law 957 = .ok (.ifCond .eq 5, 3) := by decide +kernel
theorem dx_L_law_960 : decode cd_L_law 960 = .ok (.iconst 0, 1) := by decide +kernel
theorem dx_L_law_961 : decode cd_L_law 961 = .ok (.ireturn, 1) := by decide +kernel
theorem dx_L_law_962 : decode cd_L_law 962 = .ok (.goto 3, 3) := by decide +kernel
theorem dx_L_law_965 : decode cd_L_law 965 = .ok (.iinc 4 4, 3) := by decide +kernel
theorem dx_L_law_968 : decode cd_L_law 968 = .ok (.goto (-945), 3) := by decide +kernel
theorem dx_L_law_971 : decode cd_L_law 971 = .ok (.iconst 1, 1) := by decide +kernel
theorem dx_L_law_972 : decode cd_L_law 972 = .ok (.ireturn, 1) := by decide +kernel
