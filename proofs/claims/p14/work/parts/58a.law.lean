theorem e0_23 : vm_ent 0 23 = some (.iload 4, 0, 0, 0) := by decide +kernel
theorem e0_25 : vm_ent 0 25 = some (.aload_n 0, 0, 0, 0) := by decide +kernel
theorem e0_26 : vm_ent 0 26 = some (.arraylength, 0, 0, 0) := by decide +kernel
theorem e0_27 : vm_ent 0 27 = some (.iconst 5, 0, 0, 0) := by decide +kernel
theorem e0_28 : vm_ent 0 28 = some (.isub, 0, 0, 0) := by decide +kernel
theorem e0_29 : vm_ent 0 29 = some (.if_icmp .gt 748, 777, 0, 0) := by decide +kernel
theorem e0_32 : vm_ent 0 32 = some (.aload_n 0, 0, 0, 0) := by decide +kernel
theorem e0_33 : vm_ent 0 33 = some (.iload 4, 0, 0, 0) := by decide +kernel
theorem e0_35 : vm_ent 0 35 = some (.iaload, 0, 0, 0) := by decide +kernel
theorem e0_36 : vm_ent 0 36 = some (.bipush 15, 0, 0, 0) := by decide +kernel
theorem e0_38 : vm_ent 0 38 = some (.iand, 0, 0, 0) := by decide +kernel
theorem e0_39 : vm_ent 0 39 = some (.tableswitch 732 0 14 #[73, 114, 151, 164, 245, 298, 311, 336, 373, 398, 447, 496, 565, 603, 628], 73, 0, 0) := by decide +kernel
theorem e0_112 : vm_ent 0 112 = some (.aload_n 1, 0, 0, 0) := by decide +kernel
theorem e0_113 : vm_ent 0 113 = some (.aload_n 0, 0, 0, 0) := by decide +kernel
theorem e0_114 : vm_ent 0 114 = some (.iload 4, 0, 0, 0) := by decide +kernel
theorem e0_116 : vm_ent 0 116 = some (.iconst 1, 0, 0, 0) := by decide +kernel
theorem e0_117 : vm_ent 0 117 = some (.iadd, 0, 0, 0) := by decide +kernel
theorem e0_118 : vm_ent 0 118 = some (.iaload, 0, 0, 0) := by decide +kernel
theorem e0_119 : vm_ent 0 119 = some (.ifCond .eq 7, 126, 0, 0) := by decide +kernel
theorem e0_122 : vm_ent 0 122 = some (.iconst 1, 0, 0, 0) := by decide +kernel
theorem e0_123 : vm_ent 0 123 = some (.goto 4, 127, 0, 0) := by decide +kernel
theorem e0_126 : vm_ent 0 126 = some (.iconst 0, 0, 0, 0) := by decide +kernel
theorem e0_127 : vm_ent 0 127 = some (.invokevirtual 19, 44, 4, 250) := by decide +kernel
theorem e0_130 : vm_ent 0 130 = some (.pop, 0, 0, 0) := by decide +kernel
theorem e0_131 : vm_ent 0 131 = some (.aload_n 2, 0, 0, 0) := by decide +kernel
theorem e0_132 : vm_ent 0 132 = some (.aload_n 0, 0, 0, 0) := by decide +kernel
theorem e0_133 : vm_ent 0 133 = some (.iload 4, 0, 0, 0) := by decide +kernel
theorem e0_135 : vm_ent 0 135 = some (.iconst 1, 0, 0, 0) := by decide +kernel
theorem e0_136 : vm_ent 0 136 = some (.iadd, 0, 0, 0) := by decide +kernel
theorem e0_137 : vm_ent 0 137 = some (.iaload, 0, 0, 0) := by decide +kernel
theorem e0_138 : vm_ent 0 138 = some (.ifCond .eq 7, 145, 0, 0) := by decide +kernel
theorem e0_141 : vm_ent 0 141 = some (.iconst 1, 0, 0, 0) := by decide +kernel
theorem e0_142 : vm_ent 0 142 = some (.goto 4, 146, 0, 0) := by decide +kernel
theorem e0_145 : vm_ent 0 145 = some (.iconst 0, 0, 0, 0) := by decide +kernel
theorem e0_146 : vm_ent 0 146 = some (.invokevirtual 23, 105, 4, 877) := by decide +kernel
theorem e0_149 : vm_ent 0 149 = some (.pop, 0, 0, 0) := by decide +kernel
theorem e0_150 : vm_ent 0 150 = some (.goto 621, 771, 0, 0) := by decide +kernel
theorem e0_153 : vm_ent 0 153 = some (.aload_n 1, 0, 0, 0) := by decide +kernel
theorem e0_154 : vm_ent 0 154 = some (.aload_n 0, 0, 0, 0) := by decide +kernel
theorem e0_155 : vm_ent 0 155 = some (.iload 4, 0, 0, 0) := by decide +kernel
theorem e0_157 : vm_ent 0 157 = some (.iconst 1, 0, 0, 0) := by decide +kernel
theorem e0_158 : vm_ent 0 158 = some (.iadd, 0, 0, 0) := by decide +kernel
theorem e0_159 : vm_ent 0 159 = some (.iaload, 0, 0, 0) := by decide +kernel
theorem e0_160 : vm_ent 0 160 = some (.aload_n 0, 0, 0, 0) := by decide +kernel
theorem e0_161 : vm_ent 0 161 = some (.iload 4, 0, 0, 0) := by decide +kernel
theorem e0_163 : vm_ent 0 163 = some (.iconst 2, 0, 0, 0) := by decide +kernel
theorem e0_164 : vm_ent 0 164 = some (.iadd, 0, 0, 0) := by decide +kernel
theorem e0_165 : vm_ent 0 165 = some (.iaload, 0, 0, 0) := by decide +kernel
theorem e0_166 : vm_ent 0 166 = some (.invokevirtual 24, 45, 4, 269) := by decide +kernel
theorem e0_169 : vm_ent 0 169 = some (.pop, 0, 0, 0) := by decide +kernel
theorem e0_170 : vm_ent 0 170 = some (.aload_n 2, 0, 0, 0) := by decide +kernel
theorem e0_171 : vm_ent 0 171 = some (.aload_n 0, 0, 0, 0) := by decide +kernel
theorem e0_172 : vm_ent 0 172 = some (.iload 4, 0, 0, 0) := by decide +kernel
theorem e0_174 : vm_ent 0 174 = some (.iconst 1, 0, 0, 0) := by decide +kernel
theorem e0_175 : vm_ent 0 175 = some (.iadd, 0, 0, 0) := by decide +kernel
theorem e0_176 : vm_ent 0 176 = some (.iaload, 0, 0, 0) := by decide +kernel
theorem e0_177 : vm_ent 0 177 = some (.aload_n 0, 0, 0, 0) := by decide +kernel
theorem e0_178 : vm_ent 0 178 = some (.iload 4, 0, 0, 0) := by decide +kernel
theorem e0_180 : vm_ent 0 180 = some (.iconst 2, 0, 0, 0) := by decide +kernel
theorem e0_181 : vm_ent 0 181 = some (.iadd, 0, 0, 0) := by decide +kernel
theorem e0_182 : vm_ent 0 182 = some (.iaload, 0, 0, 0) := by decide +kernel
theorem e0_183 : vm_ent 0 183 = some (.invokevirtual 28, 106, 4, 881) := by decide +kernel
theorem e0_186 : vm_ent 0 186 = some (.pop, 0, 0, 0) := by decide +kernel
theorem e0_187 : vm_ent 0 187 = some (.goto 584, 771, 0, 0) := by decide +kernel
theorem e0_190 : vm_ent 0 190 = some (.aload_n 1, 0, 0, 0) := by decide +kernel
theorem e0_191 : vm_ent 0 191 = some (.invokevirtual 29, 46, 4, 312) := by decide +kernel
theorem e0_194 : vm_ent 0 194 = some (.pop, 0, 0, 0) := by decide +kernel
theorem e0_195 : vm_ent 0 195 = some (.aload_n 2, 0, 0, 0) := by decide +kernel
theorem e0_196 : vm_ent 0 196 = some (.invokevirtual 33, 107, 4, 885) := by decide +kernel
theorem e0_199 : vm_ent 0 199 = some (.pop, 0, 0, 0) := by decide +kernel
theorem e0_200 : vm_ent 0 200 = some (.goto 571, 771, 0, 0) := by decide +kernel
theorem e0_203 : vm_ent 0 203 = some (.aload_n 1, 0, 0, 0) := by decide +kernel
theorem e0_204 : vm_ent 0 204 = some (.aload_n 0, 0, 0, 0) := by decide +kernel
theorem e0_205 : vm_ent 0 205 = some (.iload 4, 0, 0, 0) := by decide +kernel
theorem e0_207 : vm_ent 0 207 = some (.iconst 1, 0, 0, 0) := by decide +kernel
theorem e0_208 : vm_ent 0 208 = some (.iadd, 0, 0, 0) := by decide +kernel
theorem e0_209 : vm_ent 0 209 = some (.iaload, 0, 0, 0) := by decide +kernel
theorem e0_210 : vm_ent 0 210 = some (.aload_n 0, 0, 0, 0) := by decide +kernel
theorem e0_211 : vm_ent 0 211 = some (.iload 4, 0, 0, 0) := by decide +kernel
theorem e0_213 : vm_ent 0 213 = some (.iconst 2, 0, 0, 0) := by decide +kernel
theorem e0_214 : vm_ent 0 214 = some (.iadd, 0, 0, 0) := by decide +kernel
theorem e0_215 : vm_ent 0 215 = some (.iaload, 0, 0, 0) := by decide +kernel
theorem e0_216 : vm_ent 0 216 = some (.i2l, 0, 0, 0) := by decide +kernel
theorem e0_217 : vm_ent 0 217 = some (.bipush 32, 0, 0, 0) := by decide +kernel
theorem e0_219 : vm_ent 0 219 = some (.lshl, 0, 0, 0) := by decide +kernel
theorem e0_220 : vm_ent 0 220 = some (.aload_n 0, 0, 0, 0) := by decide +kernel
theorem e0_221 : vm_ent 0 221 = some (.iload 4, 0, 0, 0) := by decide +kernel
theorem e0_223 : vm_ent 0 223 = some (.iconst 3, 0, 0, 0) := by decide +kernel
theorem e0_224 : vm_ent 0 224 = some (.iadd, 0, 0, 0) := by decide +kernel
theorem e0_225 : vm_ent 0 225 = some (.iaload, 0, 0, 0) := by decide +kernel
theorem e0_226 : vm_ent 0 226 = some (.i2l, 0, 0, 0) := by decide +kernel
theorem e0_227 : vm_ent 0 227 = some (.ldc2_w 34, 4294967295, 0, 951) := by decide +kernel
theorem e0_230 : vm_ent 0 230 = some (.land, 0, 0, 0) := by decide +kernel
theorem e0_231 : vm_ent 0 231 = some (.lor, 0, 0, 0) := by decide +kernel
theorem e0_232 : vm_ent 0 232 = some (.aload_n 0, 0, 0, 0) := by decide +kernel
theorem e0_233 : vm_ent 0 233 = some (.iload 4, 0, 0, 0) := by decide +kernel
theorem e0_235 : vm_ent 0 235 = some (.iconst 4, 0, 0, 0) := by decide +kernel
theorem e0_236 : vm_ent 0 236 = some (.iadd, 0, 0, 0) := by decide +kernel
theorem e0_237 : vm_ent 0 237 = some (.iaload, 0, 0, 0) := by decide +kernel
theorem e0_238 : vm_ent 0 238 = some (.invokevirtual 36, 47, 4, 316) := by decide +kernel
theorem e0_241 : vm_ent 0 241 = some (.pop, 0, 0, 0) := by decide +kernel
theorem e0_242 : vm_ent 0 242 = some (.aload_n 2, 0, 0, 0) := by decide +kernel
theorem e0_243 : vm_ent 0 243 = some (.aload_n 0, 0, 0, 0) := by decide +kernel
theorem e0_244 : vm_ent 0 244 = some (.iload 4, 0, 0, 0) := by decide +kernel
theorem e0_246 : vm_ent 0 246 = some (.iconst 1, 0, 0, 0) := by decide +kernel
theorem e0_247 : vm_ent 0 247 = some (.iadd, 0, 0, 0) := by decide +kernel
theorem e0_248 : vm_ent 0 248 = some (.iaload, 0, 0, 0) := by decide +kernel
theorem e0_249 : vm_ent 0 249 = some (.aload_n 0, 0, 0, 0) := by decide +kernel
theorem e0_250 : vm_ent 0 250 = some (.iload 4, 0, 0, 0) := by decide +kernel
theorem e0_252 : vm_ent 0 252 = some (.iconst 2, 0, 0, 0) := by decide +kernel
theorem e0_253 : vm_ent 0 253 = some (.iadd, 0, 0, 0) := by decide +kernel
theorem e0_254 : vm_ent 0 254 = some (.iaload, 0, 0, 0) := by decide +kernel
theorem e0_255 : vm_ent 0 255 = some (.i2l, 0, 0, 0) := by decide +kernel
theorem e0_256 : vm_ent 0 256 = some (.bipush 32, 0, 0, 0) := by decide +kernel
theorem e0_258 : vm_ent 0 258 = some (.lshl, 0, 0, 0) := by decide +kernel
theorem e0_259 : vm_ent 0 259 = some (.aload_n 0, 0, 0, 0) := by decide +kernel
theorem e0_260 : vm_ent 0 260 = some (.iload 4, 0, 0, 0) := by decide +kernel
theorem e0_262 : vm_ent 0 262 = some (.iconst 3, 0, 0, 0) := by decide +kernel
theorem e0_263 : vm_ent 0 263 = some (.iadd, 0, 0, 0) := by decide +kernel
theorem e0_264 : vm_ent 0 264 = some (.iaload, 0, 0, 0) := by decide +kernel
theorem e0_265 : vm_ent 0 265 = some (.i2l, 0, 0, 0) := by decide +kernel
theorem e0_266 : vm_ent 0 266 = some (.ldc2_w 34, 4294967295, 0, 951) := by decide +kernel
theorem e0_269 : vm_ent 0 269 = some (.land, 0, 0, 0) := by decide +kernel
theorem e0_270 : vm_ent 0 270 = some (.lor, 0, 0, 0) := by decide +kernel
theorem e0_271 : vm_ent 0 271 = some (.aload_n 0, 0, 0, 0) := by decide +kernel
theorem e0_272 : vm_ent 0 272 = some (.iload 4, 0, 0, 0) := by decide +kernel
theorem e0_274 : vm_ent 0 274 = some (.iconst 4, 0, 0, 0) := by decide +kernel
theorem e0_275 : vm_ent 0 275 = some (.iadd, 0, 0, 0) := by decide +kernel
theorem e0_276 : vm_ent 0 276 = some (.iaload, 0, 0, 0) := by decide +kernel
theorem e0_277 : vm_ent 0 277 = some (.invokevirtual 40, 108, 4, 889) := by decide +kernel
theorem e0_280 : vm_ent 0 280 = some (.pop, 0, 0, 0) := by decide +kernel
theorem e0_281 : vm_ent 0 281 = some (.goto 490, 771, 0, 0) := by decide +kernel
theorem e0_284 : vm_ent 0 284 = some (.aload_n 1, 0, 0, 0) := by decide +kernel
theorem e0_285 : vm_ent 0 285 = some (.aload_n 0, 0, 0, 0) := by decide +kernel
theorem e0_286 : vm_ent 0 286 = some (.iload 4, 0, 0, 0) := by decide +kernel
theorem e0_288 : vm_ent 0 288 = some (.iconst 1, 0, 0, 0) := by decide +kernel
theorem e0_289 : vm_ent 0 289 = some (.iadd, 0, 0, 0) := by decide +kernel
theorem e0_290 : vm_ent 0 290 = some (.iaload, 0, 0, 0) := by decide +kernel
theorem e0_291 : vm_ent 0 291 = some (.aload_n 0, 0, 0, 0) := by decide +kernel
theorem e0_292 : vm_ent 0 292 = some (.iload 4, 0, 0, 0) := by decide +kernel
theorem e0_294 : vm_ent 0 294 = some (.iconst 2, 0, 0, 0) := by decide +kernel
theorem e0_295 : vm_ent 0 295 = some (.iadd, 0, 0, 0) := by decide +kernel
theorem e0_296 : vm_ent 0 296 = some (.iaload, 0, 0, 0) := by decide +kernel
theorem e0_297 : vm_ent 0 297 = some (.ifCond .eq 7, 304, 0, 0) := by decide +kernel
theorem e0_300 : vm_ent 0 300 = some (.iconst 1, 0, 0, 0) := by decide +kernel
theorem e0_301 : vm_ent 0 301 = some (.goto 4, 305, 0, 0) := by decide +kernel
theorem e0_304 : vm_ent 0 304 = some (.iconst 0, 0, 0, 0) := by decide +kernel
theorem e0_305 : vm_ent 0 305 = some (.invokevirtual 41, 48, 4, 351) := by decide +kernel
theorem e0_308 : vm_ent 0 308 = some (.pop, 0, 0, 0) := by decide +kernel
theorem e0_309 : vm_ent 0 309 = some (.aload_n 2, 0, 0, 0) := by decide +kernel
theorem e0_310 : vm_ent 0 310 = some (.aload_n 0, 0, 0, 0) := by decide +kernel
theorem e0_311 : vm_ent 0 311 = some (.iload 4, 0, 0, 0) := by decide +kernel
theorem e0_313 : vm_ent 0 313 = some (.iconst 1, 0, 0, 0) := by decide +kernel
theorem e0_314 : vm_ent 0 314 = some (.iadd, 0, 0, 0) := by decide +kernel
theorem e0_315 : vm_ent 0 315 = some (.iaload, 0, 0, 0) := by decide +kernel
theorem e0_316 : vm_ent 0 316 = some (.aload_n 0, 0, 0, 0) := by decide +kernel
theorem e0_317 : vm_ent 0 317 = some (.iload 4, 0, 0, 0) := by decide +kernel
theorem e0_319 : vm_ent 0 319 = some (.iconst 2, 0, 0, 0) := by decide +kernel
theorem e0_320 : vm_ent 0 320 = some (.iadd, 0, 0, 0) := by decide +kernel
theorem e0_321 : vm_ent 0 321 = some (.iaload, 0, 0, 0) := by decide +kernel
theorem e0_322 : vm_ent 0 322 = some (.ifCond .eq 7, 329, 0, 0) := by decide +kernel
theorem e0_325 : vm_ent 0 325 = some (.iconst 1, 0, 0, 0) := by decide +kernel
theorem e0_326 : vm_ent 0 326 = some (.goto 4, 330, 0, 0) := by decide +kernel
theorem e0_329 : vm_ent 0 329 = some (.iconst 0, 0, 0, 0) := by decide +kernel
theorem e0_330 : vm_ent 0 330 = some (.invokevirtual 45, 109, 4, 895) := by decide +kernel
theorem e0_333 : vm_ent 0 333 = some (.pop, 0, 0, 0) := by decide +kernel
theorem e0_334 : vm_ent 0 334 = some (.goto 437, 771, 0, 0) := by decide +kernel
theorem e0_337 : vm_ent 0 337 = some (.aload_n 1, 0, 0, 0) := by decide +kernel
theorem e0_338 : vm_ent 0 338 = some (.invokevirtual 46, 49, 4, 355) := by decide +kernel
theorem e0_341 : vm_ent 0 341 = some (.pop, 0, 0, 0) := by decide +kernel
theorem e0_342 : vm_ent 0 342 = some (.aload_n 2, 0, 0, 0) := by decide +kernel
theorem e0_343 : vm_ent 0 343 = some (.invokevirtual 49, 102, 4, 767) := by decide +kernel
theorem e0_346 : vm_ent 0 346 = some (.pop, 0, 0, 0) := by decide +kernel
theorem e0_347 : vm_ent 0 347 = some (.goto 424, 771, 0, 0) := by decide +kernel
theorem e0_350 : vm_ent 0 350 = some (.aload_n 1, 0, 0, 0) := by decide +kernel
theorem e0_351 : vm_ent 0 351 = some (.aload_n 0, 0, 0, 0) := by decide +kernel
theorem e0_352 : vm_ent 0 352 = some (.iload 4, 0, 0, 0) := by decide +kernel
theorem e0_354 : vm_ent 0 354 = some (.iconst 1, 0, 0, 0) := by decide +kernel
theorem e0_355 : vm_ent 0 355 = some (.iadd, 0, 0, 0) := by decide +kernel
theorem e0_356 : vm_ent 0 356 = some (.iaload, 0, 0, 0) := by decide +kernel
theorem e0_357 : vm_ent 0 357 = some (.invokevirtual 50, 50, 4, 482) := by decide +kernel
theorem e0_360 : vm_ent 0 360 = some (.pop, 0, 0, 0) := by decide +kernel
theorem e0_361 : vm_ent 0 361 = some (.aload_n 2, 0, 0, 0) := by decide +kernel
theorem e0_362 : vm_ent 0 362 = some (.aload_n 0, 0, 0, 0) := by decide +kernel
theorem e0_363 : vm_ent 0 363 = some (.iload 4, 0, 0, 0) := by decide +kernel
theorem e0_365 : vm_ent 0 365 = some (.iconst 1, 0, 0, 0) := by decide +kernel
theorem e0_366 : vm_ent 0 366 = some (.iadd, 0, 0, 0) := by decide +kernel
theorem e0_367 : vm_ent 0 367 = some (.iaload, 0, 0, 0) := by decide +kernel
theorem e0_368 : vm_ent 0 368 = some (.invokevirtual 54, 104, 4, 869) := by decide +kernel
theorem e0_371 : vm_ent 0 371 = some (.pop, 0, 0, 0) := by decide +kernel
theorem e0_372 : vm_ent 0 372 = some (.goto 399, 771, 0, 0) := by decide +kernel
theorem e0_375 : vm_ent 0 375 = some (.aload_n 1, 0, 0, 0) := by decide +kernel
theorem e0_376 : vm_ent 0 376 = some (.aload_n 0, 0, 0, 0) := by decide +kernel
theorem e0_377 : vm_ent 0 377 = some (.iload 4, 0, 0, 0) := by decide +kernel
theorem e0_379 : vm_ent 0 379 = some (.iconst 1, 0, 0, 0) := by decide +kernel
theorem e0_380 : vm_ent 0 380 = some (.iadd, 0, 0, 0) := by decide +kernel
theorem e0_381 : vm_ent 0 381 = some (.iaload, 0, 0, 0) := by decide +kernel
theorem e0_382 : vm_ent 0 382 = some (.aload_n 0, 0, 0, 0) := by decide +kernel
theorem e0_383 : vm_ent 0 383 = some (.iload 4, 0, 0, 0) := by decide +kernel
theorem e0_385 : vm_ent 0 385 = some (.iconst 2, 0, 0, 0) := by decide +kernel
theorem e0_386 : vm_ent 0 386 = some (.iadd, 0, 0, 0) := by decide +kernel
theorem e0_387 : vm_ent 0 387 = some (.iaload, 0, 0, 0) := by decide +kernel
theorem e0_388 : vm_ent 0 388 = some (.invokevirtual 55, 51, 4, 487) := by decide +kernel
theorem e0_391 : vm_ent 0 391 = some (.pop, 0, 0, 0) := by decide +kernel
theorem e0_392 : vm_ent 0 392 = some (.aload_n 2, 0, 0, 0) := by decide +kernel
theorem e0_393 : vm_ent 0 393 = some (.aload_n 0, 0, 0, 0) := by decide +kernel
theorem e0_394 : vm_ent 0 394 = some (.iload 4, 0, 0, 0) := by decide +kernel
theorem e0_396 : vm_ent 0 396 = some (.iconst 1, 0, 0, 0) := by decide +kernel
theorem e0_397 : vm_ent 0 397 = some (.iadd, 0, 0, 0) := by decide +kernel
theorem e0_398 : vm_ent 0 398 = some (.iaload, 0, 0, 0) := by decide +kernel
theorem e0_399 : vm_ent 0 399 = some (.aload_n 0, 0, 0, 0) := by decide +kernel
theorem e0_400 : vm_ent 0 400 = some (.iload 4, 0, 0, 0) := by decide +kernel
theorem e0_402 : vm_ent 0 402 = some (.iconst 2, 0, 0, 0) := by decide +kernel
theorem e0_403 : vm_ent 0 403 = some (.iadd, 0, 0, 0) := by decide +kernel
theorem e0_404 : vm_ent 0 404 = some (.iaload, 0, 0, 0) := by decide +kernel
theorem e0_405 : vm_ent 0 405 = some (.invokevirtual 59, 112, 4, 899) := by decide +kernel
theorem e0_408 : vm_ent 0 408 = some (.pop, 0, 0, 0) := by decide +kernel
theorem e0_409 : vm_ent 0 409 = some (.goto 362, 771, 0, 0) := by decide +kernel
theorem e0_412 : vm_ent 0 412 = some (.aload_n 1, 0, 0, 0) := by decide +kernel
theorem e0_413 : vm_ent 0 413 = some (.aload_n 0, 0, 0, 0) := by decide +kernel
theorem e0_414 : vm_ent 0 414 = some (.iload 4, 0, 0, 0) := by decide +kernel
theorem e0_416 : vm_ent 0 416 = some (.iconst 1, 0, 0, 0) := by decide +kernel
theorem e0_417 : vm_ent 0 417 = some (.iadd, 0, 0, 0) := by decide +kernel
theorem e0_418 : vm_ent 0 418 = some (.iaload, 0, 0, 0) := by decide +kernel
theorem e0_419 : vm_ent 0 419 = some (.invokevirtual 60, 52, 4, 500) := by decide +kernel
theorem e0_422 : vm_ent 0 422 = some (.pop, 0, 0, 0) := by decide +kernel
theorem e0_423 : vm_ent 0 423 = some (.aload_n 2, 0, 0, 0) := by decide +kernel
theorem e0_424 : vm_ent 0 424 = some (.aload_n 0, 0, 0, 0) := by decide +kernel
theorem e0_425 : vm_ent 0 425 = some (.iload 4, 0, 0, 0) := by decide +kernel
theorem e0_427 : vm_ent 0 427 = some (.iconst 1, 0, 0, 0) := by decide +kernel
theorem e0_428 : vm_ent 0 428 = some (.iadd, 0, 0, 0) := by decide +kernel
theorem e0_429 : vm_ent 0 429 = some (.iaload, 0, 0, 0) := by decide +kernel
theorem e0_430 : vm_ent 0 430 = some (.invokevirtual 63, 113, 4, 911) := by decide +kernel
theorem e0_433 : vm_ent 0 433 = some (.pop, 0, 0, 0) := by decide +kernel
theorem e0_434 : vm_ent 0 434 = some (.goto 337, 771, 0, 0) := by decide +kernel
theorem e0_437 : vm_ent 0 437 = some (.aload_n 1, 0, 0, 0) := by decide +kernel
theorem e0_438 : vm_ent 0 438 = some (.aload_n 0, 0, 0, 0) := by decide +kernel
theorem e0_439 : vm_ent 0 439 = some (.iload 4, 0, 0, 0) := by decide +kernel
theorem e0_441 : vm_ent 0 441 = some (.iconst 1, 0, 0, 0) := by decide +kernel
theorem e0_442 : vm_ent 0 442 = some (.iadd, 0, 0, 0) := by decide +kernel
theorem e0_443 : vm_ent 0 443 = some (.iaload, 0, 0, 0) := by decide +kernel
theorem e0_444 : vm_ent 0 444 = some (.aload_n 0, 0, 0, 0) := by decide +kernel
theorem e0_445 : vm_ent 0 445 = some (.iload 4, 0, 0, 0) := by decide +kernel
theorem e0_447 : vm_ent 0 447 = some (.iconst 2, 0, 0, 0) := by decide +kernel
theorem e0_448 : vm_ent 0 448 = some (.iadd, 0, 0, 0) := by decide +kernel
theorem e0_449 : vm_ent 0 449 = some (.iaload, 0, 0, 0) := by decide +kernel
theorem e0_450 : vm_ent 0 450 = some (.aload_n 0, 0, 0, 0) := by decide +kernel
theorem e0_451 : vm_ent 0 451 = some (.iload 4, 0, 0, 0) := by decide +kernel
theorem e0_453 : vm_ent 0 453 = some (.iconst 3, 0, 0, 0) := by decide +kernel
theorem e0_454 : vm_ent 0 454 = some (.iadd, 0, 0, 0) := by decide +kernel
theorem e0_455 : vm_ent 0 455 = some (.iaload, 0, 0, 0) := by decide +kernel
theorem e0_456 : vm_ent 0 456 = some (.invokevirtual 64, 53, 4, 508) := by decide +kernel
theorem e0_459 : vm_ent 0 459 = some (.pop2, 0, 0, 0) := by decide +kernel
theorem e0_460 : vm_ent 0 460 = some (.aload_n 2, 0, 0, 0) := by decide +kernel
theorem e0_461 : vm_ent 0 461 = some (.aload_n 0, 0, 0, 0) := by decide +kernel
theorem e0_462 : vm_ent 0 462 = some (.iload 4, 0, 0, 0) := by decide +kernel
theorem e0_464 : vm_ent 0 464 = some (.iconst 1, 0, 0, 0) := by decide +kernel
theorem e0_465 : vm_ent 0 465 = some (.iadd, 0, 0, 0) := by decide +kernel
theorem e0_466 : vm_ent 0 466 = some (.iaload, 0, 0, 0) := by decide +kernel
theorem e0_467 : vm_ent 0 467 = some (.aload_n 0, 0, 0, 0) := by decide +kernel
theorem e0_468 : vm_ent 0 468 = some (.iload 4, 0, 0, 0) := by decide +kernel
theorem e0_470 : vm_ent 0 470 = some (.iconst 2, 0, 0, 0) := by decide +kernel
theorem e0_471 : vm_ent 0 471 = some (.iadd, 0, 0, 0) := by decide +kernel
theorem e0_472 : vm_ent 0 472 = some (.iaload, 0, 0, 0) := by decide +kernel
theorem e0_473 : vm_ent 0 473 = some (.aload_n 0, 0, 0, 0) := by decide +kernel
theorem e0_474 : vm_ent 0 474 = some (.iload 4, 0, 0, 0) := by decide +kernel
theorem e0_476 : vm_ent 0 476 = some (.iconst 3, 0, 0, 0) := by decide +kernel
theorem e0_477 : vm_ent 0 477 = some (.iadd, 0, 0, 0) := by decide +kernel
theorem e0_478 : vm_ent 0 478 = some (.iaload, 0, 0, 0) := by decide +kernel
theorem e0_479 : vm_ent 0 479 = some (.invokevirtual 68, 115, 4, 915) := by decide +kernel
theorem e0_482 : vm_ent 0 482 = some (.pop2, 0, 0, 0) := by decide +kernel
theorem e0_483 : vm_ent 0 483 = some (.goto 288, 771, 0, 0) := by decide +kernel
theorem e0_486 : vm_ent 0 486 = some (.aload_n 1, 0, 0, 0) := by decide +kernel
theorem e0_487 : vm_ent 0 487 = some (.aload_n 0, 0, 0, 0) := by decide +kernel
theorem e0_488 : vm_ent 0 488 = some (.iload 4, 0, 0, 0) := by decide +kernel
theorem e0_490 : vm_ent 0 490 = some (.iconst 1, 0, 0, 0) := by decide +kernel
theorem e0_491 : vm_ent 0 491 = some (.iadd, 0, 0, 0) := by decide +kernel
theorem e0_492 : vm_ent 0 492 = some (.iaload, 0, 0, 0) := by decide +kernel
theorem e0_493 : vm_ent 0 493 = some (.aload_n 0, 0, 0, 0) := by decide +kernel
theorem e0_494 : vm_ent 0 494 = some (.iload 4, 0, 0, 0) := by decide +kernel
theorem e0_496 : vm_ent 0 496 = some (.iconst 2, 0, 0, 0) := by decide +kernel
theorem e0_497 : vm_ent 0 497 = some (.iadd, 0, 0, 0) := by decide +kernel
theorem e0_498 : vm_ent 0 498 = some (.iaload, 0, 0, 0) := by decide +kernel
theorem e0_499 : vm_ent 0 499 = some (.aload_n 0, 0, 0, 0) := by decide +kernel
theorem e0_500 : vm_ent 0 500 = some (.iload 4, 0, 0, 0) := by decide +kernel
theorem e0_502 : vm_ent 0 502 = some (.iconst 3, 0, 0, 0) := by decide +kernel
theorem e0_503 : vm_ent 0 503 = some (.iadd, 0, 0, 0) := by decide +kernel
theorem e0_504 : vm_ent 0 504 = some (.iaload, 0, 0, 0) := by decide +kernel
theorem e0_505 : vm_ent 0 505 = some (.invokevirtual 69, 54, 4, 524) := by decide +kernel
theorem e0_508 : vm_ent 0 508 = some (.pop, 0, 0, 0) := by decide +kernel
theorem e0_509 : vm_ent 0 509 = some (.aload_n 2, 0, 0, 0) := by decide +kernel
theorem e0_510 : vm_ent 0 510 = some (.aload_n 0, 0, 0, 0) := by decide +kernel
theorem e0_511 : vm_ent 0 511 = some (.iload 4, 0, 0, 0) := by decide +kernel
theorem e0_513 : vm_ent 0 513 = some (.iconst 1, 0, 0, 0) := by decide +kernel
theorem e0_514 : vm_ent 0 514 = some (.iadd, 0, 0, 0) := by decide +kernel
theorem e0_515 : vm_ent 0 515 = some (.iaload, 0, 0, 0) := by decide +kernel
theorem e0_516 : vm_ent 0 516 = some (.aload_n 0, 0, 0, 0) := by decide +kernel
theorem e0_517 : vm_ent 0 517 = some (.iload 4, 0, 0, 0) := by decide +kernel
theorem e0_519 : vm_ent 0 519 = some (.iconst 2, 0, 0, 0) := by decide +kernel
theorem e0_520 : vm_ent 0 520 = some (.iadd, 0, 0, 0) := by decide +kernel
theorem e0_521 : vm_ent 0 521 = some (.iaload, 0, 0, 0) := by decide +kernel
theorem e0_522 : vm_ent 0 522 = some (.aload_n 0, 0, 0, 0) := by decide +kernel
theorem e0_523 : vm_ent 0 523 = some (.iload 4, 0, 0, 0) := by decide +kernel
theorem e0_525 : vm_ent 0 525 = some (.iconst 3, 0, 0, 0) := by decide +kernel
theorem e0_526 : vm_ent 0 526 = some (.iadd, 0, 0, 0) := by decide +kernel
theorem e0_527 : vm_ent 0 527 = some (.iaload, 0, 0, 0) := by decide +kernel
theorem e0_528 : vm_ent 0 528 = some (.invokevirtual 73, 116, 4, 923) := by decide +kernel
theorem e0_531 : vm_ent 0 531 = some (.pop, 0, 0, 0) := by decide +kernel
theorem e0_532 : vm_ent 0 532 = some (.goto 239, 771, 0, 0) := by decide +kernel
theorem e0_535 : vm_ent 0 535 = some (.aload_n 1, 0, 0, 0) := by decide +kernel
theorem e0_536 : vm_ent 0 536 = some (.aload_n 0, 0, 0, 0) := by decide +kernel
theorem e0_537 : vm_ent 0 537 = some (.iload 4, 0, 0, 0) := by decide +kernel
theorem e0_539 : vm_ent 0 539 = some (.iconst 1, 0, 0, 0) := by decide +kernel
theorem e0_540 : vm_ent 0 540 = some (.iadd, 0, 0, 0) := by decide +kernel
theorem e0_541 : vm_ent 0 541 = some (.iaload, 0, 0, 0) := by decide +kernel
theorem e0_542 : vm_ent 0 542 = some (.aload_n 0, 0, 0, 0) := by decide +kernel
theorem e0_543 : vm_ent 0 543 = some (.iload 4, 0, 0, 0) := by decide +kernel
theorem e0_545 : vm_ent 0 545 = some (.iconst 2, 0, 0, 0) := by decide +kernel
theorem e0_546 : vm_ent 0 546 = some (.iadd, 0, 0, 0) := by decide +kernel
theorem e0_547 : vm_ent 0 547 = some (.iaload, 0, 0, 0) := by decide +kernel
theorem e0_548 : vm_ent 0 548 = some (.i2l, 0, 0, 0) := by decide +kernel
theorem e0_549 : vm_ent 0 549 = some (.bipush 32, 0, 0, 0) := by decide +kernel
theorem e0_551 : vm_ent 0 551 = some (.lshl, 0, 0, 0) := by decide +kernel
theorem e0_552 : vm_ent 0 552 = some (.aload_n 0, 0, 0, 0) := by decide +kernel
theorem e0_553 : vm_ent 0 553 = some (.iload 4, 0, 0, 0) := by decide +kernel
theorem e0_555 : vm_ent 0 555 = some (.iconst 3, 0, 0, 0) := by decide +kernel
theorem e0_556 : vm_ent 0 556 = some (.iadd, 0, 0, 0) := by decide +kernel
theorem e0_557 : vm_ent 0 557 = some (.iaload, 0, 0, 0) := by decide +kernel
theorem e0_558 : vm_ent 0 558 = some (.i2l, 0, 0, 0) := by decide +kernel
theorem e0_559 : vm_ent 0 559 = some (.ldc2_w 34, 4294967295, 0, 951) := by decide +kernel
theorem e0_562 : vm_ent 0 562 = some (.land, 0, 0, 0) := by decide +kernel
theorem e0_563 : vm_ent 0 563 = some (.lor, 0, 0, 0) := by decide +kernel
theorem e0_564 : vm_ent 0 564 = some (.invokevirtual 74, 55, 4, 529) := by decide +kernel
theorem e0_567 : vm_ent 0 567 = some (.pop, 0, 0, 0) := by decide +kernel
theorem e0_568 : vm_ent 0 568 = some (.aload_n 2, 0, 0, 0) := by decide +kernel
theorem e0_569 : vm_ent 0 569 = some (.aload_n 0, 0, 0, 0) := by decide +kernel
theorem e0_570 : vm_ent 0 570 = some (.iload 4, 0, 0, 0) := by decide +kernel
theorem e0_572 : vm_ent 0 572 = some (.iconst 1, 0, 0, 0) := by decide +kernel
theorem e0_573 : vm_ent 0 573 = some (.iadd, 0, 0, 0) := by decide +kernel
theorem e0_574 : vm_ent 0 574 = some (.iaload, 0, 0, 0) := by decide +kernel
theorem e0_575 : vm_ent 0 575 = some (.aload_n 0, 0, 0, 0) := by decide +kernel
theorem e0_576 : vm_ent 0 576 = some (.iload 4, 0, 0, 0) := by decide +kernel
theorem e0_578 : vm_ent 0 578 = some (.iconst 2, 0, 0, 0) := by decide +kernel
theorem e0_579 : vm_ent 0 579 = some (.iadd, 0, 0, 0) := by decide +kernel
theorem e0_580 : vm_ent 0 580 = some (.iaload, 0, 0, 0) := by decide +kernel
theorem e0_581 : vm_ent 0 581 = some (.i2l, 0, 0, 0) := by decide +kernel
theorem e0_582 : vm_ent 0 582 = some (.bipush 32, 0, 0, 0) := by decide +kernel
theorem e0_584 : vm_ent 0 584 = some (.lshl, 0, 0, 0) := by decide +kernel
theorem e0_585 : vm_ent 0 585 = some (.aload_n 0, 0, 0, 0) := by decide +kernel
theorem e0_586 : vm_ent 0 586 = some (.iload 4, 0, 0, 0) := by decide +kernel
theorem e0_588 : vm_ent 0 588 = some (.iconst 3, 0, 0, 0) := by decide +kernel
theorem e0_589 : vm_ent 0 589 = some (.iadd, 0, 0, 0) := by decide +kernel
theorem e0_590 : vm_ent 0 590 = some (.iaload, 0, 0, 0) := by decide +kernel
theorem e0_591 : vm_ent 0 591 = some (.i2l, 0, 0, 0) := by decide +kernel
theorem e0_592 : vm_ent 0 592 = some (.ldc2_w 34, 4294967295, 0, 951) := by decide +kernel
theorem e0_595 : vm_ent 0 595 = some (.land, 0, 0, 0) := by decide +kernel
theorem e0_596 : vm_ent 0 596 = some (.lor, 0, 0, 0) := by decide +kernel
theorem e0_597 : vm_ent 0 597 = some (.invokevirtual 78, 117, 4, 927) := by decide +kernel
theorem e0_600 : vm_ent 0 600 = some (.pop, 0, 0, 0) := by decide +kernel
theorem e0_601 : vm_ent 0 601 = some (.goto 170, 771, 0, 0) := by decide +kernel
theorem e0_604 : vm_ent 0 604 = some (.aload_n 1, 0, 0, 0) := by decide +kernel
theorem e0_605 : vm_ent 0 605 = some (.aload_n 0, 0, 0, 0) := by decide +kernel
theorem e0_606 : vm_ent 0 606 = some (.iload 4, 0, 0, 0) := by decide +kernel
theorem e0_608 : vm_ent 0 608 = some (.iconst 1, 0, 0, 0) := by decide +kernel
theorem e0_609 : vm_ent 0 609 = some (.iadd, 0, 0, 0) := by decide +kernel
theorem e0_610 : vm_ent 0 610 = some (.iaload, 0, 0, 0) := by decide +kernel
theorem e0_611 : vm_ent 0 611 = some (.aload_n 0, 0, 0, 0) := by decide +kernel
theorem e0_612 : vm_ent 0 612 = some (.iload 4, 0, 0, 0) := by decide +kernel
theorem e0_614 : vm_ent 0 614 = some (.iconst 2, 0, 0, 0) := by decide +kernel
theorem e0_615 : vm_ent 0 615 = some (.iadd, 0, 0, 0) := by decide +kernel
theorem e0_616 : vm_ent 0 616 = some (.iaload, 0, 0, 0) := by decide +kernel
theorem e0_617 : vm_ent 0 617 = some (.invokevirtual 79, 56, 4, 533) := by decide +kernel
theorem e0_620 : vm_ent 0 620 = some (.aload_n 2, 0, 0, 0) := by decide +kernel
theorem e0_621 : vm_ent 0 621 = some (.aload_n 0, 0, 0, 0) := by decide +kernel
theorem e0_622 : vm_ent 0 622 = some (.iload 4, 0, 0, 0) := by decide +kernel
theorem e0_624 : vm_ent 0 624 = some (.iconst 1, 0, 0, 0) := by decide +kernel
theorem e0_625 : vm_ent 0 625 = some (.iadd, 0, 0, 0) := by decide +kernel
theorem e0_626 : vm_ent 0 626 = some (.iaload, 0, 0, 0) := by decide +kernel
theorem e0_627 : vm_ent 0 627 = some (.aload_n 0, 0, 0, 0) := by decide +kernel
theorem e0_628 : vm_ent 0 628 = some (.iload 4, 0, 0, 0) := by decide +kernel
theorem e0_630 : vm_ent 0 630 = some (.iconst 2, 0, 0, 0) := by decide +kernel
theorem e0_631 : vm_ent 0 631 = some (.iadd, 0, 0, 0) := by decide +kernel
theorem e0_632 : vm_ent 0 632 = some (.iaload, 0, 0, 0) := by decide +kernel
theorem e0_633 : vm_ent 0 633 = some (.invokevirtual 83, 120, 4, 931) := by decide +kernel
theorem e0_636 : vm_ent 0 636 = some (.lcmp, 0, 0, 0) := by decide +kernel
theorem e0_637 : vm_ent 0 637 = some (.ifCond .eq 134, 771, 0, 0) := by decide +kernel
theorem e0_640 : vm_ent 0 640 = some (.iconst 0, 0, 0, 0) := by decide +kernel
theorem e0_641 : vm_ent 0 641 = some (.ireturn, 0, 0, 0) := by decide +kernel
theorem e0_642 : vm_ent 0 642 = some (.aload_n 1, 0, 0, 0) := by decide +kernel
theorem e0_643 : vm_ent 0 643 = some (.aload_n 0, 0, 0, 0) := by decide +kernel
theorem e0_644 : vm_ent 0 644 = some (.iload 4, 0, 0, 0) := by decide +kernel
theorem e0_646 : vm_ent 0 646 = some (.iconst 1, 0, 0, 0) := by decide +kernel
theorem e0_647 : vm_ent 0 647 = some (.iadd, 0, 0, 0) := by decide +kernel
theorem e0_648 : vm_ent 0 648 = some (.iaload, 0, 0, 0) := by decide +kernel
theorem e0_649 : vm_ent 0 649 = some (.invokevirtual 84, 57, 4, 545) := by decide +kernel
theorem e0_652 : vm_ent 0 652 = some (.pop2, 0, 0, 0) := by decide +kernel
theorem e0_653 : vm_ent 0 653 = some (.aload_n 2, 0, 0, 0) := by decide +kernel
theorem e0_654 : vm_ent 0 654 = some (.aload_n 0, 0, 0, 0) := by decide +kernel
theorem e0_655 : vm_ent 0 655 = some (.iload 4, 0, 0, 0) := by decide +kernel
theorem e0_657 : vm_ent 0 657 = some (.iconst 1, 0, 0, 0) := by decide +kernel
theorem e0_658 : vm_ent 0 658 = some (.iadd, 0, 0, 0) := by decide +kernel
theorem e0_659 : vm_ent 0 659 = some (.iaload, 0, 0, 0) := by decide +kernel
theorem e0_660 : vm_ent 0 660 = some (.invokevirtual 88, 121, 4, 943) := by decide +kernel
theorem e0_663 : vm_ent 0 663 = some (.pop2, 0, 0, 0) := by decide +kernel
theorem e0_664 : vm_ent 0 664 = some (.goto 107, 771, 0, 0) := by decide +kernel
theorem e0_667 : vm_ent 0 667 = some (.aload_n 1, 0, 0, 0) := by decide +kernel
theorem e0_668 : vm_ent 0 668 = some (.aload_n 0, 0, 0, 0) := by decide +kernel
theorem e0_669 : vm_ent 0 669 = some (.iload 4, 0, 0, 0) := by decide +kernel
theorem e0_671 : vm_ent 0 671 = some (.iconst 1, 0, 0, 0) := by decide +kernel
theorem e0_672 : vm_ent 0 672 = some (.iadd, 0, 0, 0) := by decide +kernel
theorem e0_673 : vm_ent 0 673 = some (.iaload, 0, 0, 0) := by decide +kernel
theorem e0_674 : vm_ent 0 674 = some (.i2l, 0, 0, 0) := by decide +kernel
theorem e0_675 : vm_ent 0 675 = some (.bipush 32, 0, 0, 0) := by decide +kernel
theorem e0_677 : vm_ent 0 677 = some (.lshl, 0, 0, 0) := by decide +kernel
theorem e0_678 : vm_ent 0 678 = some (.aload_n 0, 0, 0, 0) := by decide +kernel
theorem e0_679 : vm_ent 0 679 = some (.iload 4, 0, 0, 0) := by decide +kernel
theorem e0_681 : vm_ent 0 681 = some (.iconst 2, 0, 0, 0) := by decide +kernel
theorem e0_682 : vm_ent 0 682 = some (.iadd, 0, 0, 0) := by decide +kernel
theorem e0_683 : vm_ent 0 683 = some (.iaload, 0, 0, 0) := by decide +kernel
theorem e0_684 : vm_ent 0 684 = some (.i2l, 0, 0, 0) := by decide +kernel
theorem e0_685 : vm_ent 0 685 = some (.ldc2_w 34, 4294967295, 0, 951) := by decide +kernel
theorem e0_688 : vm_ent 0 688 = some (.land, 0, 0, 0) := by decide +kernel
theorem e0_689 : vm_ent 0 689 = some (.lor, 0, 0, 0) := by decide +kernel
theorem e0_690 : vm_ent 0 690 = some (.aload_n 0, 0, 0, 0) := by decide +kernel
theorem e0_691 : vm_ent 0 691 = some (.iload 4, 0, 0, 0) := by decide +kernel
theorem e0_693 : vm_ent 0 693 = some (.iconst 3, 0, 0, 0) := by decide +kernel
theorem e0_694 : vm_ent 0 694 = some (.iadd, 0, 0, 0) := by decide +kernel
theorem e0_695 : vm_ent 0 695 = some (.iaload, 0, 0, 0) := by decide +kernel
theorem e0_696 : vm_ent 0 696 = some (.i2l, 0, 0, 0) := by decide +kernel
theorem e0_697 : vm_ent 0 697 = some (.bipush 32, 0, 0, 0) := by decide +kernel
theorem e0_699 : vm_ent 0 699 = some (.lshl, 0, 0, 0) := by decide +kernel
theorem e0_700 : vm_ent 0 700 = some (.aload_n 0, 0, 0, 0) := by decide +kernel
theorem e0_701 : vm_ent 0 701 = some (.iload 4, 0, 0, 0) := by decide +kernel
theorem e0_703 : vm_ent 0 703 = some (.iconst 4, 0, 0, 0) := by decide +kernel
theorem e0_704 : vm_ent 0 704 = some (.iadd, 0, 0, 0) := by decide +kernel
theorem e0_705 : vm_ent 0 705 = some (.iaload, 0, 0, 0) := by decide +kernel
theorem e0_706 : vm_ent 0 706 = some (.i2l, 0, 0, 0) := by decide +kernel
theorem e0_707 : vm_ent 0 707 = some (.ldc2_w 34, 4294967295, 0, 951) := by decide +kernel
theorem e0_710 : vm_ent 0 710 = some (.land, 0, 0, 0) := by decide +kernel
theorem e0_711 : vm_ent 0 711 = some (.lor, 0, 0, 0) := by decide +kernel
theorem e0_712 : vm_ent 0 712 = some (.aload_n 3, 0, 0, 0) := by decide +kernel
theorem e0_713 : vm_ent 0 713 = some (.invokestatic 89, 124, 2, 554) := by decide +kernel
theorem e0_716 : vm_ent 0 716 = some (.istore 5, 0, 0, 0) := by decide +kernel
theorem e0_718 : vm_ent 0 718 = some (.aload_n 2, 0, 0, 0) := by decide +kernel
theorem e0_719 : vm_ent 0 719 = some (.aload_n 0, 0, 0, 0) := by decide +kernel
theorem e0_720 : vm_ent 0 720 = some (.iload 4, 0, 0, 0) := by decide +kernel
theorem e0_722 : vm_ent 0 722 = some (.iconst 1, 0, 0, 0) := by decide +kernel
theorem e0_723 : vm_ent 0 723 = some (.iadd, 0, 0, 0) := by decide +kernel
theorem e0_724 : vm_ent 0 724 = some (.iaload, 0, 0, 0) := by decide +kernel
theorem e0_725 : vm_ent 0 725 = some (.i2l, 0, 0, 0) := by decide +kernel
theorem e0_726 : vm_ent 0 726 = some (.bipush 32, 0, 0, 0) := by decide +kernel
theorem e0_728 : vm_ent 0 728 = some (.lshl, 0, 0, 0) := by decide +kernel
theorem e0_729 : vm_ent 0 729 = some (.aload_n 0, 0, 0, 0) := by decide +kernel
theorem e0_730 : vm_ent 0 730 = some (.iload 4, 0, 0, 0) := by decide +kernel
theorem e0_732 : vm_ent 0 732 = some (.iconst 2, 0, 0, 0) := by decide +kernel
theorem e0_733 : vm_ent 0 733 = some (.iadd, 0, 0, 0) := by decide +kernel
theorem e0_734 : vm_ent 0 734 = some (.iaload, 0, 0, 0) := by decide +kernel
theorem e0_735 : vm_ent 0 735 = some (.i2l, 0, 0, 0) := by decide +kernel
theorem e0_736 : vm_ent 0 736 = some (.ldc2_w 34, 4294967295, 0, 951) := by decide +kernel
theorem e0_739 : vm_ent 0 739 = some (.land, 0, 0, 0) := by decide +kernel
theorem e0_740 : vm_ent 0 740 = some (.lor, 0, 0, 0) := by decide +kernel
theorem e0_741 : vm_ent 0 741 = some (.aload_n 0, 0, 0, 0) := by decide +kernel
theorem e0_742 : vm_ent 0 742 = some (.iload 4, 0, 0, 0) := by decide +kernel
theorem e0_744 : vm_ent 0 744 = some (.iconst 3, 0, 0, 0) := by decide +kernel
theorem e0_745 : vm_ent 0 745 = some (.iadd, 0, 0, 0) := by decide +kernel
theorem e0_746 : vm_ent 0 746 = some (.iaload, 0, 0, 0) := by decide +kernel
theorem e0_747 : vm_ent 0 747 = some (.i2l, 0, 0, 0) := by decide +kernel
theorem e0_748 : vm_ent 0 748 = some (.bipush 32, 0, 0, 0) := by decide +kernel
theorem e0_750 : vm_ent 0 750 = some (.lshl, 0, 0, 0) := by decide +kernel
theorem e0_751 : vm_ent 0 751 = some (.aload_n 0, 0, 0, 0) := by decide +kernel
theorem e0_752 : vm_ent 0 752 = some (.iload 4, 0, 0, 0) := by decide +kernel
theorem e0_754 : vm_ent 0 754 = some (.iconst 4, 0, 0, 0) := by decide +kernel
theorem e0_755 : vm_ent 0 755 = some (.iadd, 0, 0, 0) := by decide +kernel
theorem e0_756 : vm_ent 0 756 = some (.iaload, 0, 0, 0) := by decide +kernel
theorem e0_757 : vm_ent 0 757 = some (.i2l, 0, 0, 0) := by decide +kernel
theorem e0_758 : vm_ent 0 758 = some (.ldc2_w 34, 4294967295, 0, 951) := by decide +kernel
theorem e0_761 : vm_ent 0 761 = some (.land, 0, 0, 0) := by decide +kernel
theorem e0_762 : vm_ent 0 762 = some (.lor, 0, 0, 0) := by decide +kernel
theorem e0_763 : vm_ent 0 763 = some (.invokevirtual 94, 122, 4, 947) := by decide +kernel
theorem e0_766 : vm_ent 0 766 = some (.lstore 6, 0, 0, 0) := by decide +kernel
theorem e0_768 : vm_ent 0 768 = some (.goto 3, 771, 0, 0) := by decide +kernel
theorem e0_771 : vm_ent 0 771 = some (.iinc 4 5, 0, 0, 0) := by decide +kernel
theorem e0_774 : vm_ent 0 774 = some (.goto (-751), 23, 0, 0) := by decide +kernel
theorem e0_777 : vm_ent 0 777 = some (.iconst 1, 0, 0, 0) := by decide +kernel
theorem e0_778 : vm_ent 0 778 = some (.ireturn, 0, 0, 0) := by decide +kernel
theorem tmR_u {i1 q : Int} {l2 : Int64} {H : Nat → Int32} {T T1 T2 : T7} (h : tmR i1 l2 H q T T1) (h2 : tmR i1 l2 H q T T2) : T1 = T2 := by
  rcases h with ⟨a, b⟩ | ⟨a, b⟩
  · rcases h2 with ⟨c, _⟩ | ⟨_, d⟩
    · rw [a, c]
    · exact absurd d b
  · rcases h2 with ⟨_, d⟩ | ⟨c, _⟩
    · exact absurd b d
    · rw [a, c]
theorem nv_n {n n1 q : Int} {A B : Prop} (h : (n = 8 ∧ q = -1 ∧ n1 = n ∧ A) ∨ (n < 8 ∧ q = n ∧ n1 = n + 1 ∧ B)) : (n = 8 ∧ n1 = n) ∨ (n < 8 ∧ n1 = n + 1) := by
  rcases h with ⟨a, _, b, _⟩ | ⟨a, _, b, _⟩ <;> omega
def laL (u v : Int32) : Int64 := (u.toInt64 <<< ((vz 32).toInt64 &&& 63)) ||| (v.toInt64 &&& Int64.ofNat 4294967295)
abbrev lwA (x : Int) : vq_A := [some (.ref 0), some (.ref 1), some (.ref 238), some (.ref 263), some (.int (vz x)), none, none, none]
/-- what a turn comes to: the end; the next turn; the call of pseudo -/
def lwQ (L : Nat) (xs : Nat → Int32) (x : Int) : vq_Q := fun pc ls st v1 => pc = 23 ∧ st = [] ∧ vq_ag (lwA (x + 5)) ls ∧ (x + 5 ≤ (L : Int)) ∧ ∃ (n p t : Int) (g : Int64) (u : D5u) (w : D5w) (V : Nat → Int) (F H : Nat → Int32) (T : T7), lI L xs v1 n p n p t g u w ∧ rel5 n p u w ∧ jC v1 V F H T ∧ jR v1 V F H T
def lwP (L : Nat) (xs : Nat → Int32) (x : Int) : vq_Q := fun pc ls st v1 => (pc = 778 ∧ st = [.int (vz 1)]) ∨ lwQ L xs x pc ls st v1 ∨ (pc = 713 ∧ st = [.ref 263, .long (laL (xs (x + 3).toNat) (xs (x + 4).toNat)), .long (laL (xs (x + 1).toNat) (xs (x + 2).toNat)), .ref 1] ∧ vq_ag (lwA x) ls ∧ (x + 5 ≤ (L : Int)) ∧ ∃ (n p t : Int) (g : Int64) (u : D5u) (w : D5w) (V : Nat → Int) (F H : Nat → Int32) (T : T7), lI L xs v1 n p n p t g u w ∧ rel5 n p u w ∧ jC v1 V F H T ∧ jR v1 V F H T)

set_option maxRecDepth 100000 in
set_option maxHeartbeats 8000000 in
theorem lw_turn {L : Nat} {xs : Nat → Int32} {vh : vm_H} {n p t : Int} {g : Int64} {x4 : Int} {u : D5u} {w : D5w} {V : Nat → Int} {F H : Nat → Int32} {T : T7} (hL : lI L xs vh n p n p t g u w) (hZ : rel5 n p u w) (hC : jC vh V F H T) (hR : jR vh V F H T) (h0 : 0 ≤ x4) (hx : x4 ≤ (L : Int)) (hl : L ≤ 2560) : vm_Wp 9 400 0 23 (lwA x4) [] vh (lwP L xs x4) := by
  have hbd := lI_b hL
  obtain ⟨hev, U, hUw⟩ := jU hL hZ hC hR
  refine w_ldI e0_23 (fun _ => rfl) rfl ?_
  refine w_ldA e0_25 (fun _ => rfl) rfl ?_
  refine w_len e0_26 (lI_0 hL) (by decide) ?_
  refine w_kI e0_27 ?_
  refine w_isub e0_28 ?_
  refine w_ic e0_29 (by omega) (by omega) (fun (h1 : ((L : Int)) - 5 < x4) => ?_) (fun (h1 : x4 ≤ ((L : Int)) - 5) => ?_)
  ·
    refine w_kI e0_777 ?_
    exact w_end (fun ls hl => Or.inl ⟨rfl, rfl⟩)
  ·
    refine w_ldA e0_32 (fun _ => rfl) rfl ?_
    refine w_ldI e0_33 (fun _ => rfl) rfl ?_
    refine w_aldO e0_35 (lI_0 hL) (by omega) (by omega) (by omega) (fun q2 h3 hx4 => ?_)
    refine w_kB e0_36 rfl ?_
    refine w_iand e0_38 h3 (by omega) (fun q5 (h6 : 0 ≤ q5 ∧ q5 ≤ 15) => ?_)
    by_cases h7 : q5 < 0 ∨ 14 < q5
    ·
      refine w_swO (t := 771) e0_39 (by omega) h7 rfl ?_
      refine w_iinc (A1 := [some (.ref 0), some (.ref 1), some (.ref 238), some (.ref 263), some (.int (vz (x4 + 5))), none, none, none]) e0_771 rfl (by decide) rfl ?_
      refine w_x e0_774 (fun _ => rfl) ?_
      have hnp8 : n = n ∧ p = p := by omega
      have hZ9 : rel5 n p u w := hZ
      exact w_sub (A1 := [some (.ref 0), some (.ref 1), some (.ref 238), some (.ref 263), some (.int (vz (x4 + 5))), none, none, none]) (And.intro rfl (And.intro rfl (And.intro rfl (And.intro rfl (And.intro rfl trivial))))) (w_end (fun ls hl => Or.inr (Or.inl ⟨rfl, rfl, hl, by omega, ⟨_, _, _, _, _, _, _, _, _, _, hL, hZ9, hC, hR⟩⟩)))
    ·
      have h9 : q5 = 0 ∨ q5 = 1 ∨ q5 = 2 ∨ q5 = 3 ∨ q5 = 4 ∨ q5 = 5 ∨ q5 = 6 ∨ q5 = 7 ∨ q5 = 8 ∨ q5 = 9 ∨ q5 = 10 ∨ q5 = 11 ∨ q5 = 12 ∨ q5 = 13 ∨ q5 = 14 := by omega
      rcases h9 with h9 | h9 | h9 | h9 | h9 | h9 | h9 | h9 | h9 | h9 | h9 | h9 | h9 | h9 | h9
      ·
        refine w_swI (t := 112) e0_39 (by omega) h7 (by rw [h9]; rfl) rfl ?_
        refine w_ldA e0_112 (fun _ => rfl) rfl ?_
        refine w_ldA e0_113 (fun _ => rfl) rfl ?_
        refine w_ldI e0_114 (fun _ => rfl) rfl ?_
        refine w_kI e0_116 ?_
        refine w_iadd e0_117 ?_
        refine w_aldO e0_118 (lI_0 hL) (by omega) (by omega) (by omega) (fun q10 h11 hx12 => ?_)
        refine w_if e0_119 h11 (fun (h13 : q10 = 0) => ?_) (fun (h13 : q10 ≠ 0) => ?_)
        ·
          refine w_kI e0_126 ?_
          obtain ⟨fs14, e15⟩ := lI_1 hL
          refine w_cv e0_127 (by decide) rfl e15 rfl (Nat.le_of_ble_eq_true rfl) (Nat.le_of_ble_eq_true rfl) (Nat.le_of_ble_eq_true rfl) (by decide) (by decide) (rp_and (x44 hL (by omega)) (J44 hL hC hR (by omega))) (fun o18 v19 hq20 => ?_)
          obtain ⟨hq22, hJ21⟩ := hq20
          obtain ⟨n23, ua24, q32, hw27, hc29, hL31, rfl⟩ := hq22
          have hb30 := nv_n hc29
          obtain ⟨hC16, hR17⟩ := hJ21
          refine w_x e0_130 (fun _ => rfl) ?_
          refine w_ldA e0_131 (fun _ => rfl) rfl ?_
          refine w_ldA e0_132 (fun _ => rfl) rfl ?_
          refine w_ldI e0_133 (fun _ => rfl) rfl ?_
          refine w_kI e0_135 ?_
          refine w_iadd e0_136 ?_
          refine w_aldO e0_137 (lI_0 hL31) (by omega) (by omega) (by omega) (fun q33 h34 hx35 => ?_)
          have hqq36 : q10 = q33 := ((vz_inj h34 h11).mp (hx35.symm.trans hx12)).symm
          subst hqq36
          refine w_if e0_138 h11 (fun (h37 : q10 = 0) => ?_) (fun (h37 : q10 ≠ 0) => ?_)
          ·
            refine w_kI e0_145 ?_
            obtain ⟨fs38, e39⟩ := lI_238 hL31
            refine w_cv e0_146 (by decide) rfl e39 rfl (Nat.le_of_ble_eq_true rfl) (Nat.le_of_ble_eq_true rfl) (Nat.le_of_ble_eq_true rfl) (by decide) (by decide) (rp_and (y105 hL31 (by omega)) (J105 hL31 hC16 hR17 (by omega))) (fun o42 v43 hq44 => ?_)
            obtain ⟨hq46, hJ45⟩ := hq44
            obtain ⟨⟨n47, p48, t49, hr50, hL51⟩, q52, h53, rfl⟩ := hq46
            rw [hr50.2] at hL51
            obtain ⟨hC40, hR41⟩ := hJ45
            refine w_x e0_149 (fun _ => rfl) ?_
            refine w_x e0_150 (fun _ => rfl) ?_
            refine w_iinc (A1 := [some (.ref 0), some (.ref 1), some (.ref 238), some (.ref 263), some (.int (vz (x4 + 5))), none, none, none]) e0_771 rfl (by decide) rfl ?_
            refine w_x e0_774 (fun _ => rfl) ?_
            have hnp54 : n47 = n23 ∧ p = p := by omega
            rw [hnp54.1] at hL51
            have hZ9 : rel5 n23 p ua24 w := rel_nv hZ (lI_u hL) hbd.1.1 hw27 hc29
            exact w_sub (A1 := [some (.ref 0), some (.ref 1), some (.ref 238), some (.ref 263), some (.int (vz (x4 + 5))), none, none, none]) (And.intro rfl (And.intro rfl (And.intro rfl (And.intro rfl (And.intro rfl trivial))))) (w_end (fun ls hl => Or.inr (Or.inl ⟨rfl, rfl, hl, by omega, ⟨_, _, _, _, _, _, _, _, _, _, hL51, hZ9, hC40, hR41⟩⟩)))
          ·
            refine w_kI e0_141 ?_
            refine w_x e0_142 (fun _ => rfl) ?_
            obtain ⟨fs55, e56⟩ := lI_238 hL31
            exfalso; omega
        ·
          refine w_kI e0_122 ?_
          refine w_x e0_123 (fun _ => rfl) ?_
          obtain ⟨fs59, e60⟩ := lI_1 hL
          refine w_cv e0_127 (by decide) rfl e60 rfl (Nat.le_of_ble_eq_true rfl) (Nat.le_of_ble_eq_true rfl) (Nat.le_of_ble_eq_true rfl) (by decide) (by decide) (rp_and (x44 hL (by omega)) (J44 hL hC hR (by omega))) (fun o63 v64 hq65 => ?_)
          obtain ⟨hq67, hJ66⟩ := hq65
          obtain ⟨n68, ua69, q77, hw72, hc74, hL76, rfl⟩ := hq67
          have hb75 := nv_n hc74
          obtain ⟨hC61, hR62⟩ := hJ66
          refine w_x e0_130 (fun _ => rfl) ?_
          refine w_ldA e0_131 (fun _ => rfl) rfl ?_
          refine w_ldA e0_132 (fun _ => rfl) rfl ?_
          refine w_ldI e0_133 (fun _ => rfl) rfl ?_
          refine w_kI e0_135 ?_
          refine w_iadd e0_136 ?_
          refine w_aldO e0_137 (lI_0 hL76) (by omega) (by omega) (by omega) (fun q78 h79 hx80 => ?_)
          have hqq81 : q10 = q78 := ((vz_inj h79 h11).mp (hx80.symm.trans hx12)).symm
          subst hqq81
          refine w_if e0_138 h11 (fun (h82 : q10 = 0) => ?_) (fun (h82 : q10 ≠ 0) => ?_)
          ·
            refine w_kI e0_145 ?_
            obtain ⟨fs83, e84⟩ := lI_238 hL76
            exfalso; omega
          ·
            refine w_kI e0_141 ?_
            refine w_x e0_142 (fun _ => rfl) ?_
            obtain ⟨fs87, e88⟩ := lI_238 hL76
            refine w_cv e0_146 (by decide) rfl e88 rfl (Nat.le_of_ble_eq_true rfl) (Nat.le_of_ble_eq_true rfl) (Nat.le_of_ble_eq_true rfl) (by decide) (by decide) (rp_and (y105 hL76 (by omega)) (J105 hL76 hC61 hR62 (by omega))) (fun o91 v92 hq93 => ?_)
            obtain ⟨hq95, hJ94⟩ := hq93
            obtain ⟨⟨n96, p97, t98, hr99, hL100⟩, q101, h102, rfl⟩ := hq95
            rw [hr99.2] at hL100
            obtain ⟨hC89, hR90⟩ := hJ94
            refine w_x e0_149 (fun _ => rfl) ?_
            refine w_x e0_150 (fun _ => rfl) ?_
            refine w_iinc (A1 := [some (.ref 0), some (.ref 1), some (.ref 238), some (.ref 263), some (.int (vz (x4 + 5))), none, none, none]) e0_771 rfl (by decide) rfl ?_
            refine w_x e0_774 (fun _ => rfl) ?_
            have hnp103 : n96 = n68 ∧ p = p := by omega
            rw [hnp103.1] at hL100
            have hZ9 : rel5 n68 p ua69 w := rel_nv hZ (lI_u hL) hbd.1.1 hw72 hc74
            exact w_sub (A1 := [some (.ref 0), some (.ref 1), some (.ref 238), some (.ref 263), some (.int (vz (x4 + 5))), none, none, none]) (And.intro rfl (And.intro rfl (And.intro rfl (And.intro rfl (And.intro rfl trivial))))) (w_end (fun ls hl => Or.inr (Or.inl ⟨rfl, rfl, hl, by omega, ⟨_, _, _, _, _, _, _, _, _, _, hL100, hZ9, hC89, hR90⟩⟩)))
      ·
        refine w_swI (t := 153) e0_39 (by omega) h7 (by rw [h9]; rfl) rfl ?_
        refine w_ldA e0_153 (fun _ => rfl) rfl ?_
        refine w_ldA e0_154 (fun _ => rfl) rfl ?_
        refine w_ldI e0_155 (fun _ => rfl) rfl ?_
        refine w_kI e0_157 ?_
        refine w_iadd e0_158 ?_
        refine w_aldO e0_159 (lI_0 hL) (by omega) (by omega) (by omega) (fun q104 h105 hx106 => ?_)
        refine w_ldA e0_160 (fun _ => rfl) rfl ?_
        refine w_ldI e0_161 (fun _ => rfl) rfl ?_
        refine w_kI e0_163 ?_
        refine w_iadd e0_164 ?_
        refine w_aldO e0_165 (lI_0 hL) (by omega) (by omega) (by omega) (fun q107 h108 hx109 => ?_)
        obtain ⟨fs110, e111⟩ := lI_1 hL
        refine w_cv e0_166 (by decide) rfl e111 rfl (Nat.le_of_ble_eq_true rfl) (Nat.le_of_ble_eq_true rfl) (Nat.le_of_ble_eq_true rfl) (by decide) (by decide) (rp_and (x45 hL h105 h108) (J45 hL hC hR h105 h108)) (fun o114 v115 hq116 => ?_)
        obtain ⟨hq118, hJ117⟩ := hq116
        obtain ⟨ua120, q128, hw123, hc125, hL127, hb126, rfl⟩ := hq118
        obtain ⟨V129, T130, ho131, hC112, hR113⟩ := hJ117
        refine w_x e0_169 (fun _ => rfl) ?_
        refine w_ldA e0_170 (fun _ => rfl) rfl ?_
        refine w_ldA e0_171 (fun _ => rfl) rfl ?_
        refine w_ldI e0_172 (fun _ => rfl) rfl ?_
        refine w_kI e0_174 ?_
        refine w_iadd e0_175 ?_
        refine w_aldO e0_176 (lI_0 hL127) (by omega) (by omega) (by omega) (fun q132 h133 hx134 => ?_)
        have hqq135 : q104 = q132 := ((vz_inj h133 h105).mp (hx134.symm.trans hx106)).symm
        subst hqq135
        refine w_ldA e0_177 (fun _ => rfl) rfl ?_
        refine w_ldI e0_178 (fun _ => rfl) rfl ?_
        refine w_kI e0_180 ?_
        refine w_iadd e0_181 ?_
        refine w_aldO e0_182 (lI_0 hL127) (by omega) (by omega) (by omega) (fun q136 h137 hx138 => ?_)
        have hqq139 : q107 = q136 := ((vz_inj h137 h108).mp (hx138.symm.trans hx109)).symm
        subst hqq139
        obtain ⟨fs140, e141⟩ := lI_238 hL127
        refine w_cv e0_183 (by decide) rfl e141 rfl (Nat.le_of_ble_eq_true rfl) (Nat.le_of_ble_eq_true rfl) (Nat.le_of_ble_eq_true rfl) (by decide) (by decide) (rp_and (y106 hL127 h105 h108) (J106 hL127 (rel_v hZ) hZ.2 ho131 hC112 hR113 h105 h108)) (fun o144 v145 hq146 => ?_)
        obtain ⟨hq148, hJ147⟩ := hq146
        obtain ⟨t151, ua150, q158, hw153, hL157, hb156, rfl⟩ := hq148
        obtain ⟨hC142, hR143⟩ := hJ147
        refine w_x e0_186 (fun _ => rfl) ?_
        refine w_x e0_187 (fun _ => rfl) ?_
        refine w_iinc (A1 := [some (.ref 0), some (.ref 1), some (.ref 238), some (.ref 263), some (.int (vz (x4 + 5))), none, none, none]) e0_771 rfl (by decide) rfl ?_
        refine w_x e0_774 (fun _ => rfl) ?_
        have hnp159 : n = n ∧ p = p := by omega
        have hZ9 : rel5 n p ua120 ua150 := rel_mv hZ (lI_u hL) (lI_u hL127) hbd.1.1 hw123 hc125 hw153
        exact w_sub (A1 := [some (.ref 0), some (.ref 1), some (.ref 238), some (.ref 263), some (.int (vz (x4 + 5))), none, none, none]) (And.intro rfl (And.intro rfl (And.intro rfl (And.intro rfl (And.intro rfl trivial))))) (w_end (fun ls hl => Or.inr (Or.inl ⟨rfl, rfl, hl, by omega, ⟨_, _, _, _, _, _, _, _, _, _, hL157, hZ9, hC142, hR143⟩⟩)))
      ·
        refine w_swI (t := 190) e0_39 (by omega) h7 (by rw [h9]; rfl) rfl ?_
        refine w_ldA e0_190 (fun _ => rfl) rfl ?_
        obtain ⟨fs160, e161⟩ := lI_1 hL
        refine w_cv e0_191 (by decide) rfl e161 rfl (Nat.le_of_ble_eq_true rfl) (Nat.le_of_ble_eq_true rfl) (Nat.le_of_ble_eq_true rfl) (by decide) (by decide) (rp_and (x46 hL) (J46 hL hC hR)) (fun o164 v165 hq166 => ?_)
        obtain ⟨hq168, hJ167⟩ := hq166
        obtain ⟨⟨n169, p170, hr172, hL173⟩, q174, h175, rfl⟩ := hq168
        rw [hr172.2] at hL173
        obtain ⟨hC162, hR163, hHz176⟩ := hJ167
        refine w_x e0_194 (fun _ => rfl) ?_
        refine w_ldA e0_195 (fun _ => rfl) rfl ?_
        obtain ⟨fs177, e178⟩ := lI_238 hL173
        refine w_cv e0_196 (by decide) rfl e178 rfl (Nat.le_of_ble_eq_true rfl) (Nat.le_of_ble_eq_true rfl) (Nat.le_of_ble_eq_true rfl) (by decide) (by decide) (rp_and (y107 hL173) (J107 hL173 hC162 hR163 hHz176)) (fun o181 v182 hq183 => ?_)
        obtain ⟨hq185, hJ184⟩ := hq183
        obtain ⟨p189, t188, ua187, q195, hp191, hw190, hL194, hb193, rfl⟩ := hq185
        obtain ⟨hC179, hR180⟩ := hJ184
        refine w_x e0_199 (fun _ => rfl) ?_
        refine w_x e0_200 (fun _ => rfl) ?_
        refine w_iinc (A1 := [some (.ref 0), some (.ref 1), some (.ref 238), some (.ref 263), some (.int (vz (x4 + 5))), none, none, none]) e0_771 rfl (by decide) rfl ?_
        refine w_x e0_774 (fun _ => rfl) ?_
        have hnp196 : n = n ∧ p189 = p170 := by omega
        rw [hnp196.2] at hL194
        have hZ9 : rel5 n p170 u ua187 := rel_pl hZ hbd.1.2 hr172.1 hw190
        exact w_sub (A1 := [some (.ref 0), some (.ref 1), some (.ref 238), some (.ref 263), some (.int (vz (x4 + 5))), none, none, none]) (And.intro rfl (And.intro rfl (And.intro rfl (And.intro rfl (And.intro rfl trivial))))) (w_end (fun ls hl => Or.inr (Or.inl ⟨rfl, rfl, hl, by omega, ⟨_, _, _, _, _, _, _, _, _, _, hL194, hZ9, hC179, hR180⟩⟩)))
      ·
        refine w_swI (t := 203) e0_39 (by omega) h7 (by rw [h9]; rfl) rfl ?_
        refine w_ldA e0_203 (fun _ => rfl) rfl ?_
        refine w_ldA e0_204 (fun _ => rfl) rfl ?_
        refine w_ldI e0_205 (fun _ => rfl) rfl ?_
        refine w_kI e0_207 ?_
        refine w_iadd e0_208 ?_
        refine w_aldO e0_209 (lI_0 hL) (by omega) (by omega) (by omega) (fun q197 h198 hx199 => ?_)
        refine w_ldA e0_210 (fun _ => rfl) rfl ?_
        refine w_ldI e0_211 (fun _ => rfl) rfl ?_
        refine w_kI e0_213 ?_
        refine w_iadd e0_214 ?_
        refine w_aldO e0_215 (lI_0 hL) (by omega) (by omega) (by omega) (fun q200 h201 hx202 => ?_)
        refine w_x e0_216 (fun _ => rfl) ?_
        refine w_kB e0_217 rfl ?_
        refine w_x e0_219 (fun _ => rfl) ?_
        refine w_ldA e0_220 (fun _ => rfl) rfl ?_
        refine w_ldI e0_221 (fun _ => rfl) rfl ?_
        refine w_kI e0_223 ?_
        refine w_iadd e0_224 ?_
        refine w_aldO e0_225 (lI_0 hL) (by omega) (by omega) (by omega) (fun q203 h204 hx205 => ?_)
        refine w_x e0_226 (fun _ => rfl) ?_
        refine w_x e0_227 (fun _ => rfl) ?_
        refine w_x e0_230 (fun _ => rfl) ?_
        refine w_x e0_231 (fun _ => rfl) ?_
        refine w_ldA e0_232 (fun _ => rfl) rfl ?_
        refine w_ldI e0_233 (fun _ => rfl) rfl ?_
        refine w_kI e0_235 ?_
        refine w_iadd e0_236 ?_
        refine w_aldO e0_237 (lI_0 hL) (by omega) (by omega) (by omega) (fun q206 h207 hx208 => ?_)
        obtain ⟨fs209, e210⟩ := lI_1 hL
        refine w_cv e0_238 (by decide) rfl e210 rfl (Nat.le_of_ble_eq_true rfl) (Nat.le_of_ble_eq_true rfl) (Nat.le_of_ble_eq_true rfl) (by decide) (by decide) (rp_and (x47 hL h198 h207) (J47 hL hC hR h198 h207)) (fun o213 v214 hq215 => ?_)
        obtain ⟨hq217, hJ216⟩ := hq215
        obtain ⟨ua219, q227, hb225, hc224, hL226, rfl⟩ := hq217
        obtain ⟨T228, q229, ⟨hb230, hr231, hm232⟩, hC211, hR212⟩ := hJ216
        have he233 : q229 = q227 := (vz_inj (by omega) (by omega)).mp (by injection hr231 with e9; injection e9 with e9; exact e9.symm)
        rw [he233] at hm232
        refine w_x e0_241 (fun _ => rfl) ?_
        refine w_ldA e0_242 (fun _ => rfl) rfl ?_
        refine w_ldA e0_243 (fun _ => rfl) rfl ?_
        refine w_ldI e0_244 (fun _ => rfl) rfl ?_
        refine w_kI e0_246 ?_
        refine w_iadd e0_247 ?_
        refine w_aldO e0_248 (lI_0 hL226) (by omega) (by omega) (by omega) (fun q234 h235 hx236 => ?_)
        have hqq237 : q197 = q234 := ((vz_inj h235 h198).mp (hx236.symm.trans hx199)).symm
        subst hqq237
        refine w_ldA e0_249 (fun _ => rfl) rfl ?_
        refine w_ldI e0_250 (fun _ => rfl) rfl ?_
        refine w_kI e0_252 ?_
        refine w_iadd e0_253 ?_
        refine w_aldO e0_254 (lI_0 hL226) (by omega) (by omega) (by omega) (fun q238 h239 hx240 => ?_)
        have hqq241 : q200 = q238 := ((vz_inj h239 h201).mp (hx240.symm.trans hx202)).symm
        subst hqq241
        refine w_x e0_255 (fun _ => rfl) ?_
        refine w_kB e0_256 rfl ?_
        refine w_x e0_258 (fun _ => rfl) ?_
        refine w_ldA e0_259 (fun _ => rfl) rfl ?_
        refine w_ldI e0_260 (fun _ => rfl) rfl ?_
        refine w_kI e0_262 ?_
        refine w_iadd e0_263 ?_
        refine w_aldO e0_264 (lI_0 hL226) (by omega) (by omega) (by omega) (fun q242 h243 hx244 => ?_)
        have hqq245 : q203 = q242 := ((vz_inj h243 h204).mp (hx244.symm.trans hx205)).symm
        subst hqq245
        refine w_x e0_265 (fun _ => rfl) ?_
        refine w_x e0_266 (fun _ => rfl) ?_
        refine w_x e0_269 (fun _ => rfl) ?_
        refine w_x e0_270 (fun _ => rfl) ?_
        refine w_ldA e0_271 (fun _ => rfl) rfl ?_
        refine w_ldI e0_272 (fun _ => rfl) rfl ?_
        refine w_kI e0_274 ?_
        refine w_iadd e0_275 ?_
        refine w_aldO e0_276 (lI_0 hL226) (by omega) (by omega) (by omega) (fun q246 h247 hx248 => ?_)
        have hqq249 : q206 = q246 := ((vz_inj h247 h207).mp (hx248.symm.trans hx208)).symm
        subst hqq249
        obtain ⟨fs250, e251⟩ := lI_238 hL226
        refine w_cv e0_277 (by decide) rfl e251 rfl (Nat.le_of_ble_eq_true rfl) (Nat.le_of_ble_eq_true rfl) (Nat.le_of_ble_eq_true rfl) (by decide) (by decide) (rp_and (y108 hL226 h198 h207) (J108 hL226 (rel_v hZ) hC211 hR212 h198 h207)) (fun o254 v255 hq256 => ?_)
        obtain ⟨hq258, hJ257⟩ := hq256
        obtain ⟨t261, ua260, q268, hw263, hL267, rfl⟩ := hq258
        have hrt := rel_tm hZ (lI_u hL) hbd.1.1 hbd.1.2 hc224 hw263
        have hqe := hrt.1
        obtain ⟨T269, q270, ⟨hb271, hr272, hm273⟩, hC252, hR253⟩ := hJ257
        have he274 : q270 = q268 := (vz_inj (by omega) (by omega)).mp (by injection hr272 with e9; injection e9 with e9; exact e9.symm)
        rw [he274] at hm273
        rw [← hqe] at hm273
        have hTT275 := tmR_u hm232 hm273
        rw [← hTT275] at hR253
        refine w_x e0_280 (fun _ => rfl) ?_
        refine w_x e0_281 (fun _ => rfl) ?_
        refine w_iinc (A1 := [some (.ref 0), some (.ref 1), some (.ref 238), some (.ref 263), some (.int (vz (x4 + 5))), none, none, none]) e0_771 rfl (by decide) rfl ?_
        refine w_x e0_774 (fun _ => rfl) ?_
        have hnp276 : n = n ∧ p = p := by omega
        have hZ9 : rel5 n p ua219 ua260 := hrt.2
        exact w_sub (A1 := [some (.ref 0), some (.ref 1), some (.ref 238), some (.ref 263), some (.int (vz (x4 + 5))), none, none, none]) (And.intro rfl (And.intro rfl (And.intro rfl (And.intro rfl (And.intro rfl trivial))))) (w_end (fun ls hl => Or.inr (Or.inl ⟨rfl, rfl, hl, by omega, ⟨_, _, _, _, _, _, _, _, _, _, hL267, hZ9, hC252, hR253⟩⟩)))
      ·
        refine w_swI (t := 284) e0_39 (by omega) h7 (by rw [h9]; rfl) rfl ?_
        refine w_ldA e0_284 (fun _ => rfl) rfl ?_
        refine w_ldA e0_285 (fun _ => rfl) rfl ?_
        refine w_ldI e0_286 (fun _ => rfl) rfl ?_
        refine w_kI e0_288 ?_
        refine w_iadd e0_289 ?_
        refine w_aldO e0_290 (lI_0 hL) (by omega) (by omega) (by omega) (fun q277 h278 hx279 => ?_)
        refine w_ldA e0_291 (fun _ => rfl) rfl ?_
        refine w_ldI e0_292 (fun _ => rfl) rfl ?_
        refine w_kI e0_294 ?_
        refine w_iadd e0_295 ?_
        refine w_aldO e0_296 (lI_0 hL) (by omega) (by omega) (by omega) (fun q280 h281 hx282 => ?_)
        refine w_if e0_297 h281 (fun (h283 : q280 = 0) => ?_) (fun (h283 : q280 ≠ 0) => ?_)
        ·
          refine w_kI e0_304 ?_
          obtain ⟨fs284, e285⟩ := lI_1 hL
          refine w_cv e0_305 (by decide) rfl e285 rfl (Nat.le_of_ble_eq_true rfl) (Nat.le_of_ble_eq_true rfl) (Nat.le_of_ble_eq_true rfl) (by decide) (by decide) (rp_and (x48 hL h278 (by omega)) (J48 hL hC hR h278 (by omega))) (fun o288 v289 hq290 => ?_)
          obtain ⟨hq292, hJ291⟩ := hq290
          obtain ⟨⟨n293, p294, hr296, hL297⟩, q298, h299, rfl⟩ := hq292
          rw [hr296.1, hr296.2] at hL297
          obtain ⟨hC286, hR287⟩ := hJ291
          refine w_x e0_308 (fun _ => rfl) ?_
          refine w_ldA e0_309 (fun _ => rfl) rfl ?_
          refine w_ldA e0_310 (fun _ => rfl) rfl ?_
          refine w_ldI e0_311 (fun _ => rfl) rfl ?_
          refine w_kI e0_313 ?_
          refine w_iadd e0_314 ?_
          refine w_aldO e0_315 (lI_0 hL297) (by omega) (by omega) (by omega) (fun q300 h301 hx302 => ?_)
          have hqq303 : q277 = q300 := ((vz_inj h301 h278).mp (hx302.symm.trans hx279)).symm
          subst hqq303
          refine w_ldA e0_316 (fun _ => rfl) rfl ?_
          refine w_ldI e0_317 (fun _ => rfl) rfl ?_
          refine w_kI e0_319 ?_
          refine w_iadd e0_320 ?_
          refine w_aldO e0_321 (lI_0 hL297) (by omega) (by omega) (by omega) (fun q304 h305 hx306 => ?_)
          have hqq307 : q280 = q304 := ((vz_inj h305 h281).mp (hx306.symm.trans hx282)).symm
          subst hqq307
          refine w_if e0_322 h281 (fun (h308 : q280 = 0) => ?_) (fun (h308 : q280 ≠ 0) => ?_)
          ·
            refine w_kI e0_329 ?_
            obtain ⟨fs309, e310⟩ := lI_238 hL297
            refine w_cv e0_330 (by decide) rfl e310 rfl (Nat.le_of_ble_eq_true rfl) (Nat.le_of_ble_eq_true rfl) (Nat.le_of_ble_eq_true rfl) (by decide) (by decide) (rp_and (y109 hL297 h278 (by omega)) (J109 hL297 hC286 hR287 h278 (by omega))) (fun o313 v314 hq315 => ?_)
            obtain ⟨hq317, hJ316⟩ := hq315
            obtain ⟨⟨n318, p319, t320, hr321, hL322⟩, q323, h324, rfl⟩ := hq317
            rw [hr321.1, hr321.2] at hL322
            obtain ⟨hC311, hR312⟩ := hJ316
            refine w_x e0_333 (fun _ => rfl) ?_
            refine w_x e0_334 (fun _ => rfl) ?_
            refine w_iinc (A1 := [some (.ref 0), some (.ref 1), some (.ref 238), some (.ref 263), some (.int (vz (x4 + 5))), none, none, none]) e0_771 rfl (by decide) rfl ?_
            refine w_x e0_774 (fun _ => rfl) ?_
            have hnp325 : n = n ∧ p = p := by omega
            have hZ9 : rel5 n p u w := hZ
            exact w_sub (A1 := [some (.ref 0), some (.ref 1), some (.ref 238), some (.ref 263), some (.int (vz (x4 + 5))), none, none, none]) (And.intro rfl (And.intro rfl (And.intro rfl (And.intro rfl (And.intro rfl trivial))))) (w_end (fun ls hl => Or.inr (Or.inl ⟨rfl, rfl, hl, by omega, ⟨_, _, _, _, _, _, _, _, _, _, hL322, hZ9, hC311, hR312⟩⟩)))
          ·
            refine w_kI e0_325 ?_
            refine w_x e0_326 (fun _ => rfl) ?_
            obtain ⟨fs326, e327⟩ := lI_238 hL297
            exfalso; omega
        ·
          refine w_kI e0_300 ?_
          refine w_x e0_301 (fun _ => rfl) ?_
          obtain ⟨fs330, e331⟩ := lI_1 hL
          refine w_cv e0_305 (by decide) rfl e331 rfl (Nat.le_of_ble_eq_true rfl) (Nat.le_of_ble_eq_true rfl) (Nat.le_of_ble_eq_true rfl) (by decide) (by decide) (rp_and (x48 hL h278 (by omega)) (J48 hL hC hR h278 (by omega))) (fun o334 v335 hq336 => ?_)
          obtain ⟨hq338, hJ337⟩ := hq336
          obtain ⟨⟨n339, p340, hr342, hL343⟩, q344, h345, rfl⟩ := hq338
          rw [hr342.1, hr342.2] at hL343
          obtain ⟨hC332, hR333⟩ := hJ337
          refine w_x e0_308 (fun _ => rfl) ?_
          refine w_ldA e0_309 (fun _ => rfl) rfl ?_
          refine w_ldA e0_310 (fun _ => rfl) rfl ?_
          refine w_ldI e0_311 (fun _ => rfl) rfl ?_
          refine w_kI e0_313 ?_
          refine w_iadd e0_314 ?_
          refine w_aldO e0_315 (lI_0 hL343) (by omega) (by omega) (by omega) (fun q346 h347 hx348 => ?_)
          have hqq349 : q277 = q346 := ((vz_inj h347 h278).mp (hx348.symm.trans hx279)).symm
          subst hqq349
          refine w_ldA e0_316 (fun _ => rfl) rfl ?_
          refine w_ldI e0_317 (fun _ => rfl) rfl ?_
          refine w_kI e0_319 ?_
          refine w_iadd e0_320 ?_
          refine w_aldO e0_321 (lI_0 hL343) (by omega) (by omega) (by omega) (fun q350 h351 hx352 => ?_)
          have hqq353 : q280 = q350 := ((vz_inj h351 h281).mp (hx352.symm.trans hx282)).symm
          subst hqq353
          refine w_if e0_322 h281 (fun (h354 : q280 = 0) => ?_) (fun (h354 : q280 ≠ 0) => ?_)
          ·
            refine w_kI e0_329 ?_
            obtain ⟨fs355, e356⟩ := lI_238 hL343
            exfalso; omega
          ·
            refine w_kI e0_325 ?_
            refine w_x e0_326 (fun _ => rfl) ?_
            obtain ⟨fs359, e360⟩ := lI_238 hL343
            refine w_cv e0_330 (by decide) rfl e360 rfl (Nat.le_of_ble_eq_true rfl) (Nat.le_of_ble_eq_true rfl) (Nat.le_of_ble_eq_true rfl) (by decide) (by decide) (rp_and (y109 hL343 h278 (by omega)) (J109 hL343 hC332 hR333 h278 (by omega))) (fun o363 v364 hq365 => ?_)
            obtain ⟨hq367, hJ366⟩ := hq365
            obtain ⟨⟨n368, p369, t370, hr371, hL372⟩, q373, h374, rfl⟩ := hq367
            rw [hr371.1, hr371.2] at hL372
            obtain ⟨hC361, hR362⟩ := hJ366
            refine w_x e0_333 (fun _ => rfl) ?_
            refine w_x e0_334 (fun _ => rfl) ?_
            refine w_iinc (A1 := [some (.ref 0), some (.ref 1), some (.ref 238), some (.ref 263), some (.int (vz (x4 + 5))), none, none, none]) e0_771 rfl (by decide) rfl ?_
            refine w_x e0_774 (fun _ => rfl) ?_
            have hnp375 : n = n ∧ p = p := by omega
            have hZ9 : rel5 n p u w := hZ
            exact w_sub (A1 := [some (.ref 0), some (.ref 1), some (.ref 238), some (.ref 263), some (.int (vz (x4 + 5))), none, none, none]) (And.intro rfl (And.intro rfl (And.intro rfl (And.intro rfl (And.intro rfl trivial))))) (w_end (fun ls hl => Or.inr (Or.inl ⟨rfl, rfl, hl, by omega, ⟨_, _, _, _, _, _, _, _, _, _, hL372, hZ9, hC361, hR362⟩⟩)))
      ·
        refine w_swI (t := 337) e0_39 (by omega) h7 (by rw [h9]; rfl) rfl ?_
        refine w_ldA e0_337 (fun _ => rfl) rfl ?_
        obtain ⟨fs376, e377⟩ := lI_1 hL
        refine w_cv e0_338 (by decide) rfl e377 rfl (Nat.le_of_ble_eq_true rfl) (Nat.le_of_ble_eq_true rfl) (Nat.le_of_ble_eq_true rfl) (by decide) (by decide) (rp_and (x49 hL) (J49 hL hC hR hUw)) (fun o380 v381 hq382 => ?_)
        obtain ⟨hq384, hJ383⟩ := hq382
        obtain ⟨⟨n385, p386, hr388, hL389⟩, q390, h391, rfl⟩ := hq384
        rw [hr388.1, hr388.2] at hL389
        obtain ⟨hC378, hR379, hA392⟩ := hJ383
        refine w_x e0_341 (fun _ => rfl) ?_
        refine w_ldA e0_342 (fun _ => rfl) rfl ?_
        obtain ⟨fs393, e394⟩ := lI_238 hL389
        refine w_cv e0_343 (by decide) rfl e394 rfl (Nat.le_of_ble_eq_true rfl) (Nat.le_of_ble_eq_true rfl) (Nat.le_of_ble_eq_true rfl) (by decide) (by decide) (rp_and (y102 hL389) (J102 hL389 hC378 hR379 hUw hev)) (fun o397 v398 hq399 => ?_)
        obtain ⟨hq401, hJ400⟩ := hq399
        obtain ⟨⟨n402, p403, t404, hr405, hL406⟩, q407, h408, rfl⟩ := hq401
        rw [hr405.1, hr405.2] at hL406
        obtain ⟨hC395, hR396, hA409⟩ := hJ400
        have hqe : q390 = q407 := (vz_inj (by omega) (by omega)).mp (by have e9 := hA392.trans hA409.symm; injection e9 with e9; injection e9)
        refine w_x e0_346 (fun _ => rfl) ?_
        refine w_x e0_347 (fun _ => rfl) ?_
        refine w_iinc (A1 := [some (.ref 0), some (.ref 1), some (.ref 238), some (.ref 263), some (.int (vz (x4 + 5))), none, none, none]) e0_771 rfl (by decide) rfl ?_
        refine w_x e0_774 (fun _ => rfl) ?_
        have hnp410 : n = n ∧ p = p := by omega
        have hZ9 : rel5 n p u w := hZ
        exact w_sub (A1 := [some (.ref 0), some (.ref 1), some (.ref 238), some (.ref 263), some (.int (vz (x4 + 5))), none, none, none]) (And.intro rfl (And.intro rfl (And.intro rfl (And.intro rfl (And.intro rfl trivial))))) (w_end (fun ls hl => Or.inr (Or.inl ⟨rfl, rfl, hl, by omega, ⟨_, _, _, _, _, _, _, _, _, _, hL406, hZ9, hC395, hR396⟩⟩)))
      ·
        refine w_swI (t := 350) e0_39 (by omega) h7 (by rw [h9]; rfl) rfl ?_
        refine w_ldA e0_350 (fun _ => rfl) rfl ?_
        refine w_ldA e0_351 (fun _ => rfl) rfl ?_
        refine w_ldI e0_352 (fun _ => rfl) rfl ?_
        refine w_kI e0_354 ?_
        refine w_iadd e0_355 ?_
        refine w_aldO e0_356 (lI_0 hL) (by omega) (by omega) (by omega) (fun q411 h412 hx413 => ?_)
        obtain ⟨fs414, e415⟩ := lI_1 hL
        refine w_cv e0_357 (by decide) rfl e415 rfl (Nat.le_of_ble_eq_true rfl) (Nat.le_of_ble_eq_true rfl) (Nat.le_of_ble_eq_true rfl) (by decide) (by decide) (rp_and (x50 hL h412) (J50 hL hC hR hUw h412)) (fun o418 v419 hq420 => ?_)
        obtain ⟨hq422, hJ421⟩ := hq420
        obtain ⟨⟨n423, p424, hr426, hL427⟩, q428, h429, rfl⟩ := hq422
        rw [hr426.1, hr426.2] at hL427
        obtain ⟨hC416, hR417, hA430⟩ := hJ421
        refine w_x e0_360 (fun _ => rfl) ?_
        refine w_ldA e0_361 (fun _ => rfl) rfl ?_
        refine w_ldA e0_362 (fun _ => rfl) rfl ?_
        refine w_ldI e0_363 (fun _ => rfl) rfl ?_
        refine w_kI e0_365 ?_
        refine w_iadd e0_366 ?_
        refine w_aldO e0_367 (lI_0 hL427) (by omega) (by omega) (by omega) (fun q431 h432 hx433 => ?_)
        have hqq434 : q411 = q431 := ((vz_inj h432 h412).mp (hx433.symm.trans hx413)).symm
        subst hqq434
        obtain ⟨fs435, e436⟩ := lI_238 hL427
        refine w_cv e0_368 (by decide) rfl e436 rfl (Nat.le_of_ble_eq_true rfl) (Nat.le_of_ble_eq_true rfl) (Nat.le_of_ble_eq_true rfl) (by decide) (by decide) (rp_and (y104 hL427 h412) (J104 hL427 hC416 hR417 hUw hev rfl h412)) (fun o439 v440 hq441 => ?_)
        obtain ⟨hq443, hJ442⟩ := hq441
        obtain ⟨⟨n444, p445, t446, hr447, hL448⟩, q449, h450, rfl⟩ := hq443
        rw [hr447.1, hr447.2] at hL448
        obtain ⟨hC437, hR438, hA451⟩ := hJ442
        have hqe : q428 = q449 := (vz_inj (by omega) (by omega)).mp (by have e9 := hA430.trans hA451.symm; injection e9 with e9; injection e9)
        refine w_x e0_371 (fun _ => rfl) ?_
        refine w_x e0_372 (fun _ => rfl) ?_
        refine w_iinc (A1 := [some (.ref 0), some (.ref 1), some (.ref 238), some (.ref 263), some (.int (vz (x4 + 5))), none, none, none]) e0_771 rfl (by decide) rfl ?_
        refine w_x e0_774 (fun _ => rfl) ?_
        have hnp452 : n = n ∧ p = p := by omega
        have hZ9 : rel5 n p u w := hZ
        exact w_sub (A1 := [some (.ref 0), some (.ref 1), some (.ref 238), some (.ref 263), some (.int (vz (x4 + 5))), none, none, none]) (And.intro rfl (And.intro rfl (And.intro rfl (And.intro rfl (And.intro rfl trivial))))) (w_end (fun ls hl => Or.inr (Or.inl ⟨rfl, rfl, hl, by omega, ⟨_, _, _, _, _, _, _, _, _, _, hL448, hZ9, hC437, hR438⟩⟩)))
      ·
        refine w_swI (t := 375) e0_39 (by omega) h7 (by rw [h9]; rfl) rfl ?_
        refine w_ldA e0_375 (fun _ => rfl) rfl ?_
        refine w_ldA e0_376 (fun _ => rfl) rfl ?_
        refine w_ldI e0_377 (fun _ => rfl) rfl ?_
        refine w_kI e0_379 ?_
        refine w_iadd e0_380 ?_
        refine w_aldO e0_381 (lI_0 hL) (by omega) (by omega) (by omega) (fun q453 h454 hx455 => ?_)
        refine w_ldA e0_382 (fun _ => rfl) rfl ?_
        refine w_ldI e0_383 (fun _ => rfl) rfl ?_
        refine w_kI e0_385 ?_
        refine w_iadd e0_386 ?_
        refine w_aldO e0_387 (lI_0 hL) (by omega) (by omega) (by omega) (fun q456 h457 hx458 => ?_)
        obtain ⟨fs459, e460⟩ := lI_1 hL
        refine w_cv e0_388 (by decide) rfl e460 rfl (Nat.le_of_ble_eq_true rfl) (Nat.le_of_ble_eq_true rfl) (Nat.le_of_ble_eq_true rfl) (by decide) (by decide) (rp_and (x51 hL h454 h457) (J51 hL hC hR h454 h457)) (fun o463 v464 hq465 => ?_)
        obtain ⟨hq467, hJ466⟩ := hq465
        obtain ⟨⟨n468, p469, hr471, hL472⟩, q473, h474, rfl⟩ := hq467
        rw [hr471.1, hr471.2] at hL472
        obtain ⟨hC461, hR462⟩ := hJ466
        refine w_x e0_391 (fun _ => rfl) ?_
        refine w_ldA e0_392 (fun _ => rfl) rfl ?_
        refine w_ldA e0_393 (fun _ => rfl) rfl ?_
        refine w_ldI e0_394 (fun _ => rfl) rfl ?_
        refine w_kI e0_396 ?_
        refine w_iadd e0_397 ?_
        refine w_aldO e0_398 (lI_0 hL472) (by omega) (by omega) (by omega) (fun q475 h476 hx477 => ?_)
        have hqq478 : q453 = q475 := ((vz_inj h476 h454).mp (hx477.symm.trans hx455)).symm
        subst hqq478
        refine w_ldA e0_399 (fun _ => rfl) rfl ?_
        refine w_ldI e0_400 (fun _ => rfl) rfl ?_
        refine w_kI e0_402 ?_
        refine w_iadd e0_403 ?_
        refine w_aldO e0_404 (lI_0 hL472) (by omega) (by omega) (by omega) (fun q479 h480 hx481 => ?_)
        have hqq482 : q456 = q479 := ((vz_inj h480 h457).mp (hx481.symm.trans hx458)).symm
        subst hqq482
        obtain ⟨fs483, e484⟩ := lI_238 hL472
        refine w_cv e0_405 (by decide) rfl e484 rfl (Nat.le_of_ble_eq_true rfl) (Nat.le_of_ble_eq_true rfl) (Nat.le_of_ble_eq_true rfl) (by decide) (by decide) (rp_and (y112 hL472 h454 h457) (J112 hL472 hC461 hR462 h454 h457)) (fun o487 v488 hq489 => ?_)
        obtain ⟨hq491, hJ490⟩ := hq489
        obtain ⟨⟨n492, p493, t494, hr495, hL496⟩, q497, h498, rfl⟩ := hq491
        rw [hr495.1, hr495.2] at hL496
        obtain ⟨hC485, hR486⟩ := hJ490
        refine w_x e0_408 (fun _ => rfl) ?_
        refine w_x e0_409 (fun _ => rfl) ?_
        refine w_iinc (A1 := [some (.ref 0), some (.ref 1), some (.ref 238), some (.ref 263), some (.int (vz (x4 + 5))), none, none, none]) e0_771 rfl (by decide) rfl ?_
        refine w_x e0_774 (fun _ => rfl) ?_
        have hnp499 : n = n ∧ p = p := by omega
        have hZ9 : rel5 n p u w := hZ
        exact w_sub (A1 := [some (.ref 0), some (.ref 1), some (.ref 238), some (.ref 263), some (.int (vz (x4 + 5))), none, none, none]) (And.intro rfl (And.intro rfl (And.intro rfl (And.intro rfl (And.intro rfl trivial))))) (w_end (fun ls hl => Or.inr (Or.inl ⟨rfl, rfl, hl, by omega, ⟨_, _, _, _, _, _, _, _, _, _, hL496, hZ9, hC485, hR486⟩⟩)))
      ·
        refine w_swI (t := 412) e0_39 (by omega) h7 (by rw [h9]; rfl) rfl ?_
        refine w_ldA e0_412 (fun _ => rfl) rfl ?_
        refine w_ldA e0_413 (fun _ => rfl) rfl ?_
        refine w_ldI e0_414 (fun _ => rfl) rfl ?_
        refine w_kI e0_416 ?_
        refine w_iadd e0_417 ?_
        refine w_aldO e0_418 (lI_0 hL) (by omega) (by omega) (by omega) (fun q500 h501 hx502 => ?_)
        obtain ⟨fs503, e504⟩ := lI_1 hL
        refine w_cv e0_419 (by decide) rfl e504 rfl (Nat.le_of_ble_eq_true rfl) (Nat.le_of_ble_eq_true rfl) (Nat.le_of_ble_eq_true rfl) (by decide) (by decide) (rp_and (x52 hL h501) (J52 hL hC hR h501)) (fun o507 v508 hq509 => ?_)
        obtain ⟨hq511, hJ510⟩ := hq509
        obtain ⟨⟨n512, p513, hr515, hL516⟩, q517, h518, rfl⟩ := hq511
        rw [hr515.1, hr515.2] at hL516
        obtain ⟨hC505, hR506⟩ := hJ510
        refine w_x e0_422 (fun _ => rfl) ?_
        refine w_ldA e0_423 (fun _ => rfl) rfl ?_
        refine w_ldA e0_424 (fun _ => rfl) rfl ?_
        refine w_ldI e0_425 (fun _ => rfl) rfl ?_
        refine w_kI e0_427 ?_
        refine w_iadd e0_428 ?_
        refine w_aldO e0_429 (lI_0 hL516) (by omega) (by omega) (by omega) (fun q519 h520 hx521 => ?_)
        have hqq522 : q500 = q519 := ((vz_inj h520 h501).mp (hx521.symm.trans hx502)).symm
        subst hqq522
        obtain ⟨fs523, e524⟩ := lI_238 hL516
        refine w_cv e0_430 (by decide) rfl e524 rfl (Nat.le_of_ble_eq_true rfl) (Nat.le_of_ble_eq_true rfl) (Nat.le_of_ble_eq_true rfl) (by decide) (by decide) (rp_and (y113 hL516 h501) (J113 hL516 hC505 hR506 h501)) (fun o527 v528 hq529 => ?_)
        obtain ⟨hq531, hJ530⟩ := hq529
        obtain ⟨⟨n532, p533, t534, hr535, hL536⟩, q537, h538, rfl⟩ := hq531
        rw [hr535.1, hr535.2] at hL536
        obtain ⟨hC525, hR526⟩ := hJ530
        refine w_x e0_433 (fun _ => rfl) ?_
        refine w_x e0_434 (fun _ => rfl) ?_
        refine w_iinc (A1 := [some (.ref 0), some (.ref 1), some (.ref 238), some (.ref 263), some (.int (vz (x4 + 5))), none, none, none]) e0_771 rfl (by decide) rfl ?_
        refine w_x e0_774 (fun _ => rfl) ?_
        have hnp539 : n = n ∧ p = p := by omega
        have hZ9 : rel5 n p u w := hZ
        exact w_sub (A1 := [some (.ref 0), some (.ref 1), some (.ref 238), some (.ref 263), some (.int (vz (x4 + 5))), none, none, none]) (And.intro rfl (And.intro rfl (And.intro rfl (And.intro rfl (And.intro rfl trivial))))) (w_end (fun ls hl => Or.inr (Or.inl ⟨rfl, rfl, hl, by omega, ⟨_, _, _, _, _, _, _, _, _, _, hL536, hZ9, hC525, hR526⟩⟩)))
      ·
        refine w_swI (t := 437) e0_39 (by omega) h7 (by rw [h9]; rfl) rfl ?_
        refine w_ldA e0_437 (fun _ => rfl) rfl ?_
        refine w_ldA e0_438 (fun _ => rfl) rfl ?_
        refine w_ldI e0_439 (fun _ => rfl) rfl ?_
        refine w_kI e0_441 ?_
        refine w_iadd e0_442 ?_
        refine w_aldO e0_443 (lI_0 hL) (by omega) (by omega) (by omega) (fun q540 h541 hx542 => ?_)
        refine w_ldA e0_444 (fun _ => rfl) rfl ?_
        refine w_ldI e0_445 (fun _ => rfl) rfl ?_
        refine w_kI e0_447 ?_
        refine w_iadd e0_448 ?_
        refine w_aldO e0_449 (lI_0 hL) (by omega) (by omega) (by omega) (fun q543 h544 hx545 => ?_)
        refine w_ldA e0_450 (fun _ => rfl) rfl ?_
        refine w_ldI e0_451 (fun _ => rfl) rfl ?_
        refine w_kI e0_453 ?_
        refine w_iadd e0_454 ?_
        refine w_aldO e0_455 (lI_0 hL) (by omega) (by omega) (by omega) (fun q546 h547 hx548 => ?_)
        obtain ⟨fs549, e550⟩ := lI_1 hL
        refine w_cv e0_456 (by decide) rfl e550 rfl (Nat.le_of_ble_eq_true rfl) (Nat.le_of_ble_eq_true rfl) (Nat.le_of_ble_eq_true rfl) (by decide) (by decide) (rp_and (x53 hL h541 h544 h547) (J53 hL hC hR h541 h544 h547)) (fun o553 v554 hq555 => ?_)
        obtain ⟨hq557, hJ556⟩ := hq555
        obtain ⟨⟨n558, p559, hr561, hL562⟩, q563, rfl⟩ := hq557
        rw [hr561.1, hr561.2] at hL562
        obtain ⟨hC551, hR552⟩ := hJ556
        refine w_x e0_459 (fun _ => rfl) ?_
        refine w_ldA e0_460 (fun _ => rfl) rfl ?_
        refine w_ldA e0_461 (fun _ => rfl) rfl ?_
        refine w_ldI e0_462 (fun _ => rfl) rfl ?_
        refine w_kI e0_464 ?_
        refine w_iadd e0_465 ?_
        refine w_aldO e0_466 (lI_0 hL562) (by omega) (by omega) (by omega) (fun q565 h566 hx567 => ?_)
        have hqq568 : q540 = q565 := ((vz_inj h566 h541).mp (hx567.symm.trans hx542)).symm
        subst hqq568
        refine w_ldA e0_467 (fun _ => rfl) rfl ?_
        refine w_ldI e0_468 (fun _ => rfl) rfl ?_
        refine w_kI e0_470 ?_
        refine w_iadd e0_471 ?_
        refine w_aldO e0_472 (lI_0 hL562) (by omega) (by omega) (by omega) (fun q569 h570 hx571 => ?_)
        have hqq572 : q543 = q569 := ((vz_inj h570 h544).mp (hx571.symm.trans hx545)).symm
        subst hqq572
        refine w_ldA e0_473 (fun _ => rfl) rfl ?_
        refine w_ldI e0_474 (fun _ => rfl) rfl ?_
        refine w_kI e0_476 ?_
        refine w_iadd e0_477 ?_
        refine w_aldO e0_478 (lI_0 hL562) (by omega) (by omega) (by omega) (fun q573 h574 hx575 => ?_)
        have hqq576 : q546 = q573 := ((vz_inj h574 h547).mp (hx575.symm.trans hx548)).symm
        subst hqq576
        obtain ⟨fs577, e578⟩ := lI_238 hL562
        refine w_cv e0_479 (by decide) rfl e578 rfl (Nat.le_of_ble_eq_true rfl) (Nat.le_of_ble_eq_true rfl) (Nat.le_of_ble_eq_true rfl) (by decide) (by decide) (rp_and (y115 hL562 h541 h544 h547) (J115 hL562 hC551 hR552 h541 h544 h547)) (fun o581 v582 hq583 => ?_)
        obtain ⟨hq585, hJ584⟩ := hq583
        obtain ⟨⟨n586, p587, t588, hr589, hL590⟩, q591, rfl⟩ := hq585
        rw [hr589.1, hr589.2] at hL590
        obtain ⟨hC579, hR580⟩ := hJ584
        refine w_x e0_482 (fun _ => rfl) ?_
        refine w_x e0_483 (fun _ => rfl) ?_
        refine w_iinc (A1 := [some (.ref 0), some (.ref 1), some (.ref 238), some (.ref 263), some (.int (vz (x4 + 5))), none, none, none]) e0_771 rfl (by decide) rfl ?_
        refine w_x e0_774 (fun _ => rfl) ?_
        have hnp593 : n = n ∧ p = p := by omega
        have hZ9 : rel5 n p u w := hZ
        exact w_sub (A1 := [some (.ref 0), some (.ref 1), some (.ref 238), some (.ref 263), some (.int (vz (x4 + 5))), none, none, none]) (And.intro rfl (And.intro rfl (And.intro rfl (And.intro rfl (And.intro rfl trivial))))) (w_end (fun ls hl => Or.inr (Or.inl ⟨rfl, rfl, hl, by omega, ⟨_, _, _, _, _, _, _, _, _, _, hL590, hZ9, hC579, hR580⟩⟩)))
      ·
        refine w_swI (t := 486) e0_39 (by omega) h7 (by rw [h9]; rfl) rfl ?_
        refine w_ldA e0_486 (fun _ => rfl) rfl ?_
        refine w_ldA e0_487 (fun _ => rfl) rfl ?_
        refine w_ldI e0_488 (fun _ => rfl) rfl ?_
        refine w_kI e0_490 ?_
        refine w_iadd e0_491 ?_
        refine w_aldO e0_492 (lI_0 hL) (by omega) (by omega) (by omega) (fun q594 h595 hx596 => ?_)
        refine w_ldA e0_493 (fun _ => rfl) rfl ?_
        refine w_ldI e0_494 (fun _ => rfl) rfl ?_
        refine w_kI e0_496 ?_
        refine w_iadd e0_497 ?_
        refine w_aldO e0_498 (lI_0 hL) (by omega) (by omega) (by omega) (fun q597 h598 hx599 => ?_)
        refine w_ldA e0_499 (fun _ => rfl) rfl ?_
        refine w_ldI e0_500 (fun _ => rfl) rfl ?_
        refine w_kI e0_502 ?_
        refine w_iadd e0_503 ?_
        refine w_aldO e0_504 (lI_0 hL) (by omega) (by omega) (by omega) (fun q600 h601 hx602 => ?_)
        obtain ⟨fs603, e604⟩ := lI_1 hL
        refine w_cv e0_505 (by decide) rfl e604 rfl (Nat.le_of_ble_eq_true rfl) (Nat.le_of_ble_eq_true rfl) (Nat.le_of_ble_eq_true rfl) (by decide) (by decide) (rp_and (x54 hL h595 h598 h601) (J54 hL hC hR h595 h598 h601)) (fun o607 v608 hq609 => ?_)
        obtain ⟨hq611, hJ610⟩ := hq609
        obtain ⟨⟨n612, p613, hr615, hL616⟩, q617, h618, rfl⟩ := hq611
        rw [hr615.1, hr615.2] at hL616
        obtain ⟨hC605, hR606⟩ := hJ610
        refine w_x e0_508 (fun _ => rfl) ?_
        refine w_ldA e0_509 (fun _ => rfl) rfl ?_
        refine w_ldA e0_510 (fun _ => rfl) rfl ?_
        refine w_ldI e0_511 (fun _ => rfl) rfl ?_
        refine w_kI e0_513 ?_
        refine w_iadd e0_514 ?_
        refine w_aldO e0_515 (lI_0 hL616) (by omega) (by omega) (by omega) (fun q619 h620 hx621 => ?_)
        have hqq622 : q594 = q619 := ((vz_inj h620 h595).mp (hx621.symm.trans hx596)).symm
        subst hqq622
        refine w_ldA e0_516 (fun _ => rfl) rfl ?_
        refine w_ldI e0_517 (fun _ => rfl) rfl ?_
        refine w_kI e0_519 ?_
        refine w_iadd e0_520 ?_
        refine w_aldO e0_521 (lI_0 hL616) (by omega) (by omega) (by omega) (fun q623 h624 hx625 => ?_)
        have hqq626 : q597 = q623 := ((vz_inj h624 h598).mp (hx625.symm.trans hx599)).symm
        subst hqq626
        refine w_ldA e0_522 (fun _ => rfl) rfl ?_
        refine w_ldI e0_523 (fun _ => rfl) rfl ?_
        refine w_kI e0_525 ?_
        refine w_iadd e0_526 ?_
        refine w_aldO e0_527 (lI_0 hL616) (by omega) (by omega) (by omega) (fun q627 h628 hx629 => ?_)
        have hqq630 : q600 = q627 := ((vz_inj h628 h601).mp (hx629.symm.trans hx602)).symm
        subst hqq630
        obtain ⟨fs631, e632⟩ := lI_238 hL616
        refine w_cv e0_528 (by decide) rfl e632 rfl (Nat.le_of_ble_eq_true rfl) (Nat.le_of_ble_eq_true rfl) (Nat.le_of_ble_eq_true rfl) (by decide) (by decide) (rp_and (y116 hL616 h595 h598 h601) (J116 hL616 hC605 hR606 h595 h598 h601)) (fun o635 v636 hq637 => ?_)
        obtain ⟨hq639, hJ638⟩ := hq637
        obtain ⟨⟨n640, p641, t642, hr643, hL644⟩, q645, h646, rfl⟩ := hq639
        rw [hr643.1, hr643.2] at hL644
        obtain ⟨hC633, hR634⟩ := hJ638
        refine w_x e0_531 (fun _ => rfl) ?_
        refine w_x e0_532 (fun _ => rfl) ?_
        refine w_iinc (A1 := [some (.ref 0), some (.ref 1), some (.ref 238), some (.ref 263), some (.int (vz (x4 + 5))), none, none, none]) e0_771 rfl (by decide) rfl ?_
        refine w_x e0_774 (fun _ => rfl) ?_
        have hnp647 : n = n ∧ p = p := by omega
        have hZ9 : rel5 n p u w := hZ
        exact w_sub (A1 := [some (.ref 0), some (.ref 1), some (.ref 238), some (.ref 263), some (.int (vz (x4 + 5))), none, none, none]) (And.intro rfl (And.intro rfl (And.intro rfl (And.intro rfl (And.intro rfl trivial))))) (w_end (fun ls hl => Or.inr (Or.inl ⟨rfl, rfl, hl, by omega, ⟨_, _, _, _, _, _, _, _, _, _, hL644, hZ9, hC633, hR634⟩⟩)))
      ·
        refine w_swI (t := 535) e0_39 (by omega) h7 (by rw [h9]; rfl) rfl ?_
        refine w_ldA e0_535 (fun _ => rfl) rfl ?_
        refine w_ldA e0_536 (fun _ => rfl) rfl ?_
        refine w_ldI e0_537 (fun _ => rfl) rfl ?_
        refine w_kI e0_539 ?_
        refine w_iadd e0_540 ?_
        refine w_aldO e0_541 (lI_0 hL) (by omega) (by omega) (by omega) (fun q648 h649 hx650 => ?_)
        refine w_ldA e0_542 (fun _ => rfl) rfl ?_
        refine w_ldI e0_543 (fun _ => rfl) rfl ?_
        refine w_kI e0_545 ?_
        refine w_iadd e0_546 ?_
        refine w_aldO e0_547 (lI_0 hL) (by omega) (by omega) (by omega) (fun q651 h652 hx653 => ?_)
        refine w_x e0_548 (fun _ => rfl) ?_
        refine w_kB e0_549 rfl ?_
        refine w_x e0_551 (fun _ => rfl) ?_
        refine w_ldA e0_552 (fun _ => rfl) rfl ?_
        refine w_ldI e0_553 (fun _ => rfl) rfl ?_
        refine w_kI e0_555 ?_
        refine w_iadd e0_556 ?_
        refine w_aldO e0_557 (lI_0 hL) (by omega) (by omega) (by omega) (fun q654 h655 hx656 => ?_)
        refine w_x e0_558 (fun _ => rfl) ?_
        refine w_x e0_559 (fun _ => rfl) ?_
        refine w_x e0_562 (fun _ => rfl) ?_
        refine w_x e0_563 (fun _ => rfl) ?_
        obtain ⟨fs657, e658⟩ := lI_1 hL
        refine w_cv e0_564 (by decide) rfl e658 rfl (Nat.le_of_ble_eq_true rfl) (Nat.le_of_ble_eq_true rfl) (Nat.le_of_ble_eq_true rfl) (by decide) (by decide) (rp_and (x55 hL h649) (J55 hL hC hR h649)) (fun o661 v662 hq663 => ?_)
        obtain ⟨hq665, hJ664⟩ := hq663
        obtain ⟨⟨n666, p667, hr669, hL670⟩, q671, h672, rfl⟩ := hq665
        rw [hr669.1, hr669.2] at hL670
        obtain ⟨hC659, hR660⟩ := hJ664
        refine w_x e0_567 (fun _ => rfl) ?_
        refine w_ldA e0_568 (fun _ => rfl) rfl ?_
        refine w_ldA e0_569 (fun _ => rfl) rfl ?_
        refine w_ldI e0_570 (fun _ => rfl) rfl ?_
        refine w_kI e0_572 ?_
        refine w_iadd e0_573 ?_
        refine w_aldO e0_574 (lI_0 hL670) (by omega) (by omega) (by omega) (fun q673 h674 hx675 => ?_)
        have hqq676 : q648 = q673 := ((vz_inj h674 h649).mp (hx675.symm.trans hx650)).symm
        subst hqq676
        refine w_ldA e0_575 (fun _ => rfl) rfl ?_
        refine w_ldI e0_576 (fun _ => rfl) rfl ?_
        refine w_kI e0_578 ?_
        refine w_iadd e0_579 ?_
        refine w_aldO e0_580 (lI_0 hL670) (by omega) (by omega) (by omega) (fun q677 h678 hx679 => ?_)
        have hqq680 : q651 = q677 := ((vz_inj h678 h652).mp (hx679.symm.trans hx653)).symm
        subst hqq680
        refine w_x e0_581 (fun _ => rfl) ?_
        refine w_kB e0_582 rfl ?_
        refine w_x e0_584 (fun _ => rfl) ?_
        refine w_ldA e0_585 (fun _ => rfl) rfl ?_
        refine w_ldI e0_586 (fun _ => rfl) rfl ?_
        refine w_kI e0_588 ?_
        refine w_iadd e0_589 ?_
        refine w_aldO e0_590 (lI_0 hL670) (by omega) (by omega) (by omega) (fun q681 h682 hx683 => ?_)
        have hqq684 : q654 = q681 := ((vz_inj h682 h655).mp (hx683.symm.trans hx656)).symm
        subst hqq684
        refine w_x e0_591 (fun _ => rfl) ?_
        refine w_x e0_592 (fun _ => rfl) ?_
        refine w_x e0_595 (fun _ => rfl) ?_
        refine w_x e0_596 (fun _ => rfl) ?_
        obtain ⟨fs685, e686⟩ := lI_238 hL670
        refine w_cv e0_597 (by decide) rfl e686 rfl (Nat.le_of_ble_eq_true rfl) (Nat.le_of_ble_eq_true rfl) (Nat.le_of_ble_eq_true rfl) (by decide) (by decide) (rp_and (y117 hL670 h649) (J117 hL670 hC659 hR660 h649)) (fun o689 v690 hq691 => ?_)
        obtain ⟨hq693, hJ692⟩ := hq691
        obtain ⟨⟨n694, p695, t696, hr697, hL698⟩, q699, h700, rfl⟩ := hq693
        rw [hr697.1, hr697.2] at hL698
        obtain ⟨hC687, hR688⟩ := hJ692
        refine w_x e0_600 (fun _ => rfl) ?_
        refine w_x e0_601 (fun _ => rfl) ?_
        refine w_iinc (A1 := [some (.ref 0), some (.ref 1), some (.ref 238), some (.ref 263), some (.int (vz (x4 + 5))), none, none, none]) e0_771 rfl (by decide) rfl ?_
        refine w_x e0_774 (fun _ => rfl) ?_
        have hnp701 : n = n ∧ p = p := by omega
        have hZ9 : rel5 n p u w := hZ
        exact w_sub (A1 := [some (.ref 0), some (.ref 1), some (.ref 238), some (.ref 263), some (.int (vz (x4 + 5))), none, none, none]) (And.intro rfl (And.intro rfl (And.intro rfl (And.intro rfl (And.intro rfl trivial))))) (w_end (fun ls hl => Or.inr (Or.inl ⟨rfl, rfl, hl, by omega, ⟨_, _, _, _, _, _, _, _, _, _, hL698, hZ9, hC687, hR688⟩⟩)))
      ·
        refine w_swI (t := 604) e0_39 (by omega) h7 (by rw [h9]; rfl) rfl ?_
        refine w_ldA e0_604 (fun _ => rfl) rfl ?_
        refine w_ldA e0_605 (fun _ => rfl) rfl ?_
        refine w_ldI e0_606 (fun _ => rfl) rfl ?_
        refine w_kI e0_608 ?_
        refine w_iadd e0_609 ?_
        refine w_aldO e0_610 (lI_0 hL) (by omega) (by omega) (by omega) (fun q702 h703 hx704 => ?_)
        refine w_ldA e0_611 (fun _ => rfl) rfl ?_
        refine w_ldI e0_612 (fun _ => rfl) rfl ?_
        refine w_kI e0_614 ?_
        refine w_iadd e0_615 ?_
        refine w_aldO e0_616 (lI_0 hL) (by omega) (by omega) (by omega) (fun q705 h706 hx707 => ?_)
        obtain ⟨fs708, e709⟩ := lI_1 hL
        refine w_cv e0_617 (by decide) rfl e709 rfl (Nat.le_of_ble_eq_true rfl) (Nat.le_of_ble_eq_true rfl) (Nat.le_of_ble_eq_true rfl) (by decide) (by decide) (rp_and (x56 hL h703 h706) (J56a hL hC hR hUw h703 h706)) (fun o712 v713 hq714 => ?_)
        obtain ⟨hq716, hJ715⟩ := hq714
        obtain ⟨⟨n717, p718, hr720, hL721⟩, q722, rfl⟩ := hq716
        rw [hr720.1, hr720.2] at hL721
        obtain ⟨hC710, hR711, hA724⟩ := hJ715
        refine w_ldA e0_620 (fun _ => rfl) rfl ?_
        refine w_ldA e0_621 (fun _ => rfl) rfl ?_
        refine w_ldI e0_622 (fun _ => rfl) rfl ?_
        refine w_kI e0_624 ?_
        refine w_iadd e0_625 ?_
        refine w_aldO e0_626 (lI_0 hL721) (by omega) (by omega) (by omega) (fun q725 h726 hx727 => ?_)
        have hqq728 : q702 = q725 := ((vz_inj h726 h703).mp (hx727.symm.trans hx704)).symm
        subst hqq728
        refine w_ldA e0_627 (fun _ => rfl) rfl ?_
        refine w_ldI e0_628 (fun _ => rfl) rfl ?_
        refine w_kI e0_630 ?_
        refine w_iadd e0_631 ?_
        refine w_aldO e0_632 (lI_0 hL721) (by omega) (by omega) (by omega) (fun q729 h730 hx731 => ?_)
        have hqq732 : q705 = q729 := ((vz_inj h730 h706).mp (hx731.symm.trans hx707)).symm
        subst hqq732
        obtain ⟨fs733, e734⟩ := lI_238 hL721
        refine w_cv e0_633 (by decide) rfl e734 rfl (Nat.le_of_ble_eq_true rfl) (Nat.le_of_ble_eq_true rfl) (Nat.le_of_ble_eq_true rfl) (by decide) (by decide) (rp_and (y120 hL721 h703 h706) (J120a hL721 hC710 hR711 hUw hev rfl h703 h706)) (fun o737 v738 hq739 => ?_)
        obtain ⟨hq741, hJ740⟩ := hq739
        obtain ⟨⟨n742, p743, t744, hr745, hL746⟩, q747, rfl⟩ := hq741
        rw [hr745.1, hr745.2] at hL746
        obtain ⟨hC735, hR736, hA749⟩ := hJ740
        have hqe : q722 = q747 := by have e9 := hA724.trans hA749.symm; injection e9 with e9; injection e9
        refine w_lcmp e0_636 (fun q750 (h751 : -1 ≤ q750 ∧ q750 ≤ 1) h752 h753 => ?_)
        refine w_if e0_637 (by omega) (fun (h754 : q750 = 0) => ?_) (fun (h754 : q750 ≠ 0) => ?_)
        ·
          have h9x := h752.mpr hqe
          refine w_iinc (A1 := [some (.ref 0), some (.ref 1), some (.ref 238), some (.ref 263), some (.int (vz (x4 + 5))), none, none, none]) e0_771 rfl (by decide) rfl ?_
          refine w_x e0_774 (fun _ => rfl) ?_
          have hnp755 : n = n ∧ p = p := by omega
          have hZ9 : rel5 n p u w := hZ
          exact w_sub (A1 := [some (.ref 0), some (.ref 1), some (.ref 238), some (.ref 263), some (.int (vz (x4 + 5))), none, none, none]) (And.intro rfl (And.intro rfl (And.intro rfl (And.intro rfl (And.intro rfl trivial))))) (w_end (fun ls hl => Or.inr (Or.inl ⟨rfl, rfl, hl, by omega, ⟨_, _, _, _, _, _, _, _, _, _, hL746, hZ9, hC735, hR736⟩⟩)))
        ·
          have h9x := h752.mpr hqe
          refine w_kI e0_640 ?_
          exfalso; omega
      ·
        refine w_swI (t := 642) e0_39 (by omega) h7 (by rw [h9]; rfl) rfl ?_
        refine w_ldA e0_642 (fun _ => rfl) rfl ?_
        refine w_ldA e0_643 (fun _ => rfl) rfl ?_
        refine w_ldI e0_644 (fun _ => rfl) rfl ?_
        refine w_kI e0_646 ?_
        refine w_iadd e0_647 ?_
        refine w_aldO e0_648 (lI_0 hL) (by omega) (by omega) (by omega) (fun q756 h757 hx758 => ?_)
        obtain ⟨fs759, e760⟩ := lI_1 hL
        refine w_cv e0_649 (by decide) rfl e760 rfl (Nat.le_of_ble_eq_true rfl) (Nat.le_of_ble_eq_true rfl) (Nat.le_of_ble_eq_true rfl) (by decide) (by decide) (rp_and (x57 hL h757) (J57 hL hC hR h757)) (fun o763 v764 hq765 => ?_)
        obtain ⟨hq767, hJ766⟩ := hq765
        obtain ⟨⟨n768, p769, hr771, hL772⟩, q773, rfl⟩ := hq767
        rw [hr771.1, hr771.2] at hL772
        obtain ⟨hC761, hR762⟩ := hJ766
        refine w_x e0_652 (fun _ => rfl) ?_
        refine w_ldA e0_653 (fun _ => rfl) rfl ?_
        refine w_ldA e0_654 (fun _ => rfl) rfl ?_
        refine w_ldI e0_655 (fun _ => rfl) rfl ?_
        refine w_kI e0_657 ?_
        refine w_iadd e0_658 ?_
        refine w_aldO e0_659 (lI_0 hL772) (by omega) (by omega) (by omega) (fun q775 h776 hx777 => ?_)
        have hqq778 : q756 = q775 := ((vz_inj h776 h757).mp (hx777.symm.trans hx758)).symm
        subst hqq778
        obtain ⟨fs779, e780⟩ := lI_238 hL772
        refine w_cv e0_660 (by decide) rfl e780 rfl (Nat.le_of_ble_eq_true rfl) (Nat.le_of_ble_eq_true rfl) (Nat.le_of_ble_eq_true rfl) (by decide) (by decide) (rp_and (y121 hL772 h757) (J121 hL772 hC761 hR762 h757)) (fun o783 v784 hq785 => ?_)
        obtain ⟨hq787, hJ786⟩ := hq785
        obtain ⟨⟨n788, p789, t790, hr791, hL792⟩, q793, rfl⟩ := hq787
        rw [hr791.1, hr791.2] at hL792
        obtain ⟨hC781, hR782⟩ := hJ786
        refine w_x e0_663 (fun _ => rfl) ?_
        refine w_x e0_664 (fun _ => rfl) ?_
        refine w_iinc (A1 := [some (.ref 0), some (.ref 1), some (.ref 238), some (.ref 263), some (.int (vz (x4 + 5))), none, none, none]) e0_771 rfl (by decide) rfl ?_
        refine w_x e0_774 (fun _ => rfl) ?_
        have hnp795 : n = n ∧ p = p := by omega
        have hZ9 : rel5 n p u w := hZ
        exact w_sub (A1 := [some (.ref 0), some (.ref 1), some (.ref 238), some (.ref 263), some (.int (vz (x4 + 5))), none, none, none]) (And.intro rfl (And.intro rfl (And.intro rfl (And.intro rfl (And.intro rfl trivial))))) (w_end (fun ls hl => Or.inr (Or.inl ⟨rfl, rfl, hl, by omega, ⟨_, _, _, _, _, _, _, _, _, _, hL792, hZ9, hC781, hR782⟩⟩)))
      ·
        refine w_swI (t := 667) e0_39 (by omega) h7 (by rw [h9]; rfl) rfl ?_
        refine w_ldA e0_667 (fun _ => rfl) rfl ?_
        refine w_ldA e0_668 (fun _ => rfl) rfl ?_
        refine w_ldI e0_669 (fun _ => rfl) rfl ?_
        refine w_kI e0_671 ?_
        refine w_iadd e0_672 ?_
        refine w_ald e0_673 (lI_0 hL) (by omega) (by omega) (by omega) ?_
        refine w_x e0_674 (fun _ => rfl) ?_
        refine w_kB e0_675 rfl ?_
        refine w_x e0_677 (fun _ => rfl) ?_
        refine w_ldA e0_678 (fun _ => rfl) rfl ?_
        refine w_ldI e0_679 (fun _ => rfl) rfl ?_
        refine w_kI e0_681 ?_
        refine w_iadd e0_682 ?_
        refine w_ald e0_683 (lI_0 hL) (by omega) (by omega) (by omega) ?_
        refine w_x e0_684 (fun _ => rfl) ?_
        refine w_x e0_685 (fun _ => rfl) ?_
        refine w_x e0_688 (fun _ => rfl) ?_
        refine w_x e0_689 (fun _ => rfl) ?_
        refine w_ldA e0_690 (fun _ => rfl) rfl ?_
        refine w_ldI e0_691 (fun _ => rfl) rfl ?_
        refine w_kI e0_693 ?_
        refine w_iadd e0_694 ?_
        refine w_ald e0_695 (lI_0 hL) (by omega) (by omega) (by omega) ?_
        refine w_x e0_696 (fun _ => rfl) ?_
        refine w_kB e0_697 rfl ?_
        refine w_x e0_699 (fun _ => rfl) ?_
        refine w_ldA e0_700 (fun _ => rfl) rfl ?_
        refine w_ldI e0_701 (fun _ => rfl) rfl ?_
        refine w_kI e0_703 ?_
        refine w_iadd e0_704 ?_
        refine w_ald e0_705 (lI_0 hL) (by omega) (by omega) (by omega) ?_
        refine w_x e0_706 (fun _ => rfl) ?_
        refine w_x e0_707 (fun _ => rfl) ?_
        refine w_x e0_710 (fun _ => rfl) ?_
        refine w_x e0_711 (fun _ => rfl) ?_
        refine w_ldA e0_712 (fun _ => rfl) rfl ?_
        show vm_Wp _ _ _ 713 _ [.ref 263, .long (laL (xs (x4 + 3).toNat) (xs (x4 + 4).toNat)), .long (laL (xs (x4 + 1).toNat) (xs (x4 + 2).toNat)), .ref 1] _ _
        exact w_end (fun ls hl => Or.inr (Or.inr ⟨rfl, rfl, hl, by omega, _, _, _, _, _, _, _, _, _, _, hL, hZ, hC, hR⟩))
set_option maxRecDepth 100000 in
set_option maxHeartbeats 8000000 in
theorem lw_psez {L : Nat} {xs : Nat → Int32} {vh : vm_H} {n p t : Int} {g : Int64} {x4 : Int} {u : D5u} {w : D5w} {V : Nat → Int} {F H : Nat → Int32} {T : T7} (hL : lI L xs vh n p n p t g u w) (hZ : rel5 n p u w) (hC : jC vh V F H T) (hR : jR vh V F H T) (h0 : 0 ≤ x4) (hx : x4 + 5 ≤ (L : Int)) (hl : L ≤ 2560) (hb : (laL (xs (x4 + 3).toNat) (xs (x4 + 4).toNat)) = 0) : vm_Wp 9 400 0 716 (lwA x4) [.int (vz 1)] vh (lwQ L xs x4) := by
  refine w_stI (j := 5) (A1 := [some (.ref 0), some (.ref 1), some (.ref 238), some (.ref 263), some (.int (vz x4)), some (.int (vz 1)), none, none]) e0_716 (fun _ => rfl) (by decide) rfl ?_
  refine w_ldA e0_718 (fun _ => rfl) rfl ?_
  refine w_ldA e0_719 (fun _ => rfl) rfl ?_
  refine w_ldI e0_720 (fun _ => rfl) rfl ?_
  refine w_kI e0_722 ?_
  refine w_iadd e0_723 ?_
  refine w_ald e0_724 (lI_0 hL) (by omega) (by omega) (by omega) ?_
  refine w_x e0_725 (fun _ => rfl) ?_
  refine w_kB e0_726 rfl ?_
  refine w_x e0_728 (fun _ => rfl) ?_
  refine w_ldA e0_729 (fun _ => rfl) rfl ?_
  refine w_ldI e0_730 (fun _ => rfl) rfl ?_
  refine w_kI e0_732 ?_
  refine w_iadd e0_733 ?_
  refine w_ald e0_734 (lI_0 hL) (by omega) (by omega) (by omega) ?_
  refine w_x e0_735 (fun _ => rfl) ?_
  refine w_x e0_736 (fun _ => rfl) ?_
  refine w_x e0_739 (fun _ => rfl) ?_
  refine w_x e0_740 (fun _ => rfl) ?_
  refine w_ldA e0_741 (fun _ => rfl) rfl ?_
  refine w_ldI e0_742 (fun _ => rfl) rfl ?_
  refine w_kI e0_744 ?_
  refine w_iadd e0_745 ?_
  refine w_ald e0_746 (lI_0 hL) (by omega) (by omega) (by omega) ?_
  refine w_x e0_747 (fun _ => rfl) ?_
  refine w_kB e0_748 rfl ?_
  refine w_x e0_750 (fun _ => rfl) ?_
  refine w_ldA e0_751 (fun _ => rfl) rfl ?_
  refine w_ldI e0_752 (fun _ => rfl) rfl ?_
  refine w_kI e0_754 ?_
  refine w_iadd e0_755 ?_
  refine w_ald e0_756 (lI_0 hL) (by omega) (by omega) (by omega) ?_
  refine w_x e0_757 (fun _ => rfl) ?_
  refine w_x e0_758 (fun _ => rfl) ?_
  refine w_x e0_761 (fun _ => rfl) ?_
  refine w_x e0_762 (fun _ => rfl) ?_
  obtain ⟨fs1, e2⟩ := lI_238 hL
  show vm_Wp _ _ _ 763 _ [.long (laL (xs (x4 + 3).toNat) (xs (x4 + 4).toNat)), .long (laL (xs (x4 + 1).toNat) (xs (x4 + 2).toNat)), .ref 238] _ _
  refine w_cv e0_763 (by decide) rfl e2 rfl (Nat.le_of_ble_eq_true rfl) (Nat.le_of_ble_eq_true rfl) (Nat.le_of_ble_eq_true rfl) (by decide) (by decide) (rp_and (y122z hL _ _ hb) (J122z hL hC hR _ _ hb)) (fun o5 v6 hq7 => ?_)
  obtain ⟨⟨hL8, l9, rfl⟩, hC3, hR4⟩ := hq7
  refine w_stL (j := 6) (A1 := [some (.ref 0), some (.ref 1), some (.ref 238), some (.ref 263), some (.int (vz x4)), some (.int (vz 1)), some (.long l9), none]) e0_766 (fun _ => rfl) (by decide) rfl ?_
  refine w_x e0_768 (fun _ => rfl) ?_
  refine w_iinc (A1 := [some (.ref 0), some (.ref 1), some (.ref 238), some (.ref 263), some (.int (vz (x4 + 5))), some (.int (vz 1)), some (.long l9), none]) e0_771 rfl (by decide) rfl ?_
  refine w_x e0_774 (fun _ => rfl) ?_
  have hnp10 : n = n ∧ p = p := by omega
  have hZ9 : rel5 n p u w := hZ
  exact w_sub (A1 := [some (.ref 0), some (.ref 1), some (.ref 238), some (.ref 263), some (.int (vz (x4 + 5))), none, none, none]) (And.intro rfl (And.intro rfl (And.intro rfl (And.intro rfl (And.intro rfl trivial))))) (w_end (fun ls hl => ⟨rfl, rfl, hl, by omega, ⟨_, _, _, _, _, _, _, _, _, _, hL8, hZ9, hC3, hR4⟩⟩))
set_option maxRecDepth 100000 in
set_option maxHeartbeats 8000000 in
theorem lw_psen {L : Nat} {xs : Nat → Int32} {vh : vm_H} {n p t : Int} {g : Int64} {x4 : Int} {u : D5u} {w : D5w} {V : Nat → Int} {F H : Nat → Int32} {T : T7} (hL : lI L xs vh n p n p t g u w) (hZ : rel5 n p u w) (hC : jC vh V F H T) (hR : jR vh V F H T) (h0 : 0 ≤ x4) (hx : x4 + 5 ≤ (L : Int)) (hl : L ≤ 2560) (hb : ¬ (laL (xs (x4 + 3).toNat) (xs (x4 + 4).toNat)) = 0) (hg : g = (laL (xs (x4 + 1).toNat) (xs (x4 + 2).toNat)) <<< (Int32.toInt64 (Int8.ofInt 32).toInt32 &&& 63) / (laL (xs (x4 + 3).toNat) (xs (x4 + 4).toNat))) : vm_Wp 9 400 0 716 (lwA x4) [.int (vz 0)] vh (lwQ L xs x4) := by
  refine w_stI (j := 5) (A1 := [some (.ref 0), some (.ref 1), some (.ref 238), some (.ref 263), some (.int (vz x4)), some (.int (vz 0)), none, none]) e0_716 (fun _ => rfl) (by decide) rfl ?_
  refine w_ldA e0_718 (fun _ => rfl) rfl ?_
  refine w_ldA e0_719 (fun _ => rfl) rfl ?_
  refine w_ldI e0_720 (fun _ => rfl) rfl ?_
  refine w_kI e0_722 ?_
  refine w_iadd e0_723 ?_
  refine w_ald e0_724 (lI_0 hL) (by omega) (by omega) (by omega) ?_
  refine w_x e0_725 (fun _ => rfl) ?_
  refine w_kB e0_726 rfl ?_
  refine w_x e0_728 (fun _ => rfl) ?_
  refine w_ldA e0_729 (fun _ => rfl) rfl ?_
  refine w_ldI e0_730 (fun _ => rfl) rfl ?_
  refine w_kI e0_732 ?_
  refine w_iadd e0_733 ?_
  refine w_ald e0_734 (lI_0 hL) (by omega) (by omega) (by omega) ?_
  refine w_x e0_735 (fun _ => rfl) ?_
  refine w_x e0_736 (fun _ => rfl) ?_
  refine w_x e0_739 (fun _ => rfl) ?_
  refine w_x e0_740 (fun _ => rfl) ?_
  refine w_ldA e0_741 (fun _ => rfl) rfl ?_
  refine w_ldI e0_742 (fun _ => rfl) rfl ?_
  refine w_kI e0_744 ?_
  refine w_iadd e0_745 ?_
  refine w_ald e0_746 (lI_0 hL) (by omega) (by omega) (by omega) ?_
  refine w_x e0_747 (fun _ => rfl) ?_
  refine w_kB e0_748 rfl ?_
  refine w_x e0_750 (fun _ => rfl) ?_
  refine w_ldA e0_751 (fun _ => rfl) rfl ?_
  refine w_ldI e0_752 (fun _ => rfl) rfl ?_
  refine w_kI e0_754 ?_
  refine w_iadd e0_755 ?_
  refine w_ald e0_756 (lI_0 hL) (by omega) (by omega) (by omega) ?_
  refine w_x e0_757 (fun _ => rfl) ?_
  refine w_x e0_758 (fun _ => rfl) ?_
  refine w_x e0_761 (fun _ => rfl) ?_
  refine w_x e0_762 (fun _ => rfl) ?_
  obtain ⟨fs1, e2⟩ := lI_238 hL
  show vm_Wp _ _ _ 763 _ [.long (laL (xs (x4 + 3).toNat) (xs (x4 + 4).toNat)), .long (laL (xs (x4 + 1).toNat) (xs (x4 + 2).toNat)), .ref 238] _ _
  refine w_cv e0_763 (by decide) rfl e2 rfl (Nat.le_of_ble_eq_true rfl) (Nat.le_of_ble_eq_true rfl) (Nat.le_of_ble_eq_true rfl) (by decide) (by decide) (rp_and (y122n hL _ _ hb) (J122n hL hC hR _ _ hb)) (fun o5 v6 hq7 => ?_)
  obtain ⟨⟨hL8, rfl⟩, hC3, hR4⟩ := hq7
  refine w_stL (j := 6) (A1 := [some (.ref 0), some (.ref 1), some (.ref 238), some (.ref 263), some (.int (vz x4)), some (.int (vz 0)), some (.long ((laL (xs (x4 + 1).toNat) (xs (x4 + 2).toNat)) <<< (Int32.toInt64 (Int8.ofInt 32).toInt32 &&& 63) / (laL (xs (x4 + 3).toNat) (xs (x4 + 4).toNat)))), none]) e0_766 (fun _ => rfl) (by decide) rfl ?_
  refine w_x e0_768 (fun _ => rfl) ?_
  refine w_iinc (A1 := [some (.ref 0), some (.ref 1), some (.ref 238), some (.ref 263), some (.int (vz (x4 + 5))), some (.int (vz 0)), some (.long ((laL (xs (x4 + 1).toNat) (xs (x4 + 2).toNat)) <<< (Int32.toInt64 (Int8.ofInt 32).toInt32 &&& 63) / (laL (xs (x4 + 3).toNat) (xs (x4 + 4).toNat)))), none]) e0_771 rfl (by decide) rfl ?_
  refine w_x e0_774 (fun _ => rfl) ?_
  have hnp9 : n = n ∧ p = p := by omega
  have hZ9 : rel5 n p u w := hZ
  exact w_sub (A1 := [some (.ref 0), some (.ref 1), some (.ref 238), some (.ref 263), some (.int (vz (x4 + 5))), none, none, none]) (And.intro rfl (And.intro rfl (And.intro rfl (And.intro rfl (And.intro rfl trivial))))) (w_end (fun ls hl => ⟨rfl, rfl, hl, by omega, ⟨_, _, _, _, _, _, _, _, _, _, hL8, hZ9, hC3, hR4⟩⟩))
