theorem e0_23 : vm_ent 0 23 = some (.iload 4, 0, 0, 0) := by decide +kernel
theorem e0_25 : vm_ent 0 25 = some (.aload_n 0, 0, 0, 0) := by decide +kernel
theorem e0_26 : vm_ent 0 26 = some (.arraylength, 0, 0, 0) := by decide +kernel
theorem e0_27 : vm_ent 0 27 = some (.iconst 5, 0, 0, 0) := by decide +kernel
theorem e0_28 : vm_ent 0 28 = some (.isub, 0, 0, 0) := by decide +kernel
theorem e0_29 : vm_ent 0 29 = some (.if_icmp .gt 747, 776, 0, 0) := by decide +kernel
theorem e0_32 : vm_ent 0 32 = some (.aload_n 0, 0, 0, 0) := by decide +kernel
theorem e0_33 : vm_ent 0 33 = some (.iload 4, 0, 0, 0) := by decide +kernel
theorem e0_35 : vm_ent 0 35 = some (.iaload, 0, 0, 0) := by decide +kernel
theorem e0_36 : vm_ent 0 36 = some (.bipush 15, 0, 0, 0) := by decide +kernel
theorem e0_38 : vm_ent 0 38 = some (.iand, 0, 0, 0) := by decide +kernel
theorem e0_39 : vm_ent 0 39 = some (.tableswitch 731 0 14 #[73, 114, 151, 164, 245, 298, 311, 336, 373, 398, 447, 496, 565, 602, 627], 73, 0, 0) := by decide +kernel
theorem e0_112 : vm_ent 0 112 = some (.aload_n 1, 0, 0, 0) := by decide +kernel
theorem e0_113 : vm_ent 0 113 = some (.aload_n 0, 0, 0, 0) := by decide +kernel
theorem e0_114 : vm_ent 0 114 = some (.iload 4, 0, 0, 0) := by decide +kernel
theorem e0_116 : vm_ent 0 116 = some (.iconst 1, 0, 0, 0) := by decide +kernel
theorem e0_117 : vm_ent 0 117 = some (.iadd, 0, 0, 0) := by decide +kernel
theorem e0_118 : vm_ent 0 118 = some (.iaload, 0, 0, 0) := by decide +kernel
theorem e0_119 : vm_ent 0 119 = some (.ifCond .eq 7, 126, 0, 0) := by decide +kernel
theorem e0_122 : vm_ent 0 122 = some (.iconst 1, 0, 0, 0) := by decide +kernel
theorem e0_123 : vm_ent 0 123 = some (.goto 4, 127, 0, 0) := by decide +kernel
theorem e0_126 : vm_ent 0 126 = some (.iconst 0, 0, 0, 0) := by decide +kernel
theorem e0_127 : vm_ent 0 127 = some (.invokevirtual 19, 44, 4, 250) := by decide +kernel
theorem e0_130 : vm_ent 0 130 = some (.pop, 0, 0, 0) := by decide +kernel
theorem e0_131 : vm_ent 0 131 = some (.aload_n 2, 0, 0, 0) := by decide +kernel
theorem e0_132 : vm_ent 0 132 = some (.aload_n 0, 0, 0, 0) := by decide +kernel
theorem e0_133 : vm_ent 0 133 = some (.iload 4, 0, 0, 0) := by decide +kernel
theorem e0_135 : vm_ent 0 135 = some (.iconst 1, 0, 0, 0) := by decide +kernel
theorem e0_136 : vm_ent 0 136 = some (.iadd, 0, 0, 0) := by decide +kernel
theorem e0_137 : vm_ent 0 137 = some (.iaload, 0, 0, 0) := by decide +kernel
theorem e0_138 : vm_ent 0 138 = some (.ifCond .eq 7, 145, 0, 0) := by decide +kernel
theorem e0_141 : vm_ent 0 141 = some (.iconst 1, 0, 0, 0) := by decide +kernel
theorem e0_142 : vm_ent 0 142 = some (.goto 4, 146, 0, 0) := by decide +kernel
theorem e0_145 : vm_ent 0 145 = some (.iconst 0, 0, 0, 0) := by decide +kernel
theorem e0_146 : vm_ent 0 146 = some (.invokevirtual 23, 105, 4, 877) := by decide +kernel
theorem e0_149 : vm_ent 0 149 = some (.pop, 0, 0, 0) := by decide +kernel
theorem e0_150 : vm_ent 0 150 = some (.goto 620, 770, 0, 0) := by decide +kernel
theorem e0_153 : vm_ent 0 153 = some (.aload_n 1, 0, 0, 0) := by decide +kernel
theorem e0_154 : vm_ent 0 154 = some (.aload_n 0, 0, 0, 0) := by decide +kernel
theorem e0_155 : vm_ent 0 155 = some (.iload 4, 0, 0, 0) := by decide +kernel
theorem e0_157 : vm_ent 0 157 = some (.iconst 1, 0, 0, 0) := by decide +kernel
theorem e0_158 : vm_ent 0 158 = some (.iadd, 0, 0, 0) := by decide +kernel
theorem e0_159 : vm_ent 0 159 = some (.iaload, 0, 0, 0) := by decide +kernel
theorem e0_160 : vm_ent 0 160 = some (.aload_n 0, 0, 0, 0) := by decide +kernel
theorem e0_161 : vm_ent 0 161 = some (.iload 4, 0, 0, 0) := by decide +kernel
theorem e0_163 : vm_ent 0 163 = some (.iconst 2, 0, 0, 0) := by decide +kernel
theorem e0_164 : vm_ent 0 164 = some (.iadd, 0, 0, 0) := by decide +kernel
theorem e0_165 : vm_ent 0 165 = some (.iaload, 0, 0, 0) := by decide +kernel
theorem e0_166 : vm_ent 0 166 = some (.invokevirtual 24, 45, 4, 269) := by decide +kernel
theorem e0_169 : vm_ent 0 169 = some (.pop, 0, 0, 0) := by decide +kernel
theorem e0_170 : vm_ent 0 170 = some (.aload_n 2, 0, 0, 0) := by decide +kernel
theorem e0_171 : vm_ent 0 171 = some (.aload_n 0, 0, 0, 0) := by decide +kernel
theorem e0_172 : vm_ent 0 172 = some (.iload 4, 0, 0, 0) := by decide +kernel
theorem e0_174 : vm_ent 0 174 = some (.iconst 1, 0, 0, 0) := by decide +kernel
theorem e0_175 : vm_ent 0 175 = some (.iadd, 0, 0, 0) := by decide +kernel
theorem e0_176 : vm_ent 0 176 = some (.iaload, 0, 0, 0) := by decide +kernel
theorem e0_177 : vm_ent 0 177 = some (.aload_n 0, 0, 0, 0) := by decide +kernel
theorem e0_178 : vm_ent 0 178 = some (.iload 4, 0, 0, 0) := by decide +kernel
theorem e0_180 : vm_ent 0 180 = some (.iconst 2, 0, 0, 0) := by decide +kernel
theorem e0_181 : vm_ent 0 181 = some (.iadd, 0, 0, 0) := by decide +kernel
theorem e0_182 : vm_ent 0 182 = some (.iaload, 0, 0, 0) := by decide +kernel
theorem e0_183 : vm_ent 0 183 = some (.invokevirtual 28, 106, 4, 881) := by decide +kernel
theorem e0_186 : vm_ent 0 186 = some (.pop, 0, 0, 0) := by decide +kernel
theorem e0_187 : vm_ent 0 187 = some (.goto 583, 770, 0, 0) := by decide +kernel
theorem e0_190 : vm_ent 0 190 = some (.aload_n 1, 0, 0, 0) := by decide +kernel
theorem e0_191 : vm_ent 0 191 = some (.invokevirtual 29, 46, 4, 312) := by decide +kernel
theorem e0_194 : vm_ent 0 194 = some (.pop, 0, 0, 0) := by decide +kernel
theorem e0_195 : vm_ent 0 195 = some (.aload_n 2, 0, 0, 0) := by decide +kernel
theorem e0_196 : vm_ent 0 196 = some (.invokevirtual 33, 107, 4, 885) := by decide +kernel
theorem e0_199 : vm_ent 0 199 = some (.pop, 0, 0, 0) := by decide +kernel
theorem e0_200 : vm_ent 0 200 = some (.goto 570, 770, 0, 0) := by decide +kernel
theorem e0_203 : vm_ent 0 203 = some (.aload_n 1, 0, 0, 0) := by decide +kernel
theorem e0_204 : vm_ent 0 204 = some (.aload_n 0, 0, 0, 0) := by decide +kernel
theorem e0_205 : vm_ent 0 205 = some (.iload 4, 0, 0, 0) := by decide +kernel
theorem e0_207 : vm_ent 0 207 = some (.iconst 1, 0, 0, 0) := by decide +kernel
theorem e0_208 : vm_ent 0 208 = some (.iadd, 0, 0, 0) := by decide +kernel
theorem e0_209 : vm_ent 0 209 = some (.iaload, 0, 0, 0) := by decide +kernel
theorem e0_210 : vm_ent 0 210 = some (.aload_n 0, 0, 0, 0) := by decide +kernel
theorem e0_211 : vm_ent 0 211 = some (.iload 4, 0, 0, 0) := by decide +kernel
theorem e0_213 : vm_ent 0 213 = some (.iconst 2, 0, 0, 0) := by decide +kernel
theorem e0_214 : vm_ent 0 214 = some (.iadd, 0, 0, 0) := by decide +kernel
theorem e0_215 : vm_ent 0 215 = some (.iaload, 0, 0, 0) := by decide +kernel
theorem e0_216 : vm_ent 0 216 = some (.i2l, 0, 0, 0) := by decide +kernel
theorem e0_217 : vm_ent 0 217 = some (.bipush 32, 0, 0, 0) := by decide +kernel
theorem e0_219 : vm_ent 0 219 = some (.lshl, 0, 0, 0) := by decide +kernel
theorem e0_220 : vm_ent 0 220 = some (.aload_n 0, 0, 0, 0) := by decide +kernel
theorem e0_221 : vm_ent 0 221 = some (.iload 4, 0, 0, 0) := by decide +kernel
theorem e0_223 : vm_ent 0 223 = some (.iconst 3, 0, 0, 0) := by decide +kernel
theorem e0_224 : vm_ent 0 224 = some (.iadd, 0, 0, 0) := by decide +kernel
theorem e0_225 : vm_ent 0 225 = some (.iaload, 0, 0, 0) := by decide +kernel
theorem e0_226 : vm_ent 0 226 = some (.i2l, 0, 0, 0) := by decide +kernel
theorem e0_227 : vm_ent 0 227 = some (.ldc2_w 34, 4294967295, 0, 951) := by decide +kernel
theorem e0_230 : vm_ent 0 230 = some (.land, 0, 0, 0) := by decide +kernel
theorem e0_231 : vm_ent 0 231 = some (.lor, 0, 0, 0) := by decide +kernel
theorem e0_232 : vm_ent 0 232 = some (.aload_n 0, 0, 0, 0) := by decide +kernel
theorem e0_233 : vm_ent 0 233 = some (.iload 4, 0, 0, 0) := by decide +kernel
theorem e0_235 : vm_ent 0 235 = some (.iconst 4, 0, 0, 0) := by decide +kernel
theorem e0_236 : vm_ent 0 236 = some (.iadd, 0, 0, 0) := by decide +kernel
theorem e0_237 : vm_ent 0 237 = some (.iaload, 0, 0, 0) := by decide +kernel
theorem e0_238 : vm_ent 0 238 = some (.invokevirtual 36, 47, 4, 316) := by decide +kernel
theorem e0_241 : vm_ent 0 241 = some (.pop, 0, 0, 0) := by decide +kernel
theorem e0_242 : vm_ent 0 242 = some (.aload_n 2, 0, 0, 0) := by decide +kernel
theorem e0_243 : vm_ent 0 243 = some (.aload_n 0, 0, 0, 0) := by decide +kernel
theorem e0_244 : vm_ent 0 244 = some (.iload 4, 0, 0, 0) := by decide +kernel
theorem e0_246 : vm_ent 0 246 = some (.iconst 1, 0, 0, 0) := by decide +kernel
theorem e0_247 : vm_ent 0 247 = some (.iadd, 0, 0, 0) := by decide +kernel
theorem e0_248 : vm_ent 0 248 = some (.iaload, 0, 0, 0) := by decide +kernel
theorem e0_249 : vm_ent 0 249 = some (.aload_n 0, 0, 0, 0) := by decide +kernel
theorem e0_250 : vm_ent 0 250 = some (.iload 4, 0, 0, 0) := by decide +kernel
theorem e0_252 : vm_ent 0 252 = some (.iconst 2, 0, 0, 0) := by decide +kernel
theorem e0_253 : vm_ent 0 253 = some (.iadd, 0, 0, 0) := by decide +kernel
theorem e0_254 : vm_ent 0 254 = some (.iaload, 0, 0, 0) := by decide +kernel
theorem e0_255 : vm_ent 0 255 = some (.i2l, 0, 0, 0) := by decide +kernel
theorem e0_256 : vm_ent 0 256 = some (.bipush 32, 0, 0, 0) := by decide +kernel
theorem e0_258 : vm_ent 0 258 = some (.lshl, 0, 0, 0) := by decide +kernel
theorem e0_259 : vm_ent 0 259 = some (.aload_n 0, 0, 0, 0) := by decide +kernel
theorem e0_260 : vm_ent 0 260 = some (.iload 4, 0, 0, 0) := by decide +kernel
theorem e0_262 : vm_ent 0 262 = some (.iconst 3, 0, 0, 0) := by decide +kernel
theorem e0_263 : vm_ent 0 263 = some (.iadd, 0, 0, 0) := by decide +kernel
theorem e0_264 : vm_ent 0 264 = some (.iaload, 0, 0, 0) := by decide +kernel
theorem e0_265 : vm_ent 0 265 = some (.i2l, 0, 0, 0) := by decide +kernel
theorem e0_266 : vm_ent 0 266 = some (.ldc2_w 34, 4294967295, 0, 951) := by decide +kernel
theorem e0_269 : vm_ent 0 269 = some (.land, 0, 0, 0) := by decide +kernel
theorem e0_270 : vm_ent 0 270 = some (.lor, 0, 0, 0) := by decide +kernel
theorem e0_271 : vm_ent 0 271 = some (.aload_n 0, 0, 0, 0) := by decide +kernel
theorem e0_272 : vm_ent 0 272 = some (.iload 4, 0, 0, 0) := by decide +kernel
theorem e0_274 : vm_ent 0 274 = some (.iconst 4, 0, 0, 0) := by decide +kernel
theorem e0_275 : vm_ent 0 275 = some (.iadd, 0, 0, 0) := by decide +kernel
theorem e0_276 : vm_ent 0 276 = some (.iaload, 0, 0, 0) := by decide +kernel
theorem e0_277 : vm_ent 0 277 = some (.invokevirtual 40, 108, 4, 889) := by decide +kernel
theorem e0_280 : vm_ent 0 280 = some (.pop, 0, 0, 0) := by decide +kernel
theorem e0_281 : vm_ent 0 281 = some (.goto 489, 770, 0, 0) := by decide +kernel
theorem e0_284 : vm_ent 0 284 = some (.aload_n 1, 0, 0, 0) := by decide +kernel
theorem e0_285 : vm_ent 0 285 = some (.aload_n 0, 0, 0, 0) := by decide +kernel
theorem e0_286 : vm_ent 0 286 = some (.iload 4, 0, 0, 0) := by decide +kernel
theorem e0_288 : vm_ent 0 288 = some (.iconst 1, 0, 0, 0) := by decide +kernel
theorem e0_289 : vm_ent 0 289 = some (.iadd, 0, 0, 0) := by decide +kernel
theorem e0_290 : vm_ent 0 290 = some (.iaload, 0, 0, 0) := by decide +kernel
theorem e0_291 : vm_ent 0 291 = some (.aload_n 0, 0, 0, 0) := by decide +kernel
theorem e0_292 : vm_ent 0 292 = some (.iload 4, 0, 0, 0) := by decide +kernel
theorem e0_294 : vm_ent 0 294 = some (.iconst 2, 0, 0, 0) := by decide +kernel
theorem e0_295 : vm_ent 0 295 = some (.iadd, 0, 0, 0) := by decide +kernel
theorem e0_296 : vm_ent 0 296 = some (.iaload, 0, 0, 0) := by decide +kernel
theorem e0_297 : vm_ent 0 297 = some (.ifCond .eq 7, 304, 0, 0) := by decide +kernel
theorem e0_300 : vm_ent 0 300 = some (.iconst 1, 0, 0, 0) := by decide +kernel
theorem e0_301 : vm_ent 0 301 = some (.goto 4, 305, 0, 0) := by decide +kernel
theorem e0_304 : vm_ent 0 304 = some (.iconst 0, 0, 0, 0) := by decide +kernel
theorem e0_305 : vm_ent 0 305 = some (.invokevirtual 41, 48, 4, 351) := by decide +kernel
theorem e0_308 : vm_ent 0 308 = some (.aload_n 2, 0, 0, 0) := by decide +kernel
theorem e0_309 : vm_ent 0 309 = some (.aload_n 0, 0, 0, 0) := by decide +kernel
theorem e0_310 : vm_ent 0 310 = some (.iload 4, 0, 0, 0) := by decide +kernel
theorem e0_312 : vm_ent 0 312 = some (.iconst 1, 0, 0, 0) := by decide +kernel
theorem e0_313 : vm_ent 0 313 = some (.iadd, 0, 0, 0) := by decide +kernel
theorem e0_314 : vm_ent 0 314 = some (.iaload, 0, 0, 0) := by decide +kernel
theorem e0_315 : vm_ent 0 315 = some (.aload_n 0, 0, 0, 0) := by decide +kernel
theorem e0_316 : vm_ent 0 316 = some (.iload 4, 0, 0, 0) := by decide +kernel
theorem e0_318 : vm_ent 0 318 = some (.iconst 2, 0, 0, 0) := by decide +kernel
theorem e0_319 : vm_ent 0 319 = some (.iadd, 0, 0, 0) := by decide +kernel
theorem e0_320 : vm_ent 0 320 = some (.iaload, 0, 0, 0) := by decide +kernel
theorem e0_321 : vm_ent 0 321 = some (.ifCond .eq 7, 328, 0, 0) := by decide +kernel
theorem e0_324 : vm_ent 0 324 = some (.iconst 1, 0, 0, 0) := by decide +kernel
theorem e0_325 : vm_ent 0 325 = some (.goto 4, 329, 0, 0) := by decide +kernel
theorem e0_328 : vm_ent 0 328 = some (.iconst 0, 0, 0, 0) := by decide +kernel
theorem e0_329 : vm_ent 0 329 = some (.invokevirtual 45, 109, 4, 895) := by decide +kernel
theorem e0_332 : vm_ent 0 332 = some (.if_icmp .eq 438, 770, 0, 0) := by decide +kernel
theorem e0_335 : vm_ent 0 335 = some (.iconst 0, 0, 0, 0) := by decide +kernel
theorem e0_336 : vm_ent 0 336 = some (.ireturn, 0, 0, 0) := by decide +kernel
theorem e0_337 : vm_ent 0 337 = some (.aload_n 1, 0, 0, 0) := by decide +kernel
theorem e0_338 : vm_ent 0 338 = some (.invokevirtual 46, 49, 4, 355) := by decide +kernel
theorem e0_341 : vm_ent 0 341 = some (.pop, 0, 0, 0) := by decide +kernel
theorem e0_342 : vm_ent 0 342 = some (.aload_n 2, 0, 0, 0) := by decide +kernel
theorem e0_343 : vm_ent 0 343 = some (.invokevirtual 49, 102, 4, 767) := by decide +kernel
theorem e0_346 : vm_ent 0 346 = some (.pop, 0, 0, 0) := by decide +kernel
theorem e0_347 : vm_ent 0 347 = some (.goto 423, 770, 0, 0) := by decide +kernel
theorem e0_350 : vm_ent 0 350 = some (.aload_n 1, 0, 0, 0) := by decide +kernel
theorem e0_351 : vm_ent 0 351 = some (.aload_n 0, 0, 0, 0) := by decide +kernel
theorem e0_352 : vm_ent 0 352 = some (.iload 4, 0, 0, 0) := by decide +kernel
theorem e0_354 : vm_ent 0 354 = some (.iconst 1, 0, 0, 0) := by decide +kernel
theorem e0_355 : vm_ent 0 355 = some (.iadd, 0, 0, 0) := by decide +kernel
theorem e0_356 : vm_ent 0 356 = some (.iaload, 0, 0, 0) := by decide +kernel
theorem e0_357 : vm_ent 0 357 = some (.invokevirtual 50, 50, 4, 482) := by decide +kernel
theorem e0_360 : vm_ent 0 360 = some (.pop, 0, 0, 0) := by decide +kernel
theorem e0_361 : vm_ent 0 361 = some (.aload_n 2, 0, 0, 0) := by decide +kernel
theorem e0_362 : vm_ent 0 362 = some (.aload_n 0, 0, 0, 0) := by decide +kernel
theorem e0_363 : vm_ent 0 363 = some (.iload 4, 0, 0, 0) := by decide +kernel
theorem e0_365 : vm_ent 0 365 = some (.iconst 1, 0, 0, 0) := by decide +kernel
theorem e0_366 : vm_ent 0 366 = some (.iadd, 0, 0, 0) := by decide +kernel
theorem e0_367 : vm_ent 0 367 = some (.iaload, 0, 0, 0) := by decide +kernel
theorem e0_368 : vm_ent 0 368 = some (.invokevirtual 54, 104, 4, 869) := by decide +kernel
theorem e0_371 : vm_ent 0 371 = some (.pop, 0, 0, 0) := by decide +kernel
theorem e0_372 : vm_ent 0 372 = some (.goto 398, 770, 0, 0) := by decide +kernel
theorem e0_375 : vm_ent 0 375 = some (.aload_n 1, 0, 0, 0) := by decide +kernel
theorem e0_376 : vm_ent 0 376 = some (.aload_n 0, 0, 0, 0) := by decide +kernel
theorem e0_377 : vm_ent 0 377 = some (.iload 4, 0, 0, 0) := by decide +kernel
theorem e0_379 : vm_ent 0 379 = some (.iconst 1, 0, 0, 0) := by decide +kernel
theorem e0_380 : vm_ent 0 380 = some (.iadd, 0, 0, 0) := by decide +kernel
theorem e0_381 : vm_ent 0 381 = some (.iaload, 0, 0, 0) := by decide +kernel
theorem e0_382 : vm_ent 0 382 = some (.aload_n 0, 0, 0, 0) := by decide +kernel
theorem e0_383 : vm_ent 0 383 = some (.iload 4, 0, 0, 0) := by decide +kernel
theorem e0_385 : vm_ent 0 385 = some (.iconst 2, 0, 0, 0) := by decide +kernel
theorem e0_386 : vm_ent 0 386 = some (.iadd, 0, 0, 0) := by decide +kernel
theorem e0_387 : vm_ent 0 387 = some (.iaload, 0, 0, 0) := by decide +kernel
theorem e0_388 : vm_ent 0 388 = some (.invokevirtual 55, 51, 4, 487) := by decide +kernel
theorem e0_391 : vm_ent 0 391 = some (.pop, 0, 0, 0) := by decide +kernel
theorem e0_392 : vm_ent 0 392 = some (.aload_n 2, 0, 0, 0) := by decide +kernel
theorem e0_393 : vm_ent 0 393 = some (.aload_n 0, 0, 0, 0) := by decide +kernel
theorem e0_394 : vm_ent 0 394 = some (.iload 4, 0, 0, 0) := by decide +kernel
theorem e0_396 : vm_ent 0 396 = some (.iconst 1, 0, 0, 0) := by decide +kernel
theorem e0_397 : vm_ent 0 397 = some (.iadd, 0, 0, 0) := by decide +kernel
theorem e0_398 : vm_ent 0 398 = some (.iaload, 0, 0, 0) := by decide +kernel
theorem e0_399 : vm_ent 0 399 = some (.aload_n 0, 0, 0, 0) := by decide +kernel
theorem e0_400 : vm_ent 0 400 = some (.iload 4, 0, 0, 0) := by decide +kernel
theorem e0_402 : vm_ent 0 402 = some (.iconst 2, 0, 0, 0) := by decide +kernel
theorem e0_403 : vm_ent 0 403 = some (.iadd, 0, 0, 0) := by decide +kernel
theorem e0_404 : vm_ent 0 404 = some (.iaload, 0, 0, 0) := by decide +kernel
theorem e0_405 : vm_ent 0 405 = some (.invokevirtual 59, 112, 4, 899) := by decide +kernel
theorem e0_408 : vm_ent 0 408 = some (.pop, 0, 0, 0) := by decide +kernel
theorem e0_409 : vm_ent 0 409 = some (.goto 361, 770, 0, 0) := by decide +kernel
theorem e0_412 : vm_ent 0 412 = some (.aload_n 1, 0, 0, 0) := by decide +kernel
theorem e0_413 : vm_ent 0 413 = some (.aload_n 0, 0, 0, 0) := by decide +kernel
theorem e0_414 : vm_ent 0 414 = some (.iload 4, 0, 0, 0) := by decide +kernel
theorem e0_416 : vm_ent 0 416 = some (.iconst 1, 0, 0, 0) := by decide +kernel
theorem e0_417 : vm_ent 0 417 = some (.iadd, 0, 0, 0) := by decide +kernel
theorem e0_418 : vm_ent 0 418 = some (.iaload, 0, 0, 0) := by decide +kernel
theorem e0_419 : vm_ent 0 419 = some (.invokevirtual 60, 52, 4, 500) := by decide +kernel
theorem e0_422 : vm_ent 0 422 = some (.pop, 0, 0, 0) := by decide +kernel
theorem e0_423 : vm_ent 0 423 = some (.aload_n 2, 0, 0, 0) := by decide +kernel
theorem e0_424 : vm_ent 0 424 = some (.aload_n 0, 0, 0, 0) := by decide +kernel
theorem e0_425 : vm_ent 0 425 = some (.iload 4, 0, 0, 0) := by decide +kernel
theorem e0_427 : vm_ent 0 427 = some (.iconst 1, 0, 0, 0) := by decide +kernel
theorem e0_428 : vm_ent 0 428 = some (.iadd, 0, 0, 0) := by decide +kernel
theorem e0_429 : vm_ent 0 429 = some (.iaload, 0, 0, 0) := by decide +kernel
theorem e0_430 : vm_ent 0 430 = some (.invokevirtual 63, 113, 4, 911) := by decide +kernel
theorem e0_433 : vm_ent 0 433 = some (.pop, 0, 0, 0) := by decide +kernel
theorem e0_434 : vm_ent 0 434 = some (.goto 336, 770, 0, 0) := by decide +kernel
theorem e0_437 : vm_ent 0 437 = some (.aload_n 1, 0, 0, 0) := by decide +kernel
theorem e0_438 : vm_ent 0 438 = some (.aload_n 0, 0, 0, 0) := by decide +kernel
theorem e0_439 : vm_ent 0 439 = some (.iload 4, 0, 0, 0) := by decide +kernel
theorem e0_441 : vm_ent 0 441 = some (.iconst 1, 0, 0, 0) := by decide +kernel
theorem e0_442 : vm_ent 0 442 = some (.iadd, 0, 0, 0) := by decide +kernel
theorem e0_443 : vm_ent 0 443 = some (.iaload, 0, 0, 0) := by decide +kernel
theorem e0_444 : vm_ent 0 444 = some (.aload_n 0, 0, 0, 0) := by decide +kernel
theorem e0_445 : vm_ent 0 445 = some (.iload 4, 0, 0, 0) := by decide +kernel
theorem e0_447 : vm_ent 0 447 = some (.iconst 2, 0, 0, 0) := by decide +kernel
theorem e0_448 : vm_ent 0 448 = some (.iadd, 0, 0, 0) := by decide +kernel
theorem e0_449 : vm_ent 0 449 = some (.iaload, 0, 0, 0) := by decide +kernel
theorem e0_450 : vm_ent 0 450 = some (.aload_n 0, 0, 0, 0) := by decide +kernel
theorem e0_451 : vm_ent 0 451 = some (.iload 4, 0, 0, 0) := by decide +kernel
theorem e0_453 : vm_ent 0 453 = some (.iconst 3, 0, 0, 0) := by decide +kernel
theorem e0_454 : vm_ent 0 454 = some (.iadd, 0, 0, 0) := by decide +kernel
theorem e0_455 : vm_ent 0 455 = some (.iaload, 0, 0, 0) := by decide +kernel
theorem e0_456 : vm_ent 0 456 = some (.invokevirtual 64, 53, 4, 508) := by decide +kernel
theorem e0_459 : vm_ent 0 459 = some (.pop2, 0, 0, 0) := by decide +kernel
theorem e0_460 : vm_ent 0 460 = some (.aload_n 2, 0, 0, 0) := by decide +kernel
theorem e0_461 : vm_ent 0 461 = some (.aload_n 0, 0, 0, 0) := by decide +kernel
theorem e0_462 : vm_ent 0 462 = some (.iload 4, 0, 0, 0) := by decide +kernel
theorem e0_464 : vm_ent 0 464 = some (.iconst 1, 0, 0, 0) := by decide +kernel
theorem e0_465 : vm_ent 0 465 = some (.iadd, 0, 0, 0) := by decide +kernel
theorem e0_466 : vm_ent 0 466 = some (.iaload, 0, 0, 0) := by decide +kernel
theorem e0_467 : vm_ent 0 467 = some (.aload_n 0, 0, 0, 0) := by decide +kernel
theorem e0_468 : vm_ent 0 468 = some (.iload 4, 0, 0, 0) := by decide +kernel
theorem e0_470 : vm_ent 0 470 = some (.iconst 2, 0, 0, 0) := by decide +kernel
theorem e0_471 : vm_ent 0 471 = some (.iadd, 0, 0, 0) := by decide +kernel
theorem e0_472 : vm_ent 0 472 = some (.iaload, 0, 0, 0) := by decide +kernel
theorem e0_473 : vm_ent 0 473 = some (.aload_n 0, 0, 0, 0) := by decide +kernel
theorem e0_474 : vm_ent 0 474 = some (.iload 4, 0, 0, 0) := by decide +kernel
theorem e0_476 : vm_ent 0 476 = some (.iconst 3, 0, 0, 0) := by decide +kernel
theorem e0_477 : vm_ent 0 477 = some (.iadd, 0, 0, 0) := by decide +kernel
theorem e0_478 : vm_ent 0 478 = some (.iaload, 0, 0, 0) := by decide +kernel
theorem e0_479 : vm_ent 0 479 = some (.invokevirtual 68, 115, 4, 915) := by decide +kernel
theorem e0_482 : vm_ent 0 482 = some (.pop2, 0, 0, 0) := by decide +kernel
theorem e0_483 : vm_ent 0 483 = some (.goto 287, 770, 0, 0) := by decide +kernel
theorem e0_486 : vm_ent 0 486 = some (.aload_n 1, 0, 0, 0) := by decide +kernel
theorem e0_487 : vm_ent 0 487 = some (.aload_n 0, 0, 0, 0) := by decide +kernel
theorem e0_488 : vm_ent 0 488 = some (.iload 4, 0, 0, 0) := by decide +kernel
theorem e0_490 : vm_ent 0 490 = some (.iconst 1, 0, 0, 0) := by decide +kernel
theorem e0_491 : vm_ent 0 491 = some (.iadd, 0, 0, 0) := by decide +kernel
theorem e0_492 : vm_ent 0 492 = some (.iaload, 0, 0, 0) := by decide +kernel
theorem e0_493 : vm_ent 0 493 = some (.aload_n 0, 0, 0, 0) := by decide +kernel
theorem e0_494 : vm_ent 0 494 = some (.iload 4, 0, 0, 0) := by decide +kernel
theorem e0_496 : vm_ent 0 496 = some (.iconst 2, 0, 0, 0) := by decide +kernel
theorem e0_497 : vm_ent 0 497 = some (.iadd, 0, 0, 0) := by decide +kernel
theorem e0_498 : vm_ent 0 498 = some (.iaload, 0, 0, 0) := by decide +kernel
theorem e0_499 : vm_ent 0 499 = some (.aload_n 0, 0, 0, 0) := by decide +kernel
theorem e0_500 : vm_ent 0 500 = some (.iload 4, 0, 0, 0) := by decide +kernel
theorem e0_502 : vm_ent 0 502 = some (.iconst 3, 0, 0, 0) := by decide +kernel
theorem e0_503 : vm_ent 0 503 = some (.iadd, 0, 0, 0) := by decide +kernel
theorem e0_504 : vm_ent 0 504 = some (.iaload, 0, 0, 0) := by decide +kernel
theorem e0_505 : vm_ent 0 505 = some (.invokevirtual 69, 54, 4, 524) := by decide +kernel
theorem e0_508 : vm_ent 0 508 = some (.pop, 0, 0, 0) := by decide +kernel
theorem e0_509 : vm_ent 0 509 = some (.aload_n 2, 0, 0, 0) := by decide +kernel
theorem e0_510 : vm_ent 0 510 = some (.aload_n 0, 0, 0, 0) := by decide +kernel
theorem e0_511 : vm_ent 0 511 = some (.iload 4, 0, 0, 0) := by decide +kernel
theorem e0_513 : vm_ent 0 513 = some (.iconst 1, 0, 0, 0) := by decide +kernel
theorem e0_514 : vm_ent 0 514 = some (.iadd, 0, 0, 0) := by decide +kernel
theorem e0_515 : vm_ent 0 515 = some (.iaload, 0, 0, 0) := by decide +kernel
theorem e0_516 : vm_ent 0 516 = some (.aload_n 0, 0, 0, 0) := by decide +kernel
theorem e0_517 : vm_ent 0 517 = some (.iload 4, 0, 0, 0) := by decide +kernel
theorem e0_519 : vm_ent 0 519 = some (.iconst 2, 0, 0, 0) := by decide +kernel
theorem e0_520 : vm_ent 0 520 = some (.iadd, 0, 0, 0) := by decide +kernel
theorem e0_521 : vm_ent 0 521 = some (.iaload, 0, 0, 0) := by decide +kernel
theorem e0_522 : vm_ent 0 522 = some (.aload_n 0, 0, 0, 0) := by decide +kernel
theorem e0_523 : vm_ent 0 523 = some (.iload 4, 0, 0, 0) := by decide +kernel
theorem e0_525 : vm_ent 0 525 = some (.iconst 3, 0, 0, 0) := by decide +kernel
theorem e0_526 : vm_ent 0 526 = some (.iadd, 0, 0, 0) := by decide +kernel
theorem e0_527 : vm_ent 0 527 = some (.iaload, 0, 0, 0) := by decide +kernel
theorem e0_528 : vm_ent 0 528 = some (.invokevirtual 73, 116, 4, 923) := by decide +kernel
theorem e0_531 : vm_ent 0 531 = some (.pop, 0, 0, 0) := by decide +kernel
theorem e0_532 : vm_ent 0 532 = some (.goto 238, 770, 0, 0) := by decide +kernel
theorem e0_535 : vm_ent 0 535 = some (.aload_n 1, 0, 0, 0) := by decide +kernel
theorem e0_536 : vm_ent 0 536 = some (.aload_n 0, 0, 0, 0) := by decide +kernel
theorem e0_537 : vm_ent 0 537 = some (.iload 4, 0, 0, 0) := by decide +kernel
theorem e0_539 : vm_ent 0 539 = some (.iconst 1, 0, 0, 0) := by decide +kernel
theorem e0_540 : vm_ent 0 540 = some (.iadd, 0, 0, 0) := by decide +kernel
theorem e0_541 : vm_ent 0 541 = some (.iaload, 0, 0, 0) := by decide +kernel
theorem e0_542 : vm_ent 0 542 = some (.aload_n 0, 0, 0, 0) := by decide +kernel
theorem e0_543 : vm_ent 0 543 = some (.iload 4, 0, 0, 0) := by decide +kernel
theorem e0_545 : vm_ent 0 545 = some (.iconst 2, 0, 0, 0) := by decide +kernel
theorem e0_546 : vm_ent 0 546 = some (.iadd, 0, 0, 0) := by decide +kernel
theorem e0_547 : vm_ent 0 547 = some (.iaload, 0, 0, 0) := by decide +kernel
theorem e0_548 : vm_ent 0 548 = some (.i2l, 0, 0, 0) := by decide +kernel
theorem e0_549 : vm_ent 0 549 = some (.bipush 32, 0, 0, 0) := by decide +kernel
theorem e0_551 : vm_ent 0 551 = some (.lshl, 0, 0, 0) := by decide +kernel
theorem e0_552 : vm_ent 0 552 = some (.aload_n 0, 0, 0, 0) := by decide +kernel
theorem e0_553 : vm_ent 0 553 = some (.iload 4, 0, 0, 0) := by decide +kernel
theorem e0_555 : vm_ent 0 555 = some (.iconst 3, 0, 0, 0) := by decide +kernel
theorem e0_556 : vm_ent 0 556 = some (.iadd, 0, 0, 0) := by decide +kernel
theorem e0_557 : vm_ent 0 557 = some (.iaload, 0, 0, 0) := by decide +kernel
theorem e0_558 : vm_ent 0 558 = some (.i2l, 0, 0, 0) := by decide +kernel
theorem e0_559 : vm_ent 0 559 = some (.ldc2_w 34, 4294967295, 0, 951) := by decide +kernel
theorem e0_562 : vm_ent 0 562 = some (.land, 0, 0, 0) := by decide +kernel
theorem e0_563 : vm_ent 0 563 = some (.lor, 0, 0, 0) := by decide +kernel
theorem e0_564 : vm_ent 0 564 = some (.invokevirtual 74, 55, 4, 529) := by decide +kernel
theorem e0_567 : vm_ent 0 567 = some (.pop, 0, 0, 0) := by decide +kernel
theorem e0_568 : vm_ent 0 568 = some (.aload_n 2, 0, 0, 0) := by decide +kernel
theorem e0_569 : vm_ent 0 569 = some (.aload_n 0, 0, 0, 0) := by decide +kernel
theorem e0_570 : vm_ent 0 570 = some (.iload 4, 0, 0, 0) := by decide +kernel
theorem e0_572 : vm_ent 0 572 = some (.iconst 1, 0, 0, 0) := by decide +kernel
theorem e0_573 : vm_ent 0 573 = some (.iadd, 0, 0, 0) := by decide +kernel
theorem e0_574 : vm_ent 0 574 = some (.iaload, 0, 0, 0) := by decide +kernel
theorem e0_575 : vm_ent 0 575 = some (.aload_n 0, 0, 0, 0) := by decide +kernel
theorem e0_576 : vm_ent 0 576 = some (.iload 4, 0, 0, 0) := by decide +kernel
theorem e0_578 : vm_ent 0 578 = some (.iconst 2, 0, 0, 0) := by decide +kernel
theorem e0_579 : vm_ent 0 579 = some (.iadd, 0, 0, 0) := by decide +kernel
theorem e0_580 : vm_ent 0 580 = some (.iaload, 0, 0, 0) := by decide +kernel
theorem e0_581 : vm_ent 0 581 = some (.i2l, 0, 0, 0) := by decide +kernel
theorem e0_582 : vm_ent 0 582 = some (.bipush 32, 0, 0, 0) := by decide +kernel
theorem e0_584 : vm_ent 0 584 = some (.lshl, 0, 0, 0) := by decide +kernel
theorem e0_585 : vm_ent 0 585 = some (.aload_n 0, 0, 0, 0) := by decide +kernel
theorem e0_586 : vm_ent 0 586 = some (.iload 4, 0, 0, 0) := by decide +kernel
theorem e0_588 : vm_ent 0 588 = some (.iconst 3, 0, 0, 0) := by decide +kernel
theorem e0_589 : vm_ent 0 589 = some (.iadd, 0, 0, 0) := by decide +kernel
theorem e0_590 : vm_ent 0 590 = some (.iaload, 0, 0, 0) := by decide +kernel
theorem e0_591 : vm_ent 0 591 = some (.i2l, 0, 0, 0) := by decide +kernel
theorem e0_592 : vm_ent 0 592 = some (.ldc2_w 34, 4294967295, 0, 951) := by decide +kernel
theorem e0_595 : vm_ent 0 595 = some (.land, 0, 0, 0) := by decide +kernel
theorem e0_596 : vm_ent 0 596 = some (.lor, 0, 0, 0) := by decide +kernel
theorem e0_597 : vm_ent 0 597 = some (.invokevirtual 78, 117, 4, 927) := by decide +kernel
theorem e0_600 : vm_ent 0 600 = some (.pop, 0, 0, 0) := by decide +kernel
theorem e0_601 : vm_ent 0 601 = some (.goto 169, 770, 0, 0) := by decide +kernel
theorem e0_604 : vm_ent 0 604 = some (.aload_n 1, 0, 0, 0) := by decide +kernel
theorem e0_605 : vm_ent 0 605 = some (.aload_n 0, 0, 0, 0) := by decide +kernel
theorem e0_606 : vm_ent 0 606 = some (.iload 4, 0, 0, 0) := by decide +kernel
theorem e0_608 : vm_ent 0 608 = some (.iconst 1, 0, 0, 0) := by decide +kernel
theorem e0_609 : vm_ent 0 609 = some (.iadd, 0, 0, 0) := by decide +kernel
theorem e0_610 : vm_ent 0 610 = some (.iaload, 0, 0, 0) := by decide +kernel
theorem e0_611 : vm_ent 0 611 = some (.aload_n 0, 0, 0, 0) := by decide +kernel
theorem e0_612 : vm_ent 0 612 = some (.iload 4, 0, 0, 0) := by decide +kernel
theorem e0_614 : vm_ent 0 614 = some (.iconst 2, 0, 0, 0) := by decide +kernel
theorem e0_615 : vm_ent 0 615 = some (.iadd, 0, 0, 0) := by decide +kernel
theorem e0_616 : vm_ent 0 616 = some (.iaload, 0, 0, 0) := by decide +kernel
theorem e0_617 : vm_ent 0 617 = some (.invokevirtual 79, 56, 4, 533) := by decide +kernel
theorem e0_620 : vm_ent 0 620 = some (.pop2, 0, 0, 0) := by decide +kernel
theorem e0_621 : vm_ent 0 621 = some (.aload_n 2, 0, 0, 0) := by decide +kernel
theorem e0_622 : vm_ent 0 622 = some (.aload_n 0, 0, 0, 0) := by decide +kernel
theorem e0_623 : vm_ent 0 623 = some (.iload 4, 0, 0, 0) := by decide +kernel
theorem e0_625 : vm_ent 0 625 = some (.iconst 1, 0, 0, 0) := by decide +kernel
theorem e0_626 : vm_ent 0 626 = some (.iadd, 0, 0, 0) := by decide +kernel
theorem e0_627 : vm_ent 0 627 = some (.iaload, 0, 0, 0) := by decide +kernel
theorem e0_628 : vm_ent 0 628 = some (.aload_n 0, 0, 0, 0) := by decide +kernel
theorem e0_629 : vm_ent 0 629 = some (.iload 4, 0, 0, 0) := by decide +kernel
theorem e0_631 : vm_ent 0 631 = some (.iconst 2, 0, 0, 0) := by decide +kernel
theorem e0_632 : vm_ent 0 632 = some (.iadd, 0, 0, 0) := by decide +kernel
theorem e0_633 : vm_ent 0 633 = some (.iaload, 0, 0, 0) := by decide +kernel
theorem e0_634 : vm_ent 0 634 = some (.invokevirtual 83, 120, 4, 931) := by decide +kernel
theorem e0_637 : vm_ent 0 637 = some (.pop2, 0, 0, 0) := by decide +kernel
theorem e0_638 : vm_ent 0 638 = some (.goto 132, 770, 0, 0) := by decide +kernel
theorem e0_641 : vm_ent 0 641 = some (.aload_n 1, 0, 0, 0) := by decide +kernel
theorem e0_642 : vm_ent 0 642 = some (.aload_n 0, 0, 0, 0) := by decide +kernel
theorem e0_643 : vm_ent 0 643 = some (.iload 4, 0, 0, 0) := by decide +kernel
theorem e0_645 : vm_ent 0 645 = some (.iconst 1, 0, 0, 0) := by decide +kernel
theorem e0_646 : vm_ent 0 646 = some (.iadd, 0, 0, 0) := by decide +kernel
theorem e0_647 : vm_ent 0 647 = some (.iaload, 0, 0, 0) := by decide +kernel
theorem e0_648 : vm_ent 0 648 = some (.invokevirtual 84, 57, 4, 545) := by decide +kernel
theorem e0_651 : vm_ent 0 651 = some (.pop2, 0, 0, 0) := by decide +kernel
theorem e0_652 : vm_ent 0 652 = some (.aload_n 2, 0, 0, 0) := by decide +kernel
theorem e0_653 : vm_ent 0 653 = some (.aload_n 0, 0, 0, 0) := by decide +kernel
theorem e0_654 : vm_ent 0 654 = some (.iload 4, 0, 0, 0) := by decide +kernel
theorem e0_656 : vm_ent 0 656 = some (.iconst 1, 0, 0, 0) := by decide +kernel
theorem e0_657 : vm_ent 0 657 = some (.iadd, 0, 0, 0) := by decide +kernel
theorem e0_658 : vm_ent 0 658 = some (.iaload, 0, 0, 0) := by decide +kernel
theorem e0_659 : vm_ent 0 659 = some (.invokevirtual 88, 121, 4, 943) := by decide +kernel
theorem e0_662 : vm_ent 0 662 = some (.pop2, 0, 0, 0) := by decide +kernel
theorem e0_663 : vm_ent 0 663 = some (.goto 107, 770, 0, 0) := by decide +kernel
theorem e0_666 : vm_ent 0 666 = some (.aload_n 1, 0, 0, 0) := by decide +kernel
theorem e0_667 : vm_ent 0 667 = some (.aload_n 0, 0, 0, 0) := by decide +kernel
theorem e0_668 : vm_ent 0 668 = some (.iload 4, 0, 0, 0) := by decide +kernel
theorem e0_670 : vm_ent 0 670 = some (.iconst 1, 0, 0, 0) := by decide +kernel
theorem e0_671 : vm_ent 0 671 = some (.iadd, 0, 0, 0) := by decide +kernel
theorem e0_672 : vm_ent 0 672 = some (.iaload, 0, 0, 0) := by decide +kernel
theorem e0_673 : vm_ent 0 673 = some (.i2l, 0, 0, 0) := by decide +kernel
theorem e0_674 : vm_ent 0 674 = some (.bipush 32, 0, 0, 0) := by decide +kernel
theorem e0_676 : vm_ent 0 676 = some (.lshl, 0, 0, 0) := by decide +kernel
theorem e0_677 : vm_ent 0 677 = some (.aload_n 0, 0, 0, 0) := by decide +kernel
theorem e0_678 : vm_ent 0 678 = some (.iload 4, 0, 0, 0) := by decide +kernel
theorem e0_680 : vm_ent 0 680 = some (.iconst 2, 0, 0, 0) := by decide +kernel
theorem e0_681 : vm_ent 0 681 = some (.iadd, 0, 0, 0) := by decide +kernel
theorem e0_682 : vm_ent 0 682 = some (.iaload, 0, 0, 0) := by decide +kernel
theorem e0_683 : vm_ent 0 683 = some (.i2l, 0, 0, 0) := by decide +kernel
theorem e0_684 : vm_ent 0 684 = some (.ldc2_w 34, 4294967295, 0, 951) := by decide +kernel
theorem e0_687 : vm_ent 0 687 = some (.land, 0, 0, 0) := by decide +kernel
theorem e0_688 : vm_ent 0 688 = some (.lor, 0, 0, 0) := by decide +kernel
theorem e0_689 : vm_ent 0 689 = some (.aload_n 0, 0, 0, 0) := by decide +kernel
theorem e0_690 : vm_ent 0 690 = some (.iload 4, 0, 0, 0) := by decide +kernel
theorem e0_692 : vm_ent 0 692 = some (.iconst 3, 0, 0, 0) := by decide +kernel
theorem e0_693 : vm_ent 0 693 = some (.iadd, 0, 0, 0) := by decide +kernel
theorem e0_694 : vm_ent 0 694 = some (.iaload, 0, 0, 0) := by decide +kernel
theorem e0_695 : vm_ent 0 695 = some (.i2l, 0, 0, 0) := by decide +kernel
theorem e0_696 : vm_ent 0 696 = some (.bipush 32, 0, 0, 0) := by decide +kernel
theorem e0_698 : vm_ent 0 698 = some (.lshl, 0, 0, 0) := by decide +kernel
theorem e0_699 : vm_ent 0 699 = some (.aload_n 0, 0, 0, 0) := by decide +kernel
theorem e0_700 : vm_ent 0 700 = some (.iload 4, 0, 0, 0) := by decide +kernel
theorem e0_702 : vm_ent 0 702 = some (.iconst 4, 0, 0, 0) := by decide +kernel
theorem e0_703 : vm_ent 0 703 = some (.iadd, 0, 0, 0) := by decide +kernel
theorem e0_704 : vm_ent 0 704 = some (.iaload, 0, 0, 0) := by decide +kernel
theorem e0_705 : vm_ent 0 705 = some (.i2l, 0, 0, 0) := by decide +kernel
theorem e0_706 : vm_ent 0 706 = some (.ldc2_w 34, 4294967295, 0, 951) := by decide +kernel
theorem e0_709 : vm_ent 0 709 = some (.land, 0, 0, 0) := by decide +kernel
theorem e0_710 : vm_ent 0 710 = some (.lor, 0, 0, 0) := by decide +kernel
theorem e0_711 : vm_ent 0 711 = some (.aload_n 3, 0, 0, 0) := by decide +kernel
theorem e0_712 : vm_ent 0 712 = some (.invokestatic 89, 124, 2, 554) := by decide +kernel
theorem e0_715 : vm_ent 0 715 = some (.istore 5, 0, 0, 0) := by decide +kernel
theorem e0_717 : vm_ent 0 717 = some (.aload_n 2, 0, 0, 0) := by decide +kernel
theorem e0_718 : vm_ent 0 718 = some (.aload_n 0, 0, 0, 0) := by decide +kernel
theorem e0_719 : vm_ent 0 719 = some (.iload 4, 0, 0, 0) := by decide +kernel
theorem e0_721 : vm_ent 0 721 = some (.iconst 1, 0, 0, 0) := by decide +kernel
theorem e0_722 : vm_ent 0 722 = some (.iadd, 0, 0, 0) := by decide +kernel
theorem e0_723 : vm_ent 0 723 = some (.iaload, 0, 0, 0) := by decide +kernel
theorem e0_724 : vm_ent 0 724 = some (.i2l, 0, 0, 0) := by decide +kernel
theorem e0_725 : vm_ent 0 725 = some (.bipush 32, 0, 0, 0) := by decide +kernel
theorem e0_727 : vm_ent 0 727 = some (.lshl, 0, 0, 0) := by decide +kernel
theorem e0_728 : vm_ent 0 728 = some (.aload_n 0, 0, 0, 0) := by decide +kernel
theorem e0_729 : vm_ent 0 729 = some (.iload 4, 0, 0, 0) := by decide +kernel
theorem e0_731 : vm_ent 0 731 = some (.iconst 2, 0, 0, 0) := by decide +kernel
theorem e0_732 : vm_ent 0 732 = some (.iadd, 0, 0, 0) := by decide +kernel
theorem e0_733 : vm_ent 0 733 = some (.iaload, 0, 0, 0) := by decide +kernel
theorem e0_734 : vm_ent 0 734 = some (.i2l, 0, 0, 0) := by decide +kernel
theorem e0_735 : vm_ent 0 735 = some (.ldc2_w 34, 4294967295, 0, 951) := by decide +kernel
theorem e0_738 : vm_ent 0 738 = some (.land, 0, 0, 0) := by decide +kernel
theorem e0_739 : vm_ent 0 739 = some (.lor, 0, 0, 0) := by decide +kernel
theorem e0_740 : vm_ent 0 740 = some (.aload_n 0, 0, 0, 0) := by decide +kernel
theorem e0_741 : vm_ent 0 741 = some (.iload 4, 0, 0, 0) := by decide +kernel
theorem e0_743 : vm_ent 0 743 = some (.iconst 3, 0, 0, 0) := by decide +kernel
theorem e0_744 : vm_ent 0 744 = some (.iadd, 0, 0, 0) := by decide +kernel
theorem e0_745 : vm_ent 0 745 = some (.iaload, 0, 0, 0) := by decide +kernel
theorem e0_746 : vm_ent 0 746 = some (.i2l, 0, 0, 0) := by decide +kernel
theorem e0_747 : vm_ent 0 747 = some (.bipush 32, 0, 0, 0) := by decide +kernel
theorem e0_749 : vm_ent 0 749 = some (.lshl, 0, 0, 0) := by decide +kernel
theorem e0_750 : vm_ent 0 750 = some (.aload_n 0, 0, 0, 0) := by decide +kernel
theorem e0_751 : vm_ent 0 751 = some (.iload 4, 0, 0, 0) := by decide +kernel
theorem e0_753 : vm_ent 0 753 = some (.iconst 4, 0, 0, 0) := by decide +kernel
theorem e0_754 : vm_ent 0 754 = some (.iadd, 0, 0, 0) := by decide +kernel
theorem e0_755 : vm_ent 0 755 = some (.iaload, 0, 0, 0) := by decide +kernel
theorem e0_756 : vm_ent 0 756 = some (.i2l, 0, 0, 0) := by decide +kernel
theorem e0_757 : vm_ent 0 757 = some (.ldc2_w 34, 4294967295, 0, 951) := by decide +kernel
theorem e0_760 : vm_ent 0 760 = some (.land, 0, 0, 0) := by decide +kernel
theorem e0_761 : vm_ent 0 761 = some (.lor, 0, 0, 0) := by decide +kernel
theorem e0_762 : vm_ent 0 762 = some (.invokevirtual 94, 122, 4, 947) := by decide +kernel
theorem e0_765 : vm_ent 0 765 = some (.lstore 6, 0, 0, 0) := by decide +kernel
theorem e0_767 : vm_ent 0 767 = some (.goto 3, 770, 0, 0) := by decide +kernel
theorem e0_770 : vm_ent 0 770 = some (.iinc 4 5, 0, 0, 0) := by decide +kernel
theorem e0_773 : vm_ent 0 773 = some (.goto (-750), 23, 0, 0) := by decide +kernel
theorem e0_776 : vm_ent 0 776 = some (.iconst 1, 0, 0, 0) := by decide +kernel
theorem e0_777 : vm_ent 0 777 = some (.ireturn, 0, 0, 0) := by decide +kernel
def hzu (p : Int) (u : Nat → Int32) : Prop := ∀ j : Nat, p ≤ (j : Int) → u j = 0
theorem hzu_m {p p1 : Int} {u : Nat → Int32} (h : hzu p u) (e : p ≤ p1) : hzu p1 u := fun j hj => h j (by omega)
theorem hzu_w {p : Int} {u w : Nat → Int32} (h : hzu p u) (e : w = u ∨ w = upd u p.toNat 0) : w = u := by
  rcases e with e | e
  · exact e
  · rw [e]
    funext j
    unfold upd
    by_cases q : j = p.toNat
    · rw [if_pos q, h j (by omega)]
    · rw [if_neg q]
theorem ux_q {u u1 : Nat → Int32} {p q i1 i2 : Int} (h : ((q = 0 ∧ u1 = u ∧ ((i1 < 0 ∨ p ≤ i1) ∨ u (i1).toNat = vz i2)) ∨ (q = 1 ∧ (0 ≤ i1 ∧ i1 < p) ∧ u (i1).toNat ≠ vz i2 ∧ u1 = upd u (i1).toNat (vz i2 &&& 1)))) : 0 ≤ q ∧ q ≤ 1 := by
  rcases h with ⟨h, _⟩ | ⟨h, _⟩ <;> omega
theorem ux_eq {u u1 w1 : Nat → Int32} {p q r i1 i2 j1 j2 : Int} (hZ : hzu p u) (e1 : j1 = i1) (e2 : j2 = i2) (h : ((q = 0 ∧ u1 = u ∧ ((i1 < 0 ∨ p ≤ i1) ∨ u (i1).toNat = vz i2)) ∨ (q = 1 ∧ (0 ≤ i1 ∧ i1 < p) ∧ u (i1).toNat ≠ vz i2 ∧ u1 = upd u (i1).toNat (vz i2 &&& 1)))) (k : ((r = 0 ∧ w1 = u ∧ ((j1 < 0 ∨ p ≤ j1) ∨ u (j1).toNat = vz j2)) ∨ (r = 1 ∧ (0 ≤ j1 ∧ j1 < p) ∧ u (j1).toNat ≠ vz j2 ∧ w1 = upd u (j1).toNat (vz j2 &&& 1)))) : q = r ∧ w1 = u1 ∧ ∀ p1 : Int, p ≤ p1 → hzu p1 u1 := by
  subst e1
  subst e2
  rcases h with ⟨a1, a2, a3⟩ | ⟨a1, a2, a3, a4⟩
  · rcases k with ⟨b1, b2, b3⟩ | ⟨b1, b2, b3, b4⟩
    · exact ⟨by omega, by rw [b2, a2], fun p1 hp => by rw [a2]; exact hzu_m hZ hp⟩
    · exfalso
      rcases a3 with a3 | a3
      · omega
      · exact b3 a3
  · rcases k with ⟨b1, b2, b3⟩ | ⟨b1, b2, b3, b4⟩
    · exfalso
      rcases b3 with b3 | b3
      · omega
      · exact a3 b3
    · refine ⟨by omega, by rw [b4, a4], fun p1 hp j hj => ?_⟩
      rw [a4]
      unfold upd
      rw [if_neg (by omega)]
      exact hZ j (by omega)
def laL (u v : Int32) : Int64 := (u.toInt64 <<< ((vz 32).toInt64 &&& 63)) ||| (v.toInt64 &&& Int64.ofNat 4294967295)
abbrev lwA (x : Int) : vq_A := [some (.ref 0), some (.ref 1), some (.ref 238), some (.ref 263), some (.int (vz x)), none, none, none]
/-- what a turn comes to: the end; the next turn; the call of pseudo -/
def lwQ (L : Nat) (xs : Nat → Int32) (x : Int) : vq_Q := fun pc ls st v1 => pc = 23 ∧ st = [] ∧ vq_ag (lwA (x + 5)) ls ∧ (x + 5 ≤ (L : Int)) ∧ ∃ (n p t : Int) (g : Int64) (u : Nat → Int32), lI L xs v1 n p n p t g u u ∧ hzu p u
def lwP (L : Nat) (xs : Nat → Int32) (x : Int) : vq_Q := fun pc ls st v1 => (pc = 777 ∧ st = [.int (vz 1)]) ∨ lwQ L xs x pc ls st v1 ∨ (pc = 712 ∧ st = [.ref 263, .long (laL (xs (x + 3).toNat) (xs (x + 4).toNat)), .long (laL (xs (x + 1).toNat) (xs (x + 2).toNat)), .ref 1] ∧ vq_ag (lwA x) ls ∧ (x + 5 ≤ (L : Int)) ∧ ∃ (n p t : Int) (g : Int64) (u : Nat → Int32), lI L xs v1 n p n p t g u u ∧ hzu p u)

set_option maxRecDepth 100000 in
set_option maxHeartbeats 8000000 in
theorem lw_turn {L : Nat} {xs : Nat → Int32} {vh : vm_H} {n p t : Int} {g : Int64} {x4 : Int} {u : Nat → Int32} (hL : lI L xs vh n p n p t g u u) (hZ : hzu p u) (h0 : 0 ≤ x4) (hx : x4 ≤ (L : Int)) (hl : L ≤ 2560) : vm_Wp 9 400 0 23 (lwA x4) [] vh (lwP L xs x4) := by
  have hbd := lI_b hL
  refine w_ldI e0_23 (fun _ => rfl) rfl ?_
  refine w_ldA e0_25 (fun _ => rfl) rfl ?_
  refine w_len e0_26 (lI_0 hL) (by decide) ?_
  refine w_kI e0_27 ?_
  refine w_isub e0_28 ?_
  refine w_ic e0_29 (by omega) (by omega) (fun (h1 : ((L : Int)) - 5 < x4) => ?_) (fun (h1 : x4 ≤ ((L : Int)) - 5) => ?_)
  ·
    refine w_kI e0_776 ?_
    exact w_end (fun ls hl => Or.inl ⟨rfl, rfl⟩)
  ·
    refine w_ldA e0_32 (fun _ => rfl) rfl ?_
    refine w_ldI e0_33 (fun _ => rfl) rfl ?_
    refine w_aldO e0_35 (lI_0 hL) (by omega) (by omega) (by omega) (fun q2 h3 hx4 => ?_)
    refine w_kB e0_36 rfl ?_
    refine w_iand e0_38 h3 (by omega) (fun q5 (h6 : 0 ≤ q5 ∧ q5 ≤ 15) => ?_)
    by_cases h7 : q5 < 0 ∨ 14 < q5
    ·
      refine w_swO (t := 770) e0_39 (by omega) h7 rfl ?_
      refine w_iinc (A1 := [some (.ref 0), some (.ref 1), some (.ref 238), some (.ref 263), some (.int (vz (x4 + 5))), none, none, none]) e0_770 rfl (by decide) rfl ?_
      refine w_x e0_773 (fun _ => rfl) ?_
      have hnp8 : n = n ∧ p = p := by omega
      have hZ9 : hzu p u := hzu_m hZ (by omega)
      exact w_sub (A1 := [some (.ref 0), some (.ref 1), some (.ref 238), some (.ref 263), some (.int (vz (x4 + 5))), none, none, none]) (And.intro rfl (And.intro rfl (And.intro rfl (And.intro rfl (And.intro rfl trivial))))) (w_end (fun ls hl => Or.inr (Or.inl ⟨rfl, rfl, hl, by omega, ⟨_, _, _, _, _, hL, hZ9⟩⟩)))
    ·
      have h9 : q5 = 0 ∨ q5 = 1 ∨ q5 = 2 ∨ q5 = 3 ∨ q5 = 4 ∨ q5 = 5 ∨ q5 = 6 ∨ q5 = 7 ∨ q5 = 8 ∨ q5 = 9 ∨ q5 = 10 ∨ q5 = 11 ∨ q5 = 12 ∨ q5 = 13 ∨ q5 = 14 := by omega
      rcases h9 with h9 | h9 | h9 | h9 | h9 | h9 | h9 | h9 | h9 | h9 | h9 | h9 | h9 | h9 | h9
      ·
        refine w_swI (t := 112) e0_39 (by omega) h7 (by rw [h9]; rfl) rfl ?_
        refine w_ldA e0_112 (fun _ => rfl) rfl ?_
        refine w_ldA e0_113 (fun _ => rfl) rfl ?_
        refine w_ldI e0_114 (fun _ => rfl) rfl ?_
        refine w_kI e0_116 ?_
        refine w_iadd e0_117 ?_
        refine w_aldO e0_118 (lI_0 hL) (by omega) (by omega) (by omega) (fun q10 h11 hx12 => ?_)
        refine w_if e0_119 h11 (fun (h13 : q10 = 0) => ?_) (fun (h13 : q10 ≠ 0) => ?_)
        ·
          refine w_kI e0_126 ?_
          obtain ⟨fs14, e15⟩ := lI_1 hL
          refine w_cv e0_127 (by decide) rfl e15 rfl (Nat.le_of_ble_eq_true rfl) (Nat.le_of_ble_eq_true rfl) (Nat.le_of_ble_eq_true rfl) (by decide) (by decide) (x44 hL (by omega)) (fun o16 v17 hq18 => ?_)
          obtain ⟨⟨n19, p20, hr22, hL23⟩, q24, h25, rfl⟩ := hq18
          refine w_x e0_130 (fun _ => rfl) ?_
          refine w_ldA e0_131 (fun _ => rfl) rfl ?_
          refine w_ldA e0_132 (fun _ => rfl) rfl ?_
          refine w_ldI e0_133 (fun _ => rfl) rfl ?_
          refine w_kI e0_135 ?_
          refine w_iadd e0_136 ?_
          refine w_aldO e0_137 (lI_0 hL23) (by omega) (by omega) (by omega) (fun q26 h27 hx28 => ?_)
          have hqq29 : q26 = q10 := (vz_inj h27 h11).mp (hx28.symm.trans hx12)
          refine w_if e0_138 h27 (fun (h30 : q26 = 0) => ?_) (fun (h30 : q26 ≠ 0) => ?_)
          ·
            refine w_kI e0_145 ?_
            obtain ⟨fs31, e32⟩ := lI_238 hL23
            refine w_cv e0_146 (by decide) rfl e32 rfl (Nat.le_of_ble_eq_true rfl) (Nat.le_of_ble_eq_true rfl) (Nat.le_of_ble_eq_true rfl) (by decide) (by decide) (y105 hL23 (by omega)) (fun o33 v34 hq35 => ?_)
            obtain ⟨⟨n36, p37, t38, hr39, hL40⟩, q41, h42, rfl⟩ := hq35
            refine w_x e0_149 (fun _ => rfl) ?_
            refine w_x e0_150 (fun _ => rfl) ?_
            refine w_iinc (A1 := [some (.ref 0), some (.ref 1), some (.ref 238), some (.ref 263), some (.int (vz (x4 + 5))), none, none, none]) e0_770 rfl (by decide) rfl ?_
            refine w_x e0_773 (fun _ => rfl) ?_
            have hnp43 : n36 = n19 ∧ p37 = p20 := by omega
            rw [hnp43.1, hnp43.2] at hL40
            have hZ9 : hzu p20 u := hzu_m hZ (by omega)
            exact w_sub (A1 := [some (.ref 0), some (.ref 1), some (.ref 238), some (.ref 263), some (.int (vz (x4 + 5))), none, none, none]) (And.intro rfl (And.intro rfl (And.intro rfl (And.intro rfl (And.intro rfl trivial))))) (w_end (fun ls hl => Or.inr (Or.inl ⟨rfl, rfl, hl, by omega, ⟨_, _, _, _, _, hL40, hZ9⟩⟩)))
          ·
            refine w_kI e0_141 ?_
            refine w_x e0_142 (fun _ => rfl) ?_
            obtain ⟨fs44, e45⟩ := lI_238 hL23
            refine w_cv e0_146 (by decide) rfl e45 rfl (Nat.le_of_ble_eq_true rfl) (Nat.le_of_ble_eq_true rfl) (Nat.le_of_ble_eq_true rfl) (by decide) (by decide) (y105 hL23 (by omega)) (fun o46 v47 hq48 => ?_)
            obtain ⟨⟨n49, p50, t51, hr52, hL53⟩, q54, h55, rfl⟩ := hq48
            refine w_x e0_149 (fun _ => rfl) ?_
            refine w_x e0_150 (fun _ => rfl) ?_
            refine w_iinc (A1 := [some (.ref 0), some (.ref 1), some (.ref 238), some (.ref 263), some (.int (vz (x4 + 5))), none, none, none]) e0_770 rfl (by decide) rfl ?_
            refine w_x e0_773 (fun _ => rfl) ?_
            have hnp56 : n49 = n19 ∧ p50 = p20 := by omega
            rw [hnp56.1, hnp56.2] at hL53
            have hZ9 : hzu p20 u := hzu_m hZ (by omega)
            exact w_sub (A1 := [some (.ref 0), some (.ref 1), some (.ref 238), some (.ref 263), some (.int (vz (x4 + 5))), none, none, none]) (And.intro rfl (And.intro rfl (And.intro rfl (And.intro rfl (And.intro rfl trivial))))) (w_end (fun ls hl => Or.inr (Or.inl ⟨rfl, rfl, hl, by omega, ⟨_, _, _, _, _, hL53, hZ9⟩⟩)))
        ·
          refine w_kI e0_122 ?_
          refine w_x e0_123 (fun _ => rfl) ?_
          obtain ⟨fs57, e58⟩ := lI_1 hL
          refine w_cv e0_127 (by decide) rfl e58 rfl (Nat.le_of_ble_eq_true rfl) (Nat.le_of_ble_eq_true rfl) (Nat.le_of_ble_eq_true rfl) (by decide) (by decide) (x44 hL (by omega)) (fun o59 v60 hq61 => ?_)
          obtain ⟨⟨n62, p63, hr65, hL66⟩, q67, h68, rfl⟩ := hq61
          refine w_x e0_130 (fun _ => rfl) ?_
          refine w_ldA e0_131 (fun _ => rfl) rfl ?_
          refine w_ldA e0_132 (fun _ => rfl) rfl ?_
          refine w_ldI e0_133 (fun _ => rfl) rfl ?_
          refine w_kI e0_135 ?_
          refine w_iadd e0_136 ?_
          refine w_aldO e0_137 (lI_0 hL66) (by omega) (by omega) (by omega) (fun q69 h70 hx71 => ?_)
          have hqq72 : q69 = q10 := (vz_inj h70 h11).mp (hx71.symm.trans hx12)
          refine w_if e0_138 h70 (fun (h73 : q69 = 0) => ?_) (fun (h73 : q69 ≠ 0) => ?_)
          ·
            refine w_kI e0_145 ?_
            obtain ⟨fs74, e75⟩ := lI_238 hL66
            refine w_cv e0_146 (by decide) rfl e75 rfl (Nat.le_of_ble_eq_true rfl) (Nat.le_of_ble_eq_true rfl) (Nat.le_of_ble_eq_true rfl) (by decide) (by decide) (y105 hL66 (by omega)) (fun o76 v77 hq78 => ?_)
            obtain ⟨⟨n79, p80, t81, hr82, hL83⟩, q84, h85, rfl⟩ := hq78
            refine w_x e0_149 (fun _ => rfl) ?_
            refine w_x e0_150 (fun _ => rfl) ?_
            refine w_iinc (A1 := [some (.ref 0), some (.ref 1), some (.ref 238), some (.ref 263), some (.int (vz (x4 + 5))), none, none, none]) e0_770 rfl (by decide) rfl ?_
            refine w_x e0_773 (fun _ => rfl) ?_
            have hnp86 : n79 = n62 ∧ p80 = p63 := by omega
            rw [hnp86.1, hnp86.2] at hL83
            have hZ9 : hzu p63 u := hzu_m hZ (by omega)
            exact w_sub (A1 := [some (.ref 0), some (.ref 1), some (.ref 238), some (.ref 263), some (.int (vz (x4 + 5))), none, none, none]) (And.intro rfl (And.intro rfl (And.intro rfl (And.intro rfl (And.intro rfl trivial))))) (w_end (fun ls hl => Or.inr (Or.inl ⟨rfl, rfl, hl, by omega, ⟨_, _, _, _, _, hL83, hZ9⟩⟩)))
          ·
            refine w_kI e0_141 ?_
            refine w_x e0_142 (fun _ => rfl) ?_
            obtain ⟨fs87, e88⟩ := lI_238 hL66
            refine w_cv e0_146 (by decide) rfl e88 rfl (Nat.le_of_ble_eq_true rfl) (Nat.le_of_ble_eq_true rfl) (Nat.le_of_ble_eq_true rfl) (by decide) (by decide) (y105 hL66 (by omega)) (fun o89 v90 hq91 => ?_)
            obtain ⟨⟨n92, p93, t94, hr95, hL96⟩, q97, h98, rfl⟩ := hq91
            refine w_x e0_149 (fun _ => rfl) ?_
            refine w_x e0_150 (fun _ => rfl) ?_
            refine w_iinc (A1 := [some (.ref 0), some (.ref 1), some (.ref 238), some (.ref 263), some (.int (vz (x4 + 5))), none, none, none]) e0_770 rfl (by decide) rfl ?_
            refine w_x e0_773 (fun _ => rfl) ?_
            have hnp99 : n92 = n62 ∧ p93 = p63 := by omega
            rw [hnp99.1, hnp99.2] at hL96
            have hZ9 : hzu p63 u := hzu_m hZ (by omega)
            exact w_sub (A1 := [some (.ref 0), some (.ref 1), some (.ref 238), some (.ref 263), some (.int (vz (x4 + 5))), none, none, none]) (And.intro rfl (And.intro rfl (And.intro rfl (And.intro rfl (And.intro rfl trivial))))) (w_end (fun ls hl => Or.inr (Or.inl ⟨rfl, rfl, hl, by omega, ⟨_, _, _, _, _, hL96, hZ9⟩⟩)))
      ·
        refine w_swI (t := 153) e0_39 (by omega) h7 (by rw [h9]; rfl) rfl ?_
        refine w_ldA e0_153 (fun _ => rfl) rfl ?_
        refine w_ldA e0_154 (fun _ => rfl) rfl ?_
        refine w_ldI e0_155 (fun _ => rfl) rfl ?_
        refine w_kI e0_157 ?_
        refine w_iadd e0_158 ?_
        refine w_aldO e0_159 (lI_0 hL) (by omega) (by omega) (by omega) (fun q100 h101 hx102 => ?_)
        refine w_ldA e0_160 (fun _ => rfl) rfl ?_
        refine w_ldI e0_161 (fun _ => rfl) rfl ?_
        refine w_kI e0_163 ?_
        refine w_iadd e0_164 ?_
        refine w_aldO e0_165 (lI_0 hL) (by omega) (by omega) (by omega) (fun q103 h104 hx105 => ?_)
        obtain ⟨fs106, e107⟩ := lI_1 hL
        refine w_cv e0_166 (by decide) rfl e107 rfl (Nat.le_of_ble_eq_true rfl) (Nat.le_of_ble_eq_true rfl) (Nat.le_of_ble_eq_true rfl) (by decide) (by decide) (x45 hL h101 h104) (fun o108 v109 hq110 => ?_)
        obtain ⟨⟨n111, p112, hr114, hL115⟩, q116, h117, rfl⟩ := hq110
        refine w_x e0_169 (fun _ => rfl) ?_
        refine w_ldA e0_170 (fun _ => rfl) rfl ?_
        refine w_ldA e0_171 (fun _ => rfl) rfl ?_
        refine w_ldI e0_172 (fun _ => rfl) rfl ?_
        refine w_kI e0_174 ?_
        refine w_iadd e0_175 ?_
        refine w_aldO e0_176 (lI_0 hL115) (by omega) (by omega) (by omega) (fun q118 h119 hx120 => ?_)
        have hqq121 : q118 = q100 := (vz_inj h119 h101).mp (hx120.symm.trans hx102)
        refine w_ldA e0_177 (fun _ => rfl) rfl ?_
        refine w_ldI e0_178 (fun _ => rfl) rfl ?_
        refine w_kI e0_180 ?_
        refine w_iadd e0_181 ?_
        refine w_aldO e0_182 (lI_0 hL115) (by omega) (by omega) (by omega) (fun q122 h123 hx124 => ?_)
        have hqq125 : q122 = q103 := (vz_inj h123 h104).mp (hx124.symm.trans hx105)
        obtain ⟨fs126, e127⟩ := lI_238 hL115
        refine w_cv e0_183 (by decide) rfl e127 rfl (Nat.le_of_ble_eq_true rfl) (Nat.le_of_ble_eq_true rfl) (Nat.le_of_ble_eq_true rfl) (by decide) (by decide) (y106 hL115 h119 h123) (fun o128 v129 hq130 => ?_)
        obtain ⟨⟨n131, p132, t133, hr134, hL135⟩, q136, h137, rfl⟩ := hq130
        refine w_x e0_186 (fun _ => rfl) ?_
        refine w_x e0_187 (fun _ => rfl) ?_
        refine w_iinc (A1 := [some (.ref 0), some (.ref 1), some (.ref 238), some (.ref 263), some (.int (vz (x4 + 5))), none, none, none]) e0_770 rfl (by decide) rfl ?_
        refine w_x e0_773 (fun _ => rfl) ?_
        have hnp138 : n131 = n111 ∧ p132 = p112 := by omega
        rw [hnp138.1, hnp138.2] at hL135
        have hZ9 : hzu p112 u := hzu_m hZ (by omega)
        exact w_sub (A1 := [some (.ref 0), some (.ref 1), some (.ref 238), some (.ref 263), some (.int (vz (x4 + 5))), none, none, none]) (And.intro rfl (And.intro rfl (And.intro rfl (And.intro rfl (And.intro rfl trivial))))) (w_end (fun ls hl => Or.inr (Or.inl ⟨rfl, rfl, hl, by omega, ⟨_, _, _, _, _, hL135, hZ9⟩⟩)))
      ·
        refine w_swI (t := 190) e0_39 (by omega) h7 (by rw [h9]; rfl) rfl ?_
        refine w_ldA e0_190 (fun _ => rfl) rfl ?_
        obtain ⟨fs139, e140⟩ := lI_1 hL
        refine w_cv e0_191 (by decide) rfl e140 rfl (Nat.le_of_ble_eq_true rfl) (Nat.le_of_ble_eq_true rfl) (Nat.le_of_ble_eq_true rfl) (by decide) (by decide) (x46 hL) (fun o141 v142 hq143 => ?_)
        obtain ⟨⟨n144, p145, hr147, hL148⟩, q149, h150, rfl⟩ := hq143
        refine w_x e0_194 (fun _ => rfl) ?_
        refine w_ldA e0_195 (fun _ => rfl) rfl ?_
        obtain ⟨fs151, e152⟩ := lI_238 hL148
        refine w_cv e0_196 (by decide) rfl e152 rfl (Nat.le_of_ble_eq_true rfl) (Nat.le_of_ble_eq_true rfl) (Nat.le_of_ble_eq_true rfl) (by decide) (by decide) (y107 hL148) (fun o153 v154 hq155 => ?_)
        obtain ⟨p158, t157, u156, q162, hw159, hp160, hL161, h163, rfl⟩ := hq155
        refine w_x e0_199 (fun _ => rfl) ?_
        refine w_x e0_200 (fun _ => rfl) ?_
        refine w_iinc (A1 := [some (.ref 0), some (.ref 1), some (.ref 238), some (.ref 263), some (.int (vz (x4 + 5))), none, none, none]) e0_770 rfl (by decide) rfl ?_
        refine w_x e0_773 (fun _ => rfl) ?_
        have hnp164 : n = n144 ∧ p158 = p145 := by omega
        rw [hnp164.1, hnp164.2] at hL161
        have hZ9 : hzu p145 u := hzu_m hZ (by omega)
        rw [hzu_w hZ hw159] at hL161
        exact w_sub (A1 := [some (.ref 0), some (.ref 1), some (.ref 238), some (.ref 263), some (.int (vz (x4 + 5))), none, none, none]) (And.intro rfl (And.intro rfl (And.intro rfl (And.intro rfl (And.intro rfl trivial))))) (w_end (fun ls hl => Or.inr (Or.inl ⟨rfl, rfl, hl, by omega, ⟨_, _, _, _, _, hL161, hZ9⟩⟩)))
      ·
        refine w_swI (t := 203) e0_39 (by omega) h7 (by rw [h9]; rfl) rfl ?_
        refine w_ldA e0_203 (fun _ => rfl) rfl ?_
        refine w_ldA e0_204 (fun _ => rfl) rfl ?_
        refine w_ldI e0_205 (fun _ => rfl) rfl ?_
        refine w_kI e0_207 ?_
        refine w_iadd e0_208 ?_
        refine w_aldO e0_209 (lI_0 hL) (by omega) (by omega) (by omega) (fun q165 h166 hx167 => ?_)
        refine w_ldA e0_210 (fun _ => rfl) rfl ?_
        refine w_ldI e0_211 (fun _ => rfl) rfl ?_
        refine w_kI e0_213 ?_
        refine w_iadd e0_214 ?_
        refine w_aldO e0_215 (lI_0 hL) (by omega) (by omega) (by omega) (fun q168 h169 hx170 => ?_)
        refine w_oL e0_216 (fun _ => rfl) (fun l171 => ?_)
        refine w_kB e0_217 rfl ?_
        refine w_oL e0_219 (fun _ => rfl) (fun l172 => ?_)
        refine w_ldA e0_220 (fun _ => rfl) rfl ?_
        refine w_ldI e0_221 (fun _ => rfl) rfl ?_
        refine w_kI e0_223 ?_
        refine w_iadd e0_224 ?_
        refine w_aldO e0_225 (lI_0 hL) (by omega) (by omega) (by omega) (fun q173 h174 hx175 => ?_)
        refine w_oL e0_226 (fun _ => rfl) (fun l176 => ?_)
        refine w_oL e0_227 (fun _ => rfl) (fun l177 => ?_)
        refine w_oL e0_230 (fun _ => rfl) (fun l178 => ?_)
        refine w_oL e0_231 (fun _ => rfl) (fun l179 => ?_)
        refine w_ldA e0_232 (fun _ => rfl) rfl ?_
        refine w_ldI e0_233 (fun _ => rfl) rfl ?_
        refine w_kI e0_235 ?_
        refine w_iadd e0_236 ?_
        refine w_aldO e0_237 (lI_0 hL) (by omega) (by omega) (by omega) (fun q180 h181 hx182 => ?_)
        obtain ⟨fs183, e184⟩ := lI_1 hL
        refine w_cv e0_238 (by decide) rfl e184 rfl (Nat.le_of_ble_eq_true rfl) (Nat.le_of_ble_eq_true rfl) (Nat.le_of_ble_eq_true rfl) (by decide) (by decide) (x47 hL h166 h181) (fun o185 v186 hq187 => ?_)
        obtain ⟨⟨n188, p189, hr191, hL192⟩, q193, h194, rfl⟩ := hq187
        refine w_x e0_241 (fun _ => rfl) ?_
        refine w_ldA e0_242 (fun _ => rfl) rfl ?_
        refine w_ldA e0_243 (fun _ => rfl) rfl ?_
        refine w_ldI e0_244 (fun _ => rfl) rfl ?_
        refine w_kI e0_246 ?_
        refine w_iadd e0_247 ?_
        refine w_aldO e0_248 (lI_0 hL192) (by omega) (by omega) (by omega) (fun q195 h196 hx197 => ?_)
        have hqq198 : q195 = q165 := (vz_inj h196 h166).mp (hx197.symm.trans hx167)
        refine w_ldA e0_249 (fun _ => rfl) rfl ?_
        refine w_ldI e0_250 (fun _ => rfl) rfl ?_
        refine w_kI e0_252 ?_
        refine w_iadd e0_253 ?_
        refine w_aldO e0_254 (lI_0 hL192) (by omega) (by omega) (by omega) (fun q199 h200 hx201 => ?_)
        have hqq202 : q199 = q168 := (vz_inj h200 h169).mp (hx201.symm.trans hx170)
        refine w_oL e0_255 (fun _ => rfl) (fun l203 => ?_)
        refine w_kB e0_256 rfl ?_
        refine w_oL e0_258 (fun _ => rfl) (fun l204 => ?_)
        refine w_ldA e0_259 (fun _ => rfl) rfl ?_
        refine w_ldI e0_260 (fun _ => rfl) rfl ?_
        refine w_kI e0_262 ?_
        refine w_iadd e0_263 ?_
        refine w_aldO e0_264 (lI_0 hL192) (by omega) (by omega) (by omega) (fun q205 h206 hx207 => ?_)
        have hqq208 : q205 = q173 := (vz_inj h206 h174).mp (hx207.symm.trans hx175)
        refine w_oL e0_265 (fun _ => rfl) (fun l209 => ?_)
        refine w_oL e0_266 (fun _ => rfl) (fun l210 => ?_)
        refine w_oL e0_269 (fun _ => rfl) (fun l211 => ?_)
        refine w_oL e0_270 (fun _ => rfl) (fun l212 => ?_)
        refine w_ldA e0_271 (fun _ => rfl) rfl ?_
        refine w_ldI e0_272 (fun _ => rfl) rfl ?_
        refine w_kI e0_274 ?_
        refine w_iadd e0_275 ?_
        refine w_aldO e0_276 (lI_0 hL192) (by omega) (by omega) (by omega) (fun q213 h214 hx215 => ?_)
        have hqq216 : q213 = q180 := (vz_inj h214 h181).mp (hx215.symm.trans hx182)
        obtain ⟨fs217, e218⟩ := lI_238 hL192
        refine w_cv e0_277 (by decide) rfl e218 rfl (Nat.le_of_ble_eq_true rfl) (Nat.le_of_ble_eq_true rfl) (Nat.le_of_ble_eq_true rfl) (by decide) (by decide) (y108 hL192 h196 h214) (fun o219 v220 hq221 => ?_)
        obtain ⟨⟨n222, p223, t224, hr225, hL226⟩, q227, h228, rfl⟩ := hq221
        refine w_x e0_280 (fun _ => rfl) ?_
        refine w_x e0_281 (fun _ => rfl) ?_
        refine w_iinc (A1 := [some (.ref 0), some (.ref 1), some (.ref 238), some (.ref 263), some (.int (vz (x4 + 5))), none, none, none]) e0_770 rfl (by decide) rfl ?_
        refine w_x e0_773 (fun _ => rfl) ?_
        have hnp229 : n222 = n188 ∧ p223 = p189 := by omega
        rw [hnp229.1, hnp229.2] at hL226
        have hZ9 : hzu p189 u := hzu_m hZ (by omega)
        exact w_sub (A1 := [some (.ref 0), some (.ref 1), some (.ref 238), some (.ref 263), some (.int (vz (x4 + 5))), none, none, none]) (And.intro rfl (And.intro rfl (And.intro rfl (And.intro rfl (And.intro rfl trivial))))) (w_end (fun ls hl => Or.inr (Or.inl ⟨rfl, rfl, hl, by omega, ⟨_, _, _, _, _, hL226, hZ9⟩⟩)))
      ·
        refine w_swI (t := 284) e0_39 (by omega) h7 (by rw [h9]; rfl) rfl ?_
        refine w_ldA e0_284 (fun _ => rfl) rfl ?_
        refine w_ldA e0_285 (fun _ => rfl) rfl ?_
        refine w_ldI e0_286 (fun _ => rfl) rfl ?_
        refine w_kI e0_288 ?_
        refine w_iadd e0_289 ?_
        refine w_aldO e0_290 (lI_0 hL) (by omega) (by omega) (by omega) (fun q230 h231 hx232 => ?_)
        refine w_ldA e0_291 (fun _ => rfl) rfl ?_
        refine w_ldI e0_292 (fun _ => rfl) rfl ?_
        refine w_kI e0_294 ?_
        refine w_iadd e0_295 ?_
        refine w_aldO e0_296 (lI_0 hL) (by omega) (by omega) (by omega) (fun q233 h234 hx235 => ?_)
        refine w_if e0_297 h234 (fun (h236 : q233 = 0) => ?_) (fun (h236 : q233 ≠ 0) => ?_)
        ·
          refine w_kI e0_304 ?_
          obtain ⟨fs237, e238⟩ := lI_1 hL
          refine w_cv e0_305 (by decide) rfl e238 rfl (Nat.le_of_ble_eq_true rfl) (Nat.le_of_ble_eq_true rfl) (Nat.le_of_ble_eq_true rfl) (by decide) (by decide) (x48 hL h231 (by omega)) (fun o239 v240 hq241 => ?_)
          obtain ⟨u242, q248, hL247, h249, rfl⟩ := hq241
          have hb250 := ux_q h249
          refine w_ldA e0_308 (fun _ => rfl) rfl ?_
          refine w_ldA e0_309 (fun _ => rfl) rfl ?_
          refine w_ldI e0_310 (fun _ => rfl) rfl ?_
          refine w_kI e0_312 ?_
          refine w_iadd e0_313 ?_
          refine w_aldO e0_314 (lI_0 hL247) (by omega) (by omega) (by omega) (fun q251 h252 hx253 => ?_)
          have hqq254 : q251 = q230 := (vz_inj h252 h231).mp (hx253.symm.trans hx232)
          refine w_ldA e0_315 (fun _ => rfl) rfl ?_
          refine w_ldI e0_316 (fun _ => rfl) rfl ?_
          refine w_kI e0_318 ?_
          refine w_iadd e0_319 ?_
          refine w_aldO e0_320 (lI_0 hL247) (by omega) (by omega) (by omega) (fun q255 h256 hx257 => ?_)
          have hqq258 : q255 = q233 := (vz_inj h256 h234).mp (hx257.symm.trans hx235)
          refine w_if e0_321 h256 (fun (h259 : q255 = 0) => ?_) (fun (h259 : q255 ≠ 0) => ?_)
          ·
            refine w_kI e0_328 ?_
            obtain ⟨fs260, e261⟩ := lI_238 hL247
            refine w_cv e0_329 (by decide) rfl e261 rfl (Nat.le_of_ble_eq_true rfl) (Nat.le_of_ble_eq_true rfl) (Nat.le_of_ble_eq_true rfl) (by decide) (by decide) (y109 hL247 h252 (by omega)) (fun o262 v263 hq264 => ?_)
            obtain ⟨t266, u265, q271, hL270, h272, rfl⟩ := hq264
            have hb273 := ux_q h272
            have hue := ux_eq hZ (by omega) (by omega) h249 h272
            have huq := hue.1
            refine w_ic e0_332 (by omega) (by omega) (fun (h274 : q248 = q271) => ?_) (fun (h274 : q248 ≠ q271) => ?_)
            ·
              refine w_iinc (A1 := [some (.ref 0), some (.ref 1), some (.ref 238), some (.ref 263), some (.int (vz (x4 + 5))), none, none, none]) e0_770 rfl (by decide) rfl ?_
              refine w_x e0_773 (fun _ => rfl) ?_
              have hnp275 : n = n ∧ p = p := by omega
              have hZ9 : hzu p u242 := hue.2.2 _ (by omega)
              rw [hue.2.1] at hL270
              exact w_sub (A1 := [some (.ref 0), some (.ref 1), some (.ref 238), some (.ref 263), some (.int (vz (x4 + 5))), none, none, none]) (And.intro rfl (And.intro rfl (And.intro rfl (And.intro rfl (And.intro rfl trivial))))) (w_end (fun ls hl => Or.inr (Or.inl ⟨rfl, rfl, hl, by omega, ⟨_, _, _, _, _, hL270, hZ9⟩⟩)))
            ·
              refine w_kI e0_335 ?_
              exfalso; omega
          ·
            refine w_kI e0_324 ?_
            refine w_x e0_325 (fun _ => rfl) ?_
            obtain ⟨fs276, e277⟩ := lI_238 hL247
            refine w_cv e0_329 (by decide) rfl e277 rfl (Nat.le_of_ble_eq_true rfl) (Nat.le_of_ble_eq_true rfl) (Nat.le_of_ble_eq_true rfl) (by decide) (by decide) (y109 hL247 h252 (by omega)) (fun o278 v279 hq280 => ?_)
            obtain ⟨t282, u281, q287, hL286, h288, rfl⟩ := hq280
            have hb289 := ux_q h288
            have hue := ux_eq hZ (by omega) (by omega) h249 h288
            have huq := hue.1
            refine w_ic e0_332 (by omega) (by omega) (fun (h290 : q248 = q287) => ?_) (fun (h290 : q248 ≠ q287) => ?_)
            ·
              refine w_iinc (A1 := [some (.ref 0), some (.ref 1), some (.ref 238), some (.ref 263), some (.int (vz (x4 + 5))), none, none, none]) e0_770 rfl (by decide) rfl ?_
              refine w_x e0_773 (fun _ => rfl) ?_
              have hnp291 : n = n ∧ p = p := by omega
              have hZ9 : hzu p u242 := hue.2.2 _ (by omega)
              rw [hue.2.1] at hL286
              exact w_sub (A1 := [some (.ref 0), some (.ref 1), some (.ref 238), some (.ref 263), some (.int (vz (x4 + 5))), none, none, none]) (And.intro rfl (And.intro rfl (And.intro rfl (And.intro rfl (And.intro rfl trivial))))) (w_end (fun ls hl => Or.inr (Or.inl ⟨rfl, rfl, hl, by omega, ⟨_, _, _, _, _, hL286, hZ9⟩⟩)))
            ·
              refine w_kI e0_335 ?_
              exfalso; omega
        ·
          refine w_kI e0_300 ?_
          refine w_x e0_301 (fun _ => rfl) ?_
          obtain ⟨fs292, e293⟩ := lI_1 hL
          refine w_cv e0_305 (by decide) rfl e293 rfl (Nat.le_of_ble_eq_true rfl) (Nat.le_of_ble_eq_true rfl) (Nat.le_of_ble_eq_true rfl) (by decide) (by decide) (x48 hL h231 (by omega)) (fun o294 v295 hq296 => ?_)
          obtain ⟨u297, q303, hL302, h304, rfl⟩ := hq296
          have hb305 := ux_q h304
          refine w_ldA e0_308 (fun _ => rfl) rfl ?_
          refine w_ldA e0_309 (fun _ => rfl) rfl ?_
          refine w_ldI e0_310 (fun _ => rfl) rfl ?_
          refine w_kI e0_312 ?_
          refine w_iadd e0_313 ?_
          refine w_aldO e0_314 (lI_0 hL302) (by omega) (by omega) (by omega) (fun q306 h307 hx308 => ?_)
          have hqq309 : q306 = q230 := (vz_inj h307 h231).mp (hx308.symm.trans hx232)
          refine w_ldA e0_315 (fun _ => rfl) rfl ?_
          refine w_ldI e0_316 (fun _ => rfl) rfl ?_
          refine w_kI e0_318 ?_
          refine w_iadd e0_319 ?_
          refine w_aldO e0_320 (lI_0 hL302) (by omega) (by omega) (by omega) (fun q310 h311 hx312 => ?_)
          have hqq313 : q310 = q233 := (vz_inj h311 h234).mp (hx312.symm.trans hx235)
          refine w_if e0_321 h311 (fun (h314 : q310 = 0) => ?_) (fun (h314 : q310 ≠ 0) => ?_)
          ·
            refine w_kI e0_328 ?_
            obtain ⟨fs315, e316⟩ := lI_238 hL302
            refine w_cv e0_329 (by decide) rfl e316 rfl (Nat.le_of_ble_eq_true rfl) (Nat.le_of_ble_eq_true rfl) (Nat.le_of_ble_eq_true rfl) (by decide) (by decide) (y109 hL302 h307 (by omega)) (fun o317 v318 hq319 => ?_)
            obtain ⟨t321, u320, q326, hL325, h327, rfl⟩ := hq319
            have hb328 := ux_q h327
            have hue := ux_eq hZ (by omega) (by omega) h304 h327
            have huq := hue.1
            refine w_ic e0_332 (by omega) (by omega) (fun (h329 : q303 = q326) => ?_) (fun (h329 : q303 ≠ q326) => ?_)
            ·
              refine w_iinc (A1 := [some (.ref 0), some (.ref 1), some (.ref 238), some (.ref 263), some (.int (vz (x4 + 5))), none, none, none]) e0_770 rfl (by decide) rfl ?_
              refine w_x e0_773 (fun _ => rfl) ?_
              have hnp330 : n = n ∧ p = p := by omega
              have hZ9 : hzu p u297 := hue.2.2 _ (by omega)
              rw [hue.2.1] at hL325
              exact w_sub (A1 := [some (.ref 0), some (.ref 1), some (.ref 238), some (.ref 263), some (.int (vz (x4 + 5))), none, none, none]) (And.intro rfl (And.intro rfl (And.intro rfl (And.intro rfl (And.intro rfl trivial))))) (w_end (fun ls hl => Or.inr (Or.inl ⟨rfl, rfl, hl, by omega, ⟨_, _, _, _, _, hL325, hZ9⟩⟩)))
            ·
              refine w_kI e0_335 ?_
              exfalso; omega
          ·
            refine w_kI e0_324 ?_
            refine w_x e0_325 (fun _ => rfl) ?_
            obtain ⟨fs331, e332⟩ := lI_238 hL302
            refine w_cv e0_329 (by decide) rfl e332 rfl (Nat.le_of_ble_eq_true rfl) (Nat.le_of_ble_eq_true rfl) (Nat.le_of_ble_eq_true rfl) (by decide) (by decide) (y109 hL302 h307 (by omega)) (fun o333 v334 hq335 => ?_)
            obtain ⟨t337, u336, q342, hL341, h343, rfl⟩ := hq335
            have hb344 := ux_q h343
            have hue := ux_eq hZ (by omega) (by omega) h304 h343
            have huq := hue.1
            refine w_ic e0_332 (by omega) (by omega) (fun (h345 : q303 = q342) => ?_) (fun (h345 : q303 ≠ q342) => ?_)
            ·
              refine w_iinc (A1 := [some (.ref 0), some (.ref 1), some (.ref 238), some (.ref 263), some (.int (vz (x4 + 5))), none, none, none]) e0_770 rfl (by decide) rfl ?_
              refine w_x e0_773 (fun _ => rfl) ?_
              have hnp346 : n = n ∧ p = p := by omega
              have hZ9 : hzu p u297 := hue.2.2 _ (by omega)
              rw [hue.2.1] at hL341
              exact w_sub (A1 := [some (.ref 0), some (.ref 1), some (.ref 238), some (.ref 263), some (.int (vz (x4 + 5))), none, none, none]) (And.intro rfl (And.intro rfl (And.intro rfl (And.intro rfl (And.intro rfl trivial))))) (w_end (fun ls hl => Or.inr (Or.inl ⟨rfl, rfl, hl, by omega, ⟨_, _, _, _, _, hL341, hZ9⟩⟩)))
            ·
              refine w_kI e0_335 ?_
              exfalso; omega
      ·
        refine w_swI (t := 337) e0_39 (by omega) h7 (by rw [h9]; rfl) rfl ?_
        refine w_ldA e0_337 (fun _ => rfl) rfl ?_
        obtain ⟨fs347, e348⟩ := lI_1 hL
        refine w_cv e0_338 (by decide) rfl e348 rfl (Nat.le_of_ble_eq_true rfl) (Nat.le_of_ble_eq_true rfl) (Nat.le_of_ble_eq_true rfl) (by decide) (by decide) (x49 hL) (fun o349 v350 hq351 => ?_)
        obtain ⟨⟨n352, p353, hr355, hL356⟩, q357, h358, rfl⟩ := hq351
        refine w_x e0_341 (fun _ => rfl) ?_
        refine w_ldA e0_342 (fun _ => rfl) rfl ?_
        obtain ⟨fs359, e360⟩ := lI_238 hL356
        refine w_cv e0_343 (by decide) rfl e360 rfl (Nat.le_of_ble_eq_true rfl) (Nat.le_of_ble_eq_true rfl) (Nat.le_of_ble_eq_true rfl) (by decide) (by decide) (y102 hL356) (fun o361 v362 hq363 => ?_)
        obtain ⟨⟨n364, p365, t366, hr367, hL368⟩, q369, h370, rfl⟩ := hq363
        refine w_x e0_346 (fun _ => rfl) ?_
        refine w_x e0_347 (fun _ => rfl) ?_
        refine w_iinc (A1 := [some (.ref 0), some (.ref 1), some (.ref 238), some (.ref 263), some (.int (vz (x4 + 5))), none, none, none]) e0_770 rfl (by decide) rfl ?_
        refine w_x e0_773 (fun _ => rfl) ?_
        have hnp371 : n364 = n352 ∧ p365 = p353 := by omega
        rw [hnp371.1, hnp371.2] at hL368
        have hZ9 : hzu p353 u := hzu_m hZ (by omega)
        exact w_sub (A1 := [some (.ref 0), some (.ref 1), some (.ref 238), some (.ref 263), some (.int (vz (x4 + 5))), none, none, none]) (And.intro rfl (And.intro rfl (And.intro rfl (And.intro rfl (And.intro rfl trivial))))) (w_end (fun ls hl => Or.inr (Or.inl ⟨rfl, rfl, hl, by omega, ⟨_, _, _, _, _, hL368, hZ9⟩⟩)))
      ·
        refine w_swI (t := 350) e0_39 (by omega) h7 (by rw [h9]; rfl) rfl ?_
        refine w_ldA e0_350 (fun _ => rfl) rfl ?_
        refine w_ldA e0_351 (fun _ => rfl) rfl ?_
        refine w_ldI e0_352 (fun _ => rfl) rfl ?_
        refine w_kI e0_354 ?_
        refine w_iadd e0_355 ?_
        refine w_aldO e0_356 (lI_0 hL) (by omega) (by omega) (by omega) (fun q372 h373 hx374 => ?_)
        obtain ⟨fs375, e376⟩ := lI_1 hL
        refine w_cv e0_357 (by decide) rfl e376 rfl (Nat.le_of_ble_eq_true rfl) (Nat.le_of_ble_eq_true rfl) (Nat.le_of_ble_eq_true rfl) (by decide) (by decide) (x50 hL h373) (fun o377 v378 hq379 => ?_)
        obtain ⟨⟨n380, p381, hr383, hL384⟩, q385, h386, rfl⟩ := hq379
        refine w_x e0_360 (fun _ => rfl) ?_
        refine w_ldA e0_361 (fun _ => rfl) rfl ?_
        refine w_ldA e0_362 (fun _ => rfl) rfl ?_
        refine w_ldI e0_363 (fun _ => rfl) rfl ?_
        refine w_kI e0_365 ?_
        refine w_iadd e0_366 ?_
        refine w_aldO e0_367 (lI_0 hL384) (by omega) (by omega) (by omega) (fun q387 h388 hx389 => ?_)
        have hqq390 : q387 = q372 := (vz_inj h388 h373).mp (hx389.symm.trans hx374)
        obtain ⟨fs391, e392⟩ := lI_238 hL384
        refine w_cv e0_368 (by decide) rfl e392 rfl (Nat.le_of_ble_eq_true rfl) (Nat.le_of_ble_eq_true rfl) (Nat.le_of_ble_eq_true rfl) (by decide) (by decide) (y104 hL384 h388) (fun o393 v394 hq395 => ?_)
        obtain ⟨⟨n396, p397, t398, hr399, hL400⟩, q401, h402, rfl⟩ := hq395
        refine w_x e0_371 (fun _ => rfl) ?_
        refine w_x e0_372 (fun _ => rfl) ?_
        refine w_iinc (A1 := [some (.ref 0), some (.ref 1), some (.ref 238), some (.ref 263), some (.int (vz (x4 + 5))), none, none, none]) e0_770 rfl (by decide) rfl ?_
        refine w_x e0_773 (fun _ => rfl) ?_
        have hnp403 : n396 = n380 ∧ p397 = p381 := by omega
        rw [hnp403.1, hnp403.2] at hL400
        have hZ9 : hzu p381 u := hzu_m hZ (by omega)
        exact w_sub (A1 := [some (.ref 0), some (.ref 1), some (.ref 238), some (.ref 263), some (.int (vz (x4 + 5))), none, none, none]) (And.intro rfl (And.intro rfl (And.intro rfl (And.intro rfl (And.intro rfl trivial))))) (w_end (fun ls hl => Or.inr (Or.inl ⟨rfl, rfl, hl, by omega, ⟨_, _, _, _, _, hL400, hZ9⟩⟩)))
      ·
        refine w_swI (t := 375) e0_39 (by omega) h7 (by rw [h9]; rfl) rfl ?_
        refine w_ldA e0_375 (fun _ => rfl) rfl ?_
        refine w_ldA e0_376 (fun _ => rfl) rfl ?_
        refine w_ldI e0_377 (fun _ => rfl) rfl ?_
        refine w_kI e0_379 ?_
        refine w_iadd e0_380 ?_
        refine w_aldO e0_381 (lI_0 hL) (by omega) (by omega) (by omega) (fun q404 h405 hx406 => ?_)
        refine w_ldA e0_382 (fun _ => rfl) rfl ?_
        refine w_ldI e0_383 (fun _ => rfl) rfl ?_
        refine w_kI e0_385 ?_
        refine w_iadd e0_386 ?_
        refine w_aldO e0_387 (lI_0 hL) (by omega) (by omega) (by omega) (fun q407 h408 hx409 => ?_)
        obtain ⟨fs410, e411⟩ := lI_1 hL
        refine w_cv e0_388 (by decide) rfl e411 rfl (Nat.le_of_ble_eq_true rfl) (Nat.le_of_ble_eq_true rfl) (Nat.le_of_ble_eq_true rfl) (by decide) (by decide) (x51 hL h405 h408) (fun o412 v413 hq414 => ?_)
        obtain ⟨⟨n415, p416, hr418, hL419⟩, q420, h421, rfl⟩ := hq414
        refine w_x e0_391 (fun _ => rfl) ?_
        refine w_ldA e0_392 (fun _ => rfl) rfl ?_
        refine w_ldA e0_393 (fun _ => rfl) rfl ?_
        refine w_ldI e0_394 (fun _ => rfl) rfl ?_
        refine w_kI e0_396 ?_
        refine w_iadd e0_397 ?_
        refine w_aldO e0_398 (lI_0 hL419) (by omega) (by omega) (by omega) (fun q422 h423 hx424 => ?_)
        have hqq425 : q422 = q404 := (vz_inj h423 h405).mp (hx424.symm.trans hx406)
        refine w_ldA e0_399 (fun _ => rfl) rfl ?_
        refine w_ldI e0_400 (fun _ => rfl) rfl ?_
        refine w_kI e0_402 ?_
        refine w_iadd e0_403 ?_
        refine w_aldO e0_404 (lI_0 hL419) (by omega) (by omega) (by omega) (fun q426 h427 hx428 => ?_)
        have hqq429 : q426 = q407 := (vz_inj h427 h408).mp (hx428.symm.trans hx409)
        obtain ⟨fs430, e431⟩ := lI_238 hL419
        refine w_cv e0_405 (by decide) rfl e431 rfl (Nat.le_of_ble_eq_true rfl) (Nat.le_of_ble_eq_true rfl) (Nat.le_of_ble_eq_true rfl) (by decide) (by decide) (y112 hL419 h423 h427) (fun o432 v433 hq434 => ?_)
        obtain ⟨⟨n435, p436, t437, hr438, hL439⟩, q440, h441, rfl⟩ := hq434
        refine w_x e0_408 (fun _ => rfl) ?_
        refine w_x e0_409 (fun _ => rfl) ?_
        refine w_iinc (A1 := [some (.ref 0), some (.ref 1), some (.ref 238), some (.ref 263), some (.int (vz (x4 + 5))), none, none, none]) e0_770 rfl (by decide) rfl ?_
        refine w_x e0_773 (fun _ => rfl) ?_
        have hnp442 : n435 = n415 ∧ p436 = p416 := by omega
        rw [hnp442.1, hnp442.2] at hL439
        have hZ9 : hzu p416 u := hzu_m hZ (by omega)
        exact w_sub (A1 := [some (.ref 0), some (.ref 1), some (.ref 238), some (.ref 263), some (.int (vz (x4 + 5))), none, none, none]) (And.intro rfl (And.intro rfl (And.intro rfl (And.intro rfl (And.intro rfl trivial))))) (w_end (fun ls hl => Or.inr (Or.inl ⟨rfl, rfl, hl, by omega, ⟨_, _, _, _, _, hL439, hZ9⟩⟩)))
      ·
        refine w_swI (t := 412) e0_39 (by omega) h7 (by rw [h9]; rfl) rfl ?_
        refine w_ldA e0_412 (fun _ => rfl) rfl ?_
        refine w_ldA e0_413 (fun _ => rfl) rfl ?_
        refine w_ldI e0_414 (fun _ => rfl) rfl ?_
        refine w_kI e0_416 ?_
        refine w_iadd e0_417 ?_
        refine w_aldO e0_418 (lI_0 hL) (by omega) (by omega) (by omega) (fun q443 h444 hx445 => ?_)
        obtain ⟨fs446, e447⟩ := lI_1 hL
        refine w_cv e0_419 (by decide) rfl e447 rfl (Nat.le_of_ble_eq_true rfl) (Nat.le_of_ble_eq_true rfl) (Nat.le_of_ble_eq_true rfl) (by decide) (by decide) (x52 hL h444) (fun o448 v449 hq450 => ?_)
        obtain ⟨⟨n451, p452, hr454, hL455⟩, q456, h457, rfl⟩ := hq450
        refine w_x e0_422 (fun _ => rfl) ?_
        refine w_ldA e0_423 (fun _ => rfl) rfl ?_
        refine w_ldA e0_424 (fun _ => rfl) rfl ?_
        refine w_ldI e0_425 (fun _ => rfl) rfl ?_
        refine w_kI e0_427 ?_
        refine w_iadd e0_428 ?_
        refine w_aldO e0_429 (lI_0 hL455) (by omega) (by omega) (by omega) (fun q458 h459 hx460 => ?_)
        have hqq461 : q458 = q443 := (vz_inj h459 h444).mp (hx460.symm.trans hx445)
        obtain ⟨fs462, e463⟩ := lI_238 hL455
        refine w_cv e0_430 (by decide) rfl e463 rfl (Nat.le_of_ble_eq_true rfl) (Nat.le_of_ble_eq_true rfl) (Nat.le_of_ble_eq_true rfl) (by decide) (by decide) (y113 hL455 h459) (fun o464 v465 hq466 => ?_)
        obtain ⟨⟨n467, p468, t469, hr470, hL471⟩, q472, h473, rfl⟩ := hq466
        refine w_x e0_433 (fun _ => rfl) ?_
        refine w_x e0_434 (fun _ => rfl) ?_
        refine w_iinc (A1 := [some (.ref 0), some (.ref 1), some (.ref 238), some (.ref 263), some (.int (vz (x4 + 5))), none, none, none]) e0_770 rfl (by decide) rfl ?_
        refine w_x e0_773 (fun _ => rfl) ?_
        have hnp474 : n467 = n451 ∧ p468 = p452 := by omega
        rw [hnp474.1, hnp474.2] at hL471
        have hZ9 : hzu p452 u := hzu_m hZ (by omega)
        exact w_sub (A1 := [some (.ref 0), some (.ref 1), some (.ref 238), some (.ref 263), some (.int (vz (x4 + 5))), none, none, none]) (And.intro rfl (And.intro rfl (And.intro rfl (And.intro rfl (And.intro rfl trivial))))) (w_end (fun ls hl => Or.inr (Or.inl ⟨rfl, rfl, hl, by omega, ⟨_, _, _, _, _, hL471, hZ9⟩⟩)))
      ·
        refine w_swI (t := 437) e0_39 (by omega) h7 (by rw [h9]; rfl) rfl ?_
        refine w_ldA e0_437 (fun _ => rfl) rfl ?_
        refine w_ldA e0_438 (fun _ => rfl) rfl ?_
        refine w_ldI e0_439 (fun _ => rfl) rfl ?_
        refine w_kI e0_441 ?_
        refine w_iadd e0_442 ?_
        refine w_aldO e0_443 (lI_0 hL) (by omega) (by omega) (by omega) (fun q475 h476 hx477 => ?_)
        refine w_ldA e0_444 (fun _ => rfl) rfl ?_
        refine w_ldI e0_445 (fun _ => rfl) rfl ?_
        refine w_kI e0_447 ?_
        refine w_iadd e0_448 ?_
        refine w_aldO e0_449 (lI_0 hL) (by omega) (by omega) (by omega) (fun q478 h479 hx480 => ?_)
        refine w_ldA e0_450 (fun _ => rfl) rfl ?_
        refine w_ldI e0_451 (fun _ => rfl) rfl ?_
        refine w_kI e0_453 ?_
        refine w_iadd e0_454 ?_
        refine w_aldO e0_455 (lI_0 hL) (by omega) (by omega) (by omega) (fun q481 h482 hx483 => ?_)
        obtain ⟨fs484, e485⟩ := lI_1 hL
        refine w_cv e0_456 (by decide) rfl e485 rfl (Nat.le_of_ble_eq_true rfl) (Nat.le_of_ble_eq_true rfl) (Nat.le_of_ble_eq_true rfl) (by decide) (by decide) (x53 hL h476 h479 h482) (fun o486 v487 hq488 => ?_)
        obtain ⟨⟨n489, p490, hr492, hL493⟩, q494, rfl⟩ := hq488
        refine w_x e0_459 (fun _ => rfl) ?_
        refine w_ldA e0_460 (fun _ => rfl) rfl ?_
        refine w_ldA e0_461 (fun _ => rfl) rfl ?_
        refine w_ldI e0_462 (fun _ => rfl) rfl ?_
        refine w_kI e0_464 ?_
        refine w_iadd e0_465 ?_
        refine w_aldO e0_466 (lI_0 hL493) (by omega) (by omega) (by omega) (fun q496 h497 hx498 => ?_)
        have hqq499 : q496 = q475 := (vz_inj h497 h476).mp (hx498.symm.trans hx477)
        refine w_ldA e0_467 (fun _ => rfl) rfl ?_
        refine w_ldI e0_468 (fun _ => rfl) rfl ?_
        refine w_kI e0_470 ?_
        refine w_iadd e0_471 ?_
        refine w_aldO e0_472 (lI_0 hL493) (by omega) (by omega) (by omega) (fun q500 h501 hx502 => ?_)
        have hqq503 : q500 = q478 := (vz_inj h501 h479).mp (hx502.symm.trans hx480)
        refine w_ldA e0_473 (fun _ => rfl) rfl ?_
        refine w_ldI e0_474 (fun _ => rfl) rfl ?_
        refine w_kI e0_476 ?_
        refine w_iadd e0_477 ?_
        refine w_aldO e0_478 (lI_0 hL493) (by omega) (by omega) (by omega) (fun q504 h505 hx506 => ?_)
        have hqq507 : q504 = q481 := (vz_inj h505 h482).mp (hx506.symm.trans hx483)
        obtain ⟨fs508, e509⟩ := lI_238 hL493
        refine w_cv e0_479 (by decide) rfl e509 rfl (Nat.le_of_ble_eq_true rfl) (Nat.le_of_ble_eq_true rfl) (Nat.le_of_ble_eq_true rfl) (by decide) (by decide) (y115 hL493 h497 h501 h505) (fun o510 v511 hq512 => ?_)
        obtain ⟨⟨n513, p514, t515, hr516, hL517⟩, q518, rfl⟩ := hq512
        refine w_x e0_482 (fun _ => rfl) ?_
        refine w_x e0_483 (fun _ => rfl) ?_
        refine w_iinc (A1 := [some (.ref 0), some (.ref 1), some (.ref 238), some (.ref 263), some (.int (vz (x4 + 5))), none, none, none]) e0_770 rfl (by decide) rfl ?_
        refine w_x e0_773 (fun _ => rfl) ?_
        have hnp520 : n513 = n489 ∧ p514 = p490 := by omega
        rw [hnp520.1, hnp520.2] at hL517
        have hZ9 : hzu p490 u := hzu_m hZ (by omega)
        exact w_sub (A1 := [some (.ref 0), some (.ref 1), some (.ref 238), some (.ref 263), some (.int (vz (x4 + 5))), none, none, none]) (And.intro rfl (And.intro rfl (And.intro rfl (And.intro rfl (And.intro rfl trivial))))) (w_end (fun ls hl => Or.inr (Or.inl ⟨rfl, rfl, hl, by omega, ⟨_, _, _, _, _, hL517, hZ9⟩⟩)))
      ·
        refine w_swI (t := 486) e0_39 (by omega) h7 (by rw [h9]; rfl) rfl ?_
        refine w_ldA e0_486 (fun _ => rfl) rfl ?_
        refine w_ldA e0_487 (fun _ => rfl) rfl ?_
        refine w_ldI e0_488 (fun _ => rfl) rfl ?_
        refine w_kI e0_490 ?_
        refine w_iadd e0_491 ?_
        refine w_aldO e0_492 (lI_0 hL) (by omega) (by omega) (by omega) (fun q521 h522 hx523 => ?_)
        refine w_ldA e0_493 (fun _ => rfl) rfl ?_
        refine w_ldI e0_494 (fun _ => rfl) rfl ?_
        refine w_kI e0_496 ?_
        refine w_iadd e0_497 ?_
        refine w_aldO e0_498 (lI_0 hL) (by omega) (by omega) (by omega) (fun q524 h525 hx526 => ?_)
        refine w_ldA e0_499 (fun _ => rfl) rfl ?_
        refine w_ldI e0_500 (fun _ => rfl) rfl ?_
        refine w_kI e0_502 ?_
        refine w_iadd e0_503 ?_
        refine w_aldO e0_504 (lI_0 hL) (by omega) (by omega) (by omega) (fun q527 h528 hx529 => ?_)
        obtain ⟨fs530, e531⟩ := lI_1 hL
        refine w_cv e0_505 (by decide) rfl e531 rfl (Nat.le_of_ble_eq_true rfl) (Nat.le_of_ble_eq_true rfl) (Nat.le_of_ble_eq_true rfl) (by decide) (by decide) (x54 hL h522 h525 h528) (fun o532 v533 hq534 => ?_)
        obtain ⟨⟨n535, p536, hr538, hL539⟩, q540, h541, rfl⟩ := hq534
        refine w_x e0_508 (fun _ => rfl) ?_
        refine w_ldA e0_509 (fun _ => rfl) rfl ?_
        refine w_ldA e0_510 (fun _ => rfl) rfl ?_
        refine w_ldI e0_511 (fun _ => rfl) rfl ?_
        refine w_kI e0_513 ?_
        refine w_iadd e0_514 ?_
        refine w_aldO e0_515 (lI_0 hL539) (by omega) (by omega) (by omega) (fun q542 h543 hx544 => ?_)
        have hqq545 : q542 = q521 := (vz_inj h543 h522).mp (hx544.symm.trans hx523)
        refine w_ldA e0_516 (fun _ => rfl) rfl ?_
        refine w_ldI e0_517 (fun _ => rfl) rfl ?_
        refine w_kI e0_519 ?_
        refine w_iadd e0_520 ?_
        refine w_aldO e0_521 (lI_0 hL539) (by omega) (by omega) (by omega) (fun q546 h547 hx548 => ?_)
        have hqq549 : q546 = q524 := (vz_inj h547 h525).mp (hx548.symm.trans hx526)
        refine w_ldA e0_522 (fun _ => rfl) rfl ?_
        refine w_ldI e0_523 (fun _ => rfl) rfl ?_
        refine w_kI e0_525 ?_
        refine w_iadd e0_526 ?_
        refine w_aldO e0_527 (lI_0 hL539) (by omega) (by omega) (by omega) (fun q550 h551 hx552 => ?_)
        have hqq553 : q550 = q527 := (vz_inj h551 h528).mp (hx552.symm.trans hx529)
        obtain ⟨fs554, e555⟩ := lI_238 hL539
        refine w_cv e0_528 (by decide) rfl e555 rfl (Nat.le_of_ble_eq_true rfl) (Nat.le_of_ble_eq_true rfl) (Nat.le_of_ble_eq_true rfl) (by decide) (by decide) (y116 hL539 h543 h547 h551) (fun o556 v557 hq558 => ?_)
        obtain ⟨⟨n559, p560, t561, hr562, hL563⟩, q564, h565, rfl⟩ := hq558
        refine w_x e0_531 (fun _ => rfl) ?_
        refine w_x e0_532 (fun _ => rfl) ?_
        refine w_iinc (A1 := [some (.ref 0), some (.ref 1), some (.ref 238), some (.ref 263), some (.int (vz (x4 + 5))), none, none, none]) e0_770 rfl (by decide) rfl ?_
        refine w_x e0_773 (fun _ => rfl) ?_
        have hnp566 : n559 = n535 ∧ p560 = p536 := by omega
        rw [hnp566.1, hnp566.2] at hL563
        have hZ9 : hzu p536 u := hzu_m hZ (by omega)
        exact w_sub (A1 := [some (.ref 0), some (.ref 1), some (.ref 238), some (.ref 263), some (.int (vz (x4 + 5))), none, none, none]) (And.intro rfl (And.intro rfl (And.intro rfl (And.intro rfl (And.intro rfl trivial))))) (w_end (fun ls hl => Or.inr (Or.inl ⟨rfl, rfl, hl, by omega, ⟨_, _, _, _, _, hL563, hZ9⟩⟩)))
      ·
        refine w_swI (t := 535) e0_39 (by omega) h7 (by rw [h9]; rfl) rfl ?_
        refine w_ldA e0_535 (fun _ => rfl) rfl ?_
        refine w_ldA e0_536 (fun _ => rfl) rfl ?_
        refine w_ldI e0_537 (fun _ => rfl) rfl ?_
        refine w_kI e0_539 ?_
        refine w_iadd e0_540 ?_
        refine w_aldO e0_541 (lI_0 hL) (by omega) (by omega) (by omega) (fun q567 h568 hx569 => ?_)
        refine w_ldA e0_542 (fun _ => rfl) rfl ?_
        refine w_ldI e0_543 (fun _ => rfl) rfl ?_
        refine w_kI e0_545 ?_
        refine w_iadd e0_546 ?_
        refine w_aldO e0_547 (lI_0 hL) (by omega) (by omega) (by omega) (fun q570 h571 hx572 => ?_)
        refine w_oL e0_548 (fun _ => rfl) (fun l573 => ?_)
        refine w_kB e0_549 rfl ?_
        refine w_oL e0_551 (fun _ => rfl) (fun l574 => ?_)
        refine w_ldA e0_552 (fun _ => rfl) rfl ?_
        refine w_ldI e0_553 (fun _ => rfl) rfl ?_
        refine w_kI e0_555 ?_
        refine w_iadd e0_556 ?_
        refine w_aldO e0_557 (lI_0 hL) (by omega) (by omega) (by omega) (fun q575 h576 hx577 => ?_)
        refine w_oL e0_558 (fun _ => rfl) (fun l578 => ?_)
        refine w_oL e0_559 (fun _ => rfl) (fun l579 => ?_)
        refine w_oL e0_562 (fun _ => rfl) (fun l580 => ?_)
        refine w_oL e0_563 (fun _ => rfl) (fun l581 => ?_)
        obtain ⟨fs582, e583⟩ := lI_1 hL
        refine w_cv e0_564 (by decide) rfl e583 rfl (Nat.le_of_ble_eq_true rfl) (Nat.le_of_ble_eq_true rfl) (Nat.le_of_ble_eq_true rfl) (by decide) (by decide) (x55 hL h568) (fun o584 v585 hq586 => ?_)
        obtain ⟨⟨n587, p588, hr590, hL591⟩, q592, h593, rfl⟩ := hq586
        refine w_x e0_567 (fun _ => rfl) ?_
        refine w_ldA e0_568 (fun _ => rfl) rfl ?_
        refine w_ldA e0_569 (fun _ => rfl) rfl ?_
        refine w_ldI e0_570 (fun _ => rfl) rfl ?_
        refine w_kI e0_572 ?_
        refine w_iadd e0_573 ?_
        refine w_aldO e0_574 (lI_0 hL591) (by omega) (by omega) (by omega) (fun q594 h595 hx596 => ?_)
        have hqq597 : q594 = q567 := (vz_inj h595 h568).mp (hx596.symm.trans hx569)
        refine w_ldA e0_575 (fun _ => rfl) rfl ?_
        refine w_ldI e0_576 (fun _ => rfl) rfl ?_
        refine w_kI e0_578 ?_
        refine w_iadd e0_579 ?_
        refine w_aldO e0_580 (lI_0 hL591) (by omega) (by omega) (by omega) (fun q598 h599 hx600 => ?_)
        have hqq601 : q598 = q570 := (vz_inj h599 h571).mp (hx600.symm.trans hx572)
        refine w_oL e0_581 (fun _ => rfl) (fun l602 => ?_)
        refine w_kB e0_582 rfl ?_
        refine w_oL e0_584 (fun _ => rfl) (fun l603 => ?_)
        refine w_ldA e0_585 (fun _ => rfl) rfl ?_
        refine w_ldI e0_586 (fun _ => rfl) rfl ?_
        refine w_kI e0_588 ?_
        refine w_iadd e0_589 ?_
        refine w_aldO e0_590 (lI_0 hL591) (by omega) (by omega) (by omega) (fun q604 h605 hx606 => ?_)
        have hqq607 : q604 = q575 := (vz_inj h605 h576).mp (hx606.symm.trans hx577)
        refine w_oL e0_591 (fun _ => rfl) (fun l608 => ?_)
        refine w_oL e0_592 (fun _ => rfl) (fun l609 => ?_)
        refine w_oL e0_595 (fun _ => rfl) (fun l610 => ?_)
        refine w_oL e0_596 (fun _ => rfl) (fun l611 => ?_)
        obtain ⟨fs612, e613⟩ := lI_238 hL591
        refine w_cv e0_597 (by decide) rfl e613 rfl (Nat.le_of_ble_eq_true rfl) (Nat.le_of_ble_eq_true rfl) (Nat.le_of_ble_eq_true rfl) (by decide) (by decide) (y117 hL591 h595) (fun o614 v615 hq616 => ?_)
        obtain ⟨⟨n617, p618, t619, hr620, hL621⟩, q622, h623, rfl⟩ := hq616
        refine w_x e0_600 (fun _ => rfl) ?_
        refine w_x e0_601 (fun _ => rfl) ?_
        refine w_iinc (A1 := [some (.ref 0), some (.ref 1), some (.ref 238), some (.ref 263), some (.int (vz (x4 + 5))), none, none, none]) e0_770 rfl (by decide) rfl ?_
        refine w_x e0_773 (fun _ => rfl) ?_
        have hnp624 : n617 = n587 ∧ p618 = p588 := by omega
        rw [hnp624.1, hnp624.2] at hL621
        have hZ9 : hzu p588 u := hzu_m hZ (by omega)
        exact w_sub (A1 := [some (.ref 0), some (.ref 1), some (.ref 238), some (.ref 263), some (.int (vz (x4 + 5))), none, none, none]) (And.intro rfl (And.intro rfl (And.intro rfl (And.intro rfl (And.intro rfl trivial))))) (w_end (fun ls hl => Or.inr (Or.inl ⟨rfl, rfl, hl, by omega, ⟨_, _, _, _, _, hL621, hZ9⟩⟩)))
      ·
        refine w_swI (t := 604) e0_39 (by omega) h7 (by rw [h9]; rfl) rfl ?_
        refine w_ldA e0_604 (fun _ => rfl) rfl ?_
        refine w_ldA e0_605 (fun _ => rfl) rfl ?_
        refine w_ldI e0_606 (fun _ => rfl) rfl ?_
        refine w_kI e0_608 ?_
        refine w_iadd e0_609 ?_
        refine w_aldO e0_610 (lI_0 hL) (by omega) (by omega) (by omega) (fun q625 h626 hx627 => ?_)
        refine w_ldA e0_611 (fun _ => rfl) rfl ?_
        refine w_ldI e0_612 (fun _ => rfl) rfl ?_
        refine w_kI e0_614 ?_
        refine w_iadd e0_615 ?_
        refine w_aldO e0_616 (lI_0 hL) (by omega) (by omega) (by omega) (fun q628 h629 hx630 => ?_)
        obtain ⟨fs631, e632⟩ := lI_1 hL
        refine w_cv e0_617 (by decide) rfl e632 rfl (Nat.le_of_ble_eq_true rfl) (Nat.le_of_ble_eq_true rfl) (Nat.le_of_ble_eq_true rfl) (by decide) (by decide) (x56 hL h626 h629) (fun o633 v634 hq635 => ?_)
        obtain ⟨⟨n636, p637, hr639, hL640⟩, q641, rfl⟩ := hq635
        refine w_x e0_620 (fun _ => rfl) ?_
        refine w_ldA e0_621 (fun _ => rfl) rfl ?_
        refine w_ldA e0_622 (fun _ => rfl) rfl ?_
        refine w_ldI e0_623 (fun _ => rfl) rfl ?_
        refine w_kI e0_625 ?_
        refine w_iadd e0_626 ?_
        refine w_aldO e0_627 (lI_0 hL640) (by omega) (by omega) (by omega) (fun q643 h644 hx645 => ?_)
        have hqq646 : q643 = q625 := (vz_inj h644 h626).mp (hx645.symm.trans hx627)
        refine w_ldA e0_628 (fun _ => rfl) rfl ?_
        refine w_ldI e0_629 (fun _ => rfl) rfl ?_
        refine w_kI e0_631 ?_
        refine w_iadd e0_632 ?_
        refine w_aldO e0_633 (lI_0 hL640) (by omega) (by omega) (by omega) (fun q647 h648 hx649 => ?_)
        have hqq650 : q647 = q628 := (vz_inj h648 h629).mp (hx649.symm.trans hx630)
        obtain ⟨fs651, e652⟩ := lI_238 hL640
        refine w_cv e0_634 (by decide) rfl e652 rfl (Nat.le_of_ble_eq_true rfl) (Nat.le_of_ble_eq_true rfl) (Nat.le_of_ble_eq_true rfl) (by decide) (by decide) (y120 hL640 h644 h648) (fun o653 v654 hq655 => ?_)
        obtain ⟨⟨n656, p657, t658, hr659, hL660⟩, q661, rfl⟩ := hq655
        refine w_x e0_637 (fun _ => rfl) ?_
        refine w_x e0_638 (fun _ => rfl) ?_
        refine w_iinc (A1 := [some (.ref 0), some (.ref 1), some (.ref 238), some (.ref 263), some (.int (vz (x4 + 5))), none, none, none]) e0_770 rfl (by decide) rfl ?_
        refine w_x e0_773 (fun _ => rfl) ?_
        have hnp663 : n656 = n636 ∧ p657 = p637 := by omega
        rw [hnp663.1, hnp663.2] at hL660
        have hZ9 : hzu p637 u := hzu_m hZ (by omega)
        exact w_sub (A1 := [some (.ref 0), some (.ref 1), some (.ref 238), some (.ref 263), some (.int (vz (x4 + 5))), none, none, none]) (And.intro rfl (And.intro rfl (And.intro rfl (And.intro rfl (And.intro rfl trivial))))) (w_end (fun ls hl => Or.inr (Or.inl ⟨rfl, rfl, hl, by omega, ⟨_, _, _, _, _, hL660, hZ9⟩⟩)))
      ·
        refine w_swI (t := 641) e0_39 (by omega) h7 (by rw [h9]; rfl) rfl ?_
        refine w_ldA e0_641 (fun _ => rfl) rfl ?_
        refine w_ldA e0_642 (fun _ => rfl) rfl ?_
        refine w_ldI e0_643 (fun _ => rfl) rfl ?_
        refine w_kI e0_645 ?_
        refine w_iadd e0_646 ?_
        refine w_aldO e0_647 (lI_0 hL) (by omega) (by omega) (by omega) (fun q664 h665 hx666 => ?_)
        obtain ⟨fs667, e668⟩ := lI_1 hL
        refine w_cv e0_648 (by decide) rfl e668 rfl (Nat.le_of_ble_eq_true rfl) (Nat.le_of_ble_eq_true rfl) (Nat.le_of_ble_eq_true rfl) (by decide) (by decide) (x57 hL h665) (fun o669 v670 hq671 => ?_)
        obtain ⟨⟨n672, p673, hr675, hL676⟩, q677, rfl⟩ := hq671
        refine w_x e0_651 (fun _ => rfl) ?_
        refine w_ldA e0_652 (fun _ => rfl) rfl ?_
        refine w_ldA e0_653 (fun _ => rfl) rfl ?_
        refine w_ldI e0_654 (fun _ => rfl) rfl ?_
        refine w_kI e0_656 ?_
        refine w_iadd e0_657 ?_
        refine w_aldO e0_658 (lI_0 hL676) (by omega) (by omega) (by omega) (fun q679 h680 hx681 => ?_)
        have hqq682 : q679 = q664 := (vz_inj h680 h665).mp (hx681.symm.trans hx666)
        obtain ⟨fs683, e684⟩ := lI_238 hL676
        refine w_cv e0_659 (by decide) rfl e684 rfl (Nat.le_of_ble_eq_true rfl) (Nat.le_of_ble_eq_true rfl) (Nat.le_of_ble_eq_true rfl) (by decide) (by decide) (y121 hL676 h680) (fun o685 v686 hq687 => ?_)
        obtain ⟨⟨n688, p689, t690, hr691, hL692⟩, q693, rfl⟩ := hq687
        refine w_x e0_662 (fun _ => rfl) ?_
        refine w_x e0_663 (fun _ => rfl) ?_
        refine w_iinc (A1 := [some (.ref 0), some (.ref 1), some (.ref 238), some (.ref 263), some (.int (vz (x4 + 5))), none, none, none]) e0_770 rfl (by decide) rfl ?_
        refine w_x e0_773 (fun _ => rfl) ?_
        have hnp695 : n688 = n672 ∧ p689 = p673 := by omega
        rw [hnp695.1, hnp695.2] at hL692
        have hZ9 : hzu p673 u := hzu_m hZ (by omega)
        exact w_sub (A1 := [some (.ref 0), some (.ref 1), some (.ref 238), some (.ref 263), some (.int (vz (x4 + 5))), none, none, none]) (And.intro rfl (And.intro rfl (And.intro rfl (And.intro rfl (And.intro rfl trivial))))) (w_end (fun ls hl => Or.inr (Or.inl ⟨rfl, rfl, hl, by omega, ⟨_, _, _, _, _, hL692, hZ9⟩⟩)))
      ·
        refine w_swI (t := 666) e0_39 (by omega) h7 (by rw [h9]; rfl) rfl ?_
        refine w_ldA e0_666 (fun _ => rfl) rfl ?_
        refine w_ldA e0_667 (fun _ => rfl) rfl ?_
        refine w_ldI e0_668 (fun _ => rfl) rfl ?_
        refine w_kI e0_670 ?_
        refine w_iadd e0_671 ?_
        refine w_ald e0_672 (lI_0 hL) (by omega) (by omega) (by omega) ?_
        refine w_x e0_673 (fun _ => rfl) ?_
        refine w_kB e0_674 rfl ?_
        refine w_x e0_676 (fun _ => rfl) ?_
        refine w_ldA e0_677 (fun _ => rfl) rfl ?_
        refine w_ldI e0_678 (fun _ => rfl) rfl ?_
        refine w_kI e0_680 ?_
        refine w_iadd e0_681 ?_
        refine w_ald e0_682 (lI_0 hL) (by omega) (by omega) (by omega) ?_
        refine w_x e0_683 (fun _ => rfl) ?_
        refine w_x e0_684 (fun _ => rfl) ?_
        refine w_x e0_687 (fun _ => rfl) ?_
        refine w_x e0_688 (fun _ => rfl) ?_
        refine w_ldA e0_689 (fun _ => rfl) rfl ?_
        refine w_ldI e0_690 (fun _ => rfl) rfl ?_
        refine w_kI e0_692 ?_
        refine w_iadd e0_693 ?_
        refine w_ald e0_694 (lI_0 hL) (by omega) (by omega) (by omega) ?_
        refine w_x e0_695 (fun _ => rfl) ?_
        refine w_kB e0_696 rfl ?_
        refine w_x e0_698 (fun _ => rfl) ?_
        refine w_ldA e0_699 (fun _ => rfl) rfl ?_
        refine w_ldI e0_700 (fun _ => rfl) rfl ?_
        refine w_kI e0_702 ?_
        refine w_iadd e0_703 ?_
        refine w_ald e0_704 (lI_0 hL) (by omega) (by omega) (by omega) ?_
        refine w_x e0_705 (fun _ => rfl) ?_
        refine w_x e0_706 (fun _ => rfl) ?_
        refine w_x e0_709 (fun _ => rfl) ?_
        refine w_x e0_710 (fun _ => rfl) ?_
        refine w_ldA e0_711 (fun _ => rfl) rfl ?_
        show vm_Wp _ _ _ 712 _ [.ref 263, .long (laL (xs (x4 + 3).toNat) (xs (x4 + 4).toNat)), .long (laL (xs (x4 + 1).toNat) (xs (x4 + 2).toNat)), .ref 1] _ _
        exact w_end (fun ls hl => Or.inr (Or.inr ⟨rfl, rfl, hl, by omega, _, _, _, _, _, hL, hZ⟩))
set_option maxRecDepth 100000 in
set_option maxHeartbeats 8000000 in
theorem lw_psez {L : Nat} {xs : Nat → Int32} {vh : vm_H} {n p t : Int} {g : Int64} {x4 : Int} {u : Nat → Int32} (hL : lI L xs vh n p n p t g u u) (hZ : hzu p u) (h0 : 0 ≤ x4) (hx : x4 + 5 ≤ (L : Int)) (hl : L ≤ 2560) (hb : (laL (xs (x4 + 3).toNat) (xs (x4 + 4).toNat)) = 0) : vm_Wp 9 400 0 715 (lwA x4) [.int (vz 1)] vh (lwQ L xs x4) := by
  refine w_stI (j := 5) (A1 := [some (.ref 0), some (.ref 1), some (.ref 238), some (.ref 263), some (.int (vz x4)), some (.int (vz 1)), none, none]) e0_715 (fun _ => rfl) (by decide) rfl ?_
  refine w_ldA e0_717 (fun _ => rfl) rfl ?_
  refine w_ldA e0_718 (fun _ => rfl) rfl ?_
  refine w_ldI e0_719 (fun _ => rfl) rfl ?_
  refine w_kI e0_721 ?_
  refine w_iadd e0_722 ?_
  refine w_ald e0_723 (lI_0 hL) (by omega) (by omega) (by omega) ?_
  refine w_x e0_724 (fun _ => rfl) ?_
  refine w_kB e0_725 rfl ?_
  refine w_x e0_727 (fun _ => rfl) ?_
  refine w_ldA e0_728 (fun _ => rfl) rfl ?_
  refine w_ldI e0_729 (fun _ => rfl) rfl ?_
  refine w_kI e0_731 ?_
  refine w_iadd e0_732 ?_
  refine w_ald e0_733 (lI_0 hL) (by omega) (by omega) (by omega) ?_
  refine w_x e0_734 (fun _ => rfl) ?_
  refine w_x e0_735 (fun _ => rfl) ?_
  refine w_x e0_738 (fun _ => rfl) ?_
  refine w_x e0_739 (fun _ => rfl) ?_
  refine w_ldA e0_740 (fun _ => rfl) rfl ?_
  refine w_ldI e0_741 (fun _ => rfl) rfl ?_
  refine w_kI e0_743 ?_
  refine w_iadd e0_744 ?_
  refine w_ald e0_745 (lI_0 hL) (by omega) (by omega) (by omega) ?_
  refine w_x e0_746 (fun _ => rfl) ?_
  refine w_kB e0_747 rfl ?_
  refine w_x e0_749 (fun _ => rfl) ?_
  refine w_ldA e0_750 (fun _ => rfl) rfl ?_
  refine w_ldI e0_751 (fun _ => rfl) rfl ?_
  refine w_kI e0_753 ?_
  refine w_iadd e0_754 ?_
  refine w_ald e0_755 (lI_0 hL) (by omega) (by omega) (by omega) ?_
  refine w_x e0_756 (fun _ => rfl) ?_
  refine w_x e0_757 (fun _ => rfl) ?_
  refine w_x e0_760 (fun _ => rfl) ?_
  refine w_x e0_761 (fun _ => rfl) ?_
  obtain ⟨fs1, e2⟩ := lI_238 hL
  show vm_Wp _ _ _ 762 _ [.long (laL (xs (x4 + 3).toNat) (xs (x4 + 4).toNat)), .long (laL (xs (x4 + 1).toNat) (xs (x4 + 2).toNat)), .ref 238] _ _
  refine w_cv e0_762 (by decide) rfl e2 rfl (Nat.le_of_ble_eq_true rfl) (Nat.le_of_ble_eq_true rfl) (Nat.le_of_ble_eq_true rfl) (by decide) (by decide) (y122z hL _ _ hb) (fun o3 v4 hq5 => ?_)
  obtain ⟨hL6, l7, rfl⟩ := hq5
  refine w_stL (j := 6) (A1 := [some (.ref 0), some (.ref 1), some (.ref 238), some (.ref 263), some (.int (vz x4)), some (.int (vz 1)), some (.long l7), none]) e0_765 (fun _ => rfl) (by decide) rfl ?_
  refine w_x e0_767 (fun _ => rfl) ?_
  refine w_iinc (A1 := [some (.ref 0), some (.ref 1), some (.ref 238), some (.ref 263), some (.int (vz (x4 + 5))), some (.int (vz 1)), some (.long l7), none]) e0_770 rfl (by decide) rfl ?_
  refine w_x e0_773 (fun _ => rfl) ?_
  have hnp8 : n = n ∧ p = p := by omega
  have hZ9 : hzu p u := hzu_m hZ (by omega)
  exact w_sub (A1 := [some (.ref 0), some (.ref 1), some (.ref 238), some (.ref 263), some (.int (vz (x4 + 5))), none, none, none]) (And.intro rfl (And.intro rfl (And.intro rfl (And.intro rfl (And.intro rfl trivial))))) (w_end (fun ls hl => ⟨rfl, rfl, hl, by omega, ⟨_, _, _, _, _, hL6, hZ9⟩⟩))
set_option maxRecDepth 100000 in
set_option maxHeartbeats 8000000 in
theorem lw_psen {L : Nat} {xs : Nat → Int32} {vh : vm_H} {n p t : Int} {g : Int64} {x4 : Int} {u : Nat → Int32} (hL : lI L xs vh n p n p t g u u) (hZ : hzu p u) (h0 : 0 ≤ x4) (hx : x4 + 5 ≤ (L : Int)) (hl : L ≤ 2560) (hb : ¬ (laL (xs (x4 + 3).toNat) (xs (x4 + 4).toNat)) = 0) (hg : g = (laL (xs (x4 + 1).toNat) (xs (x4 + 2).toNat)) <<< (Int32.toInt64 (Int8.ofInt 32).toInt32 &&& 63) / (laL (xs (x4 + 3).toNat) (xs (x4 + 4).toNat))) : vm_Wp 9 400 0 715 (lwA x4) [.int (vz 0)] vh (lwQ L xs x4) := by
  refine w_stI (j := 5) (A1 := [some (.ref 0), some (.ref 1), some (.ref 238), some (.ref 263), some (.int (vz x4)), some (.int (vz 0)), none, none]) e0_715 (fun _ => rfl) (by decide) rfl ?_
  refine w_ldA e0_717 (fun _ => rfl) rfl ?_
  refine w_ldA e0_718 (fun _ => rfl) rfl ?_
  refine w_ldI e0_719 (fun _ => rfl) rfl ?_
  refine w_kI e0_721 ?_
  refine w_iadd e0_722 ?_
  refine w_ald e0_723 (lI_0 hL) (by omega) (by omega) (by omega) ?_
  refine w_x e0_724 (fun _ => rfl) ?_
  refine w_kB e0_725 rfl ?_
  refine w_x e0_727 (fun _ => rfl) ?_
  refine w_ldA e0_728 (fun _ => rfl) rfl ?_
  refine w_ldI e0_729 (fun _ => rfl) rfl ?_
  refine w_kI e0_731 ?_
  refine w_iadd e0_732 ?_
  refine w_ald e0_733 (lI_0 hL) (by omega) (by omega) (by omega) ?_
  refine w_x e0_734 (fun _ => rfl) ?_
  refine w_x e0_735 (fun _ => rfl) ?_
  refine w_x e0_738 (fun _ => rfl) ?_
  refine w_x e0_739 (fun _ => rfl) ?_
  refine w_ldA e0_740 (fun _ => rfl) rfl ?_
  refine w_ldI e0_741 (fun _ => rfl) rfl ?_
  refine w_kI e0_743 ?_
  refine w_iadd e0_744 ?_
  refine w_ald e0_745 (lI_0 hL) (by omega) (by omega) (by omega) ?_
  refine w_x e0_746 (fun _ => rfl) ?_
  refine w_kB e0_747 rfl ?_
  refine w_x e0_749 (fun _ => rfl) ?_
  refine w_ldA e0_750 (fun _ => rfl) rfl ?_
  refine w_ldI e0_751 (fun _ => rfl) rfl ?_
  refine w_kI e0_753 ?_
  refine w_iadd e0_754 ?_
  refine w_ald e0_755 (lI_0 hL) (by omega) (by omega) (by omega) ?_
  refine w_x e0_756 (fun _ => rfl) ?_
  refine w_x e0_757 (fun _ => rfl) ?_
  refine w_x e0_760 (fun _ => rfl) ?_
  refine w_x e0_761 (fun _ => rfl) ?_
  obtain ⟨fs1, e2⟩ := lI_238 hL
  show vm_Wp _ _ _ 762 _ [.long (laL (xs (x4 + 3).toNat) (xs (x4 + 4).toNat)), .long (laL (xs (x4 + 1).toNat) (xs (x4 + 2).toNat)), .ref 238] _ _
  refine w_cv e0_762 (by decide) rfl e2 rfl (Nat.le_of_ble_eq_true rfl) (Nat.le_of_ble_eq_true rfl) (Nat.le_of_ble_eq_true rfl) (by decide) (by decide) (y122n hL _ _ hb) (fun o3 v4 hq5 => ?_)
  obtain ⟨hL6, rfl⟩ := hq5
  refine w_stL (j := 6) (A1 := [some (.ref 0), some (.ref 1), some (.ref 238), some (.ref 263), some (.int (vz x4)), some (.int (vz 0)), some (.long ((laL (xs (x4 + 1).toNat) (xs (x4 + 2).toNat)) <<< (Int32.toInt64 (Int8.ofInt 32).toInt32 &&& 63) / (laL (xs (x4 + 3).toNat) (xs (x4 + 4).toNat)))), none]) e0_765 (fun _ => rfl) (by decide) rfl ?_
  refine w_x e0_767 (fun _ => rfl) ?_
  refine w_iinc (A1 := [some (.ref 0), some (.ref 1), some (.ref 238), some (.ref 263), some (.int (vz (x4 + 5))), some (.int (vz 0)), some (.long ((laL (xs (x4 + 1).toNat) (xs (x4 + 2).toNat)) <<< (Int32.toInt64 (Int8.ofInt 32).toInt32 &&& 63) / (laL (xs (x4 + 3).toNat) (xs (x4 + 4).toNat)))), none]) e0_770 rfl (by decide) rfl ?_
  refine w_x e0_773 (fun _ => rfl) ?_
  have hnp7 : n = n ∧ p = p := by omega
  have hZ9 : hzu p u := hzu_m hZ (by omega)
  exact w_sub (A1 := [some (.ref 0), some (.ref 1), some (.ref 238), some (.ref 263), some (.int (vz (x4 + 5))), none, none, none]) (And.intro rfl (And.intro rfl (And.intro rfl (And.intro rfl (And.intro rfl trivial))))) (w_end (fun ls hl => ⟨rfl, rfl, hl, by omega, ⟨_, _, _, _, _, hL6, hZ9⟩⟩))
