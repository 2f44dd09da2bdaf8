theorem e0_23 : vm_ent 0 23 = some (.iload 4, 0, 0, 0) := by decide +kernel
theorem e0_25 : vm_ent 0 25 = some (.aload_n 0, 0, 0, 0) := by decide +kernel
theorem e0_26 : vm_ent 0 26 = some (.arraylength, 0, 0, 0) := by decide +kernel
theorem e0_27 : vm_ent 0 27 = some (.iconst 5, 0, 0, 0) := by decide +kernel
theorem e0_28 : vm_ent 0 28 = some (.isub, 0, 0, 0) := by decide +kernel
theorem e0_29 : vm_ent 0 29 = some (.if_icmp .gt 777, 806, 0, 0) := by decide +kernel
theorem e0_32 : vm_ent 0 32 = some (.aload_n 0, 0, 0, 0) := by decide +kernel
theorem e0_33 : vm_ent 0 33 = some (.iload 4, 0, 0, 0) := by decide +kernel
theorem e0_35 : vm_ent 0 35 = some (.iaload, 0, 0, 0) := by decide +kernel
theorem e0_36 : vm_ent 0 36 = some (.bipush 15, 0, 0, 0) := by decide +kernel
theorem e0_38 : vm_ent 0 38 = some (.iand, 0, 0, 0) := by decide +kernel
theorem e0_39 : vm_ent 0 39 = some (.tableswitch 761 0 14 #[73, 114, 151, 164, 245, 298, 311, 336, 373, 398, 448, 497, 566, 604, 630], 73, 0, 0) := by decide +kernel
theorem e0_112 : vm_ent 0 112 = some (.aload_n 1, 0, 0, 0) := by decide +kernel
theorem e0_113 : vm_ent 0 113 = some (.aload_n 0, 0, 0, 0) := by decide +kernel
theorem e0_114 : vm_ent 0 114 = some (.iload 4, 0, 0, 0) := by decide +kernel
theorem e0_116 : vm_ent 0 116 = some (.iconst 1, 0, 0, 0) := by decide +kernel
theorem e0_117 : vm_ent 0 117 = some (.iadd, 0, 0, 0) := by decide +kernel
theorem e0_118 : vm_ent 0 118 = some (.iaload, 0, 0, 0) := by decide +kernel
theorem e0_119 : vm_ent 0 119 = some (.ifCond .eq 7, 126, 0, 0) := by decide +kernel
theorem e0_122 : vm_ent 0 122 = some (.iconst 1, 0, 0, 0) := by decide +kernel
theorem e0_123 : vm_ent 0 123 = some (.goto 4, 127, 0, 0) := by decide +kernel
theorem e0_126 : vm_ent 0 126 = some (.iconst 0, 0, 0, 0) := by decide +kernel
theorem e0_127 : vm_ent 0 127 = some (.invokevirtual 19, 12, 4, 250) := by decide +kernel
theorem e0_130 : vm_ent 0 130 = some (.aload_n 2, 0, 0, 0) := by decide +kernel
theorem e0_131 : vm_ent 0 131 = some (.aload_n 0, 0, 0, 0) := by decide +kernel
theorem e0_132 : vm_ent 0 132 = some (.iload 4, 0, 0, 0) := by decide +kernel
theorem e0_134 : vm_ent 0 134 = some (.iconst 1, 0, 0, 0) := by decide +kernel
theorem e0_135 : vm_ent 0 135 = some (.iadd, 0, 0, 0) := by decide +kernel
theorem e0_136 : vm_ent 0 136 = some (.iaload, 0, 0, 0) := by decide +kernel
theorem e0_137 : vm_ent 0 137 = some (.ifCond .eq 7, 144, 0, 0) := by decide +kernel
theorem e0_140 : vm_ent 0 140 = some (.iconst 1, 0, 0, 0) := by decide +kernel
theorem e0_141 : vm_ent 0 141 = some (.goto 4, 145, 0, 0) := by decide +kernel
theorem e0_144 : vm_ent 0 144 = some (.iconst 0, 0, 0, 0) := by decide +kernel
theorem e0_145 : vm_ent 0 145 = some (.invokevirtual 23, 39, 4, 881) := by decide +kernel
theorem e0_148 : vm_ent 0 148 = some (.if_icmp .eq 652, 800, 0, 0) := by decide +kernel
theorem e0_153 : vm_ent 0 153 = some (.aload_n 1, 0, 0, 0) := by decide +kernel
theorem e0_154 : vm_ent 0 154 = some (.aload_n 0, 0, 0, 0) := by decide +kernel
theorem e0_155 : vm_ent 0 155 = some (.iload 4, 0, 0, 0) := by decide +kernel
theorem e0_157 : vm_ent 0 157 = some (.iconst 1, 0, 0, 0) := by decide +kernel
theorem e0_158 : vm_ent 0 158 = some (.iadd, 0, 0, 0) := by decide +kernel
theorem e0_159 : vm_ent 0 159 = some (.iaload, 0, 0, 0) := by decide +kernel
theorem e0_160 : vm_ent 0 160 = some (.aload_n 0, 0, 0, 0) := by decide +kernel
theorem e0_161 : vm_ent 0 161 = some (.iload 4, 0, 0, 0) := by decide +kernel
theorem e0_163 : vm_ent 0 163 = some (.iconst 2, 0, 0, 0) := by decide +kernel
theorem e0_164 : vm_ent 0 164 = some (.iadd, 0, 0, 0) := by decide +kernel
theorem e0_165 : vm_ent 0 165 = some (.iaload, 0, 0, 0) := by decide +kernel
theorem e0_166 : vm_ent 0 166 = some (.invokevirtual 24, 13, 4, 269) := by decide +kernel
theorem e0_169 : vm_ent 0 169 = some (.aload_n 2, 0, 0, 0) := by decide +kernel
theorem e0_170 : vm_ent 0 170 = some (.aload_n 0, 0, 0, 0) := by decide +kernel
theorem e0_171 : vm_ent 0 171 = some (.iload 4, 0, 0, 0) := by decide +kernel
theorem e0_173 : vm_ent 0 173 = some (.iconst 1, 0, 0, 0) := by decide +kernel
theorem e0_174 : vm_ent 0 174 = some (.iadd, 0, 0, 0) := by decide +kernel
theorem e0_175 : vm_ent 0 175 = some (.iaload, 0, 0, 0) := by decide +kernel
theorem e0_176 : vm_ent 0 176 = some (.aload_n 0, 0, 0, 0) := by decide +kernel
theorem e0_177 : vm_ent 0 177 = some (.iload 4, 0, 0, 0) := by decide +kernel
theorem e0_179 : vm_ent 0 179 = some (.iconst 2, 0, 0, 0) := by decide +kernel
theorem e0_180 : vm_ent 0 180 = some (.iadd, 0, 0, 0) := by decide +kernel
theorem e0_181 : vm_ent 0 181 = some (.iaload, 0, 0, 0) := by decide +kernel
theorem e0_182 : vm_ent 0 182 = some (.invokevirtual 28, 40, 4, 885) := by decide +kernel
theorem e0_185 : vm_ent 0 185 = some (.if_icmp .eq 615, 800, 0, 0) := by decide +kernel
theorem e0_190 : vm_ent 0 190 = some (.aload_n 1, 0, 0, 0) := by decide +kernel
theorem e0_191 : vm_ent 0 191 = some (.invokevirtual 29, 14, 4, 312) := by decide +kernel
theorem e0_194 : vm_ent 0 194 = some (.aload_n 2, 0, 0, 0) := by decide +kernel
theorem e0_195 : vm_ent 0 195 = some (.invokevirtual 33, 41, 4, 889) := by decide +kernel
theorem e0_198 : vm_ent 0 198 = some (.if_icmp .eq 602, 800, 0, 0) := by decide +kernel
theorem e0_203 : vm_ent 0 203 = some (.aload_n 1, 0, 0, 0) := by decide +kernel
theorem e0_204 : vm_ent 0 204 = some (.aload_n 0, 0, 0, 0) := by decide +kernel
theorem e0_205 : vm_ent 0 205 = some (.iload 4, 0, 0, 0) := by decide +kernel
theorem e0_207 : vm_ent 0 207 = some (.iconst 1, 0, 0, 0) := by decide +kernel
theorem e0_208 : vm_ent 0 208 = some (.iadd, 0, 0, 0) := by decide +kernel
theorem e0_209 : vm_ent 0 209 = some (.iaload, 0, 0, 0) := by decide +kernel
theorem e0_210 : vm_ent 0 210 = some (.aload_n 0, 0, 0, 0) := by decide +kernel
theorem e0_211 : vm_ent 0 211 = some (.iload 4, 0, 0, 0) := by decide +kernel
theorem e0_213 : vm_ent 0 213 = some (.iconst 2, 0, 0, 0) := by decide +kernel
theorem e0_214 : vm_ent 0 214 = some (.iadd, 0, 0, 0) := by decide +kernel
theorem e0_215 : vm_ent 0 215 = some (.iaload, 0, 0, 0) := by decide +kernel
theorem e0_216 : vm_ent 0 216 = some (.i2l, 0, 0, 0) := by decide +kernel
theorem e0_217 : vm_ent 0 217 = some (.bipush 32, 0, 0, 0) := by decide +kernel
theorem e0_219 : vm_ent 0 219 = some (.lshl, 0, 0, 0) := by decide +kernel
theorem e0_220 : vm_ent 0 220 = some (.aload_n 0, 0, 0, 0) := by decide +kernel
theorem e0_221 : vm_ent 0 221 = some (.iload 4, 0, 0, 0) := by decide +kernel
theorem e0_223 : vm_ent 0 223 = some (.iconst 3, 0, 0, 0) := by decide +kernel
theorem e0_224 : vm_ent 0 224 = some (.iadd, 0, 0, 0) := by decide +kernel
theorem e0_225 : vm_ent 0 225 = some (.iaload, 0, 0, 0) := by decide +kernel
theorem e0_226 : vm_ent 0 226 = some (.i2l, 0, 0, 0) := by decide +kernel
theorem e0_227 : vm_ent 0 227 = some (.ldc2_w 34, 4294967295, 0, 955) := by decide +kernel
theorem e0_230 : vm_ent 0 230 = some (.land, 0, 0, 0) := by decide +kernel
theorem e0_231 : vm_ent 0 231 = some (.lor, 0, 0, 0) := by decide +kernel
theorem e0_232 : vm_ent 0 232 = some (.aload_n 0, 0, 0, 0) := by decide +kernel
theorem e0_233 : vm_ent 0 233 = some (.iload 4, 0, 0, 0) := by decide +kernel
theorem e0_235 : vm_ent 0 235 = some (.iconst 4, 0, 0, 0) := by decide +kernel
theorem e0_236 : vm_ent 0 236 = some (.iadd, 0, 0, 0) := by decide +kernel
theorem e0_237 : vm_ent 0 237 = some (.iaload, 0, 0, 0) := by decide +kernel
theorem e0_238 : vm_ent 0 238 = some (.invokevirtual 36, 15, 4, 316) := by decide +kernel
theorem e0_241 : vm_ent 0 241 = some (.aload_n 2, 0, 0, 0) := by decide +kernel
theorem e0_242 : vm_ent 0 242 = some (.aload_n 0, 0, 0, 0) := by decide +kernel
theorem e0_243 : vm_ent 0 243 = some (.iload 4, 0, 0, 0) := by decide +kernel
theorem e0_245 : vm_ent 0 245 = some (.iconst 1, 0, 0, 0) := by decide +kernel
theorem e0_246 : vm_ent 0 246 = some (.iadd, 0, 0, 0) := by decide +kernel
theorem e0_247 : vm_ent 0 247 = some (.iaload, 0, 0, 0) := by decide +kernel
theorem e0_248 : vm_ent 0 248 = some (.aload_n 0, 0, 0, 0) := by decide +kernel
theorem e0_249 : vm_ent 0 249 = some (.iload 4, 0, 0, 0) := by decide +kernel
theorem e0_251 : vm_ent 0 251 = some (.iconst 2, 0, 0, 0) := by decide +kernel
theorem e0_252 : vm_ent 0 252 = some (.iadd, 0, 0, 0) := by decide +kernel
theorem e0_253 : vm_ent 0 253 = some (.iaload, 0, 0, 0) := by decide +kernel
theorem e0_254 : vm_ent 0 254 = some (.i2l, 0, 0, 0) := by decide +kernel
theorem e0_255 : vm_ent 0 255 = some (.bipush 32, 0, 0, 0) := by decide +kernel
theorem e0_257 : vm_ent 0 257 = some (.lshl, 0, 0, 0) := by decide +kernel
theorem e0_258 : vm_ent 0 258 = some (.aload_n 0, 0, 0, 0) := by decide +kernel
theorem e0_259 : vm_ent 0 259 = some (.iload 4, 0, 0, 0) := by decide +kernel
theorem e0_261 : vm_ent 0 261 = some (.iconst 3, 0, 0, 0) := by decide +kernel
theorem e0_262 : vm_ent 0 262 = some (.iadd, 0, 0, 0) := by decide +kernel
theorem e0_263 : vm_ent 0 263 = some (.iaload, 0, 0, 0) := by decide +kernel
theorem e0_264 : vm_ent 0 264 = some (.i2l, 0, 0, 0) := by decide +kernel
theorem e0_265 : vm_ent 0 265 = some (.ldc2_w 34, 4294967295, 0, 955) := by decide +kernel
theorem e0_268 : vm_ent 0 268 = some (.land, 0, 0, 0) := by decide +kernel
theorem e0_269 : vm_ent 0 269 = some (.lor, 0, 0, 0) := by decide +kernel
theorem e0_270 : vm_ent 0 270 = some (.aload_n 0, 0, 0, 0) := by decide +kernel
theorem e0_271 : vm_ent 0 271 = some (.iload 4, 0, 0, 0) := by decide +kernel
theorem e0_273 : vm_ent 0 273 = some (.iconst 4, 0, 0, 0) := by decide +kernel
theorem e0_274 : vm_ent 0 274 = some (.iadd, 0, 0, 0) := by decide +kernel
theorem e0_275 : vm_ent 0 275 = some (.iaload, 0, 0, 0) := by decide +kernel
theorem e0_276 : vm_ent 0 276 = some (.invokevirtual 40, 42, 4, 893) := by decide +kernel
theorem e0_279 : vm_ent 0 279 = some (.if_icmp .eq 521, 800, 0, 0) := by decide +kernel
theorem e0_284 : vm_ent 0 284 = some (.aload_n 1, 0, 0, 0) := by decide +kernel
theorem e0_285 : vm_ent 0 285 = some (.aload_n 0, 0, 0, 0) := by decide +kernel
theorem e0_286 : vm_ent 0 286 = some (.iload 4, 0, 0, 0) := by decide +kernel
theorem e0_288 : vm_ent 0 288 = some (.iconst 1, 0, 0, 0) := by decide +kernel
theorem e0_289 : vm_ent 0 289 = some (.iadd, 0, 0, 0) := by decide +kernel
theorem e0_290 : vm_ent 0 290 = some (.iaload, 0, 0, 0) := by decide +kernel
theorem e0_291 : vm_ent 0 291 = some (.aload_n 0, 0, 0, 0) := by decide +kernel
theorem e0_292 : vm_ent 0 292 = some (.iload 4, 0, 0, 0) := by decide +kernel
theorem e0_294 : vm_ent 0 294 = some (.iconst 2, 0, 0, 0) := by decide +kernel
theorem e0_295 : vm_ent 0 295 = some (.iadd, 0, 0, 0) := by decide +kernel
theorem e0_296 : vm_ent 0 296 = some (.iaload, 0, 0, 0) := by decide +kernel
theorem e0_297 : vm_ent 0 297 = some (.ifCond .eq 7, 304, 0, 0) := by decide +kernel
theorem e0_300 : vm_ent 0 300 = some (.iconst 1, 0, 0, 0) := by decide +kernel
theorem e0_301 : vm_ent 0 301 = some (.goto 4, 305, 0, 0) := by decide +kernel
theorem e0_304 : vm_ent 0 304 = some (.iconst 0, 0, 0, 0) := by decide +kernel
theorem e0_305 : vm_ent 0 305 = some (.invokevirtual 41, 16, 4, 351) := by decide +kernel
theorem e0_308 : vm_ent 0 308 = some (.aload_n 2, 0, 0, 0) := by decide +kernel
theorem e0_309 : vm_ent 0 309 = some (.aload_n 0, 0, 0, 0) := by decide +kernel
theorem e0_310 : vm_ent 0 310 = some (.iload 4, 0, 0, 0) := by decide +kernel
theorem e0_312 : vm_ent 0 312 = some (.iconst 1, 0, 0, 0) := by decide +kernel
theorem e0_313 : vm_ent 0 313 = some (.iadd, 0, 0, 0) := by decide +kernel
theorem e0_314 : vm_ent 0 314 = some (.iaload, 0, 0, 0) := by decide +kernel
theorem e0_315 : vm_ent 0 315 = some (.aload_n 0, 0, 0, 0) := by decide +kernel
theorem e0_316 : vm_ent 0 316 = some (.iload 4, 0, 0, 0) := by decide +kernel
theorem e0_318 : vm_ent 0 318 = some (.iconst 2, 0, 0, 0) := by decide +kernel
theorem e0_319 : vm_ent 0 319 = some (.iadd, 0, 0, 0) := by decide +kernel
theorem e0_320 : vm_ent 0 320 = some (.iaload, 0, 0, 0) := by decide +kernel
theorem e0_321 : vm_ent 0 321 = some (.ifCond .eq 7, 328, 0, 0) := by decide +kernel
theorem e0_324 : vm_ent 0 324 = some (.iconst 1, 0, 0, 0) := by decide +kernel
theorem e0_325 : vm_ent 0 325 = some (.goto 4, 329, 0, 0) := by decide +kernel
theorem e0_328 : vm_ent 0 328 = some (.iconst 0, 0, 0, 0) := by decide +kernel
theorem e0_329 : vm_ent 0 329 = some (.invokevirtual 45, 43, 4, 899) := by decide +kernel
theorem e0_332 : vm_ent 0 332 = some (.if_icmp .eq 468, 800, 0, 0) := by decide +kernel
theorem e0_337 : vm_ent 0 337 = some (.aload_n 1, 0, 0, 0) := by decide +kernel
theorem e0_338 : vm_ent 0 338 = some (.invokevirtual 46, 17, 4, 355) := by decide +kernel
theorem e0_341 : vm_ent 0 341 = some (.aload_n 2, 0, 0, 0) := by decide +kernel
theorem e0_342 : vm_ent 0 342 = some (.invokevirtual 49, 36, 4, 771) := by decide +kernel
theorem e0_345 : vm_ent 0 345 = some (.if_icmp .eq 455, 800, 0, 0) := by decide +kernel
theorem e0_350 : vm_ent 0 350 = some (.aload_n 1, 0, 0, 0) := by decide +kernel
theorem e0_351 : vm_ent 0 351 = some (.aload_n 0, 0, 0, 0) := by decide +kernel
theorem e0_352 : vm_ent 0 352 = some (.iload 4, 0, 0, 0) := by decide +kernel
theorem e0_354 : vm_ent 0 354 = some (.iconst 1, 0, 0, 0) := by decide +kernel
theorem e0_355 : vm_ent 0 355 = some (.iadd, 0, 0, 0) := by decide +kernel
theorem e0_356 : vm_ent 0 356 = some (.iaload, 0, 0, 0) := by decide +kernel
theorem e0_357 : vm_ent 0 357 = some (.invokevirtual 50, 18, 4, 482) := by decide +kernel
theorem e0_360 : vm_ent 0 360 = some (.aload_n 2, 0, 0, 0) := by decide +kernel
theorem e0_361 : vm_ent 0 361 = some (.aload_n 0, 0, 0, 0) := by decide +kernel
theorem e0_362 : vm_ent 0 362 = some (.iload 4, 0, 0, 0) := by decide +kernel
theorem e0_364 : vm_ent 0 364 = some (.iconst 1, 0, 0, 0) := by decide +kernel
theorem e0_365 : vm_ent 0 365 = some (.iadd, 0, 0, 0) := by decide +kernel
theorem e0_366 : vm_ent 0 366 = some (.iaload, 0, 0, 0) := by decide +kernel
theorem e0_367 : vm_ent 0 367 = some (.invokevirtual 54, 38, 4, 873) := by decide +kernel
theorem e0_370 : vm_ent 0 370 = some (.if_icmp .eq 430, 800, 0, 0) := by decide +kernel
theorem e0_375 : vm_ent 0 375 = some (.aload_n 1, 0, 0, 0) := by decide +kernel
theorem e0_376 : vm_ent 0 376 = some (.aload_n 0, 0, 0, 0) := by decide +kernel
theorem e0_377 : vm_ent 0 377 = some (.iload 4, 0, 0, 0) := by decide +kernel
theorem e0_379 : vm_ent 0 379 = some (.iconst 1, 0, 0, 0) := by decide +kernel
theorem e0_380 : vm_ent 0 380 = some (.iadd, 0, 0, 0) := by decide +kernel
theorem e0_381 : vm_ent 0 381 = some (.iaload, 0, 0, 0) := by decide +kernel
theorem e0_382 : vm_ent 0 382 = some (.aload_n 0, 0, 0, 0) := by decide +kernel
theorem e0_383 : vm_ent 0 383 = some (.iload 4, 0, 0, 0) := by decide +kernel
theorem e0_385 : vm_ent 0 385 = some (.iconst 2, 0, 0, 0) := by decide +kernel
theorem e0_386 : vm_ent 0 386 = some (.iadd, 0, 0, 0) := by decide +kernel
theorem e0_387 : vm_ent 0 387 = some (.iaload, 0, 0, 0) := by decide +kernel
theorem e0_388 : vm_ent 0 388 = some (.invokevirtual 55, 19, 4, 487) := by decide +kernel
theorem e0_391 : vm_ent 0 391 = some (.aload_n 2, 0, 0, 0) := by decide +kernel
theorem e0_392 : vm_ent 0 392 = some (.aload_n 0, 0, 0, 0) := by decide +kernel
theorem e0_393 : vm_ent 0 393 = some (.iload 4, 0, 0, 0) := by decide +kernel
theorem e0_395 : vm_ent 0 395 = some (.iconst 1, 0, 0, 0) := by decide +kernel
theorem e0_396 : vm_ent 0 396 = some (.iadd, 0, 0, 0) := by decide +kernel
theorem e0_397 : vm_ent 0 397 = some (.iaload, 0, 0, 0) := by decide +kernel
theorem e0_398 : vm_ent 0 398 = some (.aload_n 0, 0, 0, 0) := by decide +kernel
theorem e0_399 : vm_ent 0 399 = some (.iload 4, 0, 0, 0) := by decide +kernel
theorem e0_401 : vm_ent 0 401 = some (.iconst 2, 0, 0, 0) := by decide +kernel
theorem e0_402 : vm_ent 0 402 = some (.iadd, 0, 0, 0) := by decide +kernel
theorem e0_403 : vm_ent 0 403 = some (.iaload, 0, 0, 0) := by decide +kernel
theorem e0_404 : vm_ent 0 404 = some (.invokevirtual 59, 45, 4, 903) := by decide +kernel
theorem e0_407 : vm_ent 0 407 = some (.if_icmp .eq 393, 800, 0, 0) := by decide +kernel
theorem e0_412 : vm_ent 0 412 = some (.aload_n 1, 0, 0, 0) := by decide +kernel
theorem e0_413 : vm_ent 0 413 = some (.aload_n 0, 0, 0, 0) := by decide +kernel
theorem e0_414 : vm_ent 0 414 = some (.iload 4, 0, 0, 0) := by decide +kernel
theorem e0_416 : vm_ent 0 416 = some (.iconst 1, 0, 0, 0) := by decide +kernel
theorem e0_417 : vm_ent 0 417 = some (.iadd, 0, 0, 0) := by decide +kernel
theorem e0_418 : vm_ent 0 418 = some (.iaload, 0, 0, 0) := by decide +kernel
theorem e0_419 : vm_ent 0 419 = some (.invokevirtual 60, 20, 4, 500) := by decide +kernel
theorem e0_422 : vm_ent 0 422 = some (.aload_n 2, 0, 0, 0) := by decide +kernel
theorem e0_423 : vm_ent 0 423 = some (.aload_n 0, 0, 0, 0) := by decide +kernel
theorem e0_424 : vm_ent 0 424 = some (.iload 4, 0, 0, 0) := by decide +kernel
theorem e0_426 : vm_ent 0 426 = some (.iconst 1, 0, 0, 0) := by decide +kernel
theorem e0_427 : vm_ent 0 427 = some (.iadd, 0, 0, 0) := by decide +kernel
theorem e0_428 : vm_ent 0 428 = some (.iaload, 0, 0, 0) := by decide +kernel
theorem e0_429 : vm_ent 0 429 = some (.invokevirtual 63, 46, 4, 915) := by decide +kernel
theorem e0_432 : vm_ent 0 432 = some (.if_icmp .eq 368, 800, 0, 0) := by decide +kernel
theorem e0_437 : vm_ent 0 437 = some (.aload_n 1, 0, 0, 0) := by decide +kernel
theorem e0_438 : vm_ent 0 438 = some (.aload_n 0, 0, 0, 0) := by decide +kernel
theorem e0_439 : vm_ent 0 439 = some (.iload 4, 0, 0, 0) := by decide +kernel
theorem e0_441 : vm_ent 0 441 = some (.iconst 1, 0, 0, 0) := by decide +kernel
theorem e0_442 : vm_ent 0 442 = some (.iadd, 0, 0, 0) := by decide +kernel
theorem e0_443 : vm_ent 0 443 = some (.iaload, 0, 0, 0) := by decide +kernel
theorem e0_444 : vm_ent 0 444 = some (.aload_n 0, 0, 0, 0) := by decide +kernel
theorem e0_445 : vm_ent 0 445 = some (.iload 4, 0, 0, 0) := by decide +kernel
theorem e0_447 : vm_ent 0 447 = some (.iconst 2, 0, 0, 0) := by decide +kernel
theorem e0_448 : vm_ent 0 448 = some (.iadd, 0, 0, 0) := by decide +kernel
theorem e0_449 : vm_ent 0 449 = some (.iaload, 0, 0, 0) := by decide +kernel
theorem e0_450 : vm_ent 0 450 = some (.aload_n 0, 0, 0, 0) := by decide +kernel
theorem e0_451 : vm_ent 0 451 = some (.iload 4, 0, 0, 0) := by decide +kernel
theorem e0_453 : vm_ent 0 453 = some (.iconst 3, 0, 0, 0) := by decide +kernel
theorem e0_454 : vm_ent 0 454 = some (.iadd, 0, 0, 0) := by decide +kernel
theorem e0_455 : vm_ent 0 455 = some (.iaload, 0, 0, 0) := by decide +kernel
theorem e0_456 : vm_ent 0 456 = some (.invokevirtual 64, 21, 4, 508) := by decide +kernel
theorem e0_459 : vm_ent 0 459 = some (.aload_n 2, 0, 0, 0) := by decide +kernel
theorem e0_460 : vm_ent 0 460 = some (.aload_n 0, 0, 0, 0) := by decide +kernel
theorem e0_461 : vm_ent 0 461 = some (.iload 4, 0, 0, 0) := by decide +kernel
theorem e0_463 : vm_ent 0 463 = some (.iconst 1, 0, 0, 0) := by decide +kernel
theorem e0_464 : vm_ent 0 464 = some (.iadd, 0, 0, 0) := by decide +kernel
theorem e0_465 : vm_ent 0 465 = some (.iaload, 0, 0, 0) := by decide +kernel
theorem e0_466 : vm_ent 0 466 = some (.aload_n 0, 0, 0, 0) := by decide +kernel
theorem e0_467 : vm_ent 0 467 = some (.iload 4, 0, 0, 0) := by decide +kernel
theorem e0_469 : vm_ent 0 469 = some (.iconst 2, 0, 0, 0) := by decide +kernel
theorem e0_470 : vm_ent 0 470 = some (.iadd, 0, 0, 0) := by decide +kernel
theorem e0_471 : vm_ent 0 471 = some (.iaload, 0, 0, 0) := by decide +kernel
theorem e0_472 : vm_ent 0 472 = some (.aload_n 0, 0, 0, 0) := by decide +kernel
theorem e0_473 : vm_ent 0 473 = some (.iload 4, 0, 0, 0) := by decide +kernel
theorem e0_475 : vm_ent 0 475 = some (.iconst 3, 0, 0, 0) := by decide +kernel
theorem e0_476 : vm_ent 0 476 = some (.iadd, 0, 0, 0) := by decide +kernel
theorem e0_477 : vm_ent 0 477 = some (.iaload, 0, 0, 0) := by decide +kernel
theorem e0_478 : vm_ent 0 478 = some (.invokevirtual 68, 48, 4, 919) := by decide +kernel
theorem e0_481 : vm_ent 0 481 = some (.lcmp, 0, 0, 0) := by decide +kernel
theorem e0_482 : vm_ent 0 482 = some (.ifCond .eq 318, 800, 0, 0) := by decide +kernel
theorem e0_487 : vm_ent 0 487 = some (.aload_n 1, 0, 0, 0) := by decide +kernel
theorem e0_488 : vm_ent 0 488 = some (.aload_n 0, 0, 0, 0) := by decide +kernel
theorem e0_489 : vm_ent 0 489 = some (.iload 4, 0, 0, 0) := by decide +kernel
theorem e0_491 : vm_ent 0 491 = some (.iconst 1, 0, 0, 0) := by decide +kernel
theorem e0_492 : vm_ent 0 492 = some (.iadd, 0, 0, 0) := by decide +kernel
theorem e0_493 : vm_ent 0 493 = some (.iaload, 0, 0, 0) := by decide +kernel
theorem e0_494 : vm_ent 0 494 = some (.aload_n 0, 0, 0, 0) := by decide +kernel
theorem e0_495 : vm_ent 0 495 = some (.iload 4, 0, 0, 0) := by decide +kernel
theorem e0_497 : vm_ent 0 497 = some (.iconst 2, 0, 0, 0) := by decide +kernel
theorem e0_498 : vm_ent 0 498 = some (.iadd, 0, 0, 0) := by decide +kernel
theorem e0_499 : vm_ent 0 499 = some (.iaload, 0, 0, 0) := by decide +kernel
theorem e0_500 : vm_ent 0 500 = some (.aload_n 0, 0, 0, 0) := by decide +kernel
theorem e0_501 : vm_ent 0 501 = some (.iload 4, 0, 0, 0) := by decide +kernel
theorem e0_503 : vm_ent 0 503 = some (.iconst 3, 0, 0, 0) := by decide +kernel
theorem e0_504 : vm_ent 0 504 = some (.iadd, 0, 0, 0) := by decide +kernel
theorem e0_505 : vm_ent 0 505 = some (.iaload, 0, 0, 0) := by decide +kernel
theorem e0_506 : vm_ent 0 506 = some (.invokevirtual 69, 22, 4, 524) := by decide +kernel
theorem e0_509 : vm_ent 0 509 = some (.aload_n 2, 0, 0, 0) := by decide +kernel
theorem e0_510 : vm_ent 0 510 = some (.aload_n 0, 0, 0, 0) := by decide +kernel
theorem e0_511 : vm_ent 0 511 = some (.iload 4, 0, 0, 0) := by decide +kernel
theorem e0_513 : vm_ent 0 513 = some (.iconst 1, 0, 0, 0) := by decide +kernel
theorem e0_514 : vm_ent 0 514 = some (.iadd, 0, 0, 0) := by decide +kernel
theorem e0_515 : vm_ent 0 515 = some (.iaload, 0, 0, 0) := by decide +kernel
theorem e0_516 : vm_ent 0 516 = some (.aload_n 0, 0, 0, 0) := by decide +kernel
theorem e0_517 : vm_ent 0 517 = some (.iload 4, 0, 0, 0) := by decide +kernel
theorem e0_519 : vm_ent 0 519 = some (.iconst 2, 0, 0, 0) := by decide +kernel
theorem e0_520 : vm_ent 0 520 = some (.iadd, 0, 0, 0) := by decide +kernel
theorem e0_521 : vm_ent 0 521 = some (.iaload, 0, 0, 0) := by decide +kernel
theorem e0_522 : vm_ent 0 522 = some (.aload_n 0, 0, 0, 0) := by decide +kernel
theorem e0_523 : vm_ent 0 523 = some (.iload 4, 0, 0, 0) := by decide +kernel
theorem e0_525 : vm_ent 0 525 = some (.iconst 3, 0, 0, 0) := by decide +kernel
theorem e0_526 : vm_ent 0 526 = some (.iadd, 0, 0, 0) := by decide +kernel
theorem e0_527 : vm_ent 0 527 = some (.iaload, 0, 0, 0) := by decide +kernel
theorem e0_528 : vm_ent 0 528 = some (.invokevirtual 73, 49, 4, 927) := by decide +kernel
theorem e0_531 : vm_ent 0 531 = some (.if_icmp .eq 269, 800, 0, 0) := by decide +kernel
theorem e0_536 : vm_ent 0 536 = some (.aload_n 1, 0, 0, 0) := by decide +kernel
theorem e0_537 : vm_ent 0 537 = some (.aload_n 0, 0, 0, 0) := by decide +kernel
theorem e0_538 : vm_ent 0 538 = some (.iload 4, 0, 0, 0) := by decide +kernel
theorem e0_540 : vm_ent 0 540 = some (.iconst 1, 0, 0, 0) := by decide +kernel
theorem e0_541 : vm_ent 0 541 = some (.iadd, 0, 0, 0) := by decide +kernel
theorem e0_542 : vm_ent 0 542 = some (.iaload, 0, 0, 0) := by decide +kernel
theorem e0_543 : vm_ent 0 543 = some (.aload_n 0, 0, 0, 0) := by decide +kernel
theorem e0_544 : vm_ent 0 544 = some (.iload 4, 0, 0, 0) := by decide +kernel
theorem e0_546 : vm_ent 0 546 = some (.iconst 2, 0, 0, 0) := by decide +kernel
theorem e0_547 : vm_ent 0 547 = some (.iadd, 0, 0, 0) := by decide +kernel
theorem e0_548 : vm_ent 0 548 = some (.iaload, 0, 0, 0) := by decide +kernel
theorem e0_549 : vm_ent 0 549 = some (.i2l, 0, 0, 0) := by decide +kernel
theorem e0_550 : vm_ent 0 550 = some (.bipush 32, 0, 0, 0) := by decide +kernel
theorem e0_552 : vm_ent 0 552 = some (.lshl, 0, 0, 0) := by decide +kernel
theorem e0_553 : vm_ent 0 553 = some (.aload_n 0, 0, 0, 0) := by decide +kernel
theorem e0_554 : vm_ent 0 554 = some (.iload 4, 0, 0, 0) := by decide +kernel
theorem e0_556 : vm_ent 0 556 = some (.iconst 3, 0, 0, 0) := by decide +kernel
theorem e0_557 : vm_ent 0 557 = some (.iadd, 0, 0, 0) := by decide +kernel
theorem e0_558 : vm_ent 0 558 = some (.iaload, 0, 0, 0) := by decide +kernel
theorem e0_559 : vm_ent 0 559 = some (.i2l, 0, 0, 0) := by decide +kernel
theorem e0_560 : vm_ent 0 560 = some (.ldc2_w 34, 4294967295, 0, 955) := by decide +kernel
theorem e0_563 : vm_ent 0 563 = some (.land, 0, 0, 0) := by decide +kernel
theorem e0_564 : vm_ent 0 564 = some (.lor, 0, 0, 0) := by decide +kernel
theorem e0_565 : vm_ent 0 565 = some (.invokevirtual 74, 23, 4, 529) := by decide +kernel
theorem e0_568 : vm_ent 0 568 = some (.aload_n 2, 0, 0, 0) := by decide +kernel
theorem e0_569 : vm_ent 0 569 = some (.aload_n 0, 0, 0, 0) := by decide +kernel
theorem e0_570 : vm_ent 0 570 = some (.iload 4, 0, 0, 0) := by decide +kernel
theorem e0_572 : vm_ent 0 572 = some (.iconst 1, 0, 0, 0) := by decide +kernel
theorem e0_573 : vm_ent 0 573 = some (.iadd, 0, 0, 0) := by decide +kernel
theorem e0_574 : vm_ent 0 574 = some (.iaload, 0, 0, 0) := by decide +kernel
theorem e0_575 : vm_ent 0 575 = some (.aload_n 0, 0, 0, 0) := by decide +kernel
theorem e0_576 : vm_ent 0 576 = some (.iload 4, 0, 0, 0) := by decide +kernel
theorem e0_578 : vm_ent 0 578 = some (.iconst 2, 0, 0, 0) := by decide +kernel
theorem e0_579 : vm_ent 0 579 = some (.iadd, 0, 0, 0) := by decide +kernel
theorem e0_580 : vm_ent 0 580 = some (.iaload, 0, 0, 0) := by decide +kernel
theorem e0_581 : vm_ent 0 581 = some (.i2l, 0, 0, 0) := by decide +kernel
theorem e0_582 : vm_ent 0 582 = some (.bipush 32, 0, 0, 0) := by decide +kernel
theorem e0_584 : vm_ent 0 584 = some (.lshl, 0, 0, 0) := by decide +kernel
theorem e0_585 : vm_ent 0 585 = some (.aload_n 0, 0, 0, 0) := by decide +kernel
theorem e0_586 : vm_ent 0 586 = some (.iload 4, 0, 0, 0) := by decide +kernel
theorem e0_588 : vm_ent 0 588 = some (.iconst 3, 0, 0, 0) := by decide +kernel
theorem e0_589 : vm_ent 0 589 = some (.iadd, 0, 0, 0) := by decide +kernel
theorem e0_590 : vm_ent 0 590 = some (.iaload, 0, 0, 0) := by decide +kernel
theorem e0_591 : vm_ent 0 591 = some (.i2l, 0, 0, 0) := by decide +kernel
theorem e0_592 : vm_ent 0 592 = some (.ldc2_w 34, 4294967295, 0, 955) := by decide +kernel
theorem e0_595 : vm_ent 0 595 = some (.land, 0, 0, 0) := by decide +kernel
theorem e0_596 : vm_ent 0 596 = some (.lor, 0, 0, 0) := by decide +kernel
theorem e0_597 : vm_ent 0 597 = some (.invokevirtual 78, 50, 4, 931) := by decide +kernel
theorem e0_600 : vm_ent 0 600 = some (.if_icmp .eq 200, 800, 0, 0) := by decide +kernel
theorem e0_605 : vm_ent 0 605 = some (.aload_n 1, 0, 0, 0) := by decide +kernel
theorem e0_606 : vm_ent 0 606 = some (.aload_n 0, 0, 0, 0) := by decide +kernel
theorem e0_607 : vm_ent 0 607 = some (.iload 4, 0, 0, 0) := by decide +kernel
theorem e0_609 : vm_ent 0 609 = some (.iconst 1, 0, 0, 0) := by decide +kernel
theorem e0_610 : vm_ent 0 610 = some (.iadd, 0, 0, 0) := by decide +kernel
theorem e0_611 : vm_ent 0 611 = some (.iaload, 0, 0, 0) := by decide +kernel
theorem e0_612 : vm_ent 0 612 = some (.aload_n 0, 0, 0, 0) := by decide +kernel
theorem e0_613 : vm_ent 0 613 = some (.iload 4, 0, 0, 0) := by decide +kernel
theorem e0_615 : vm_ent 0 615 = some (.iconst 2, 0, 0, 0) := by decide +kernel
theorem e0_616 : vm_ent 0 616 = some (.iadd, 0, 0, 0) := by decide +kernel
theorem e0_617 : vm_ent 0 617 = some (.iaload, 0, 0, 0) := by decide +kernel
theorem e0_618 : vm_ent 0 618 = some (.invokevirtual 79, 24, 4, 533) := by decide +kernel
theorem e0_621 : vm_ent 0 621 = some (.aload_n 2, 0, 0, 0) := by decide +kernel
theorem e0_622 : vm_ent 0 622 = some (.aload_n 0, 0, 0, 0) := by decide +kernel
theorem e0_623 : vm_ent 0 623 = some (.iload 4, 0, 0, 0) := by decide +kernel
theorem e0_625 : vm_ent 0 625 = some (.iconst 1, 0, 0, 0) := by decide +kernel
theorem e0_626 : vm_ent 0 626 = some (.iadd, 0, 0, 0) := by decide +kernel
theorem e0_627 : vm_ent 0 627 = some (.iaload, 0, 0, 0) := by decide +kernel
theorem e0_628 : vm_ent 0 628 = some (.aload_n 0, 0, 0, 0) := by decide +kernel
theorem e0_629 : vm_ent 0 629 = some (.iload 4, 0, 0, 0) := by decide +kernel
theorem e0_631 : vm_ent 0 631 = some (.iconst 2, 0, 0, 0) := by decide +kernel
theorem e0_632 : vm_ent 0 632 = some (.iadd, 0, 0, 0) := by decide +kernel
theorem e0_633 : vm_ent 0 633 = some (.iaload, 0, 0, 0) := by decide +kernel
theorem e0_634 : vm_ent 0 634 = some (.invokevirtual 83, 52, 4, 935) := by decide +kernel
theorem e0_637 : vm_ent 0 637 = some (.lcmp, 0, 0, 0) := by decide +kernel
theorem e0_638 : vm_ent 0 638 = some (.ifCond .eq 162, 800, 0, 0) := by decide +kernel
theorem e0_643 : vm_ent 0 643 = some (.aload_n 1, 0, 0, 0) := by decide +kernel
theorem e0_644 : vm_ent 0 644 = some (.aload_n 0, 0, 0, 0) := by decide +kernel
theorem e0_645 : vm_ent 0 645 = some (.iload 4, 0, 0, 0) := by decide +kernel
theorem e0_647 : vm_ent 0 647 = some (.iconst 1, 0, 0, 0) := by decide +kernel
theorem e0_648 : vm_ent 0 648 = some (.iadd, 0, 0, 0) := by decide +kernel
theorem e0_649 : vm_ent 0 649 = some (.iaload, 0, 0, 0) := by decide +kernel
theorem e0_650 : vm_ent 0 650 = some (.invokevirtual 84, 25, 4, 545) := by decide +kernel
theorem e0_653 : vm_ent 0 653 = some (.aload_n 2, 0, 0, 0) := by decide +kernel
theorem e0_654 : vm_ent 0 654 = some (.aload_n 0, 0, 0, 0) := by decide +kernel
theorem e0_655 : vm_ent 0 655 = some (.iload 4, 0, 0, 0) := by decide +kernel
theorem e0_657 : vm_ent 0 657 = some (.iconst 1, 0, 0, 0) := by decide +kernel
theorem e0_658 : vm_ent 0 658 = some (.iadd, 0, 0, 0) := by decide +kernel
theorem e0_659 : vm_ent 0 659 = some (.iaload, 0, 0, 0) := by decide +kernel
theorem e0_660 : vm_ent 0 660 = some (.invokevirtual 88, 53, 4, 947) := by decide +kernel
theorem e0_663 : vm_ent 0 663 = some (.lcmp, 0, 0, 0) := by decide +kernel
theorem e0_664 : vm_ent 0 664 = some (.ifCond .eq 136, 800, 0, 0) := by decide +kernel
theorem e0_669 : vm_ent 0 669 = some (.aload_n 1, 0, 0, 0) := by decide +kernel
theorem e0_670 : vm_ent 0 670 = some (.aload_n 0, 0, 0, 0) := by decide +kernel
theorem e0_671 : vm_ent 0 671 = some (.iload 4, 0, 0, 0) := by decide +kernel
theorem e0_673 : vm_ent 0 673 = some (.iconst 1, 0, 0, 0) := by decide +kernel
theorem e0_674 : vm_ent 0 674 = some (.iadd, 0, 0, 0) := by decide +kernel
theorem e0_675 : vm_ent 0 675 = some (.iaload, 0, 0, 0) := by decide +kernel
theorem e0_676 : vm_ent 0 676 = some (.i2l, 0, 0, 0) := by decide +kernel
theorem e0_677 : vm_ent 0 677 = some (.bipush 32, 0, 0, 0) := by decide +kernel
theorem e0_679 : vm_ent 0 679 = some (.lshl, 0, 0, 0) := by decide +kernel
theorem e0_680 : vm_ent 0 680 = some (.aload_n 0, 0, 0, 0) := by decide +kernel
theorem e0_681 : vm_ent 0 681 = some (.iload 4, 0, 0, 0) := by decide +kernel
theorem e0_683 : vm_ent 0 683 = some (.iconst 2, 0, 0, 0) := by decide +kernel
theorem e0_684 : vm_ent 0 684 = some (.iadd, 0, 0, 0) := by decide +kernel
theorem e0_685 : vm_ent 0 685 = some (.iaload, 0, 0, 0) := by decide +kernel
theorem e0_686 : vm_ent 0 686 = some (.i2l, 0, 0, 0) := by decide +kernel
theorem e0_687 : vm_ent 0 687 = some (.ldc2_w 34, 4294967295, 0, 955) := by decide +kernel
theorem e0_690 : vm_ent 0 690 = some (.land, 0, 0, 0) := by decide +kernel
theorem e0_691 : vm_ent 0 691 = some (.lor, 0, 0, 0) := by decide +kernel
theorem e0_692 : vm_ent 0 692 = some (.aload_n 0, 0, 0, 0) := by decide +kernel
theorem e0_693 : vm_ent 0 693 = some (.iload 4, 0, 0, 0) := by decide +kernel
theorem e0_695 : vm_ent 0 695 = some (.iconst 3, 0, 0, 0) := by decide +kernel
theorem e0_696 : vm_ent 0 696 = some (.iadd, 0, 0, 0) := by decide +kernel
theorem e0_697 : vm_ent 0 697 = some (.iaload, 0, 0, 0) := by decide +kernel
theorem e0_698 : vm_ent 0 698 = some (.i2l, 0, 0, 0) := by decide +kernel
theorem e0_699 : vm_ent 0 699 = some (.bipush 32, 0, 0, 0) := by decide +kernel
theorem e0_701 : vm_ent 0 701 = some (.lshl, 0, 0, 0) := by decide +kernel
theorem e0_702 : vm_ent 0 702 = some (.aload_n 0, 0, 0, 0) := by decide +kernel
theorem e0_703 : vm_ent 0 703 = some (.iload 4, 0, 0, 0) := by decide +kernel
theorem e0_705 : vm_ent 0 705 = some (.iconst 4, 0, 0, 0) := by decide +kernel
theorem e0_706 : vm_ent 0 706 = some (.iadd, 0, 0, 0) := by decide +kernel
theorem e0_707 : vm_ent 0 707 = some (.iaload, 0, 0, 0) := by decide +kernel
theorem e0_708 : vm_ent 0 708 = some (.i2l, 0, 0, 0) := by decide +kernel
theorem e0_709 : vm_ent 0 709 = some (.ldc2_w 34, 4294967295, 0, 955) := by decide +kernel
theorem e0_712 : vm_ent 0 712 = some (.land, 0, 0, 0) := by decide +kernel
theorem e0_713 : vm_ent 0 713 = some (.lor, 0, 0, 0) := by decide +kernel
theorem e0_714 : vm_ent 0 714 = some (.aload_n 3, 0, 0, 0) := by decide +kernel
theorem e0_715 : vm_ent 0 715 = some (.invokestatic 89, 56, 2, 554) := by decide +kernel
theorem e0_718 : vm_ent 0 718 = some (.istore 5, 0, 0, 0) := by decide +kernel
theorem e0_720 : vm_ent 0 720 = some (.aload_n 2, 0, 0, 0) := by decide +kernel
theorem e0_721 : vm_ent 0 721 = some (.aload_n 0, 0, 0, 0) := by decide +kernel
theorem e0_722 : vm_ent 0 722 = some (.iload 4, 0, 0, 0) := by decide +kernel
theorem e0_724 : vm_ent 0 724 = some (.iconst 1, 0, 0, 0) := by decide +kernel
theorem e0_725 : vm_ent 0 725 = some (.iadd, 0, 0, 0) := by decide +kernel
theorem e0_726 : vm_ent 0 726 = some (.iaload, 0, 0, 0) := by decide +kernel
theorem e0_727 : vm_ent 0 727 = some (.i2l, 0, 0, 0) := by decide +kernel
theorem e0_728 : vm_ent 0 728 = some (.bipush 32, 0, 0, 0) := by decide +kernel
theorem e0_730 : vm_ent 0 730 = some (.lshl, 0, 0, 0) := by decide +kernel
theorem e0_731 : vm_ent 0 731 = some (.aload_n 0, 0, 0, 0) := by decide +kernel
theorem e0_732 : vm_ent 0 732 = some (.iload 4, 0, 0, 0) := by decide +kernel
theorem e0_734 : vm_ent 0 734 = some (.iconst 2, 0, 0, 0) := by decide +kernel
theorem e0_735 : vm_ent 0 735 = some (.iadd, 0, 0, 0) := by decide +kernel
theorem e0_736 : vm_ent 0 736 = some (.iaload, 0, 0, 0) := by decide +kernel
theorem e0_737 : vm_ent 0 737 = some (.i2l, 0, 0, 0) := by decide +kernel
theorem e0_738 : vm_ent 0 738 = some (.ldc2_w 34, 4294967295, 0, 955) := by decide +kernel
theorem e0_741 : vm_ent 0 741 = some (.land, 0, 0, 0) := by decide +kernel
theorem e0_742 : vm_ent 0 742 = some (.lor, 0, 0, 0) := by decide +kernel
theorem e0_743 : vm_ent 0 743 = some (.aload_n 0, 0, 0, 0) := by decide +kernel
theorem e0_744 : vm_ent 0 744 = some (.iload 4, 0, 0, 0) := by decide +kernel
theorem e0_746 : vm_ent 0 746 = some (.iconst 3, 0, 0, 0) := by decide +kernel
theorem e0_747 : vm_ent 0 747 = some (.iadd, 0, 0, 0) := by decide +kernel
theorem e0_748 : vm_ent 0 748 = some (.iaload, 0, 0, 0) := by decide +kernel
theorem e0_749 : vm_ent 0 749 = some (.i2l, 0, 0, 0) := by decide +kernel
theorem e0_750 : vm_ent 0 750 = some (.bipush 32, 0, 0, 0) := by decide +kernel
theorem e0_752 : vm_ent 0 752 = some (.lshl, 0, 0, 0) := by decide +kernel
theorem e0_753 : vm_ent 0 753 = some (.aload_n 0, 0, 0, 0) := by decide +kernel
theorem e0_754 : vm_ent 0 754 = some (.iload 4, 0, 0, 0) := by decide +kernel
theorem e0_756 : vm_ent 0 756 = some (.iconst 4, 0, 0, 0) := by decide +kernel
theorem e0_757 : vm_ent 0 757 = some (.iadd, 0, 0, 0) := by decide +kernel
theorem e0_758 : vm_ent 0 758 = some (.iaload, 0, 0, 0) := by decide +kernel
theorem e0_759 : vm_ent 0 759 = some (.i2l, 0, 0, 0) := by decide +kernel
theorem e0_760 : vm_ent 0 760 = some (.ldc2_w 34, 4294967295, 0, 955) := by decide +kernel
theorem e0_763 : vm_ent 0 763 = some (.land, 0, 0, 0) := by decide +kernel
theorem e0_764 : vm_ent 0 764 = some (.lor, 0, 0, 0) := by decide +kernel
theorem e0_765 : vm_ent 0 765 = some (.invokevirtual 94, 54, 4, 951) := by decide +kernel
theorem e0_768 : vm_ent 0 768 = some (.lstore 6, 0, 0, 0) := by decide +kernel
theorem e0_770 : vm_ent 0 770 = some (.aload_n 2, 0, 0, 0) := by decide +kernel
theorem e0_771 : vm_ent 0 771 = some (.invokevirtual 95, 34, 4, 767) := by decide +kernel
theorem e0_774 : vm_ent 0 774 = some (.iload 5, 0, 0, 0) := by decide +kernel
theorem e0_776 : vm_ent 0 776 = some (.if_icmp .eq 5, 781, 0, 0) := by decide +kernel
theorem e0_781 : vm_ent 0 781 = some (.iload 5, 0, 0, 0) := by decide +kernel
theorem e0_783 : vm_ent 0 783 = some (.ifCond .ne 14, 797, 0, 0) := by decide +kernel
theorem e0_786 : vm_ent 0 786 = some (.aload_n 3, 0, 0, 0) := by decide +kernel
theorem e0_787 : vm_ent 0 787 = some (.iconst 0, 0, 0, 0) := by decide +kernel
theorem e0_788 : vm_ent 0 788 = some (.laload, 0, 0, 0) := by decide +kernel
theorem e0_789 : vm_ent 0 789 = some (.lload 6, 0, 0, 0) := by decide +kernel
theorem e0_791 : vm_ent 0 791 = some (.lcmp, 0, 0, 0) := by decide +kernel
theorem e0_792 : vm_ent 0 792 = some (.ifCond .eq 5, 797, 0, 0) := by decide +kernel
theorem e0_797 : vm_ent 0 797 = some (.goto 3, 800, 0, 0) := by decide +kernel
theorem e0_800 : vm_ent 0 800 = some (.iinc 4 5, 0, 0, 0) := by decide +kernel
theorem e0_803 : vm_ent 0 803 = some (.goto (-780), 23, 0, 0) := by decide +kernel
theorem e0_806 : vm_ent 0 806 = some (.iconst 1, 0, 0, 0) := by decide +kernel
theorem e0_807 : vm_ent 0 807 = some (.ireturn, 0, 0, 0) := by decide +kernel
theorem e2_0 : vm_ent 2 0 = some (.iload_n 1, 0, 0, 0) := by decide +kernel
theorem e2_1 : vm_ent 2 1 = some (.ifCond .lt 15, 16, 0, 0) := by decide +kernel
theorem e2_4 : vm_ent 2 4 = some (.iload_n 1, 0, 0, 0) := by decide +kernel
theorem e2_5 : vm_ent 2 5 = some (.aload_n 0, 0, 0, 0) := by decide +kernel
theorem e2_6 : vm_ent 2 6 = some (.getfield 23, 0, 0, 80) := by decide +kernel
theorem e2_9 : vm_ent 2 9 = some (.if_icmp .ge 7, 16, 0, 0) := by decide +kernel
theorem e2_16 : vm_ent 2 16 = some (.iconst 0, 0, 0, 0) := by decide +kernel
theorem e2_17 : vm_ent 2 17 = some (.ireturn, 0, 0, 0) := by decide +kernel
theorem e3_0 : vm_ent 3 0 = some (.aload_n 0, 0, 0, 0) := by decide +kernel
theorem e3_1 : vm_ent 3 1 = some (.getfield 23, 0, 0, 80) := by decide +kernel
theorem e3_4 : vm_ent 3 4 = some (.bipush 8, 0, 0, 0) := by decide +kernel
theorem e3_6 : vm_ent 3 6 = some (.if_icmp .lt 5, 11, 0, 0) := by decide +kernel
theorem e3_11 : vm_ent 3 11 = some (.aload_n 0, 0, 0, 0) := by decide +kernel
theorem e3_12 : vm_ent 3 12 = some (.getfield 9, 0, 1, 82) := by decide +kernel
theorem e3_15 : vm_ent 3 15 = some (.aload_n 0, 0, 0, 0) := by decide +kernel
theorem e3_16 : vm_ent 3 16 = some (.getfield 23, 0, 0, 80) := by decide +kernel
theorem e3_19 : vm_ent 3 19 = some (.iload_n 1, 0, 0, 0) := by decide +kernel
theorem e3_20 : vm_ent 3 20 = some (.bastore, 0, 0, 0) := by decide +kernel
theorem e3_21 : vm_ent 3 21 = some (.aload_n 0, 0, 0, 0) := by decide +kernel
theorem e3_22 : vm_ent 3 22 = some (.getfield 19, 0, 3, 85) := by decide +kernel
theorem e3_25 : vm_ent 3 25 = some (.aload_n 0, 0, 0, 0) := by decide +kernel
theorem e3_26 : vm_ent 3 26 = some (.getfield 23, 0, 0, 80) := by decide +kernel
theorem e3_29 : vm_ent 3 29 = some (.aload_n 0, 0, 0, 0) := by decide +kernel
theorem e3_30 : vm_ent 3 30 = some (.getfield 23, 0, 0, 80) := by decide +kernel
theorem e3_33 : vm_ent 3 33 = some (.iastore, 0, 0, 0) := by decide +kernel
theorem e3_34 : vm_ent 3 34 = some (.aload_n 0, 0, 0, 0) := by decide +kernel
theorem e3_35 : vm_ent 3 35 = some (.dup, 0, 0, 0) := by decide +kernel
theorem e3_36 : vm_ent 3 36 = some (.getfield 23, 0, 0, 80) := by decide +kernel
theorem e3_39 : vm_ent 3 39 = some (.iconst 1, 0, 0, 0) := by decide +kernel
theorem e3_40 : vm_ent 3 40 = some (.iadd, 0, 0, 0) := by decide +kernel
theorem e3_41 : vm_ent 3 41 = some (.putfield 23, 0, 0, 80) := by decide +kernel
theorem e3_44 : vm_ent 3 44 = some (.aload_n 0, 0, 0, 0) := by decide +kernel
theorem e3_45 : vm_ent 3 45 = some (.getfield 23, 0, 0, 80) := by decide +kernel
theorem e3_48 : vm_ent 3 48 = some (.iconst 1, 0, 0, 0) := by decide +kernel
theorem e3_49 : vm_ent 3 49 = some (.isub, 0, 0, 0) := by decide +kernel
theorem e3_50 : vm_ent 3 50 = some (.ireturn, 0, 0, 0) := by decide +kernel
theorem e4_0 : vm_ent 4 0 = some (.lconst 0, 0, 0, 0) := by decide +kernel
theorem e4_1 : vm_ent 4 1 = some (.lstore_n 2, 0, 0, 0) := by decide +kernel
theorem e4_2 : vm_ent 4 2 = some (.iconst 0, 0, 0, 0) := by decide +kernel
theorem e4_3 : vm_ent 4 3 = some (.istore 4, 0, 0, 0) := by decide +kernel
theorem e4_5 : vm_ent 4 5 = some (.iload 4, 0, 0, 0) := by decide +kernel
theorem e4_7 : vm_ent 4 7 = some (.aload_n 1, 0, 0, 0) := by decide +kernel
theorem e4_8 : vm_ent 4 8 = some (.getfield 35, 1, 2, 118) := by decide +kernel
theorem e4_11 : vm_ent 4 11 = some (.if_icmp .ge 31, 42, 0, 0) := by decide +kernel
theorem e4_42 : vm_ent 4 42 = some (.lload_n 2, 0, 0, 0) := by decide +kernel
theorem e4_43 : vm_ent 4 43 = some (.lreturn, 0, 0, 0) := by decide +kernel
theorem e6_0 : vm_ent 6 0 = some (.aload_n 0, 0, 0, 0) := by decide +kernel
theorem e6_1 : vm_ent 6 1 = some (.iconst 0, 0, 0, 0) := by decide +kernel
theorem e6_2 : vm_ent 6 2 = some (.putfield 18, 1, 2, 113) := by decide +kernel
theorem e6_5 : vm_ent 6 5 = some (.return_, 0, 0, 0) := by decide +kernel
theorem e7_0 : vm_ent 7 0 = some (.iload_n 1, 0, 0, 0) := by decide +kernel
theorem e7_1 : vm_ent 7 1 = some (.ifCond .lt 15, 16, 0, 0) := by decide +kernel
theorem e7_4 : vm_ent 7 4 = some (.iload_n 1, 0, 0, 0) := by decide +kernel
theorem e7_5 : vm_ent 7 5 = some (.aload_n 0, 0, 0, 0) := by decide +kernel
theorem e7_6 : vm_ent 7 6 = some (.getfield 18, 1, 2, 113) := by decide +kernel
theorem e7_9 : vm_ent 7 9 = some (.if_icmp .ge 7, 16, 0, 0) := by decide +kernel
theorem e7_16 : vm_ent 7 16 = some (.iconst 0, 0, 0, 0) := by decide +kernel
theorem e7_17 : vm_ent 7 17 = some (.ireturn, 0, 0, 0) := by decide +kernel
theorem e12_0 : vm_ent 12 0 = some (.aload_n 0, 0, 0, 0) := by decide +kernel
theorem e12_1 : vm_ent 12 1 = some (.getfield 12, 5, 0, 195) := by decide +kernel
theorem e12_4 : vm_ent 12 4 = some (.iload_n 1, 0, 0, 0) := by decide +kernel
theorem e12_5 : vm_ent 12 5 = some (.invokevirtual 68, 3, 4, 254) := by decide +kernel
theorem e12_8 : vm_ent 12 8 = some (.istore_n 2, 0, 0, 0) := by decide +kernel
theorem e12_9 : vm_ent 12 9 = some (.iload_n 2, 0, 0, 0) := by decide +kernel
theorem e12_10 : vm_ent 12 10 = some (.iconst (-1), 0, 0, 0) := by decide +kernel
theorem e12_11 : vm_ent 12 11 = some (.if_icmp .eq 7, 18, 0, 0) := by decide +kernel
theorem e12_14 : vm_ent 12 14 = some (.aload_n 0, 0, 0, 0) := by decide +kernel
theorem e12_15 : vm_ent 12 15 = some (.invokevirtual 72, 31, 4, 258) := by decide +kernel
theorem e12_18 : vm_ent 12 18 = some (.iload_n 2, 0, 0, 0) := by decide +kernel
theorem e12_19 : vm_ent 12 19 = some (.ireturn, 0, 0, 0) := by decide +kernel
theorem e13_0 : vm_ent 13 0 = some (.aload_n 0, 0, 0, 0) := by decide +kernel
theorem e13_1 : vm_ent 13 1 = some (.getfield 12, 5, 0, 195) := by decide +kernel
theorem e13_4 : vm_ent 13 4 = some (.iload_n 1, 0, 0, 0) := by decide +kernel
theorem e13_5 : vm_ent 13 5 = some (.invokevirtual 75, 2, 4, 273) := by decide +kernel
theorem e13_8 : vm_ent 13 8 = some (.ifCond .eq 14, 22, 0, 0) := by decide +kernel
theorem e13_22 : vm_ent 13 22 = some (.iconst 0, 0, 0, 0) := by decide +kernel
theorem e13_23 : vm_ent 13 23 = some (.ireturn, 0, 0, 0) := by decide +kernel
theorem e14_0 : vm_ent 14 0 = some (.aload_n 0, 0, 0, 0) := by decide +kernel
theorem e14_1 : vm_ent 14 1 = some (.getfield 87, 5, 3, 198) := by decide +kernel
theorem e14_4 : vm_ent 14 4 = some (.bipush 16, 0, 0, 0) := by decide +kernel
theorem e14_6 : vm_ent 14 6 = some (.if_icmp .lt 5, 11, 0, 0) := by decide +kernel
theorem e14_11 : vm_ent 14 11 = some (.aload_n 0, 0, 0, 0) := by decide +kernel
theorem e14_12 : vm_ent 14 12 = some (.dup, 0, 0, 0) := by decide +kernel
theorem e14_13 : vm_ent 14 13 = some (.getfield 87, 5, 3, 198) := by decide +kernel
theorem e14_16 : vm_ent 14 16 = some (.iconst 1, 0, 0, 0) := by decide +kernel
theorem e14_17 : vm_ent 14 17 = some (.iadd, 0, 0, 0) := by decide +kernel
theorem e14_18 : vm_ent 14 18 = some (.putfield 87, 5, 3, 198) := by decide +kernel
theorem e14_21 : vm_ent 14 21 = some (.aload_n 0, 0, 0, 0) := by decide +kernel
theorem e14_22 : vm_ent 14 22 = some (.getfield 87, 5, 3, 198) := by decide +kernel
theorem e14_25 : vm_ent 14 25 = some (.iconst 1, 0, 0, 0) := by decide +kernel
theorem e14_26 : vm_ent 14 26 = some (.isub, 0, 0, 0) := by decide +kernel
theorem e14_27 : vm_ent 14 27 = some (.ireturn, 0, 0, 0) := by decide +kernel
theorem e15_0 : vm_ent 15 0 = some (.aload_n 0, 0, 0, 0) := by decide +kernel
theorem e15_1 : vm_ent 15 1 = some (.iload_n 1, 0, 0, 0) := by decide +kernel
theorem e15_2 : vm_ent 15 2 = some (.invokevirtual 91, 27, 4, 320) := by decide +kernel
theorem e15_5 : vm_ent 15 5 = some (.ifCond .eq 15, 20, 0, 0) := by decide +kernel
theorem e15_20 : vm_ent 15 20 = some (.iconst 0, 0, 0, 0) := by decide +kernel
theorem e15_21 : vm_ent 15 21 = some (.ireturn, 0, 0, 0) := by decide +kernel
theorem e16_0 : vm_ent 16 0 = some (.aload_n 0, 0, 0, 0) := by decide +kernel
theorem e16_1 : vm_ent 16 1 = some (.iload_n 1, 0, 0, 0) := by decide +kernel
theorem e16_2 : vm_ent 16 2 = some (.invokevirtual 91, 27, 4, 320) := by decide +kernel
theorem e16_5 : vm_ent 16 5 = some (.ifCond .eq 13, 18, 0, 0) := by decide +kernel
theorem e16_18 : vm_ent 16 18 = some (.iconst 0, 0, 0, 0) := by decide +kernel
theorem e16_19 : vm_ent 16 19 = some (.ireturn, 0, 0, 0) := by decide +kernel
theorem e17_0 : vm_ent 17 0 = some (.aload_n 0, 0, 0, 0) := by decide +kernel
theorem e17_1 : vm_ent 17 1 = some (.invokevirtual 105, 32, 4, 359) := by decide +kernel
theorem e17_4 : vm_ent 17 4 = some (.ifCond .ne 5, 9, 0, 0) := by decide +kernel
theorem e17_7 : vm_ent 17 7 = some (.iconst (-1), 0, 0, 0) := by decide +kernel
theorem e17_8 : vm_ent 17 8 = some (.ireturn, 0, 0, 0) := by decide +kernel
theorem e18_0 : vm_ent 18 0 = some (.aload_n 0, 0, 0, 0) := by decide +kernel
theorem e18_1 : vm_ent 18 1 = some (.iload_n 1, 0, 0, 0) := by decide +kernel
theorem e18_2 : vm_ent 18 2 = some (.invokevirtual 91, 27, 4, 320) := by decide +kernel
theorem e18_5 : vm_ent 18 5 = some (.ifCond .eq 13, 18, 0, 0) := by decide +kernel
theorem e18_18 : vm_ent 18 18 = some (.iconst (-1), 0, 0, 0) := by decide +kernel
theorem e18_19 : vm_ent 18 19 = some (.ireturn, 0, 0, 0) := by decide +kernel
theorem e19_0 : vm_ent 19 0 = some (.aload_n 0, 0, 0, 0) := by decide +kernel
theorem e19_1 : vm_ent 19 1 = some (.iload_n 1, 0, 0, 0) := by decide +kernel
theorem e19_2 : vm_ent 19 2 = some (.invokevirtual 153, 28, 4, 491) := by decide +kernel
theorem e19_5 : vm_ent 19 5 = some (.ifCond .ne 5, 10, 0, 0) := by decide +kernel
theorem e19_8 : vm_ent 19 8 = some (.iconst (-1), 0, 0, 0) := by decide +kernel
theorem e19_9 : vm_ent 19 9 = some (.ireturn, 0, 0, 0) := by decide +kernel
theorem e20_0 : vm_ent 20 0 = some (.iload_n 1, 0, 0, 0) := by decide +kernel
theorem e20_1 : vm_ent 20 1 = some (.tableswitch 117 0 9 #[55, 63, 68, 73, 81, 86, 91, 96, 101, 109], 55, 0, 0) := by decide +kernel
theorem e20_56 : vm_ent 20 56 = some (.aload_n 0, 0, 0, 0) := by decide +kernel
theorem e20_57 : vm_ent 20 57 = some (.getfield 12, 5, 0, 195) := by decide +kernel
theorem e20_60 : vm_ent 20 60 = some (.getfield 171, 0, 0, 81) := by decide +kernel
theorem e20_63 : vm_ent 20 63 = some (.ireturn, 0, 0, 0) := by decide +kernel
theorem e20_64 : vm_ent 20 64 = some (.aload_n 0, 0, 0, 0) := by decide +kernel
theorem e20_65 : vm_ent 20 65 = some (.getfield 87, 5, 3, 198) := by decide +kernel
theorem e20_68 : vm_ent 20 68 = some (.ireturn, 0, 0, 0) := by decide +kernel
theorem e20_69 : vm_ent 20 69 = some (.aload_n 0, 0, 0, 0) := by decide +kernel
theorem e20_70 : vm_ent 20 70 = some (.invokevirtual 172, 29, 4, 504) := by decide +kernel
theorem e20_73 : vm_ent 20 73 = some (.ireturn, 0, 0, 0) := by decide +kernel
theorem e20_74 : vm_ent 20 74 = some (.aload_n 0, 0, 0, 0) := by decide +kernel
theorem e20_75 : vm_ent 20 75 = some (.getfield 37, 5, 6, 201) := by decide +kernel
theorem e20_78 : vm_ent 20 78 = some (.getfield 112, 4, 1, 167) := by decide +kernel
theorem e20_81 : vm_ent 20 81 = some (.ireturn, 0, 0, 0) := by decide +kernel
theorem e20_82 : vm_ent 20 82 = some (.aload_n 0, 0, 0, 0) := by decide +kernel
theorem e20_83 : vm_ent 20 83 = some (.getfield 115, 5, 15, 210) := by decide +kernel
theorem e20_86 : vm_ent 20 86 = some (.ireturn, 0, 0, 0) := by decide +kernel
theorem e20_87 : vm_ent 20 87 = some (.aload_n 0, 0, 0, 0) := by decide +kernel
theorem e20_88 : vm_ent 20 88 = some (.getfield 175, 5, 5, 200) := by decide +kernel
theorem e20_91 : vm_ent 20 91 = some (.ireturn, 0, 0, 0) := by decide +kernel
theorem e20_92 : vm_ent 20 92 = some (.aload_n 0, 0, 0, 0) := by decide +kernel
theorem e20_93 : vm_ent 20 93 = some (.getfield 118, 5, 16, 211) := by decide +kernel
theorem e20_96 : vm_ent 20 96 = some (.ireturn, 0, 0, 0) := by decide +kernel
theorem e20_97 : vm_ent 20 97 = some (.aload_n 0, 0, 0, 0) := by decide +kernel
theorem e20_98 : vm_ent 20 98 = some (.getfield 141, 5, 17, 212) := by decide +kernel
theorem e20_101 : vm_ent 20 101 = some (.ireturn, 0, 0, 0) := by decide +kernel
theorem e20_102 : vm_ent 20 102 = some (.aload_n 0, 0, 0, 0) := by decide +kernel
theorem e20_103 : vm_ent 20 103 = some (.getfield 48, 5, 8, 203) := by decide +kernel
theorem e20_106 : vm_ent 20 106 = some (.getfield 150, 1, 2, 117) := by decide +kernel
theorem e20_109 : vm_ent 20 109 = some (.ireturn, 0, 0, 0) := by decide +kernel
theorem e20_110 : vm_ent 20 110 = some (.aload_n 0, 0, 0, 0) := by decide +kernel
theorem e20_111 : vm_ent 20 111 = some (.getfield 52, 5, 9, 204) := by decide +kernel
theorem e20_114 : vm_ent 20 114 = some (.getfield 150, 1, 2, 117) := by decide +kernel
theorem e20_117 : vm_ent 20 117 = some (.ireturn, 0, 0, 0) := by decide +kernel
theorem e20_118 : vm_ent 20 118 = some (.iconst (-1), 0, 0, 0) := by decide +kernel
theorem e20_119 : vm_ent 20 119 = some (.ireturn, 0, 0, 0) := by decide +kernel
theorem e21_0 : vm_ent 21 0 = some (.aload_n 0, 0, 0, 0) := by decide +kernel
theorem e21_1 : vm_ent 21 1 = some (.iload_n 1, 0, 0, 0) := by decide +kernel
theorem e21_2 : vm_ent 21 2 = some (.iload_n 2, 0, 0, 0) := by decide +kernel
theorem e21_3 : vm_ent 21 3 = some (.invokevirtual 178, 30, 4, 512) := by decide +kernel
theorem e21_6 : vm_ent 21 6 = some (.astore 4, 0, 0, 0) := by decide +kernel
theorem e21_8 : vm_ent 21 8 = some (.aload 4, 0, 0, 0) := by decide +kernel
theorem e21_10 : vm_ent 21 10 = some (.ifnull 12, 22, 0, 0) := by decide +kernel
theorem e21_13 : vm_ent 21 13 = some (.aload 4, 0, 0, 0) := by decide +kernel
theorem e21_15 : vm_ent 21 15 = some (.iload_n 3, 0, 0, 0) := by decide +kernel
theorem e21_16 : vm_ent 21 16 = some (.invokevirtual 182, 7, 4, 520) := by decide +kernel
theorem e21_19 : vm_ent 21 19 = some (.ifCond .ne 5, 24, 0, 0) := by decide +kernel
theorem e21_22 : vm_ent 21 22 = some (.lconst 0, 0, 0, 0) := by decide +kernel
theorem e21_23 : vm_ent 21 23 = some (.lreturn, 0, 0, 0) := by decide +kernel
theorem e22_0 : vm_ent 22 0 = some (.aload_n 0, 0, 0, 0) := by decide +kernel
theorem e22_1 : vm_ent 22 1 = some (.iload_n 1, 0, 0, 0) := by decide +kernel
theorem e22_2 : vm_ent 22 2 = some (.iload_n 2, 0, 0, 0) := by decide +kernel
theorem e22_3 : vm_ent 22 3 = some (.invokevirtual 178, 30, 4, 512) := by decide +kernel
theorem e22_6 : vm_ent 22 6 = some (.astore 4, 0, 0, 0) := by decide +kernel
theorem e22_8 : vm_ent 22 8 = some (.aload 4, 0, 0, 0) := by decide +kernel
theorem e22_10 : vm_ent 22 10 = some (.ifnull 12, 22, 0, 0) := by decide +kernel
theorem e22_13 : vm_ent 22 13 = some (.aload 4, 0, 0, 0) := by decide +kernel
theorem e22_15 : vm_ent 22 15 = some (.iload_n 3, 0, 0, 0) := by decide +kernel
theorem e22_16 : vm_ent 22 16 = some (.invokevirtual 182, 7, 4, 520) := by decide +kernel
theorem e22_19 : vm_ent 22 19 = some (.ifCond .ne 5, 24, 0, 0) := by decide +kernel
theorem e22_22 : vm_ent 22 22 = some (.iconst (-1), 0, 0, 0) := by decide +kernel
theorem e22_23 : vm_ent 22 23 = some (.ireturn, 0, 0, 0) := by decide +kernel
theorem e23_0 : vm_ent 23 0 = some (.aload_n 0, 0, 0, 0) := by decide +kernel
theorem e23_1 : vm_ent 23 1 = some (.getfield 12, 5, 0, 195) := by decide +kernel
theorem e23_4 : vm_ent 23 4 = some (.iload_n 1, 0, 0, 0) := by decide +kernel
theorem e23_5 : vm_ent 23 5 = some (.invokevirtual 75, 2, 4, 273) := by decide +kernel
theorem e23_8 : vm_ent 23 8 = some (.ifCond .ne 5, 13, 0, 0) := by decide +kernel
theorem e23_11 : vm_ent 23 11 = some (.iconst 0, 0, 0, 0) := by decide +kernel
theorem e23_12 : vm_ent 23 12 = some (.ireturn, 0, 0, 0) := by decide +kernel
theorem e24_0 : vm_ent 24 0 = some (.aload_n 0, 0, 0, 0) := by decide +kernel
theorem e24_1 : vm_ent 24 1 = some (.iload_n 1, 0, 0, 0) := by decide +kernel
theorem e24_2 : vm_ent 24 2 = some (.iload_n 2, 0, 0, 0) := by decide +kernel
theorem e24_3 : vm_ent 24 3 = some (.invokevirtual 178, 30, 4, 512) := by decide +kernel
theorem e24_6 : vm_ent 24 6 = some (.astore_n 3, 0, 0, 0) := by decide +kernel
theorem e24_7 : vm_ent 24 7 = some (.aload_n 3, 0, 0, 0) := by decide +kernel
theorem e24_8 : vm_ent 24 8 = some (.ifnonnull 7, 15, 0, 0) := by decide +kernel
theorem e24_11 : vm_ent 24 11 = some (.lconst 0, 0, 0, 0) := by decide +kernel
theorem e24_12 : vm_ent 24 12 = some (.goto 11, 23, 0, 0) := by decide +kernel
theorem e24_15 : vm_ent 24 15 = some (.aload_n 0, 0, 0, 0) := by decide +kernel
theorem e24_16 : vm_ent 24 16 = some (.getfield 12, 5, 0, 195) := by decide +kernel
theorem e24_19 : vm_ent 24 19 = some (.aload_n 3, 0, 0, 0) := by decide +kernel
theorem e24_20 : vm_ent 24 20 = some (.invokevirtual 199, 4, 4, 537) := by decide +kernel
theorem e24_23 : vm_ent 24 23 = some (.lreturn, 0, 0, 0) := by decide +kernel
theorem e25_0 : vm_ent 25 0 = some (.aload_n 0, 0, 0, 0) := by decide +kernel
theorem e25_1 : vm_ent 25 1 = some (.iload_n 1, 0, 0, 0) := by decide +kernel
theorem e25_2 : vm_ent 25 2 = some (.invokevirtual 153, 28, 4, 491) := by decide +kernel
theorem e25_5 : vm_ent 25 5 = some (.ifCond .ne 5, 10, 0, 0) := by decide +kernel
theorem e25_8 : vm_ent 25 8 = some (.lconst 0, 0, 0, 0) := by decide +kernel
theorem e25_9 : vm_ent 25 9 = some (.lreturn, 0, 0, 0) := by decide +kernel
theorem e26_0 : vm_ent 26 0 = some (.lload_n 3, 0, 0, 0) := by decide +kernel
theorem e26_1 : vm_ent 26 1 = some (.lconst 0, 0, 0, 0) := by decide +kernel
theorem e26_2 : vm_ent 26 2 = some (.lcmp, 0, 0, 0) := by decide +kernel
theorem e26_3 : vm_ent 26 3 = some (.ifCond .ne 13, 16, 0, 0) := by decide +kernel
theorem e26_6 : vm_ent 26 6 = some (.new 217, 99, 0, 0) := by decide +kernel
theorem e26_9 : vm_ent 26 9 = some (.dup, 0, 0, 0) := by decide +kernel
theorem e26_10 : vm_ent 26 10 = some (.ldc 219, 0, 0, 0) := by decide +kernel
theorem e26_12 : vm_ent 26 12 = some (.invokespecial 221, 9999, 99, 602) := by decide +kernel
theorem e26_15 : vm_ent 26 15 = some (.athrow, 0, 0, 0) := by decide +kernel
theorem e26_16 : vm_ent 26 16 = some (.lload_n 1, 0, 0, 0) := by decide +kernel
theorem e26_17 : vm_ent 26 17 = some (.bipush 32, 0, 0, 0) := by decide +kernel
theorem e26_19 : vm_ent 26 19 = some (.lshl, 0, 0, 0) := by decide +kernel
theorem e26_20 : vm_ent 26 20 = some (.lload_n 3, 0, 0, 0) := by decide +kernel
theorem e26_21 : vm_ent 26 21 = some (.ldiv, 0, 0, 0) := by decide +kernel
theorem e26_22 : vm_ent 26 22 = some (.lreturn, 0, 0, 0) := by decide +kernel
theorem e27_0 : vm_ent 27 0 = some (.iload_n 1, 0, 0, 0) := by decide +kernel
theorem e27_1 : vm_ent 27 1 = some (.ifCond .lt 15, 16, 0, 0) := by decide +kernel
theorem e27_4 : vm_ent 27 4 = some (.iload_n 1, 0, 0, 0) := by decide +kernel
theorem e27_5 : vm_ent 27 5 = some (.aload_n 0, 0, 0, 0) := by decide +kernel
theorem e27_6 : vm_ent 27 6 = some (.getfield 87, 5, 3, 198) := by decide +kernel
theorem e27_9 : vm_ent 27 9 = some (.if_icmp .ge 7, 16, 0, 0) := by decide +kernel
theorem e27_16 : vm_ent 27 16 = some (.iconst 0, 0, 0, 0) := by decide +kernel
theorem e27_17 : vm_ent 27 17 = some (.ireturn, 0, 0, 0) := by decide +kernel
theorem e28_0 : vm_ent 28 0 = some (.iload_n 1, 0, 0, 0) := by decide +kernel
theorem e28_1 : vm_ent 28 1 = some (.ifCond .lt 18, 19, 0, 0) := by decide +kernel
theorem e28_4 : vm_ent 28 4 = some (.iload_n 1, 0, 0, 0) := by decide +kernel
theorem e28_5 : vm_ent 28 5 = some (.aload_n 0, 0, 0, 0) := by decide +kernel
theorem e28_6 : vm_ent 28 6 = some (.getfield 37, 5, 6, 201) := by decide +kernel
theorem e28_9 : vm_ent 28 9 = some (.getfield 112, 4, 1, 167) := by decide +kernel
theorem e28_12 : vm_ent 28 12 = some (.if_icmp .ge 7, 19, 0, 0) := by decide +kernel
theorem e28_19 : vm_ent 28 19 = some (.iconst 0, 0, 0, 0) := by decide +kernel
theorem e28_20 : vm_ent 28 20 = some (.ireturn, 0, 0, 0) := by decide +kernel
theorem e29_0 : vm_ent 29 0 = some (.iconst 0, 0, 0, 0) := by decide +kernel
theorem e29_1 : vm_ent 29 1 = some (.istore_n 1, 0, 0, 0) := by decide +kernel
theorem e29_2 : vm_ent 29 2 = some (.iconst 0, 0, 0, 0) := by decide +kernel
theorem e29_3 : vm_ent 29 3 = some (.istore_n 2, 0, 0, 0) := by decide +kernel
theorem e29_4 : vm_ent 29 4 = some (.iload_n 2, 0, 0, 0) := by decide +kernel
theorem e29_5 : vm_ent 29 5 = some (.aload_n 0, 0, 0, 0) := by decide +kernel
theorem e29_6 : vm_ent 29 6 = some (.getfield 87, 5, 3, 198) := by decide +kernel
theorem e29_9 : vm_ent 29 9 = some (.if_icmp .ge 21, 30, 0, 0) := by decide +kernel
theorem e29_30 : vm_ent 29 30 = some (.iload_n 1, 0, 0, 0) := by decide +kernel
theorem e29_31 : vm_ent 29 31 = some (.ireturn, 0, 0, 0) := by decide +kernel
theorem e30_0 : vm_ent 30 0 = some (.iload_n 1, 0, 0, 0) := by decide +kernel
theorem e30_1 : vm_ent 30 1 = some (.ifCond .ne 18, 19, 0, 0) := by decide +kernel
theorem e30_4 : vm_ent 30 4 = some (.aload_n 0, 0, 0, 0) := by decide +kernel
theorem e30_5 : vm_ent 30 5 = some (.iload_n 2, 0, 0, 0) := by decide +kernel
theorem e30_6 : vm_ent 30 6 = some (.invokevirtual 91, 27, 4, 320) := by decide +kernel
theorem e30_9 : vm_ent 30 9 = some (.ifCond .eq 10, 19, 0, 0) := by decide +kernel
theorem e30_19 : vm_ent 30 19 = some (.iload_n 1, 0, 0, 0) := by decide +kernel
theorem e30_20 : vm_ent 30 20 = some (.iconst 1, 0, 0, 0) := by decide +kernel
theorem e30_21 : vm_ent 30 21 = some (.if_icmp .ne 24, 45, 0, 0) := by decide +kernel
theorem e30_24 : vm_ent 30 24 = some (.aload_n 0, 0, 0, 0) := by decide +kernel
theorem e30_25 : vm_ent 30 25 = some (.iload_n 2, 0, 0, 0) := by decide +kernel
theorem e30_26 : vm_ent 30 26 = some (.invokevirtual 153, 28, 4, 491) := by decide +kernel
theorem e30_29 : vm_ent 30 29 = some (.ifCond .eq 16, 45, 0, 0) := by decide +kernel
theorem e30_45 : vm_ent 30 45 = some (.iload_n 1, 0, 0, 0) := by decide +kernel
theorem e30_46 : vm_ent 30 46 = some (.iconst 2, 0, 0, 0) := by decide +kernel
theorem e30_47 : vm_ent 30 47 = some (.if_icmp .ne 32, 79, 0, 0) := by decide +kernel
theorem e30_50 : vm_ent 30 50 = some (.aload_n 0, 0, 0, 0) := by decide +kernel
theorem e30_51 : vm_ent 30 51 = some (.iload_n 2, 0, 0, 0) := by decide +kernel
theorem e30_52 : vm_ent 30 52 = some (.invokevirtual 153, 28, 4, 491) := by decide +kernel
theorem e30_55 : vm_ent 30 55 = some (.ifCond .eq 24, 79, 0, 0) := by decide +kernel
theorem e30_79 : vm_ent 30 79 = some (.iload_n 1, 0, 0, 0) := by decide +kernel
theorem e30_80 : vm_ent 30 80 = some (.iconst 3, 0, 0, 0) := by decide +kernel
theorem e30_81 : vm_ent 30 81 = some (.if_icmp .ne 12, 93, 0, 0) := by decide +kernel
theorem e30_84 : vm_ent 30 84 = some (.iload_n 2, 0, 0, 0) := by decide +kernel
theorem e30_85 : vm_ent 30 85 = some (.ifCond .ne 8, 93, 0, 0) := by decide +kernel
theorem e30_88 : vm_ent 30 88 = some (.aload_n 0, 0, 0, 0) := by decide +kernel
theorem e30_89 : vm_ent 30 89 = some (.getfield 52, 5, 9, 204) := by decide +kernel
theorem e30_92 : vm_ent 30 92 = some (.areturn, 0, 0, 0) := by decide +kernel
theorem e30_93 : vm_ent 30 93 = some (.iload_n 1, 0, 0, 0) := by decide +kernel
theorem e30_94 : vm_ent 30 94 = some (.iconst 4, 0, 0, 0) := by decide +kernel
theorem e30_95 : vm_ent 30 95 = some (.if_icmp .ne 12, 107, 0, 0) := by decide +kernel
theorem e30_98 : vm_ent 30 98 = some (.iload_n 2, 0, 0, 0) := by decide +kernel
theorem e30_99 : vm_ent 30 99 = some (.ifCond .ne 8, 107, 0, 0) := by decide +kernel
theorem e30_102 : vm_ent 30 102 = some (.aload_n 0, 0, 0, 0) := by decide +kernel
theorem e30_103 : vm_ent 30 103 = some (.getfield 48, 5, 8, 203) := by decide +kernel
theorem e30_106 : vm_ent 30 106 = some (.areturn, 0, 0, 0) := by decide +kernel
theorem e30_107 : vm_ent 30 107 = some (.aconst_null, 0, 0, 0) := by decide +kernel
theorem e30_108 : vm_ent 30 108 = some (.areturn, 0, 0, 0) := by decide +kernel
theorem e31_0 : vm_ent 31 0 = some (.aload_n 0, 0, 0, 0) := by decide +kernel
theorem e31_1 : vm_ent 31 1 = some (.getfield 37, 5, 6, 201) := by decide +kernel
theorem e31_4 : vm_ent 31 4 = some (.iconst 0, 0, 0, 0) := by decide +kernel
theorem e31_5 : vm_ent 31 5 = some (.putfield 112, 4, 1, 167) := by decide +kernel
theorem e31_8 : vm_ent 31 8 = some (.aload_n 0, 0, 0, 0) := by decide +kernel
theorem e31_9 : vm_ent 31 9 = some (.getfield 52, 5, 9, 204) := by decide +kernel
theorem e31_12 : vm_ent 31 12 = some (.invokevirtual 109, 6, 4, 262) := by decide +kernel
theorem e31_15 : vm_ent 31 15 = some (.aload_n 0, 0, 0, 0) := by decide +kernel
theorem e31_16 : vm_ent 31 16 = some (.getfield 55, 5, 10, 205) := by decide +kernel
theorem e31_19 : vm_ent 31 19 = some (.invokevirtual 109, 6, 4, 262) := by decide +kernel
theorem e31_22 : vm_ent 31 22 = some (.aload_n 0, 0, 0, 0) := by decide +kernel
theorem e31_23 : vm_ent 31 23 = some (.getfield 58, 5, 11, 206) := by decide +kernel
theorem e31_26 : vm_ent 31 26 = some (.iconst 0, 0, 0, 0) := by decide +kernel
theorem e31_27 : vm_ent 31 27 = some (.invokestatic 228, 55, 1, 266) := by decide +kernel
theorem e31_30 : vm_ent 31 30 = some (.return_, 0, 0, 0) := by decide +kernel
theorem e32_0 : vm_ent 32 0 = some (.iconst 0, 0, 0, 0) := by decide +kernel
theorem e32_1 : vm_ent 32 1 = some (.istore_n 1, 0, 0, 0) := by decide +kernel
theorem e32_2 : vm_ent 32 2 = some (.iload_n 1, 0, 0, 0) := by decide +kernel
theorem e32_3 : vm_ent 32 3 = some (.aload_n 0, 0, 0, 0) := by decide +kernel
theorem e32_4 : vm_ent 32 4 = some (.getfield 87, 5, 3, 198) := by decide +kernel
theorem e32_7 : vm_ent 32 7 = some (.if_icmp .ge 19, 26, 0, 0) := by decide +kernel
theorem e32_26 : vm_ent 32 26 = some (.iconst 0, 0, 0, 0) := by decide +kernel
theorem e32_27 : vm_ent 32 27 = some (.ireturn, 0, 0, 0) := by decide +kernel
theorem e34_0 : vm_ent 34 0 = some (.aload_n 0, 0, 0, 0) := by decide +kernel
theorem e34_1 : vm_ent 34 1 = some (.getfield 84, 6, 0, 634) := by decide +kernel
theorem e34_4 : vm_ent 34 4 = some (.ireturn, 0, 0, 0) := by decide +kernel
theorem e35_0 : vm_ent 35 0 = some (.aload_n 0, 0, 0, 0) := by decide +kernel
theorem e35_1 : vm_ent 35 1 = some (.iconst 0, 0, 0, 0) := by decide +kernel
theorem e35_2 : vm_ent 35 2 = some (.putfield 210, 6, 10, 644) := by decide +kernel
theorem e35_5 : vm_ent 35 5 = some (.aload_n 0, 0, 0, 0) := by decide +kernel
theorem e35_6 : vm_ent 35 6 = some (.iconst 0, 0, 0, 0) := by decide +kernel
theorem e35_7 : vm_ent 35 7 = some (.putfield 213, 6, 11, 645) := by decide +kernel
theorem e35_10 : vm_ent 35 10 = some (.aload_n 0, 0, 0, 0) := by decide +kernel
theorem e35_11 : vm_ent 35 11 = some (.iconst 0, 0, 0, 0) := by decide +kernel
theorem e35_12 : vm_ent 35 12 = some (.putfield 216, 6, 12, 646) := by decide +kernel
theorem e35_15 : vm_ent 35 15 = some (.aload_n 0, 0, 0, 0) := by decide +kernel
theorem e35_16 : vm_ent 35 16 = some (.iconst 0, 0, 0, 0) := by decide +kernel
theorem e35_17 : vm_ent 35 17 = some (.putfield 219, 6, 18, 652) := by decide +kernel
theorem e35_20 : vm_ent 35 20 = some (.return_, 0, 0, 0) := by decide +kernel
theorem e36_0 : vm_ent 36 0 = some (.aload_n 0, 0, 0, 0) := by decide +kernel
theorem e36_1 : vm_ent 36 1 = some (.iconst 0, 0, 0, 0) := by decide +kernel
theorem e36_2 : vm_ent 36 2 = some (.putfield 84, 6, 0, 634) := by decide +kernel
theorem e36_5 : vm_ent 36 5 = some (.iconst 0, 0, 0, 0) := by decide +kernel
theorem e36_6 : vm_ent 36 6 = some (.istore_n 1, 0, 0, 0) := by decide +kernel
theorem e36_7 : vm_ent 36 7 = some (.iconst 0, 0, 0, 0) := by decide +kernel
theorem e36_8 : vm_ent 36 8 = some (.istore_n 2, 0, 0, 0) := by decide +kernel
theorem e36_9 : vm_ent 36 9 = some (.iload_n 2, 0, 0, 0) := by decide +kernel
theorem e36_10 : vm_ent 36 10 = some (.aload_n 0, 0, 0, 0) := by decide +kernel
theorem e36_11 : vm_ent 36 11 = some (.getfield 222, 6, 4, 638) := by decide +kernel
theorem e36_14 : vm_ent 36 14 = some (.if_icmp .ge 35, 49, 0, 0) := by decide +kernel
theorem e36_49 : vm_ent 36 49 = some (.iload_n 1, 0, 0, 0) := by decide +kernel
theorem e36_50 : vm_ent 36 50 = some (.ifCond .ne 5, 55, 0, 0) := by decide +kernel
theorem e36_53 : vm_ent 36 53 = some (.iconst (-1), 0, 0, 0) := by decide +kernel
theorem e36_54 : vm_ent 36 54 = some (.ireturn, 0, 0, 0) := by decide +kernel
theorem e37_0 : vm_ent 37 0 = some (.iload_n 1, 0, 0, 0) := by decide +kernel
theorem e37_1 : vm_ent 37 1 = some (.ifCond .lt 11, 12, 0, 0) := by decide +kernel
theorem e37_4 : vm_ent 37 4 = some (.iload_n 1, 0, 0, 0) := by decide +kernel
theorem e37_5 : vm_ent 37 5 = some (.aload_n 0, 0, 0, 0) := by decide +kernel
theorem e37_6 : vm_ent 37 6 = some (.getfield 222, 6, 4, 638) := by decide +kernel
theorem e37_9 : vm_ent 37 9 = some (.if_icmp .lt 7, 16, 0, 0) := by decide +kernel
theorem e37_12 : vm_ent 37 12 = some (.iconst 1, 0, 0, 0) := by decide +kernel
theorem e37_13 : vm_ent 37 13 = some (.goto 4, 17, 0, 0) := by decide +kernel
theorem e37_17 : vm_ent 37 17 = some (.ireturn, 0, 0, 0) := by decide +kernel
theorem e38_0 : vm_ent 38 0 = some (.aload_n 0, 0, 0, 0) := by decide +kernel
theorem e38_1 : vm_ent 38 1 = some (.iconst 0, 0, 0, 0) := by decide +kernel
theorem e38_2 : vm_ent 38 2 = some (.putfield 84, 6, 0, 634) := by decide +kernel
theorem e38_5 : vm_ent 38 5 = some (.aload_n 0, 0, 0, 0) := by decide +kernel
theorem e38_6 : vm_ent 38 6 = some (.iload_n 1, 0, 0, 0) := by decide +kernel
theorem e38_7 : vm_ent 38 7 = some (.invokevirtual 235, 37, 4, 877) := by decide +kernel
theorem e38_10 : vm_ent 38 10 = some (.ifCond .ne 10, 20, 0, 0) := by decide +kernel
theorem e38_20 : vm_ent 38 20 = some (.iconst (-1), 0, 0, 0) := by decide +kernel
theorem e38_21 : vm_ent 38 21 = some (.ireturn, 0, 0, 0) := by decide +kernel
theorem e39_0 : vm_ent 39 0 = some (.aload_n 0, 0, 0, 0) := by decide +kernel
theorem e39_1 : vm_ent 39 1 = some (.iconst 0, 0, 0, 0) := by decide +kernel
theorem e39_2 : vm_ent 39 2 = some (.putfield 84, 6, 0, 634) := by decide +kernel
theorem e39_5 : vm_ent 39 5 = some (.aload_n 0, 0, 0, 0) := by decide +kernel
theorem e39_6 : vm_ent 39 6 = some (.getfield 88, 6, 1, 635) := by decide +kernel
theorem e39_9 : vm_ent 39 9 = some (.bipush 8, 0, 0, 0) := by decide +kernel
theorem e39_11 : vm_ent 39 11 = some (.if_icmp .ne 5, 16, 0, 0) := by decide +kernel
theorem e39_16 : vm_ent 39 16 = some (.aload_n 0, 0, 0, 0) := by decide +kernel
theorem e39_17 : vm_ent 39 17 = some (.getfield 7, 6, 2, 636) := by decide +kernel
theorem e39_20 : vm_ent 39 20 = some (.aload_n 0, 0, 0, 0) := by decide +kernel
theorem e39_21 : vm_ent 39 21 = some (.getfield 88, 6, 1, 635) := by decide +kernel
theorem e39_24 : vm_ent 39 24 = some (.iload_n 1, 0, 0, 0) := by decide +kernel
theorem e39_25 : vm_ent 39 25 = some (.bastore, 0, 0, 0) := by decide +kernel
theorem e39_26 : vm_ent 39 26 = some (.aload_n 0, 0, 0, 0) := by decide +kernel
theorem e39_27 : vm_ent 39 27 = some (.getfield 13, 6, 3, 637) := by decide +kernel
theorem e39_30 : vm_ent 39 30 = some (.aload_n 0, 0, 0, 0) := by decide +kernel
theorem e39_31 : vm_ent 39 31 = some (.getfield 88, 6, 1, 635) := by decide +kernel
theorem e39_34 : vm_ent 39 34 = some (.aload_n 0, 0, 0, 0) := by decide +kernel
theorem e39_35 : vm_ent 39 35 = some (.getfield 88, 6, 1, 635) := by decide +kernel
theorem e39_38 : vm_ent 39 38 = some (.iastore, 0, 0, 0) := by decide +kernel
theorem e39_39 : vm_ent 39 39 = some (.aload_n 0, 0, 0, 0) := by decide +kernel
theorem e39_40 : vm_ent 39 40 = some (.dup, 0, 0, 0) := by decide +kernel
theorem e39_41 : vm_ent 39 41 = some (.getfield 88, 6, 1, 635) := by decide +kernel
theorem e39_44 : vm_ent 39 44 = some (.iconst 1, 0, 0, 0) := by decide +kernel
theorem e39_45 : vm_ent 39 45 = some (.iadd, 0, 0, 0) := by decide +kernel
theorem e39_46 : vm_ent 39 46 = some (.putfield 88, 6, 1, 635) := by decide +kernel
theorem e39_49 : vm_ent 39 49 = some (.aload_n 0, 0, 0, 0) := by decide +kernel
theorem e39_50 : vm_ent 39 50 = some (.invokevirtual 225, 35, 4, 775) := by decide +kernel
theorem e39_53 : vm_ent 39 53 = some (.aload_n 0, 0, 0, 0) := by decide +kernel
theorem e39_54 : vm_ent 39 54 = some (.getfield 88, 6, 1, 635) := by decide +kernel
theorem e39_57 : vm_ent 39 57 = some (.iconst 1, 0, 0, 0) := by decide +kernel
theorem e39_58 : vm_ent 39 58 = some (.isub, 0, 0, 0) := by decide +kernel
theorem e39_59 : vm_ent 39 59 = some (.ireturn, 0, 0, 0) := by decide +kernel
theorem e40_0 : vm_ent 40 0 = some (.aload_n 0, 0, 0, 0) := by decide +kernel
theorem e40_1 : vm_ent 40 1 = some (.iconst 0, 0, 0, 0) := by decide +kernel
theorem e40_2 : vm_ent 40 2 = some (.putfield 84, 6, 0, 634) := by decide +kernel
theorem e40_5 : vm_ent 40 5 = some (.iload_n 2, 0, 0, 0) := by decide +kernel
theorem e40_6 : vm_ent 40 6 = some (.ifCond .lt 23, 29, 0, 0) := by decide +kernel
theorem e40_9 : vm_ent 40 9 = some (.iload_n 2, 0, 0, 0) := by decide +kernel
theorem e40_10 : vm_ent 40 10 = some (.aload_n 0, 0, 0, 0) := by decide +kernel
theorem e40_11 : vm_ent 40 11 = some (.getfield 88, 6, 1, 635) := by decide +kernel
theorem e40_14 : vm_ent 40 14 = some (.if_icmp .ge 15, 29, 0, 0) := by decide +kernel
theorem e40_29 : vm_ent 40 29 = some (.iconst 0, 0, 0, 0) := by decide +kernel
theorem e40_30 : vm_ent 40 30 = some (.ireturn, 0, 0, 0) := by decide +kernel
theorem e41_0 : vm_ent 41 0 = some (.aload_n 0, 0, 0, 0) := by decide +kernel
theorem e41_1 : vm_ent 41 1 = some (.iconst 0, 0, 0, 0) := by decide +kernel
theorem e41_2 : vm_ent 41 2 = some (.putfield 84, 6, 0, 634) := by decide +kernel
theorem e41_5 : vm_ent 41 5 = some (.aload_n 0, 0, 0, 0) := by decide +kernel
theorem e41_6 : vm_ent 41 6 = some (.getfield 222, 6, 4, 638) := by decide +kernel
theorem e41_9 : vm_ent 41 9 = some (.bipush 16, 0, 0, 0) := by decide +kernel
theorem e41_11 : vm_ent 41 11 = some (.if_icmp .ne 5, 16, 0, 0) := by decide +kernel
theorem e41_16 : vm_ent 41 16 = some (.aload_n 0, 0, 0, 0) := by decide +kernel
theorem e41_17 : vm_ent 41 17 = some (.getfield 20, 6, 6, 640) := by decide +kernel
theorem e41_20 : vm_ent 41 20 = some (.aload_n 0, 0, 0, 0) := by decide +kernel
theorem e41_21 : vm_ent 41 21 = some (.getfield 222, 6, 4, 638) := by decide +kernel
theorem e41_24 : vm_ent 41 24 = some (.iconst 0, 0, 0, 0) := by decide +kernel
theorem e41_25 : vm_ent 41 25 = some (.iastore, 0, 0, 0) := by decide +kernel
theorem e41_26 : vm_ent 41 26 = some (.aload_n 0, 0, 0, 0) := by decide +kernel
theorem e41_27 : vm_ent 41 27 = some (.getfield 17, 6, 5, 639) := by decide +kernel
theorem e41_30 : vm_ent 41 30 = some (.aload_n 0, 0, 0, 0) := by decide +kernel
theorem e41_31 : vm_ent 41 31 = some (.getfield 222, 6, 4, 638) := by decide +kernel
theorem e41_34 : vm_ent 41 34 = some (.iconst 0, 0, 0, 0) := by decide +kernel
theorem e41_35 : vm_ent 41 35 = some (.bastore, 0, 0, 0) := by decide +kernel
theorem e41_36 : vm_ent 41 36 = some (.aload_n 0, 0, 0, 0) := by decide +kernel
theorem e41_37 : vm_ent 41 37 = some (.dup, 0, 0, 0) := by decide +kernel
theorem e41_38 : vm_ent 41 38 = some (.getfield 222, 6, 4, 638) := by decide +kernel
theorem e41_41 : vm_ent 41 41 = some (.iconst 1, 0, 0, 0) := by decide +kernel
theorem e41_42 : vm_ent 41 42 = some (.iadd, 0, 0, 0) := by decide +kernel
theorem e41_43 : vm_ent 41 43 = some (.putfield 222, 6, 4, 638) := by decide +kernel
theorem e41_46 : vm_ent 41 46 = some (.aload_n 0, 0, 0, 0) := by decide +kernel
theorem e41_47 : vm_ent 41 47 = some (.getfield 222, 6, 4, 638) := by decide +kernel
theorem e41_50 : vm_ent 41 50 = some (.iconst 1, 0, 0, 0) := by decide +kernel
theorem e41_51 : vm_ent 41 51 = some (.isub, 0, 0, 0) := by decide +kernel
theorem e41_52 : vm_ent 41 52 = some (.ireturn, 0, 0, 0) := by decide +kernel
theorem e42_0 : vm_ent 42 0 = some (.aload_n 0, 0, 0, 0) := by decide +kernel
theorem e42_1 : vm_ent 42 1 = some (.iconst 0, 0, 0, 0) := by decide +kernel
theorem e42_2 : vm_ent 42 2 = some (.putfield 84, 6, 0, 634) := by decide +kernel
theorem e42_5 : vm_ent 42 5 = some (.aload_n 0, 0, 0, 0) := by decide +kernel
theorem e42_6 : vm_ent 42 6 = some (.iload_n 1, 0, 0, 0) := by decide +kernel
theorem e42_7 : vm_ent 42 7 = some (.invokevirtual 235, 37, 4, 877) := by decide +kernel
theorem e42_10 : vm_ent 42 10 = some (.ifCond .eq 5, 15, 0, 0) := by decide +kernel
theorem e42_13 : vm_ent 42 13 = some (.iconst 0, 0, 0, 0) := by decide +kernel
theorem e42_14 : vm_ent 42 14 = some (.ireturn, 0, 0, 0) := by decide +kernel
theorem e43_0 : vm_ent 43 0 = some (.aload_n 0, 0, 0, 0) := by decide +kernel
theorem e43_1 : vm_ent 43 1 = some (.iconst 0, 0, 0, 0) := by decide +kernel
theorem e43_2 : vm_ent 43 2 = some (.putfield 84, 6, 0, 634) := by decide +kernel
theorem e43_5 : vm_ent 43 5 = some (.aload_n 0, 0, 0, 0) := by decide +kernel
theorem e43_6 : vm_ent 43 6 = some (.iload_n 1, 0, 0, 0) := by decide +kernel
theorem e43_7 : vm_ent 43 7 = some (.invokevirtual 235, 37, 4, 877) := by decide +kernel
theorem e43_10 : vm_ent 43 10 = some (.ifCond .ne 13, 23, 0, 0) := by decide +kernel
theorem e43_23 : vm_ent 43 23 = some (.iconst 0, 0, 0, 0) := by decide +kernel
theorem e43_24 : vm_ent 43 24 = some (.ireturn, 0, 0, 0) := by decide +kernel
theorem e44_0 : vm_ent 44 0 = some (.iload_n 1, 0, 0, 0) := by decide +kernel
theorem e44_1 : vm_ent 44 1 = some (.ifCond .lt 11, 12, 0, 0) := by decide +kernel
theorem e44_4 : vm_ent 44 4 = some (.iload_n 1, 0, 0, 0) := by decide +kernel
theorem e44_5 : vm_ent 44 5 = some (.aload_n 0, 0, 0, 0) := by decide +kernel
theorem e44_6 : vm_ent 44 6 = some (.getfield 213, 6, 11, 645) := by decide +kernel
theorem e44_9 : vm_ent 44 9 = some (.if_icmp .lt 7, 16, 0, 0) := by decide +kernel
theorem e44_12 : vm_ent 44 12 = some (.iconst 1, 0, 0, 0) := by decide +kernel
theorem e44_13 : vm_ent 44 13 = some (.goto 4, 17, 0, 0) := by decide +kernel
theorem e44_17 : vm_ent 44 17 = some (.ireturn, 0, 0, 0) := by decide +kernel
theorem e45_0 : vm_ent 45 0 = some (.aload_n 0, 0, 0, 0) := by decide +kernel
theorem e45_1 : vm_ent 45 1 = some (.iconst 0, 0, 0, 0) := by decide +kernel
theorem e45_2 : vm_ent 45 2 = some (.putfield 84, 6, 0, 634) := by decide +kernel
theorem e45_5 : vm_ent 45 5 = some (.aload_n 0, 0, 0, 0) := by decide +kernel
theorem e45_6 : vm_ent 45 6 = some (.iload_n 1, 0, 0, 0) := by decide +kernel
theorem e45_7 : vm_ent 45 7 = some (.invokevirtual 251, 44, 4, 907) := by decide +kernel
theorem e45_10 : vm_ent 45 10 = some (.ifCond .ne 12, 22, 0, 0) := by decide +kernel
theorem e45_22 : vm_ent 45 22 = some (.iconst (-1), 0, 0, 0) := by decide +kernel
theorem e45_23 : vm_ent 45 23 = some (.ireturn, 0, 0, 0) := by decide +kernel
theorem e46_0 : vm_ent 46 0 = some (.aload_n 0, 0, 0, 0) := by decide +kernel
theorem e46_1 : vm_ent 46 1 = some (.iconst 0, 0, 0, 0) := by decide +kernel
theorem e46_2 : vm_ent 46 2 = some (.putfield 84, 6, 0, 634) := by decide +kernel
theorem e46_5 : vm_ent 46 5 = some (.iconst 0, 0, 0, 0) := by decide +kernel
theorem e46_6 : vm_ent 46 6 = some (.istore_n 2, 0, 0, 0) := by decide +kernel
theorem e46_7 : vm_ent 46 7 = some (.iconst 0, 0, 0, 0) := by decide +kernel
theorem e46_8 : vm_ent 46 8 = some (.istore_n 3, 0, 0, 0) := by decide +kernel
theorem e46_9 : vm_ent 46 9 = some (.iload_n 3, 0, 0, 0) := by decide +kernel
theorem e46_10 : vm_ent 46 10 = some (.aload_n 0, 0, 0, 0) := by decide +kernel
theorem e46_11 : vm_ent 46 11 = some (.getfield 222, 6, 4, 638) := by decide +kernel
theorem e46_14 : vm_ent 46 14 = some (.if_icmp .ge 26, 40, 0, 0) := by decide +kernel
theorem e46_40 : vm_ent 46 40 = some (.iload_n 1, 0, 0, 0) := by decide +kernel
theorem e46_41 : vm_ent 46 41 = some (.tableswitch 130 0 9 #[55, 60, 65, 67, 72, 77, 82, 87, 92, 111], 55, 0, 0) := by decide +kernel
theorem e46_96 : vm_ent 46 96 = some (.aload_n 0, 0, 0, 0) := by decide +kernel
theorem e46_97 : vm_ent 46 97 = some (.getfield 88, 6, 1, 635) := by decide +kernel
theorem e46_100 : vm_ent 46 100 = some (.ireturn, 0, 0, 0) := by decide +kernel
theorem e46_101 : vm_ent 46 101 = some (.aload_n 0, 0, 0, 0) := by decide +kernel
theorem e46_102 : vm_ent 46 102 = some (.getfield 222, 6, 4, 638) := by decide +kernel
theorem e46_105 : vm_ent 46 105 = some (.ireturn, 0, 0, 0) := by decide +kernel
theorem e46_106 : vm_ent 46 106 = some (.iload_n 2, 0, 0, 0) := by decide +kernel
theorem e46_107 : vm_ent 46 107 = some (.ireturn, 0, 0, 0) := by decide +kernel
theorem e46_108 : vm_ent 46 108 = some (.aload_n 0, 0, 0, 0) := by decide +kernel
theorem e46_109 : vm_ent 46 109 = some (.getfield 213, 6, 11, 645) := by decide +kernel
theorem e46_112 : vm_ent 46 112 = some (.ireturn, 0, 0, 0) := by decide +kernel
theorem e46_113 : vm_ent 46 113 = some (.aload_n 0, 0, 0, 0) := by decide +kernel
theorem e46_114 : vm_ent 46 114 = some (.getfield 185, 6, 14, 648) := by decide +kernel
theorem e46_117 : vm_ent 46 117 = some (.ireturn, 0, 0, 0) := by decide +kernel
theorem e46_118 : vm_ent 46 118 = some (.aload_n 0, 0, 0, 0) := by decide +kernel
theorem e46_119 : vm_ent 46 119 = some (.getfield 228, 6, 15, 649) := by decide +kernel
theorem e46_122 : vm_ent 46 122 = some (.ireturn, 0, 0, 0) := by decide +kernel
theorem e46_123 : vm_ent 46 123 = some (.aload_n 0, 0, 0, 0) := by decide +kernel
theorem e46_124 : vm_ent 46 124 = some (.getfield 194, 6, 16, 650) := by decide +kernel
theorem e46_127 : vm_ent 46 127 = some (.ireturn, 0, 0, 0) := by decide +kernel
theorem e46_128 : vm_ent 46 128 = some (.aload_n 0, 0, 0, 0) := by decide +kernel
theorem e46_129 : vm_ent 46 129 = some (.getfield 238, 6, 17, 651) := by decide +kernel
theorem e46_132 : vm_ent 46 132 = some (.ireturn, 0, 0, 0) := by decide +kernel
theorem e46_133 : vm_ent 46 133 = some (.aload_n 0, 0, 0, 0) := by decide +kernel
theorem e46_134 : vm_ent 46 134 = some (.getfield 181, 6, 13, 647) := by decide +kernel
theorem e46_137 : vm_ent 46 137 = some (.ifCond .eq 13, 150, 0, 0) := by decide +kernel
theorem e46_150 : vm_ent 46 150 = some (.iconst 0, 0, 0, 0) := by decide +kernel
theorem e46_151 : vm_ent 46 151 = some (.ireturn, 0, 0, 0) := by decide +kernel
theorem e46_152 : vm_ent 46 152 = some (.aload_n 0, 0, 0, 0) := by decide +kernel
theorem e46_153 : vm_ent 46 153 = some (.getfield 216, 6, 12, 646) := by decide +kernel
theorem e46_156 : vm_ent 46 156 = some (.ifCond .eq 13, 169, 0, 0) := by decide +kernel
theorem e46_169 : vm_ent 46 169 = some (.iconst 0, 0, 0, 0) := by decide +kernel
theorem e46_170 : vm_ent 46 170 = some (.ireturn, 0, 0, 0) := by decide +kernel
theorem e46_171 : vm_ent 46 171 = some (.iconst (-1), 0, 0, 0) := by decide +kernel
theorem e46_172 : vm_ent 46 172 = some (.ireturn, 0, 0, 0) := by decide +kernel
theorem e47_0 : vm_ent 47 0 = some (.iload_n 1, 0, 0, 0) := by decide +kernel
theorem e47_1 : vm_ent 47 1 = some (.tableswitch 141 0 4 #[35, 49, 66, 105, 123], 35, 0, 0) := by decide +kernel
theorem e47_36 : vm_ent 47 36 = some (.aload_n 0, 0, 0, 0) := by decide +kernel
theorem e47_37 : vm_ent 47 37 = some (.iload_n 2, 0, 0, 0) := by decide +kernel
theorem e47_38 : vm_ent 47 38 = some (.invokevirtual 235, 37, 4, 877) := by decide +kernel
theorem e47_41 : vm_ent 47 41 = some (.ifCond .eq 7, 48, 0, 0) := by decide +kernel
theorem e47_44 : vm_ent 47 44 = some (.iconst (-1), 0, 0, 0) := by decide +kernel
theorem e47_45 : vm_ent 47 45 = some (.goto 4, 49, 0, 0) := by decide +kernel
theorem e47_49 : vm_ent 47 49 = some (.ireturn, 0, 0, 0) := by decide +kernel
theorem e47_50 : vm_ent 47 50 = some (.aload_n 0, 0, 0, 0) := by decide +kernel
theorem e47_51 : vm_ent 47 51 = some (.iload_n 2, 0, 0, 0) := by decide +kernel
theorem e47_52 : vm_ent 47 52 = some (.invokevirtual 251, 44, 4, 907) := by decide +kernel
theorem e47_55 : vm_ent 47 55 = some (.ifCond .eq 7, 62, 0, 0) := by decide +kernel
theorem e47_58 : vm_ent 47 58 = some (.iconst (-1), 0, 0, 0) := by decide +kernel
theorem e47_59 : vm_ent 47 59 = some (.goto 7, 66, 0, 0) := by decide +kernel
theorem e47_66 : vm_ent 47 66 = some (.ireturn, 0, 0, 0) := by decide +kernel
theorem e47_67 : vm_ent 47 67 = some (.aload_n 0, 0, 0, 0) := by decide +kernel
theorem e47_68 : vm_ent 47 68 = some (.iload_n 2, 0, 0, 0) := by decide +kernel
theorem e47_69 : vm_ent 47 69 = some (.invokevirtual 251, 44, 4, 907) := by decide +kernel
theorem e47_72 : vm_ent 47 72 = some (.ifCond .eq 5, 77, 0, 0) := by decide +kernel
theorem e47_75 : vm_ent 47 75 = some (.iconst (-1), 0, 0, 0) := by decide +kernel
theorem e47_76 : vm_ent 47 76 = some (.ireturn, 0, 0, 0) := by decide +kernel
theorem e47_106 : vm_ent 47 106 = some (.iload_n 2, 0, 0, 0) := by decide +kernel
theorem e47_107 : vm_ent 47 107 = some (.ifCond .ne 15, 122, 0, 0) := by decide +kernel
theorem e47_110 : vm_ent 47 110 = some (.aload_n 0, 0, 0, 0) := by decide +kernel
theorem e47_111 : vm_ent 47 111 = some (.getfield 216, 6, 12, 646) := by decide +kernel
theorem e47_114 : vm_ent 47 114 = some (.ifCond .eq 8, 122, 0, 0) := by decide +kernel
theorem e47_122 : vm_ent 47 122 = some (.iconst (-1), 0, 0, 0) := by decide +kernel
theorem e47_123 : vm_ent 47 123 = some (.ireturn, 0, 0, 0) := by decide +kernel
theorem e47_124 : vm_ent 47 124 = some (.iload_n 2, 0, 0, 0) := by decide +kernel
theorem e47_125 : vm_ent 47 125 = some (.ifCond .ne 15, 140, 0, 0) := by decide +kernel
theorem e47_128 : vm_ent 47 128 = some (.aload_n 0, 0, 0, 0) := by decide +kernel
theorem e47_129 : vm_ent 47 129 = some (.getfield 181, 6, 13, 647) := by decide +kernel
theorem e47_132 : vm_ent 47 132 = some (.ifCond .eq 8, 140, 0, 0) := by decide +kernel
theorem e47_140 : vm_ent 47 140 = some (.iconst (-1), 0, 0, 0) := by decide +kernel
theorem e47_141 : vm_ent 47 141 = some (.ireturn, 0, 0, 0) := by decide +kernel
theorem e47_142 : vm_ent 47 142 = some (.iconst (-1), 0, 0, 0) := by decide +kernel
theorem e47_143 : vm_ent 47 143 = some (.ireturn, 0, 0, 0) := by decide +kernel
theorem e48_0 : vm_ent 48 0 = some (.aload_n 0, 0, 0, 0) := by decide +kernel
theorem e48_1 : vm_ent 48 1 = some (.iconst 0, 0, 0, 0) := by decide +kernel
theorem e48_2 : vm_ent 48 2 = some (.putfield 84, 6, 0, 634) := by decide +kernel
theorem e48_5 : vm_ent 48 5 = some (.aload_n 0, 0, 0, 0) := by decide +kernel
theorem e48_6 : vm_ent 48 6 = some (.iload_n 1, 0, 0, 0) := by decide +kernel
theorem e48_7 : vm_ent 48 7 = some (.iload_n 2, 0, 0, 0) := by decide +kernel
theorem e48_8 : vm_ent 48 8 = some (.invokevirtual 257, 47, 4, 923) := by decide +kernel
theorem e48_11 : vm_ent 48 11 = some (.istore 4, 0, 0, 0) := by decide +kernel
theorem e48_13 : vm_ent 48 13 = some (.iload 4, 0, 0, 0) := by decide +kernel
theorem e48_15 : vm_ent 48 15 = some (.ifCond .lt 18, 33, 0, 0) := by decide +kernel
theorem e48_33 : vm_ent 48 33 = some (.lconst 0, 0, 0, 0) := by decide +kernel
theorem e48_34 : vm_ent 48 34 = some (.goto 15, 49, 0, 0) := by decide +kernel
theorem e48_49 : vm_ent 48 49 = some (.lreturn, 0, 0, 0) := by decide +kernel
theorem e49_0 : vm_ent 49 0 = some (.aload_n 0, 0, 0, 0) := by decide +kernel
theorem e49_1 : vm_ent 49 1 = some (.iconst 0, 0, 0, 0) := by decide +kernel
theorem e49_2 : vm_ent 49 2 = some (.putfield 84, 6, 0, 634) := by decide +kernel
theorem e49_5 : vm_ent 49 5 = some (.aload_n 0, 0, 0, 0) := by decide +kernel
theorem e49_6 : vm_ent 49 6 = some (.iload_n 1, 0, 0, 0) := by decide +kernel
theorem e49_7 : vm_ent 49 7 = some (.iload_n 2, 0, 0, 0) := by decide +kernel
theorem e49_8 : vm_ent 49 8 = some (.invokevirtual 257, 47, 4, 923) := by decide +kernel
theorem e49_11 : vm_ent 49 11 = some (.istore 4, 0, 0, 0) := by decide +kernel
theorem e49_13 : vm_ent 49 13 = some (.iload 4, 0, 0, 0) := by decide +kernel
theorem e49_15 : vm_ent 49 15 = some (.ifCond .lt 18, 33, 0, 0) := by decide +kernel
theorem e49_33 : vm_ent 49 33 = some (.iconst (-1), 0, 0, 0) := by decide +kernel
theorem e49_34 : vm_ent 49 34 = some (.ireturn, 0, 0, 0) := by decide +kernel
theorem e50_0 : vm_ent 50 0 = some (.aload_n 0, 0, 0, 0) := by decide +kernel
theorem e50_1 : vm_ent 50 1 = some (.iconst 0, 0, 0, 0) := by decide +kernel
theorem e50_2 : vm_ent 50 2 = some (.putfield 84, 6, 0, 634) := by decide +kernel
theorem e50_5 : vm_ent 50 5 = some (.iload_n 1, 0, 0, 0) := by decide +kernel
theorem e50_6 : vm_ent 50 6 = some (.ifCond .lt 11, 17, 0, 0) := by decide +kernel
theorem e50_9 : vm_ent 50 9 = some (.iload_n 1, 0, 0, 0) := by decide +kernel
theorem e50_10 : vm_ent 50 10 = some (.aload_n 0, 0, 0, 0) := by decide +kernel
theorem e50_11 : vm_ent 50 11 = some (.getfield 88, 6, 1, 635) := by decide +kernel
theorem e50_14 : vm_ent 50 14 = some (.if_icmp .lt 5, 19, 0, 0) := by decide +kernel
theorem e50_17 : vm_ent 50 17 = some (.iconst 0, 0, 0, 0) := by decide +kernel
theorem e50_18 : vm_ent 50 18 = some (.ireturn, 0, 0, 0) := by decide +kernel
theorem e52_0 : vm_ent 52 0 = some (.aload_n 0, 0, 0, 0) := by decide +kernel
theorem e52_1 : vm_ent 52 1 = some (.iconst 0, 0, 0, 0) := by decide +kernel
theorem e52_2 : vm_ent 52 2 = some (.putfield 84, 6, 0, 634) := by decide +kernel
theorem e52_5 : vm_ent 52 5 = some (.aload_n 0, 0, 0, 0) := by decide +kernel
theorem e52_6 : vm_ent 52 6 = some (.iload_n 1, 0, 0, 0) := by decide +kernel
theorem e52_7 : vm_ent 52 7 = some (.iload_n 2, 0, 0, 0) := by decide +kernel
theorem e52_8 : vm_ent 52 8 = some (.invokevirtual 257, 47, 4, 923) := by decide +kernel
theorem e52_11 : vm_ent 52 11 = some (.istore_n 3, 0, 0, 0) := by decide +kernel
theorem e52_12 : vm_ent 52 12 = some (.iload_n 3, 0, 0, 0) := by decide +kernel
theorem e52_13 : vm_ent 52 13 = some (.ifCond .ge 7, 20, 0, 0) := by decide +kernel
theorem e52_16 : vm_ent 52 16 = some (.lconst 0, 0, 0, 0) := by decide +kernel
theorem e52_17 : vm_ent 52 17 = some (.goto 8, 25, 0, 0) := by decide +kernel
theorem e52_25 : vm_ent 52 25 = some (.lreturn, 0, 0, 0) := by decide +kernel
theorem e53_0 : vm_ent 53 0 = some (.aload_n 0, 0, 0, 0) := by decide +kernel
theorem e53_1 : vm_ent 53 1 = some (.iconst 0, 0, 0, 0) := by decide +kernel
theorem e53_2 : vm_ent 53 2 = some (.putfield 84, 6, 0, 634) := by decide +kernel
theorem e53_5 : vm_ent 53 5 = some (.aload_n 0, 0, 0, 0) := by decide +kernel
theorem e53_6 : vm_ent 53 6 = some (.iload_n 1, 0, 0, 0) := by decide +kernel
theorem e53_7 : vm_ent 53 7 = some (.invokevirtual 251, 44, 4, 907) := by decide +kernel
theorem e53_10 : vm_ent 53 10 = some (.ifCond .ne 10, 20, 0, 0) := by decide +kernel
theorem e53_20 : vm_ent 53 20 = some (.lconst 0, 0, 0, 0) := by decide +kernel
theorem e53_21 : vm_ent 53 21 = some (.lreturn, 0, 0, 0) := by decide +kernel
theorem e54_0 : vm_ent 54 0 = some (.aload_n 0, 0, 0, 0) := by decide +kernel
theorem e54_1 : vm_ent 54 1 = some (.lload_n 3, 0, 0, 0) := by decide +kernel
theorem e54_2 : vm_ent 54 2 = some (.lconst 0, 0, 0, 0) := by decide +kernel
theorem e54_3 : vm_ent 54 3 = some (.lcmp, 0, 0, 0) := by decide +kernel
theorem e54_4 : vm_ent 54 4 = some (.ifCond .ne 7, 11, 0, 0) := by decide +kernel
theorem e54_7 : vm_ent 54 7 = some (.iconst 1, 0, 0, 0) := by decide +kernel
theorem e54_8 : vm_ent 54 8 = some (.goto 4, 12, 0, 0) := by decide +kernel
theorem e54_11 : vm_ent 54 11 = some (.iconst 0, 0, 0, 0) := by decide +kernel
theorem e54_12 : vm_ent 54 12 = some (.putfield 84, 6, 0, 634) := by decide +kernel
theorem e54_15 : vm_ent 54 15 = some (.aload_n 0, 0, 0, 0) := by decide +kernel
theorem e54_16 : vm_ent 54 16 = some (.getfield 84, 6, 0, 634) := by decide +kernel
theorem e54_19 : vm_ent 54 19 = some (.ifCond .le 7, 26, 0, 0) := by decide +kernel
theorem e54_22 : vm_ent 54 22 = some (.lconst 0, 0, 0, 0) := by decide +kernel
theorem e54_23 : vm_ent 54 23 = some (.goto 9, 32, 0, 0) := by decide +kernel
theorem e54_26 : vm_ent 54 26 = some (.lload_n 1, 0, 0, 0) := by decide +kernel
theorem e54_27 : vm_ent 54 27 = some (.bipush 32, 0, 0, 0) := by decide +kernel
theorem e54_29 : vm_ent 54 29 = some (.lshl, 0, 0, 0) := by decide +kernel
theorem e54_30 : vm_ent 54 30 = some (.lload_n 3, 0, 0, 0) := by decide +kernel
theorem e54_31 : vm_ent 54 31 = some (.ldiv, 0, 0, 0) := by decide +kernel
theorem e54_32 : vm_ent 54 32 = some (.lreturn, 0, 0, 0) := by decide +kernel
theorem e55_0 : vm_ent 55 0 = some (.iconst 0, 0, 0, 0) := by decide +kernel
theorem e55_1 : vm_ent 55 1 = some (.istore_n 2, 0, 0, 0) := by decide +kernel
theorem e55_2 : vm_ent 55 2 = some (.aload_n 0, 0, 0, 0) := by decide +kernel
theorem e55_3 : vm_ent 55 3 = some (.arraylength, 0, 0, 0) := by decide +kernel
theorem e55_4 : vm_ent 55 4 = some (.istore_n 3, 0, 0, 0) := by decide +kernel
theorem e55_5 : vm_ent 55 5 = some (.iload_n 2, 0, 0, 0) := by decide +kernel
theorem e55_6 : vm_ent 55 6 = some (.iload_n 3, 0, 0, 0) := by decide +kernel
theorem e55_7 : vm_ent 55 7 = some (.if_icmp .ge 13, 20, 0, 0) := by decide +kernel
theorem e55_10 : vm_ent 55 10 = some (.aload_n 0, 0, 0, 0) := by decide +kernel
theorem e55_11 : vm_ent 55 11 = some (.iload_n 2, 0, 0, 0) := by decide +kernel
theorem e55_12 : vm_ent 55 12 = some (.iload_n 1, 0, 0, 0) := by decide +kernel
theorem e55_13 : vm_ent 55 13 = some (.iastore, 0, 0, 0) := by decide +kernel
theorem e55_14 : vm_ent 55 14 = some (.iinc 2 1, 0, 0, 0) := by decide +kernel
theorem e55_17 : vm_ent 55 17 = some (.goto (-12), 5, 0, 0) := by decide +kernel
theorem e55_20 : vm_ent 55 20 = some (.return_, 0, 0, 0) := by decide +kernel
theorem e56_0 : vm_ent 56 0 = some (.aload 5, 0, 0, 0) := by decide +kernel
theorem e56_2 : vm_ent 56 2 = some (.iconst 0, 0, 0, 0) := by decide +kernel
theorem e56_3 : vm_ent 56 3 = some (.aload_n 0, 0, 0, 0) := by decide +kernel
theorem e56_4 : vm_ent 56 4 = some (.lload_n 1, 0, 0, 0) := by decide +kernel
theorem e56_5 : vm_ent 56 5 = some (.lload_n 3, 0, 0, 0) := by decide +kernel
theorem e56_6 : vm_ent 56 6 = some (.invokevirtual 7, 26, 4, 558) := by decide +kernel
theorem e56_9 : vm_ent 56 9 = some (.lastore, 0, 0, 0) := by decide +kernel
theorem e56_10 : vm_ent 56 10 = some (.goto 7, 17, 0, 0) := by decide +kernel
theorem e56_13 : vm_ent 56 13 = some (.astore 6, 0, 0, 0) := by decide +kernel
theorem e56_15 : vm_ent 56 15 = some (.iconst 1, 0, 0, 0) := by decide +kernel
theorem e56_16 : vm_ent 56 16 = some (.ireturn, 0, 0, 0) := by decide +kernel
theorem e56_17 : vm_ent 56 17 = some (.iconst 0, 0, 0, 0) := by decide +kernel
theorem e56_18 : vm_ent 56 18 = some (.ireturn, 0, 0, 0) := by decide +kernel
