theorem e0_23 : vm_ent 0 23 = some (.iload 4, 0, 0, 0) := by decide +kernel
theorem e0_25 : vm_ent 0 25 = some (.aload_n 0, 0, 0, 0) := by decide +kernel
theorem e0_26 : vm_ent 0 26 = some (.arraylength, 0, 0, 0) := by decide +kernel
theorem e0_27 : vm_ent 0 27 = some (.iconst 5, 0, 0, 0) := by decide +kernel
theorem e0_28 : vm_ent 0 28 = some (.isub, 0, 0, 0) := by decide +kernel
theorem e0_29 : vm_ent 0 29 = some (.if_icmp .gt 747, 776, 0, 0) := by decide +kernel
theorem e0_32 : vm_ent 0 32 = some (.aload_n 0, 0, 0, 0) := by decide +kernel
theorem e0_33 : vm_ent 0 33 = some (.iload 4, 0, 0, 0) := by decide +kernel
theorem e0_35 : vm_ent 0 35 = some (.iaload, 0, 0, 0) := by decide +kernel
theorem e0_36 : vm_ent 0 36 = some (.bipush 15, 0, 0, 0) := by decide +kernel
theorem e0_38 : vm_ent 0 38 = some (.iand, 0, 0, 0) := by decide +kernel
theorem e0_39 : vm_ent 0 39 = some (.tableswitch 731 0 14 #[73, 114, 151, 164, 245, 298, 311, 336, 373, 398, 447, 496, 565, 602, 627], 73, 0, 0) := by decide +kernel
theorem e0_112 : vm_ent 0 112 = some (.aload_n 1, 0, 0, 0) := by decide +kernel
theorem e0_113 : vm_ent 0 113 = some (.aload_n 0, 0, 0, 0) := by decide +kernel
theorem e0_114 : vm_ent 0 114 = some (.iload 4, 0, 0, 0) := by decide +kernel
theorem e0_116 : vm_ent 0 116 = some (.iconst 1, 0, 0, 0) := by decide +kernel
theorem e0_117 : vm_ent 0 117 = some (.iadd, 0, 0, 0) := by decide +kernel
theorem e0_118 : vm_ent 0 118 = some (.iaload, 0, 0, 0) := by decide +kernel
theorem e0_119 : vm_ent 0 119 = some (.ifCond .eq 7, 126, 0, 0) := by decide +kernel
theorem e0_122 : vm_ent 0 122 = some (.iconst 1, 0, 0, 0) := by decide +kernel
theorem e0_123 : vm_ent 0 123 = some (.goto 4, 127, 0, 0) := by decide +kernel
theorem e0_126 : vm_ent 0 126 = some (.iconst 0, 0, 0, 0) := by decide +kernel
theorem e0_127 : vm_ent 0 127 = some (.invokevirtual 19, 44, 4, 250) := by decide +kernel
theorem e0_130 : vm_ent 0 130 = some (.pop, 0, 0, 0) := by decide +kernel
theorem e0_131 : vm_ent 0 131 = some (.aload_n 2, 0, 0, 0) := by decide +kernel
theorem e0_132 : vm_ent 0 132 = some (.aload_n 0, 0, 0, 0) := by decide +kernel
theorem e0_133 : vm_ent 0 133 = some (.iload 4, 0, 0, 0) := by decide +kernel
theorem e0_135 : vm_ent 0 135 = some (.iconst 1, 0, 0, 0) := by decide +kernel
theorem e0_136 : vm_ent 0 136 = some (.iadd, 0, 0, 0) := by decide +kernel
theorem e0_137 : vm_ent 0 137 = some (.iaload, 0, 0, 0) := by decide +kernel
theorem e0_138 : vm_ent 0 138 = some (.ifCond .eq 7, 145, 0, 0) := by decide +kernel
theorem e0_141 : vm_ent 0 141 = some (.iconst 1, 0, 0, 0) := by decide +kernel
theorem e0_142 : vm_ent 0 142 = some (.goto 4, 146, 0, 0) := by decide +kernel
theorem e0_145 : vm_ent 0 145 = some (.iconst 0, 0, 0, 0) := by decide +kernel
theorem e0_146 : vm_ent 0 146 = some (.invokevirtual 23, 105, 4, 877) := by decide +kernel
theorem e0_149 : vm_ent 0 149 = some (.pop, 0, 0, 0) := by decide +kernel
theorem e0_150 : vm_ent 0 150 = some (.goto 620, 770, 0, 0) := by decide +kernel
theorem e0_153 : vm_ent 0 153 = some (.aload_n 1, 0, 0, 0) := by decide +kernel
theorem e0_154 : vm_ent 0 154 = some (.aload_n 0, 0, 0, 0) := by decide +kernel
theorem e0_155 : vm_ent 0 155 = some (.iload 4, 0, 0, 0) := by decide +kernel
theorem e0_157 : vm_ent 0 157 = some (.iconst 1, 0, 0, 0) := by decide +kernel
theorem e0_158 : vm_ent 0 158 = some (.iadd, 0, 0, 0) := by decide +kernel
theorem e0_159 : vm_ent 0 159 = some (.iaload, 0, 0, 0) := by decide +kernel
theorem e0_160 : vm_ent 0 160 = some (.aload_n 0, 0, 0, 0) := by decide +kernel
theorem e0_161 : vm_ent 0 161 = some (.iload 4, 0, 0, 0) := by decide +kernel
theorem e0_163 : vm_ent 0 163 = some (.iconst 2, 0, 0, 0) := by decide +kernel
theorem e0_164 : vm_ent 0 164 = some (.iadd, 0, 0, 0) := by decide +kernel
theorem e0_165 : vm_ent 0 165 = some (.iaload, 0, 0, 0) := by decide +kernel
theorem e0_166 : vm_ent 0 166 = some (.invokevirtual 24, 45, 4, 269) := by decide +kernel
theorem e0_169 : vm_ent 0 169 = some (.pop, 0, 0, 0) := by decide +kernel
theorem e0_170 : vm_ent 0 170 = some (.aload_n 2, 0, 0, 0) := by decide +kernel
theorem e0_171 : vm_ent 0 171 = some (.aload_n 0, 0, 0, 0) := by decide +kernel
theorem e0_172 : vm_ent 0 172 = some (.iload 4, 0, 0, 0) := by decide +kernel
theorem e0_174 : vm_ent 0 174 = some (.iconst 1, 0, 0, 0) := by decide +kernel
theorem e0_175 : vm_ent 0 175 = some (.iadd, 0, 0, 0) := by decide +kernel
theorem e0_176 : vm_ent 0 176 = some (.iaload, 0, 0, 0) := by decide +kernel
theorem e0_177 : vm_ent 0 177 = some (.aload_n 0, 0, 0, 0) := by decide +kernel
theorem e0_178 : vm_ent 0 178 = some (.iload 4, 0, 0, 0) := by decide +kernel
theorem e0_180 : vm_ent 0 180 = some (.iconst 2, 0, 0, 0) := by decide +kernel
theorem e0_181 : vm_ent 0 181 = some (.iadd, 0, 0, 0) := by decide +kernel
theorem e0_182 : vm_ent 0 182 = some (.iaload, 0, 0, 0) := by decide +kernel
theorem e0_183 : vm_ent 0 183 = some (.invokevirtual 28, 106, 4, 881) := by decide +kernel
theorem e0_186 : vm_ent 0 186 = some (.pop, 0, 0, 0) := by decide +kernel
theorem e0_187 : vm_ent 0 187 = some (.goto 583, 770, 0, 0) := by decide +kernel
theorem e0_190 : vm_ent 0 190 = some (.aload_n 1, 0, 0, 0) := by decide +kernel
theorem e0_191 : vm_ent 0 191 = some (.invokevirtual 29, 46, 4, 312) := by decide +kernel
theorem e0_194 : vm_ent 0 194 = some (.pop, 0, 0, 0) := by decide +kernel
theorem e0_195 : vm_ent 0 195 = some (.aload_n 2, 0, 0, 0) := by decide +kernel
theorem e0_196 : vm_ent 0 196 = some (.invokevirtual 33, 107, 4, 885) := by decide +kernel
theorem e0_199 : vm_ent 0 199 = some (.pop, 0, 0, 0) := by decide +kernel
theorem e0_200 : vm_ent 0 200 = some (.goto 570, 770, 0, 0) := by decide +kernel
theorem e0_203 : vm_ent 0 203 = some (.aload_n 1, 0, 0, 0) := by decide +kernel
theorem e0_204 : vm_ent 0 204 = some (.aload_n 0, 0, 0, 0) := by decide +kernel
theorem e0_205 : vm_ent 0 205 = some (.iload 4, 0, 0, 0) := by decide +kernel
theorem e0_207 : vm_ent 0 207 = some (.iconst 1, 0, 0, 0) := by decide +kernel
theorem e0_208 : vm_ent 0 208 = some (.iadd, 0, 0, 0) := by decide +kernel
theorem e0_209 : vm_ent 0 209 = some (.iaload, 0, 0, 0) := by decide +kernel
theorem e0_210 : vm_ent 0 210 = some (.aload_n 0, 0, 0, 0) := by decide +kernel
theorem e0_211 : vm_ent 0 211 = some (.iload 4, 0, 0, 0) := by decide +kernel
theorem e0_213 : vm_ent 0 213 = some (.iconst 2, 0, 0, 0) := by decide +kernel
theorem e0_214 : vm_ent 0 214 = some (.iadd, 0, 0, 0) := by decide +kernel
theorem e0_215 : vm_ent 0 215 = some (.iaload, 0, 0, 0) := by decide +kernel
theorem e0_216 : vm_ent 0 216 = some (.i2l, 0, 0, 0) := by decide +kernel
theorem e0_217 : vm_ent 0 217 = some (.bipush 32, 0, 0, 0) := by decide +kernel
theorem e0_219 : vm_ent 0 219 = some (.lshl, 0, 0, 0) := by decide +kernel
theorem e0_220 : vm_ent 0 220 = some (.aload_n 0, 0, 0, 0) := by decide +kernel
theorem e0_221 : vm_ent 0 221 = some (.iload 4, 0, 0, 0) := by decide +kernel
theorem e0_223 : vm_ent 0 223 = some (.iconst 3, 0, 0, 0) := by decide +kernel
theorem e0_224 : vm_ent 0 224 = some (.iadd, 0, 0, 0) := by decide +kernel
theorem e0_225 : vm_ent 0 225 = some (.iaload, 0, 0, 0) := by decide +kernel
theorem e0_226 : vm_ent 0 226 = some (.i2l, 0, 0, 0) := by decide +kernel
theorem e0_227 : vm_ent 0 227 = some (.ldc2_w 34, 4294967295, 0, 951) := by decide +kernel
theorem e0_230 : vm_ent 0 230 = some (.land, 0, 0, 0) := by decide +kernel
theorem e0_231 : vm_ent 0 231 = some (.lor, 0, 0, 0) := by decide +kernel
theorem e0_232 : vm_ent 0 232 = some (.aload_n 0, 0, 0, 0) := by decide +kernel
theorem e0_233 : vm_ent 0 233 = some (.iload 4, 0, 0, 0) := by decide +kernel
theorem e0_235 : vm_ent 0 235 = some (.iconst 4, 0, 0, 0) := by decide +kernel
theorem e0_236 : vm_ent 0 236 = some (.iadd, 0, 0, 0) := by decide +kernel
theorem e0_237 : vm_ent 0 237 = some (.iaload, 0, 0, 0) := by decide +kernel
theorem e0_238 : vm_ent 0 238 = some (.invokevirtual 36, 47, 4, 316) := by decide +kernel
theorem e0_241 : vm_ent 0 241 = some (.aload_n 2, 0, 0, 0) := by decide +kernel
theorem e0_242 : vm_ent 0 242 = some (.aload_n 0, 0, 0, 0) := by decide +kernel
theorem e0_243 : vm_ent 0 243 = some (.iload 4, 0, 0, 0) := by decide +kernel
theorem e0_245 : vm_ent 0 245 = some (.iconst 1, 0, 0, 0) := by decide +kernel
theorem e0_246 : vm_ent 0 246 = some (.iadd, 0, 0, 0) := by decide +kernel
theorem e0_247 : vm_ent 0 247 = some (.iaload, 0, 0, 0) := by decide +kernel
theorem e0_248 : vm_ent 0 248 = some (.aload_n 0, 0, 0, 0) := by decide +kernel
theorem e0_249 : vm_ent 0 249 = some (.iload 4, 0, 0, 0) := by decide +kernel
theorem e0_251 : vm_ent 0 251 = some (.iconst 2, 0, 0, 0) := by decide +kernel
theorem e0_252 : vm_ent 0 252 = some (.iadd, 0, 0, 0) := by decide +kernel
theorem e0_253 : vm_ent 0 253 = some (.iaload, 0, 0, 0) := by decide +kernel
theorem e0_254 : vm_ent 0 254 = some (.i2l, 0, 0, 0) := by decide +kernel
theorem e0_255 : vm_ent 0 255 = some (.bipush 32, 0, 0, 0) := by decide +kernel
theorem e0_257 : vm_ent 0 257 = some (.lshl, 0, 0, 0) := by decide +kernel
theorem e0_258 : vm_ent 0 258 = some (.aload_n 0, 0, 0, 0) := by decide +kernel
theorem e0_259 : vm_ent 0 259 = some (.iload 4, 0, 0, 0) := by decide +kernel
theorem e0_261 : vm_ent 0 261 = some (.iconst 3, 0, 0, 0) := by decide +kernel
theorem e0_262 : vm_ent 0 262 = some (.iadd, 0, 0, 0) := by decide +kernel
theorem e0_263 : vm_ent 0 263 = some (.iaload, 0, 0, 0) := by decide +kernel
theorem e0_264 : vm_ent 0 264 = some (.i2l, 0, 0, 0) := by decide +kernel
theorem e0_265 : vm_ent 0 265 = some (.ldc2_w 34, 4294967295, 0, 951) := by decide +kernel
theorem e0_268 : vm_ent 0 268 = some (.land, 0, 0, 0) := by decide +kernel
theorem e0_269 : vm_ent 0 269 = some (.lor, 0, 0, 0) := by decide +kernel
theorem e0_270 : vm_ent 0 270 = some (.aload_n 0, 0, 0, 0) := by decide +kernel
theorem e0_271 : vm_ent 0 271 = some (.iload 4, 0, 0, 0) := by decide +kernel
theorem e0_273 : vm_ent 0 273 = some (.iconst 4, 0, 0, 0) := by decide +kernel
theorem e0_274 : vm_ent 0 274 = some (.iadd, 0, 0, 0) := by decide +kernel
theorem e0_275 : vm_ent 0 275 = some (.iaload, 0, 0, 0) := by decide +kernel
theorem e0_276 : vm_ent 0 276 = some (.invokevirtual 40, 108, 4, 889) := by decide +kernel
theorem e0_279 : vm_ent 0 279 = some (.if_icmp .eq 491, 770, 0, 0) := by decide +kernel
theorem e0_282 : vm_ent 0 282 = some (.iconst 0, 0, 0, 0) := by decide +kernel
theorem e0_283 : vm_ent 0 283 = some (.ireturn, 0, 0, 0) := by decide +kernel
theorem e0_284 : vm_ent 0 284 = some (.aload_n 1, 0, 0, 0) := by decide +kernel
theorem e0_285 : vm_ent 0 285 = some (.aload_n 0, 0, 0, 0) := by decide +kernel
theorem e0_286 : vm_ent 0 286 = some (.iload 4, 0, 0, 0) := by decide +kernel
theorem e0_288 : vm_ent 0 288 = some (.iconst 1, 0, 0, 0) := by decide +kernel
theorem e0_289 : vm_ent 0 289 = some (.iadd, 0, 0, 0) := by decide +kernel
theorem e0_290 : vm_ent 0 290 = some (.iaload, 0, 0, 0) := by decide +kernel
theorem e0_291 : vm_ent 0 291 = some (.aload_n 0, 0, 0, 0) := by decide +kernel
theorem e0_292 : vm_ent 0 292 = some (.iload 4, 0, 0, 0) := by decide +kernel
theorem e0_294 : vm_ent 0 294 = some (.iconst 2, 0, 0, 0) := by decide +kernel
theorem e0_295 : vm_ent 0 295 = some (.iadd, 0, 0, 0) := by decide +kernel
theorem e0_296 : vm_ent 0 296 = some (.iaload, 0, 0, 0) := by decide +kernel
theorem e0_297 : vm_ent 0 297 = some (.ifCond .eq 7, 304, 0, 0) := by decide +kernel
theorem e0_300 : vm_ent 0 300 = some (.iconst 1, 0, 0, 0) := by decide +kernel
theorem e0_301 : vm_ent 0 301 = some (.goto 4, 305, 0, 0) := by decide +kernel
theorem e0_304 : vm_ent 0 304 = some (.iconst 0, 0, 0, 0) := by decide +kernel
theorem e0_305 : vm_ent 0 305 = some (.invokevirtual 41, 48, 4, 351) := by decide +kernel
theorem e0_308 : vm_ent 0 308 = some (.pop, 0, 0, 0) := by decide +kernel
theorem e0_309 : vm_ent 0 309 = some (.aload_n 2, 0, 0, 0) := by decide +kernel
theorem e0_310 : vm_ent 0 310 = some (.aload_n 0, 0, 0, 0) := by decide +kernel
theorem e0_311 : vm_ent 0 311 = some (.iload 4, 0, 0, 0) := by decide +kernel
theorem e0_313 : vm_ent 0 313 = some (.iconst 1, 0, 0, 0) := by decide +kernel
theorem e0_314 : vm_ent 0 314 = some (.iadd, 0, 0, 0) := by decide +kernel
theorem e0_315 : vm_ent 0 315 = some (.iaload, 0, 0, 0) := by decide +kernel
theorem e0_316 : vm_ent 0 316 = some (.aload_n 0, 0, 0, 0) := by decide +kernel
theorem e0_317 : vm_ent 0 317 = some (.iload 4, 0, 0, 0) := by decide +kernel
theorem e0_319 : vm_ent 0 319 = some (.iconst 2, 0, 0, 0) := by decide +kernel
theorem e0_320 : vm_ent 0 320 = some (.iadd, 0, 0, 0) := by decide +kernel
theorem e0_321 : vm_ent 0 321 = some (.iaload, 0, 0, 0) := by decide +kernel
theorem e0_322 : vm_ent 0 322 = some (.ifCond .eq 7, 329, 0, 0) := by decide +kernel
theorem e0_325 : vm_ent 0 325 = some (.iconst 1, 0, 0, 0) := by decide +kernel
theorem e0_326 : vm_ent 0 326 = some (.goto 4, 330, 0, 0) := by decide +kernel
theorem e0_329 : vm_ent 0 329 = some (.iconst 0, 0, 0, 0) := by decide +kernel
theorem e0_330 : vm_ent 0 330 = some (.invokevirtual 45, 109, 4, 895) := by decide +kernel
theorem e0_333 : vm_ent 0 333 = some (.pop, 0, 0, 0) := by decide +kernel
theorem e0_334 : vm_ent 0 334 = some (.goto 436, 770, 0, 0) := by decide +kernel
theorem e0_337 : vm_ent 0 337 = some (.aload_n 1, 0, 0, 0) := by decide +kernel
theorem e0_338 : vm_ent 0 338 = some (.invokevirtual 46, 49, 4, 355) := by decide +kernel
theorem e0_341 : vm_ent 0 341 = some (.pop, 0, 0, 0) := by decide +kernel
theorem e0_342 : vm_ent 0 342 = some (.aload_n 2, 0, 0, 0) := by decide +kernel
theorem e0_343 : vm_ent 0 343 = some (.invokevirtual 49, 102, 4, 767) := by decide +kernel
theorem e0_346 : vm_ent 0 346 = some (.pop, 0, 0, 0) := by decide +kernel
theorem e0_347 : vm_ent 0 347 = some (.goto 423, 770, 0, 0) := by decide +kernel
theorem e0_350 : vm_ent 0 350 = some (.aload_n 1, 0, 0, 0) := by decide +kernel
theorem e0_351 : vm_ent 0 351 = some (.aload_n 0, 0, 0, 0) := by decide +kernel
theorem e0_352 : vm_ent 0 352 = some (.iload 4, 0, 0, 0) := by decide +kernel
theorem e0_354 : vm_ent 0 354 = some (.iconst 1, 0, 0, 0) := by decide +kernel
theorem e0_355 : vm_ent 0 355 = some (.iadd, 0, 0, 0) := by decide +kernel
theorem e0_356 : vm_ent 0 356 = some (.iaload, 0, 0, 0) := by decide +kernel
theorem e0_357 : vm_ent 0 357 = some (.invokevirtual 50, 50, 4, 482) := by decide +kernel
theorem e0_360 : vm_ent 0 360 = some (.pop, 0, 0, 0) := by decide +kernel
theorem e0_361 : vm_ent 0 361 = some (.aload_n 2, 0, 0, 0) := by decide +kernel
theorem e0_362 : vm_ent 0 362 = some (.aload_n 0, 0, 0, 0) := by decide +kernel
theorem e0_363 : vm_ent 0 363 = some (.iload 4, 0, 0, 0) := by decide +kernel
theorem e0_365 : vm_ent 0 365 = some (.iconst 1, 0, 0, 0) := by decide +kernel
theorem e0_366 : vm_ent 0 366 = some (.iadd, 0, 0, 0) := by decide +kernel
theorem e0_367 : vm_ent 0 367 = some (.iaload, 0, 0, 0) := by decide +kernel
theorem e0_368 : vm_ent 0 368 = some (.invokevirtual 54, 104, 4, 869) := by decide +kernel
theorem e0_371 : vm_ent 0 371 = some (.pop, 0, 0, 0) := by decide +kernel
theorem e0_372 : vm_ent 0 372 = some (.goto 398, 770, 0, 0) := by decide +kernel
theorem e0_375 : vm_ent 0 375 = some (.aload_n 1, 0, 0, 0) := by decide +kernel
theorem e0_376 : vm_ent 0 376 = some (.aload_n 0, 0, 0, 0) := by decide +kernel
theorem e0_377 : vm_ent 0 377 = some (.iload 4, 0, 0, 0) := by decide +kernel
theorem e0_379 : vm_ent 0 379 = some (.iconst 1, 0, 0, 0) := by decide +kernel
theorem e0_380 : vm_ent 0 380 = some (.iadd, 0, 0, 0) := by decide +kernel
theorem e0_381 : vm_ent 0 381 = some (.iaload, 0, 0, 0) := by decide +kernel
theorem e0_382 : vm_ent 0 382 = some (.aload_n 0, 0, 0, 0) := by decide +kernel
theorem e0_383 : vm_ent 0 383 = some (.iload 4, 0, 0, 0) := by decide +kernel
theorem e0_385 : vm_ent 0 385 = some (.iconst 2, 0, 0, 0) := by decide +kernel
theorem e0_386 : vm_ent 0 386 = some (.iadd, 0, 0, 0) := by decide +kernel
theorem e0_387 : vm_ent 0 387 = some (.iaload, 0, 0, 0) := by decide +kernel
theorem e0_388 : vm_ent 0 388 = some (.invokevirtual 55, 51, 4, 487) := by decide +kernel
theorem e0_391 : vm_ent 0 391 = some (.pop, 0, 0, 0) := by decide +kernel
theorem e0_392 : vm_ent 0 392 = some (.aload_n 2, 0, 0, 0) := by decide +kernel
theorem e0_393 : vm_ent 0 393 = some (.aload_n 0, 0, 0, 0) := by decide +kernel
theorem e0_394 : vm_ent 0 394 = some (.iload 4, 0, 0, 0) := by decide +kernel
theorem e0_396 : vm_ent 0 396 = some (.iconst 1, 0, 0, 0) := by decide +kernel
theorem e0_397 : vm_ent 0 397 = some (.iadd, 0, 0, 0) := by decide +kernel
theorem e0_398 : vm_ent 0 398 = some (.iaload, 0, 0, 0) := by decide +kernel
theorem e0_399 : vm_ent 0 399 = some (.aload_n 0, 0, 0, 0) := by decide +kernel
theorem e0_400 : vm_ent 0 400 = some (.iload 4, 0, 0, 0) := by decide +kernel
theorem e0_402 : vm_ent 0 402 = some (.iconst 2, 0, 0, 0) := by decide +kernel
theorem e0_403 : vm_ent 0 403 = some (.iadd, 0, 0, 0) := by decide +kernel
theorem e0_404 : vm_ent 0 404 = some (.iaload, 0, 0, 0) := by decide +kernel
theorem e0_405 : vm_ent 0 405 = some (.invokevirtual 59, 112, 4, 899) := by decide +kernel
theorem e0_408 : vm_ent 0 408 = some (.pop, 0, 0, 0) := by decide +kernel
theorem e0_409 : vm_ent 0 409 = some (.goto 361, 770, 0, 0) := by decide +kernel
theorem e0_412 : vm_ent 0 412 = some (.aload_n 1, 0, 0, 0) := by decide +kernel
theorem e0_413 : vm_ent 0 413 = some (.aload_n 0, 0, 0, 0) := by decide +kernel
theorem e0_414 : vm_ent 0 414 = some (.iload 4, 0, 0, 0) := by decide +kernel
theorem e0_416 : vm_ent 0 416 = some (.iconst 1, 0, 0, 0) := by decide +kernel
theorem e0_417 : vm_ent 0 417 = some (.iadd, 0, 0, 0) := by decide +kernel
theorem e0_418 : vm_ent 0 418 = some (.iaload, 0, 0, 0) := by decide +kernel
theorem e0_419 : vm_ent 0 419 = some (.invokevirtual 60, 52, 4, 500) := by decide +kernel
theorem e0_422 : vm_ent 0 422 = some (.pop, 0, 0, 0) := by decide +kernel
theorem e0_423 : vm_ent 0 423 = some (.aload_n 2, 0, 0, 0) := by decide +kernel
theorem e0_424 : vm_ent 0 424 = some (.aload_n 0, 0, 0, 0) := by decide +kernel
theorem e0_425 : vm_ent 0 425 = some (.iload 4, 0, 0, 0) := by decide +kernel
theorem e0_427 : vm_ent 0 427 = some (.iconst 1, 0, 0, 0) := by decide +kernel
theorem e0_428 : vm_ent 0 428 = some (.iadd, 0, 0, 0) := by decide +kernel
theorem e0_429 : vm_ent 0 429 = some (.iaload, 0, 0, 0) := by decide +kernel
theorem e0_430 : vm_ent 0 430 = some (.invokevirtual 63, 113, 4, 911) := by decide +kernel
theorem e0_433 : vm_ent 0 433 = some (.pop, 0, 0, 0) := by decide +kernel
theorem e0_434 : vm_ent 0 434 = some (.goto 336, 770, 0, 0) := by decide +kernel
theorem e0_437 : vm_ent 0 437 = some (.aload_n 1, 0, 0, 0) := by decide +kernel
theorem e0_438 : vm_ent 0 438 = some (.aload_n 0, 0, 0, 0) := by decide +kernel
theorem e0_439 : vm_ent 0 439 = some (.iload 4, 0, 0, 0) := by decide +kernel
theorem e0_441 : vm_ent 0 441 = some (.iconst 1, 0, 0, 0) := by decide +kernel
theorem e0_442 : vm_ent 0 442 = some (.iadd, 0, 0, 0) := by decide +kernel
theorem e0_443 : vm_ent 0 443 = some (.iaload, 0, 0, 0) := by decide +kernel
theorem e0_444 : vm_ent 0 444 = some (.aload_n 0, 0, 0, 0) := by decide +kernel
theorem e0_445 : vm_ent 0 445 = some (.iload 4, 0, 0, 0) := by decide +kernel
theorem e0_447 : vm_ent 0 447 = some (.iconst 2, 0, 0, 0) := by decide +kernel
theorem e0_448 : vm_ent 0 448 = some (.iadd, 0, 0, 0) := by decide +kernel
theorem e0_449 : vm_ent 0 449 = some (.iaload, 0, 0, 0) := by decide +kernel
theorem e0_450 : vm_ent 0 450 = some (.aload_n 0, 0, 0, 0) := by decide +kernel
theorem e0_451 : vm_ent 0 451 = some (.iload 4, 0, 0, 0) := by decide +kernel
theorem e0_453 : vm_ent 0 453 = some (.iconst 3, 0, 0, 0) := by decide +kernel
theorem e0_454 : vm_ent 0 454 = some (.iadd, 0, 0, 0) := by decide +kernel
theorem e0_455 : vm_ent 0 455 = some (.iaload, 0, 0, 0) := by decide +kernel
theorem e0_456 : vm_ent 0 456 = some (.invokevirtual 64, 53, 4, 508) := by decide +kernel
theorem e0_459 : vm_ent 0 459 = some (.pop2, 0, 0, 0) := by decide +kernel
theorem e0_460 : vm_ent 0 460 = some (.aload_n 2, 0, 0, 0) := by decide +kernel
theorem e0_461 : vm_ent 0 461 = some (.aload_n 0, 0, 0, 0) := by decide +kernel
theorem e0_462 : vm_ent 0 462 = some (.iload 4, 0, 0, 0) := by decide +kernel
theorem e0_464 : vm_ent 0 464 = some (.iconst 1, 0, 0, 0) := by decide +kernel
theorem e0_465 : vm_ent 0 465 = some (.iadd, 0, 0, 0) := by decide +kernel
theorem e0_466 : vm_ent 0 466 = some (.iaload, 0, 0, 0) := by decide +kernel
theorem e0_467 : vm_ent 0 467 = some (.aload_n 0, 0, 0, 0) := by decide +kernel
theorem e0_468 : vm_ent 0 468 = some (.iload 4, 0, 0, 0) := by decide +kernel
theorem e0_470 : vm_ent 0 470 = some (.iconst 2, 0, 0, 0) := by decide +kernel
theorem e0_471 : vm_ent 0 471 = some (.iadd, 0, 0, 0) := by decide +kernel
theorem e0_472 : vm_ent 0 472 = some (.iaload, 0, 0, 0) := by decide +kernel
theorem e0_473 : vm_ent 0 473 = some (.aload_n 0, 0, 0, 0) := by decide +kernel
theorem e0_474 : vm_ent 0 474 = some (.iload 4, 0, 0, 0) := by decide +kernel
theorem e0_476 : vm_ent 0 476 = some (.iconst 3, 0, 0, 0) := by decide +kernel
theorem e0_477 : vm_ent 0 477 = some (.iadd, 0, 0, 0) := by decide +kernel
theorem e0_478 : vm_ent 0 478 = some (.iaload, 0, 0, 0) := by decide +kernel
theorem e0_479 : vm_ent 0 479 = some (.invokevirtual 68, 115, 4, 915) := by decide +kernel
theorem e0_482 : vm_ent 0 482 = some (.pop2, 0, 0, 0) := by decide +kernel
theorem e0_483 : vm_ent 0 483 = some (.goto 287, 770, 0, 0) := by decide +kernel
theorem e0_486 : vm_ent 0 486 = some (.aload_n 1, 0, 0, 0) := by decide +kernel
theorem e0_487 : vm_ent 0 487 = some (.aload_n 0, 0, 0, 0) := by decide +kernel
theorem e0_488 : vm_ent 0 488 = some (.iload 4, 0, 0, 0) := by decide +kernel
theorem e0_490 : vm_ent 0 490 = some (.iconst 1, 0, 0, 0) := by decide +kernel
theorem e0_491 : vm_ent 0 491 = some (.iadd, 0, 0, 0) := by decide +kernel
theorem e0_492 : vm_ent 0 492 = some (.iaload, 0, 0, 0) := by decide +kernel
theorem e0_493 : vm_ent 0 493 = some (.aload_n 0, 0, 0, 0) := by decide +kernel
theorem e0_494 : vm_ent 0 494 = some (.iload 4, 0, 0, 0) := by decide +kernel
theorem e0_496 : vm_ent 0 496 = some (.iconst 2, 0, 0, 0) := by decide +kernel
theorem e0_497 : vm_ent 0 497 = some (.iadd, 0, 0, 0) := by decide +kernel
theorem e0_498 : vm_ent 0 498 = some (.iaload, 0, 0, 0) := by decide +kernel
theorem e0_499 : vm_ent 0 499 = some (.aload_n 0, 0, 0, 0) := by decide +kernel
theorem e0_500 : vm_ent 0 500 = some (.iload 4, 0, 0, 0) := by decide +kernel
theorem e0_502 : vm_ent 0 502 = some (.iconst 3, 0, 0, 0) := by decide +kernel
theorem e0_503 : vm_ent 0 503 = some (.iadd, 0, 0, 0) := by decide +kernel
theorem e0_504 : vm_ent 0 504 = some (.iaload, 0, 0, 0) := by decide +kernel
theorem e0_505 : vm_ent 0 505 = some (.invokevirtual 69, 54, 4, 524) := by decide +kernel
theorem e0_508 : vm_ent 0 508 = some (.pop, 0, 0, 0) := by decide +kernel
theorem e0_509 : vm_ent 0 509 = some (.aload_n 2, 0, 0, 0) := by decide +kernel
theorem e0_510 : vm_ent 0 510 = some (.aload_n 0, 0, 0, 0) := by decide +kernel
theorem e0_511 : vm_ent 0 511 = some (.iload 4, 0, 0, 0) := by decide +kernel
theorem e0_513 : vm_ent 0 513 = some (.iconst 1, 0, 0, 0) := by decide +kernel
theorem e0_514 : vm_ent 0 514 = some (.iadd, 0, 0, 0) := by decide +kernel
theorem e0_515 : vm_ent 0 515 = some (.iaload, 0, 0, 0) := by decide +kernel
theorem e0_516 : vm_ent 0 516 = some (.aload_n 0, 0, 0, 0) := by decide +kernel
theorem e0_517 : vm_ent 0 517 = some (.iload 4, 0, 0, 0) := by decide +kernel
theorem e0_519 : vm_ent 0 519 = some (.iconst 2, 0, 0, 0) := by decide +kernel
theorem e0_520 : vm_ent 0 520 = some (.iadd, 0, 0, 0) := by decide +kernel
theorem e0_521 : vm_ent 0 521 = some (.iaload, 0, 0, 0) := by decide +kernel
theorem e0_522 : vm_ent 0 522 = some (.aload_n 0, 0, 0, 0) := by decide +kernel
theorem e0_523 : vm_ent 0 523 = some (.iload 4, 0, 0, 0) := by decide +kernel
theorem e0_525 : vm_ent 0 525 = some (.iconst 3, 0, 0, 0) := by decide +kernel
theorem e0_526 : vm_ent 0 526 = some (.iadd, 0, 0, 0) := by decide +kernel
theorem e0_527 : vm_ent 0 527 = some (.iaload, 0, 0, 0) := by decide +kernel
theorem e0_528 : vm_ent 0 528 = some (.invokevirtual 73, 116, 4, 923) := by decide +kernel
theorem e0_531 : vm_ent 0 531 = some (.pop, 0, 0, 0) := by decide +kernel
theorem e0_532 : vm_ent 0 532 = some (.goto 238, 770, 0, 0) := by decide +kernel
theorem e0_535 : vm_ent 0 535 = some (.aload_n 1, 0, 0, 0) := by decide +kernel
theorem e0_536 : vm_ent 0 536 = some (.aload_n 0, 0, 0, 0) := by decide +kernel
theorem e0_537 : vm_ent 0 537 = some (.iload 4, 0, 0, 0) := by decide +kernel
theorem e0_539 : vm_ent 0 539 = some (.iconst 1, 0, 0, 0) := by decide +kernel
theorem e0_540 : vm_ent 0 540 = some (.iadd, 0, 0, 0) := by decide +kernel
theorem e0_541 : vm_ent 0 541 = some (.iaload, 0, 0, 0) := by decide +kernel
theorem e0_542 : vm_ent 0 542 = some (.aload_n 0, 0, 0, 0) := by decide +kernel
theorem e0_543 : vm_ent 0 543 = some (.iload 4, 0, 0, 0) := by decide +kernel
theorem e0_545 : vm_ent 0 545 = some (.iconst 2, 0, 0, 0) := by decide +kernel
theorem e0_546 : vm_ent 0 546 = some (.iadd, 0, 0, 0) := by decide +kernel
theorem e0_547 : vm_ent 0 547 = some (.iaload, 0, 0, 0) := by decide +kernel
theorem e0_548 : vm_ent 0 548 = some (.i2l, 0, 0, 0) := by decide +kernel
theorem e0_549 : vm_ent 0 549 = some (.bipush 32, 0, 0, 0) := by decide +kernel
theorem e0_551 : vm_ent 0 551 = some (.lshl, 0, 0, 0) := by decide +kernel
theorem e0_552 : vm_ent 0 552 = some (.aload_n 0, 0, 0, 0) := by decide +kernel
theorem e0_553 : vm_ent 0 553 = some (.iload 4, 0, 0, 0) := by decide +kernel
theorem e0_555 : vm_ent 0 555 = some (.iconst 3, 0, 0, 0) := by decide +kernel
theorem e0_556 : vm_ent 0 556 = some (.iadd, 0, 0, 0) := by decide +kernel
theorem e0_557 : vm_ent 0 557 = some (.iaload, 0, 0, 0) := by decide +kernel
theorem e0_558 : vm_ent 0 558 = some (.i2l, 0, 0, 0) := by decide +kernel
theorem e0_559 : vm_ent 0 559 = some (.ldc2_w 34, 4294967295, 0, 951) := by decide +kernel
theorem e0_562 : vm_ent 0 562 = some (.land, 0, 0, 0) := by decide +kernel
theorem e0_563 : vm_ent 0 563 = some (.lor, 0, 0, 0) := by decide +kernel
theorem e0_564 : vm_ent 0 564 = some (.invokevirtual 74, 55, 4, 529) := by decide +kernel
theorem e0_567 : vm_ent 0 567 = some (.pop, 0, 0, 0) := by decide +kernel
theorem e0_568 : vm_ent 0 568 = some (.aload_n 2, 0, 0, 0) := by decide +kernel
theorem e0_569 : vm_ent 0 569 = some (.aload_n 0, 0, 0, 0) := by decide +kernel
theorem e0_570 : vm_ent 0 570 = some (.iload 4, 0, 0, 0) := by decide +kernel
theorem e0_572 : vm_ent 0 572 = some (.iconst 1, 0, 0, 0) := by decide +kernel
theorem e0_573 : vm_ent 0 573 = some (.iadd, 0, 0, 0) := by decide +kernel
theorem e0_574 : vm_ent 0 574 = some (.iaload, 0, 0, 0) := by decide +kernel
theorem e0_575 : vm_ent 0 575 = some (.aload_n 0, 0, 0, 0) := by decide +kernel
theorem e0_576 : vm_ent 0 576 = some (.iload 4, 0, 0, 0) := by decide +kernel
theorem e0_578 : vm_ent 0 578 = some (.iconst 2, 0, 0, 0) := by decide +kernel
theorem e0_579 : vm_ent 0 579 = some (.iadd, 0, 0, 0) := by decide +kernel
theorem e0_580 : vm_ent 0 580 = some (.iaload, 0, 0, 0) := by decide +kernel
theorem e0_581 : vm_ent 0 581 = some (.i2l, 0, 0, 0) := by decide +kernel
theorem e0_582 : vm_ent 0 582 = some (.bipush 32, 0, 0, 0) := by decide +kernel
theorem e0_584 : vm_ent 0 584 = some (.lshl, 0, 0, 0) := by decide +kernel
theorem e0_585 : vm_ent 0 585 = some (.aload_n 0, 0, 0, 0) := by decide +kernel
theorem e0_586 : vm_ent 0 586 = some (.iload 4, 0, 0, 0) := by decide +kernel
theorem e0_588 : vm_ent 0 588 = some (.iconst 3, 0, 0, 0) := by decide +kernel
theorem e0_589 : vm_ent 0 589 = some (.iadd, 0, 0, 0) := by decide +kernel
theorem e0_590 : vm_ent 0 590 = some (.iaload, 0, 0, 0) := by decide +kernel
theorem e0_591 : vm_ent 0 591 = some (.i2l, 0, 0, 0) := by decide +kernel
theorem e0_592 : vm_ent 0 592 = some (.ldc2_w 34, 4294967295, 0, 951) := by decide +kernel
theorem e0_595 : vm_ent 0 595 = some (.land, 0, 0, 0) := by decide +kernel
theorem e0_596 : vm_ent 0 596 = some (.lor, 0, 0, 0) := by decide +kernel
theorem e0_597 : vm_ent 0 597 = some (.invokevirtual 78, 117, 4, 927) := by decide +kernel
theorem e0_600 : vm_ent 0 600 = some (.pop, 0, 0, 0) := by decide +kernel
theorem e0_601 : vm_ent 0 601 = some (.goto 169, 770, 0, 0) := by decide +kernel
theorem e0_604 : vm_ent 0 604 = some (.aload_n 1, 0, 0, 0) := by decide +kernel
theorem e0_605 : vm_ent 0 605 = some (.aload_n 0, 0, 0, 0) := by decide +kernel
theorem e0_606 : vm_ent 0 606 = some (.iload 4, 0, 0, 0) := by decide +kernel
theorem e0_608 : vm_ent 0 608 = some (.iconst 1, 0, 0, 0) := by decide +kernel
theorem e0_609 : vm_ent 0 609 = some (.iadd, 0, 0, 0) := by decide +kernel
theorem e0_610 : vm_ent 0 610 = some (.iaload, 0, 0, 0) := by decide +kernel
theorem e0_611 : vm_ent 0 611 = some (.aload_n 0, 0, 0, 0) := by decide +kernel
theorem e0_612 : vm_ent 0 612 = some (.iload 4, 0, 0, 0) := by decide +kernel
theorem e0_614 : vm_ent 0 614 = some (.iconst 2, 0, 0, 0) := by decide +kernel
theorem e0_615 : vm_ent 0 615 = some (.iadd, 0, 0, 0) := by decide +kernel
theorem e0_616 : vm_ent 0 616 = some (.iaload, 0, 0, 0) := by decide +kernel
theorem e0_617 : vm_ent 0 617 = some (.invokevirtual 79, 56, 4, 533) := by decide +kernel
theorem e0_620 : vm_ent 0 620 = some (.pop2, 0, 0, 0) := by decide +kernel
theorem e0_621 : vm_ent 0 621 = some (.aload_n 2, 0, 0, 0) := by decide +kernel
theorem e0_622 : vm_ent 0 622 = some (.aload_n 0, 0, 0, 0) := by decide +kernel
theorem e0_623 : vm_ent 0 623 = some (.iload 4, 0, 0, 0) := by decide +kernel
theorem e0_625 : vm_ent 0 625 = some (.iconst 1, 0, 0, 0) := by decide +kernel
theorem e0_626 : vm_ent 0 626 = some (.iadd, 0, 0, 0) := by decide +kernel
theorem e0_627 : vm_ent 0 627 = some (.iaload, 0, 0, 0) := by decide +kernel
theorem e0_628 : vm_ent 0 628 = some (.aload_n 0, 0, 0, 0) := by decide +kernel
theorem e0_629 : vm_ent 0 629 = some (.iload 4, 0, 0, 0) := by decide +kernel
theorem e0_631 : vm_ent 0 631 = some (.iconst 2, 0, 0, 0) := by decide +kernel
theorem e0_632 : vm_ent 0 632 = some (.iadd, 0, 0, 0) := by decide +kernel
theorem e0_633 : vm_ent 0 633 = some (.iaload, 0, 0, 0) := by decide +kernel
theorem e0_634 : vm_ent 0 634 = some (.invokevirtual 83, 120, 4, 931) := by decide +kernel
theorem e0_637 : vm_ent 0 637 = some (.pop2, 0, 0, 0) := by decide +kernel
theorem e0_638 : vm_ent 0 638 = some (.goto 132, 770, 0, 0) := by decide +kernel
theorem e0_641 : vm_ent 0 641 = some (.aload_n 1, 0, 0, 0) := by decide +kernel
theorem e0_642 : vm_ent 0 642 = some (.aload_n 0, 0, 0, 0) := by decide +kernel
theorem e0_643 : vm_ent 0 643 = some (.iload 4, 0, 0, 0) := by decide +kernel
theorem e0_645 : vm_ent 0 645 = some (.iconst 1, 0, 0, 0) := by decide +kernel
theorem e0_646 : vm_ent 0 646 = some (.iadd, 0, 0, 0) := by decide +kernel
theorem e0_647 : vm_ent 0 647 = some (.iaload, 0, 0, 0) := by decide +kernel
theorem e0_648 : vm_ent 0 648 = some (.invokevirtual 84, 57, 4, 545) := by decide +kernel
theorem e0_651 : vm_ent 0 651 = some (.pop2, 0, 0, 0) := by decide +kernel
theorem e0_652 : vm_ent 0 652 = some (.aload_n 2, 0, 0, 0) := by decide +kernel
theorem e0_653 : vm_ent 0 653 = some (.aload_n 0, 0, 0, 0) := by decide +kernel
theorem e0_654 : vm_ent 0 654 = some (.iload 4, 0, 0, 0) := by decide +kernel
theorem e0_656 : vm_ent 0 656 = some (.iconst 1, 0, 0, 0) := by decide +kernel
theorem e0_657 : vm_ent 0 657 = some (.iadd, 0, 0, 0) := by decide +kernel
theorem e0_658 : vm_ent 0 658 = some (.iaload, 0, 0, 0) := by decide +kernel
theorem e0_659 : vm_ent 0 659 = some (.invokevirtual 88, 121, 4, 943) := by decide +kernel
theorem e0_662 : vm_ent 0 662 = some (.pop2, 0, 0, 0) := by decide +kernel
theorem e0_663 : vm_ent 0 663 = some (.goto 107, 770, 0, 0) := by decide +kernel
theorem e0_666 : vm_ent 0 666 = some (.aload_n 1, 0, 0, 0) := by decide +kernel
theorem e0_667 : vm_ent 0 667 = some (.aload_n 0, 0, 0, 0) := by decide +kernel
theorem e0_668 : vm_ent 0 668 = some (.iload 4, 0, 0, 0) := by decide +kernel
theorem e0_670 : vm_ent 0 670 = some (.iconst 1, 0, 0, 0) := by decide +kernel
theorem e0_671 : vm_ent 0 671 = some (.iadd, 0, 0, 0) := by decide +kernel
theorem e0_672 : vm_ent 0 672 = some (.iaload, 0, 0, 0) := by decide +kernel
theorem e0_673 : vm_ent 0 673 = some (.i2l, 0, 0, 0) := by decide +kernel
theorem e0_674 : vm_ent 0 674 = some (.bipush 32, 0, 0, 0) := by decide +kernel
theorem e0_676 : vm_ent 0 676 = some (.lshl, 0, 0, 0) := by decide +kernel
theorem e0_677 : vm_ent 0 677 = some (.aload_n 0, 0, 0, 0) := by decide +kernel
theorem e0_678 : vm_ent 0 678 = some (.iload 4, 0, 0, 0) := by decide +kernel
theorem e0_680 : vm_ent 0 680 = some (.iconst 2, 0, 0, 0) := by decide +kernel
theorem e0_681 : vm_ent 0 681 = some (.iadd, 0, 0, 0) := by decide +kernel
theorem e0_682 : vm_ent 0 682 = some (.iaload, 0, 0, 0) := by decide +kernel
theorem e0_683 : vm_ent 0 683 = some (.i2l, 0, 0, 0) := by decide +kernel
theorem e0_684 : vm_ent 0 684 = some (.ldc2_w 34, 4294967295, 0, 951) := by decide +kernel
theorem e0_687 : vm_ent 0 687 = some (.land, 0, 0, 0) := by decide +kernel
theorem e0_688 : vm_ent 0 688 = some (.lor, 0, 0, 0) := by decide +kernel
theorem e0_689 : vm_ent 0 689 = some (.aload_n 0, 0, 0, 0) := by decide +kernel
theorem e0_690 : vm_ent 0 690 = some (.iload 4, 0, 0, 0) := by decide +kernel
theorem e0_692 : vm_ent 0 692 = some (.iconst 3, 0, 0, 0) := by decide +kernel
theorem e0_693 : vm_ent 0 693 = some (.iadd, 0, 0, 0) := by decide +kernel
theorem e0_694 : vm_ent 0 694 = some (.iaload, 0, 0, 0) := by decide +kernel
theorem e0_695 : vm_ent 0 695 = some (.i2l, 0, 0, 0) := by decide +kernel
theorem e0_696 : vm_ent 0 696 = some (.bipush 32, 0, 0, 0) := by decide +kernel
theorem e0_698 : vm_ent 0 698 = some (.lshl, 0, 0, 0) := by decide +kernel
theorem e0_699 : vm_ent 0 699 = some (.aload_n 0, 0, 0, 0) := by decide +kernel
theorem e0_700 : vm_ent 0 700 = some (.iload 4, 0, 0, 0) := by decide +kernel
theorem e0_702 : vm_ent 0 702 = some (.iconst 4, 0, 0, 0) := by decide +kernel
theorem e0_703 : vm_ent 0 703 = some (.iadd, 0, 0, 0) := by decide +kernel
theorem e0_704 : vm_ent 0 704 = some (.iaload, 0, 0, 0) := by decide +kernel
theorem e0_705 : vm_ent 0 705 = some (.i2l, 0, 0, 0) := by decide +kernel
theorem e0_706 : vm_ent 0 706 = some (.ldc2_w 34, 4294967295, 0, 951) := by decide +kernel
theorem e0_709 : vm_ent 0 709 = some (.land, 0, 0, 0) := by decide +kernel
theorem e0_710 : vm_ent 0 710 = some (.lor, 0, 0, 0) := by decide +kernel
theorem e0_711 : vm_ent 0 711 = some (.aload_n 3, 0, 0, 0) := by decide +kernel
theorem e0_712 : vm_ent 0 712 = some (.invokestatic 89, 124, 2, 554) := by decide +kernel
theorem e0_715 : vm_ent 0 715 = some (.istore 5, 0, 0, 0) := by decide +kernel
theorem e0_717 : vm_ent 0 717 = some (.aload_n 2, 0, 0, 0) := by decide +kernel
theorem e0_718 : vm_ent 0 718 = some (.aload_n 0, 0, 0, 0) := by decide +kernel
theorem e0_719 : vm_ent 0 719 = some (.iload 4, 0, 0, 0) := by decide +kernel
theorem e0_721 : vm_ent 0 721 = some (.iconst 1, 0, 0, 0) := by decide +kernel
theorem e0_722 : vm_ent 0 722 = some (.iadd, 0, 0, 0) := by decide +kernel
theorem e0_723 : vm_ent 0 723 = some (.iaload, 0, 0, 0) := by decide +kernel
theorem e0_724 : vm_ent 0 724 = some (.i2l, 0, 0, 0) := by decide +kernel
theorem e0_725 : vm_ent 0 725 = some (.bipush 32, 0, 0, 0) := by decide +kernel
theorem e0_727 : vm_ent 0 727 = some (.lshl, 0, 0, 0) := by decide +kernel
theorem e0_728 : vm_ent 0 728 = some (.aload_n 0, 0, 0, 0) := by decide +kernel
theorem e0_729 : vm_ent 0 729 = some (.iload 4, 0, 0, 0) := by decide +kernel
theorem e0_731 : vm_ent 0 731 = some (.iconst 2, 0, 0, 0) := by decide +kernel
theorem e0_732 : vm_ent 0 732 = some (.iadd, 0, 0, 0) := by decide +kernel
theorem e0_733 : vm_ent 0 733 = some (.iaload, 0, 0, 0) := by decide +kernel
theorem e0_734 : vm_ent 0 734 = some (.i2l, 0, 0, 0) := by decide +kernel
theorem e0_735 : vm_ent 0 735 = some (.ldc2_w 34, 4294967295, 0, 951) := by decide +kernel
theorem e0_738 : vm_ent 0 738 = some (.land, 0, 0, 0) := by decide +kernel
theorem e0_739 : vm_ent 0 739 = some (.lor, 0, 0, 0) := by decide +kernel
theorem e0_740 : vm_ent 0 740 = some (.aload_n 0, 0, 0, 0) := by decide +kernel
theorem e0_741 : vm_ent 0 741 = some (.iload 4, 0, 0, 0) := by decide +kernel
theorem e0_743 : vm_ent 0 743 = some (.iconst 3, 0, 0, 0) := by decide +kernel
theorem e0_744 : vm_ent 0 744 = some (.iadd, 0, 0, 0) := by decide +kernel
theorem e0_745 : vm_ent 0 745 = some (.iaload, 0, 0, 0) := by decide +kernel
theorem e0_746 : vm_ent 0 746 = some (.i2l, 0, 0, 0) := by decide +kernel
theorem e0_747 : vm_ent 0 747 = some (.bipush 32, 0, 0, 0) := by decide +kernel
theorem e0_749 : vm_ent 0 749 = some (.lshl, 0, 0, 0) := by decide +kernel
theorem e0_750 : vm_ent 0 750 = some (.aload_n 0, 0, 0, 0) := by decide +kernel
theorem e0_751 : vm_ent 0 751 = some (.iload 4, 0, 0, 0) := by decide +kernel
theorem e0_753 : vm_ent 0 753 = some (.iconst 4, 0, 0, 0) := by decide +kernel
theorem e0_754 : vm_ent 0 754 = some (.iadd, 0, 0, 0) := by decide +kernel
theorem e0_755 : vm_ent 0 755 = some (.iaload, 0, 0, 0) := by decide +kernel
theorem e0_756 : vm_ent 0 756 = some (.i2l, 0, 0, 0) := by decide +kernel
theorem e0_757 : vm_ent 0 757 = some (.ldc2_w 34, 4294967295, 0, 951) := by decide +kernel
theorem e0_760 : vm_ent 0 760 = some (.land, 0, 0, 0) := by decide +kernel
theorem e0_761 : vm_ent 0 761 = some (.lor, 0, 0, 0) := by decide +kernel
theorem e0_762 : vm_ent 0 762 = some (.invokevirtual 94, 122, 4, 947) := by decide +kernel
theorem e0_765 : vm_ent 0 765 = some (.lstore 6, 0, 0, 0) := by decide +kernel
theorem e0_767 : vm_ent 0 767 = some (.goto 3, 770, 0, 0) := by decide +kernel
theorem e0_770 : vm_ent 0 770 = some (.iinc 4 5, 0, 0, 0) := by decide +kernel
theorem e0_773 : vm_ent 0 773 = some (.goto (-750), 23, 0, 0) := by decide +kernel
theorem e0_776 : vm_ent 0 776 = some (.iconst 1, 0, 0, 0) := by decide +kernel
theorem e0_777 : vm_ent 0 777 = some (.ireturn, 0, 0, 0) := by decide +kernel
theorem nv_n {n n1 q : Int} {A B : Prop} (h : (n = 8 ∧ q = -1 ∧ n1 = n ∧ A) ∨ (n < 8 ∧ q = n ∧ n1 = n + 1 ∧ B)) : (n = 8 ∧ n1 = n) ∨ (n < 8 ∧ n1 = n + 1) := by
  rcases h with ⟨a, _, b, _⟩ | ⟨a, _, b, _⟩ <;> omega
def laL (u v : Int32) : Int64 := (u.toInt64 <<< ((vz 32).toInt64 &&& 63)) ||| (v.toInt64 &&& Int64.ofNat 4294967295)
abbrev lwA (x : Int) : vq_A := [some (.ref 0), some (.ref 1), some (.ref 238), some (.ref 263), some (.int (vz x)), none, none, none]
/-- what a turn comes to: the end; the next turn; the call of pseudo -/
def lwQ (L : Nat) (xs : Nat → Int32) (x : Int) : vq_Q := fun pc ls st v1 => pc = 23 ∧ st = [] ∧ vq_ag (lwA (x + 5)) ls ∧ (x + 5 ≤ (L : Int)) ∧ ∃ (n p t : Int) (g : Int64) (u : D5u) (w : D5w), lI L xs v1 n p n p t g u w ∧ rel5 n p u w
def lwP (L : Nat) (xs : Nat → Int32) (x : Int) : vq_Q := fun pc ls st v1 => (pc = 777 ∧ st = [.int (vz 1)]) ∨ lwQ L xs x pc ls st v1 ∨ (pc = 712 ∧ st = [.ref 263, .long (laL (xs (x + 3).toNat) (xs (x + 4).toNat)), .long (laL (xs (x + 1).toNat) (xs (x + 2).toNat)), .ref 1] ∧ vq_ag (lwA x) ls ∧ (x + 5 ≤ (L : Int)) ∧ ∃ (n p t : Int) (g : Int64) (u : D5u) (w : D5w), lI L xs v1 n p n p t g u w ∧ rel5 n p u w)

set_option maxRecDepth 100000 in
set_option maxHeartbeats 8000000 in
theorem lw_turn {L : Nat} {xs : Nat → Int32} {vh : vm_H} {n p t : Int} {g : Int64} {x4 : Int} {u : D5u} {w : D5w} (hL : lI L xs vh n p n p t g u w) (hZ : rel5 n p u w) (h0 : 0 ≤ x4) (hx : x4 ≤ (L : Int)) (hl : L ≤ 2560) : vm_Wp 9 400 0 23 (lwA x4) [] vh (lwP L xs x4) := by
  have hbd := lI_b hL
  refine w_ldI e0_23 (fun _ => rfl) rfl ?_
  refine w_ldA e0_25 (fun _ => rfl) rfl ?_
  refine w_len e0_26 (lI_0 hL) (by decide) ?_
  refine w_kI e0_27 ?_
  refine w_isub e0_28 ?_
  refine w_ic e0_29 (by omega) (by omega) (fun (h1 : ((L : Int)) - 5 < x4) => ?_) (fun (h1 : x4 ≤ ((L : Int)) - 5) => ?_)
  ·
    refine w_kI e0_776 ?_
    exact w_end (fun ls hl => Or.inl ⟨rfl, rfl⟩)
  ·
    refine w_ldA e0_32 (fun _ => rfl) rfl ?_
    refine w_ldI e0_33 (fun _ => rfl) rfl ?_
    refine w_aldO e0_35 (lI_0 hL) (by omega) (by omega) (by omega) (fun q2 h3 hx4 => ?_)
    refine w_kB e0_36 rfl ?_
    refine w_iand e0_38 h3 (by omega) (fun q5 (h6 : 0 ≤ q5 ∧ q5 ≤ 15) => ?_)
    by_cases h7 : q5 < 0 ∨ 14 < q5
    ·
      refine w_swO (t := 770) e0_39 (by omega) h7 rfl ?_
      refine w_iinc (A1 := [some (.ref 0), some (.ref 1), some (.ref 238), some (.ref 263), some (.int (vz (x4 + 5))), none, none, none]) e0_770 rfl (by decide) rfl ?_
      refine w_x e0_773 (fun _ => rfl) ?_
      have hnp8 : n = n ∧ p = p := by omega
      have hZ9 : rel5 n p u w := hZ
      exact w_sub (A1 := [some (.ref 0), some (.ref 1), some (.ref 238), some (.ref 263), some (.int (vz (x4 + 5))), none, none, none]) (And.intro rfl (And.intro rfl (And.intro rfl (And.intro rfl (And.intro rfl trivial))))) (w_end (fun ls hl => Or.inr (Or.inl ⟨rfl, rfl, hl, by omega, ⟨_, _, _, _, _, _, hL, hZ9⟩⟩)))
    ·
      have h9 : q5 = 0 ∨ q5 = 1 ∨ q5 = 2 ∨ q5 = 3 ∨ q5 = 4 ∨ q5 = 5 ∨ q5 = 6 ∨ q5 = 7 ∨ q5 = 8 ∨ q5 = 9 ∨ q5 = 10 ∨ q5 = 11 ∨ q5 = 12 ∨ q5 = 13 ∨ q5 = 14 := by omega
      rcases h9 with h9 | h9 | h9 | h9 | h9 | h9 | h9 | h9 | h9 | h9 | h9 | h9 | h9 | h9 | h9
      ·
        refine w_swI (t := 112) e0_39 (by omega) h7 (by rw [h9]; rfl) rfl ?_
        refine w_ldA e0_112 (fun _ => rfl) rfl ?_
        refine w_ldA e0_113 (fun _ => rfl) rfl ?_
        refine w_ldI e0_114 (fun _ => rfl) rfl ?_
        refine w_kI e0_116 ?_
        refine w_iadd e0_117 ?_
        refine w_aldO e0_118 (lI_0 hL) (by omega) (by omega) (by omega) (fun q10 h11 hx12 => ?_)
        refine w_if e0_119 h11 (fun (h13 : q10 = 0) => ?_) (fun (h13 : q10 ≠ 0) => ?_)
        ·
          refine w_kI e0_126 ?_
          obtain ⟨fs14, e15⟩ := lI_1 hL
          refine w_cv e0_127 (by decide) rfl e15 rfl (Nat.le_of_ble_eq_true rfl) (Nat.le_of_ble_eq_true rfl) (Nat.le_of_ble_eq_true rfl) (by decide) (by decide) (x44 hL (by omega)) (fun o16 v17 hq18 => ?_)
          obtain ⟨n19, ua20, q28, hw23, hc25, hL27, rfl⟩ := hq18
          have hb26 := nv_n hc25
          refine w_x e0_130 (fun _ => rfl) ?_
          refine w_ldA e0_131 (fun _ => rfl) rfl ?_
          refine w_ldA e0_132 (fun _ => rfl) rfl ?_
          refine w_ldI e0_133 (fun _ => rfl) rfl ?_
          refine w_kI e0_135 ?_
          refine w_iadd e0_136 ?_
          refine w_aldO e0_137 (lI_0 hL27) (by omega) (by omega) (by omega) (fun q29 h30 hx31 => ?_)
          have hqq32 : q10 = q29 := ((vz_inj h30 h11).mp (hx31.symm.trans hx12)).symm
          subst hqq32
          refine w_if e0_138 h11 (fun (h33 : q10 = 0) => ?_) (fun (h33 : q10 ≠ 0) => ?_)
          ·
            refine w_kI e0_145 ?_
            obtain ⟨fs34, e35⟩ := lI_238 hL27
            refine w_cv e0_146 (by decide) rfl e35 rfl (Nat.le_of_ble_eq_true rfl) (Nat.le_of_ble_eq_true rfl) (Nat.le_of_ble_eq_true rfl) (by decide) (by decide) (y105 hL27 (by omega)) (fun o36 v37 hq38 => ?_)
            obtain ⟨⟨n39, p40, t41, hr42, hL43⟩, q44, h45, rfl⟩ := hq38
            rw [hr42.2] at hL43
            refine w_x e0_149 (fun _ => rfl) ?_
            refine w_x e0_150 (fun _ => rfl) ?_
            refine w_iinc (A1 := [some (.ref 0), some (.ref 1), some (.ref 238), some (.ref 263), some (.int (vz (x4 + 5))), none, none, none]) e0_770 rfl (by decide) rfl ?_
            refine w_x e0_773 (fun _ => rfl) ?_
            have hnp46 : n39 = n19 ∧ p = p := by omega
            rw [hnp46.1] at hL43
            have hZ9 : rel5 n19 p ua20 w := rel_nv hZ (lI_u hL) hbd.1.1 hw23 hc25
            exact w_sub (A1 := [some (.ref 0), some (.ref 1), some (.ref 238), some (.ref 263), some (.int (vz (x4 + 5))), none, none, none]) (And.intro rfl (And.intro rfl (And.intro rfl (And.intro rfl (And.intro rfl trivial))))) (w_end (fun ls hl => Or.inr (Or.inl ⟨rfl, rfl, hl, by omega, ⟨_, _, _, _, _, _, hL43, hZ9⟩⟩)))
          ·
            refine w_kI e0_141 ?_
            refine w_x e0_142 (fun _ => rfl) ?_
            obtain ⟨fs47, e48⟩ := lI_238 hL27
            refine w_cv e0_146 (by decide) rfl e48 rfl (Nat.le_of_ble_eq_true rfl) (Nat.le_of_ble_eq_true rfl) (Nat.le_of_ble_eq_true rfl) (by decide) (by decide) (y105 hL27 (by omega)) (fun o49 v50 hq51 => ?_)
            obtain ⟨⟨n52, p53, t54, hr55, hL56⟩, q57, h58, rfl⟩ := hq51
            rw [hr55.2] at hL56
            refine w_x e0_149 (fun _ => rfl) ?_
            refine w_x e0_150 (fun _ => rfl) ?_
            refine w_iinc (A1 := [some (.ref 0), some (.ref 1), some (.ref 238), some (.ref 263), some (.int (vz (x4 + 5))), none, none, none]) e0_770 rfl (by decide) rfl ?_
            refine w_x e0_773 (fun _ => rfl) ?_
            have hnp59 : n52 = n19 ∧ p = p := by omega
            rw [hnp59.1] at hL56
            have hZ9 : rel5 n19 p ua20 w := rel_nv hZ (lI_u hL) hbd.1.1 hw23 hc25
            exact w_sub (A1 := [some (.ref 0), some (.ref 1), some (.ref 238), some (.ref 263), some (.int (vz (x4 + 5))), none, none, none]) (And.intro rfl (And.intro rfl (And.intro rfl (And.intro rfl (And.intro rfl trivial))))) (w_end (fun ls hl => Or.inr (Or.inl ⟨rfl, rfl, hl, by omega, ⟨_, _, _, _, _, _, hL56, hZ9⟩⟩)))
        ·
          refine w_kI e0_122 ?_
          refine w_x e0_123 (fun _ => rfl) ?_
          obtain ⟨fs60, e61⟩ := lI_1 hL
          refine w_cv e0_127 (by decide) rfl e61 rfl (Nat.le_of_ble_eq_true rfl) (Nat.le_of_ble_eq_true rfl) (Nat.le_of_ble_eq_true rfl) (by decide) (by decide) (x44 hL (by omega)) (fun o62 v63 hq64 => ?_)
          obtain ⟨n65, ua66, q74, hw69, hc71, hL73, rfl⟩ := hq64
          have hb72 := nv_n hc71
          refine w_x e0_130 (fun _ => rfl) ?_
          refine w_ldA e0_131 (fun _ => rfl) rfl ?_
          refine w_ldA e0_132 (fun _ => rfl) rfl ?_
          refine w_ldI e0_133 (fun _ => rfl) rfl ?_
          refine w_kI e0_135 ?_
          refine w_iadd e0_136 ?_
          refine w_aldO e0_137 (lI_0 hL73) (by omega) (by omega) (by omega) (fun q75 h76 hx77 => ?_)
          have hqq78 : q10 = q75 := ((vz_inj h76 h11).mp (hx77.symm.trans hx12)).symm
          subst hqq78
          refine w_if e0_138 h11 (fun (h79 : q10 = 0) => ?_) (fun (h79 : q10 ≠ 0) => ?_)
          ·
            refine w_kI e0_145 ?_
            obtain ⟨fs80, e81⟩ := lI_238 hL73
            refine w_cv e0_146 (by decide) rfl e81 rfl (Nat.le_of_ble_eq_true rfl) (Nat.le_of_ble_eq_true rfl) (Nat.le_of_ble_eq_true rfl) (by decide) (by decide) (y105 hL73 (by omega)) (fun o82 v83 hq84 => ?_)
            obtain ⟨⟨n85, p86, t87, hr88, hL89⟩, q90, h91, rfl⟩ := hq84
            rw [hr88.2] at hL89
            refine w_x e0_149 (fun _ => rfl) ?_
            refine w_x e0_150 (fun _ => rfl) ?_
            refine w_iinc (A1 := [some (.ref 0), some (.ref 1), some (.ref 238), some (.ref 263), some (.int (vz (x4 + 5))), none, none, none]) e0_770 rfl (by decide) rfl ?_
            refine w_x e0_773 (fun _ => rfl) ?_
            have hnp92 : n85 = n65 ∧ p = p := by omega
            rw [hnp92.1] at hL89
            have hZ9 : rel5 n65 p ua66 w := rel_nv hZ (lI_u hL) hbd.1.1 hw69 hc71
            exact w_sub (A1 := [some (.ref 0), some (.ref 1), some (.ref 238), some (.ref 263), some (.int (vz (x4 + 5))), none, none, none]) (And.intro rfl (And.intro rfl (And.intro rfl (And.intro rfl (And.intro rfl trivial))))) (w_end (fun ls hl => Or.inr (Or.inl ⟨rfl, rfl, hl, by omega, ⟨_, _, _, _, _, _, hL89, hZ9⟩⟩)))
          ·
            refine w_kI e0_141 ?_
            refine w_x e0_142 (fun _ => rfl) ?_
            obtain ⟨fs93, e94⟩ := lI_238 hL73
            refine w_cv e0_146 (by decide) rfl e94 rfl (Nat.le_of_ble_eq_true rfl) (Nat.le_of_ble_eq_true rfl) (Nat.le_of_ble_eq_true rfl) (by decide) (by decide) (y105 hL73 (by omega)) (fun o95 v96 hq97 => ?_)
            obtain ⟨⟨n98, p99, t100, hr101, hL102⟩, q103, h104, rfl⟩ := hq97
            rw [hr101.2] at hL102
            refine w_x e0_149 (fun _ => rfl) ?_
            refine w_x e0_150 (fun _ => rfl) ?_
            refine w_iinc (A1 := [some (.ref 0), some (.ref 1), some (.ref 238), some (.ref 263), some (.int (vz (x4 + 5))), none, none, none]) e0_770 rfl (by decide) rfl ?_
            refine w_x e0_773 (fun _ => rfl) ?_
            have hnp105 : n98 = n65 ∧ p = p := by omega
            rw [hnp105.1] at hL102
            have hZ9 : rel5 n65 p ua66 w := rel_nv hZ (lI_u hL) hbd.1.1 hw69 hc71
            exact w_sub (A1 := [some (.ref 0), some (.ref 1), some (.ref 238), some (.ref 263), some (.int (vz (x4 + 5))), none, none, none]) (And.intro rfl (And.intro rfl (And.intro rfl (And.intro rfl (And.intro rfl trivial))))) (w_end (fun ls hl => Or.inr (Or.inl ⟨rfl, rfl, hl, by omega, ⟨_, _, _, _, _, _, hL102, hZ9⟩⟩)))
      ·
        refine w_swI (t := 153) e0_39 (by omega) h7 (by rw [h9]; rfl) rfl ?_
        refine w_ldA e0_153 (fun _ => rfl) rfl ?_
        refine w_ldA e0_154 (fun _ => rfl) rfl ?_
        refine w_ldI e0_155 (fun _ => rfl) rfl ?_
        refine w_kI e0_157 ?_
        refine w_iadd e0_158 ?_
        refine w_aldO e0_159 (lI_0 hL) (by omega) (by omega) (by omega) (fun q106 h107 hx108 => ?_)
        refine w_ldA e0_160 (fun _ => rfl) rfl ?_
        refine w_ldI e0_161 (fun _ => rfl) rfl ?_
        refine w_kI e0_163 ?_
        refine w_iadd e0_164 ?_
        refine w_aldO e0_165 (lI_0 hL) (by omega) (by omega) (by omega) (fun q109 h110 hx111 => ?_)
        obtain ⟨fs112, e113⟩ := lI_1 hL
        refine w_cv e0_166 (by decide) rfl e113 rfl (Nat.le_of_ble_eq_true rfl) (Nat.le_of_ble_eq_true rfl) (Nat.le_of_ble_eq_true rfl) (by decide) (by decide) (x45 hL h107 h110) (fun o114 v115 hq116 => ?_)
        obtain ⟨ua118, q126, hw121, hc123, hL125, hb124, rfl⟩ := hq116
        refine w_x e0_169 (fun _ => rfl) ?_
        refine w_ldA e0_170 (fun _ => rfl) rfl ?_
        refine w_ldA e0_171 (fun _ => rfl) rfl ?_
        refine w_ldI e0_172 (fun _ => rfl) rfl ?_
        refine w_kI e0_174 ?_
        refine w_iadd e0_175 ?_
        refine w_aldO e0_176 (lI_0 hL125) (by omega) (by omega) (by omega) (fun q127 h128 hx129 => ?_)
        have hqq130 : q106 = q127 := ((vz_inj h128 h107).mp (hx129.symm.trans hx108)).symm
        subst hqq130
        refine w_ldA e0_177 (fun _ => rfl) rfl ?_
        refine w_ldI e0_178 (fun _ => rfl) rfl ?_
        refine w_kI e0_180 ?_
        refine w_iadd e0_181 ?_
        refine w_aldO e0_182 (lI_0 hL125) (by omega) (by omega) (by omega) (fun q131 h132 hx133 => ?_)
        have hqq134 : q109 = q131 := ((vz_inj h132 h110).mp (hx133.symm.trans hx111)).symm
        subst hqq134
        obtain ⟨fs135, e136⟩ := lI_238 hL125
        refine w_cv e0_183 (by decide) rfl e136 rfl (Nat.le_of_ble_eq_true rfl) (Nat.le_of_ble_eq_true rfl) (Nat.le_of_ble_eq_true rfl) (by decide) (by decide) (y106 hL125 h107 h110) (fun o137 v138 hq139 => ?_)
        obtain ⟨t142, ua141, q149, hw144, hL148, hb147, rfl⟩ := hq139
        refine w_x e0_186 (fun _ => rfl) ?_
        refine w_x e0_187 (fun _ => rfl) ?_
        refine w_iinc (A1 := [some (.ref 0), some (.ref 1), some (.ref 238), some (.ref 263), some (.int (vz (x4 + 5))), none, none, none]) e0_770 rfl (by decide) rfl ?_
        refine w_x e0_773 (fun _ => rfl) ?_
        have hnp150 : n = n ∧ p = p := by omega
        have hZ9 : rel5 n p ua118 ua141 := rel_mv hZ (lI_u hL) (lI_u hL125) hbd.1.1 hw121 hc123 hw144
        exact w_sub (A1 := [some (.ref 0), some (.ref 1), some (.ref 238), some (.ref 263), some (.int (vz (x4 + 5))), none, none, none]) (And.intro rfl (And.intro rfl (And.intro rfl (And.intro rfl (And.intro rfl trivial))))) (w_end (fun ls hl => Or.inr (Or.inl ⟨rfl, rfl, hl, by omega, ⟨_, _, _, _, _, _, hL148, hZ9⟩⟩)))
      ·
        refine w_swI (t := 190) e0_39 (by omega) h7 (by rw [h9]; rfl) rfl ?_
        refine w_ldA e0_190 (fun _ => rfl) rfl ?_
        obtain ⟨fs151, e152⟩ := lI_1 hL
        refine w_cv e0_191 (by decide) rfl e152 rfl (Nat.le_of_ble_eq_true rfl) (Nat.le_of_ble_eq_true rfl) (Nat.le_of_ble_eq_true rfl) (by decide) (by decide) (x46 hL) (fun o153 v154 hq155 => ?_)
        obtain ⟨⟨n156, p157, hr159, hL160⟩, q161, h162, rfl⟩ := hq155
        rw [hr159.2] at hL160
        refine w_x e0_194 (fun _ => rfl) ?_
        refine w_ldA e0_195 (fun _ => rfl) rfl ?_
        obtain ⟨fs163, e164⟩ := lI_238 hL160
        refine w_cv e0_196 (by decide) rfl e164 rfl (Nat.le_of_ble_eq_true rfl) (Nat.le_of_ble_eq_true rfl) (Nat.le_of_ble_eq_true rfl) (by decide) (by decide) (y107 hL160) (fun o165 v166 hq167 => ?_)
        obtain ⟨p171, t170, ua169, q177, hp173, hw172, hL176, hb175, rfl⟩ := hq167
        refine w_x e0_199 (fun _ => rfl) ?_
        refine w_x e0_200 (fun _ => rfl) ?_
        refine w_iinc (A1 := [some (.ref 0), some (.ref 1), some (.ref 238), some (.ref 263), some (.int (vz (x4 + 5))), none, none, none]) e0_770 rfl (by decide) rfl ?_
        refine w_x e0_773 (fun _ => rfl) ?_
        have hnp178 : n = n ∧ p171 = p157 := by omega
        rw [hnp178.2] at hL176
        have hZ9 : rel5 n p157 u ua169 := rel_pl hZ hbd.1.2 hr159.1 hw172
        exact w_sub (A1 := [some (.ref 0), some (.ref 1), some (.ref 238), some (.ref 263), some (.int (vz (x4 + 5))), none, none, none]) (And.intro rfl (And.intro rfl (And.intro rfl (And.intro rfl (And.intro rfl trivial))))) (w_end (fun ls hl => Or.inr (Or.inl ⟨rfl, rfl, hl, by omega, ⟨_, _, _, _, _, _, hL176, hZ9⟩⟩)))
      ·
        refine w_swI (t := 203) e0_39 (by omega) h7 (by rw [h9]; rfl) rfl ?_
        refine w_ldA e0_203 (fun _ => rfl) rfl ?_
        refine w_ldA e0_204 (fun _ => rfl) rfl ?_
        refine w_ldI e0_205 (fun _ => rfl) rfl ?_
        refine w_kI e0_207 ?_
        refine w_iadd e0_208 ?_
        refine w_aldO e0_209 (lI_0 hL) (by omega) (by omega) (by omega) (fun q179 h180 hx181 => ?_)
        refine w_ldA e0_210 (fun _ => rfl) rfl ?_
        refine w_ldI e0_211 (fun _ => rfl) rfl ?_
        refine w_kI e0_213 ?_
        refine w_iadd e0_214 ?_
        refine w_aldO e0_215 (lI_0 hL) (by omega) (by omega) (by omega) (fun q182 h183 hx184 => ?_)
        refine w_x e0_216 (fun _ => rfl) ?_
        refine w_kB e0_217 rfl ?_
        refine w_x e0_219 (fun _ => rfl) ?_
        refine w_ldA e0_220 (fun _ => rfl) rfl ?_
        refine w_ldI e0_221 (fun _ => rfl) rfl ?_
        refine w_kI e0_223 ?_
        refine w_iadd e0_224 ?_
        refine w_aldO e0_225 (lI_0 hL) (by omega) (by omega) (by omega) (fun q185 h186 hx187 => ?_)
        refine w_x e0_226 (fun _ => rfl) ?_
        refine w_x e0_227 (fun _ => rfl) ?_
        refine w_x e0_230 (fun _ => rfl) ?_
        refine w_x e0_231 (fun _ => rfl) ?_
        refine w_ldA e0_232 (fun _ => rfl) rfl ?_
        refine w_ldI e0_233 (fun _ => rfl) rfl ?_
        refine w_kI e0_235 ?_
        refine w_iadd e0_236 ?_
        refine w_aldO e0_237 (lI_0 hL) (by omega) (by omega) (by omega) (fun q188 h189 hx190 => ?_)
        obtain ⟨fs191, e192⟩ := lI_1 hL
        refine w_cv e0_238 (by decide) rfl e192 rfl (Nat.le_of_ble_eq_true rfl) (Nat.le_of_ble_eq_true rfl) (Nat.le_of_ble_eq_true rfl) (by decide) (by decide) (x47 hL h180 h189) (fun o193 v194 hq195 => ?_)
        obtain ⟨ua197, q205, hb203, hc202, hL204, rfl⟩ := hq195
        refine w_ldA e0_241 (fun _ => rfl) rfl ?_
        refine w_ldA e0_242 (fun _ => rfl) rfl ?_
        refine w_ldI e0_243 (fun _ => rfl) rfl ?_
        refine w_kI e0_245 ?_
        refine w_iadd e0_246 ?_
        refine w_aldO e0_247 (lI_0 hL204) (by omega) (by omega) (by omega) (fun q206 h207 hx208 => ?_)
        have hqq209 : q179 = q206 := ((vz_inj h207 h180).mp (hx208.symm.trans hx181)).symm
        subst hqq209
        refine w_ldA e0_248 (fun _ => rfl) rfl ?_
        refine w_ldI e0_249 (fun _ => rfl) rfl ?_
        refine w_kI e0_251 ?_
        refine w_iadd e0_252 ?_
        refine w_aldO e0_253 (lI_0 hL204) (by omega) (by omega) (by omega) (fun q210 h211 hx212 => ?_)
        have hqq213 : q182 = q210 := ((vz_inj h211 h183).mp (hx212.symm.trans hx184)).symm
        subst hqq213
        refine w_x e0_254 (fun _ => rfl) ?_
        refine w_kB e0_255 rfl ?_
        refine w_x e0_257 (fun _ => rfl) ?_
        refine w_ldA e0_258 (fun _ => rfl) rfl ?_
        refine w_ldI e0_259 (fun _ => rfl) rfl ?_
        refine w_kI e0_261 ?_
        refine w_iadd e0_262 ?_
        refine w_aldO e0_263 (lI_0 hL204) (by omega) (by omega) (by omega) (fun q214 h215 hx216 => ?_)
        have hqq217 : q185 = q214 := ((vz_inj h215 h186).mp (hx216.symm.trans hx187)).symm
        subst hqq217
        refine w_x e0_264 (fun _ => rfl) ?_
        refine w_x e0_265 (fun _ => rfl) ?_
        refine w_x e0_268 (fun _ => rfl) ?_
        refine w_x e0_269 (fun _ => rfl) ?_
        refine w_ldA e0_270 (fun _ => rfl) rfl ?_
        refine w_ldI e0_271 (fun _ => rfl) rfl ?_
        refine w_kI e0_273 ?_
        refine w_iadd e0_274 ?_
        refine w_aldO e0_275 (lI_0 hL204) (by omega) (by omega) (by omega) (fun q218 h219 hx220 => ?_)
        have hqq221 : q188 = q218 := ((vz_inj h219 h189).mp (hx220.symm.trans hx190)).symm
        subst hqq221
        obtain ⟨fs222, e223⟩ := lI_238 hL204
        refine w_cv e0_276 (by decide) rfl e223 rfl (Nat.le_of_ble_eq_true rfl) (Nat.le_of_ble_eq_true rfl) (Nat.le_of_ble_eq_true rfl) (by decide) (by decide) (y108 hL204 h180 h189) (fun o224 v225 hq226 => ?_)
        obtain ⟨t229, ua228, q236, hw231, hL235, rfl⟩ := hq226
        have hrt := rel_tm hZ (lI_u hL) hbd.1.1 hbd.1.2 hc202 hw231
        have hqe := hrt.1
        refine w_ic e0_279 (by omega) (by omega) (fun (h237 : q205 = q236) => ?_) (fun (h237 : q205 ≠ q236) => ?_)
        ·
          refine w_iinc (A1 := [some (.ref 0), some (.ref 1), some (.ref 238), some (.ref 263), some (.int (vz (x4 + 5))), none, none, none]) e0_770 rfl (by decide) rfl ?_
          refine w_x e0_773 (fun _ => rfl) ?_
          have hnp238 : n = n ∧ p = p := by omega
          have hZ9 : rel5 n p ua197 ua228 := hrt.2
          exact w_sub (A1 := [some (.ref 0), some (.ref 1), some (.ref 238), some (.ref 263), some (.int (vz (x4 + 5))), none, none, none]) (And.intro rfl (And.intro rfl (And.intro rfl (And.intro rfl (And.intro rfl trivial))))) (w_end (fun ls hl => Or.inr (Or.inl ⟨rfl, rfl, hl, by omega, ⟨_, _, _, _, _, _, hL235, hZ9⟩⟩)))
        ·
          refine w_kI e0_282 ?_
          exfalso; omega
      ·
        refine w_swI (t := 284) e0_39 (by omega) h7 (by rw [h9]; rfl) rfl ?_
        refine w_ldA e0_284 (fun _ => rfl) rfl ?_
        refine w_ldA e0_285 (fun _ => rfl) rfl ?_
        refine w_ldI e0_286 (fun _ => rfl) rfl ?_
        refine w_kI e0_288 ?_
        refine w_iadd e0_289 ?_
        refine w_aldO e0_290 (lI_0 hL) (by omega) (by omega) (by omega) (fun q239 h240 hx241 => ?_)
        refine w_ldA e0_291 (fun _ => rfl) rfl ?_
        refine w_ldI e0_292 (fun _ => rfl) rfl ?_
        refine w_kI e0_294 ?_
        refine w_iadd e0_295 ?_
        refine w_aldO e0_296 (lI_0 hL) (by omega) (by omega) (by omega) (fun q242 h243 hx244 => ?_)
        refine w_if e0_297 h243 (fun (h245 : q242 = 0) => ?_) (fun (h245 : q242 ≠ 0) => ?_)
        ·
          refine w_kI e0_304 ?_
          obtain ⟨fs246, e247⟩ := lI_1 hL
          refine w_cv e0_305 (by decide) rfl e247 rfl (Nat.le_of_ble_eq_true rfl) (Nat.le_of_ble_eq_true rfl) (Nat.le_of_ble_eq_true rfl) (by decide) (by decide) (x48 hL h240 (by omega)) (fun o248 v249 hq250 => ?_)
          obtain ⟨⟨n251, p252, hr254, hL255⟩, q256, h257, rfl⟩ := hq250
          rw [hr254.1, hr254.2] at hL255
          refine w_x e0_308 (fun _ => rfl) ?_
          refine w_ldA e0_309 (fun _ => rfl) rfl ?_
          refine w_ldA e0_310 (fun _ => rfl) rfl ?_
          refine w_ldI e0_311 (fun _ => rfl) rfl ?_
          refine w_kI e0_313 ?_
          refine w_iadd e0_314 ?_
          refine w_aldO e0_315 (lI_0 hL255) (by omega) (by omega) (by omega) (fun q258 h259 hx260 => ?_)
          have hqq261 : q239 = q258 := ((vz_inj h259 h240).mp (hx260.symm.trans hx241)).symm
          subst hqq261
          refine w_ldA e0_316 (fun _ => rfl) rfl ?_
          refine w_ldI e0_317 (fun _ => rfl) rfl ?_
          refine w_kI e0_319 ?_
          refine w_iadd e0_320 ?_
          refine w_aldO e0_321 (lI_0 hL255) (by omega) (by omega) (by omega) (fun q262 h263 hx264 => ?_)
          have hqq265 : q242 = q262 := ((vz_inj h263 h243).mp (hx264.symm.trans hx244)).symm
          subst hqq265
          refine w_if e0_322 h243 (fun (h266 : q242 = 0) => ?_) (fun (h266 : q242 ≠ 0) => ?_)
          ·
            refine w_kI e0_329 ?_
            obtain ⟨fs267, e268⟩ := lI_238 hL255
            refine w_cv e0_330 (by decide) rfl e268 rfl (Nat.le_of_ble_eq_true rfl) (Nat.le_of_ble_eq_true rfl) (Nat.le_of_ble_eq_true rfl) (by decide) (by decide) (y109 hL255 h240 (by omega)) (fun o269 v270 hq271 => ?_)
            obtain ⟨⟨n272, p273, t274, hr275, hL276⟩, q277, h278, rfl⟩ := hq271
            rw [hr275.1, hr275.2] at hL276
            refine w_x e0_333 (fun _ => rfl) ?_
            refine w_x e0_334 (fun _ => rfl) ?_
            refine w_iinc (A1 := [some (.ref 0), some (.ref 1), some (.ref 238), some (.ref 263), some (.int (vz (x4 + 5))), none, none, none]) e0_770 rfl (by decide) rfl ?_
            refine w_x e0_773 (fun _ => rfl) ?_
            have hnp279 : n = n ∧ p = p := by omega
            have hZ9 : rel5 n p u w := hZ
            exact w_sub (A1 := [some (.ref 0), some (.ref 1), some (.ref 238), some (.ref 263), some (.int (vz (x4 + 5))), none, none, none]) (And.intro rfl (And.intro rfl (And.intro rfl (And.intro rfl (And.intro rfl trivial))))) (w_end (fun ls hl => Or.inr (Or.inl ⟨rfl, rfl, hl, by omega, ⟨_, _, _, _, _, _, hL276, hZ9⟩⟩)))
          ·
            refine w_kI e0_325 ?_
            refine w_x e0_326 (fun _ => rfl) ?_
            obtain ⟨fs280, e281⟩ := lI_238 hL255
            refine w_cv e0_330 (by decide) rfl e281 rfl (Nat.le_of_ble_eq_true rfl) (Nat.le_of_ble_eq_true rfl) (Nat.le_of_ble_eq_true rfl) (by decide) (by decide) (y109 hL255 h240 (by omega)) (fun o282 v283 hq284 => ?_)
            obtain ⟨⟨n285, p286, t287, hr288, hL289⟩, q290, h291, rfl⟩ := hq284
            rw [hr288.1, hr288.2] at hL289
            refine w_x e0_333 (fun _ => rfl) ?_
            refine w_x e0_334 (fun _ => rfl) ?_
            refine w_iinc (A1 := [some (.ref 0), some (.ref 1), some (.ref 238), some (.ref 263), some (.int (vz (x4 + 5))), none, none, none]) e0_770 rfl (by decide) rfl ?_
            refine w_x e0_773 (fun _ => rfl) ?_
            have hnp292 : n = n ∧ p = p := by omega
            have hZ9 : rel5 n p u w := hZ
            exact w_sub (A1 := [some (.ref 0), some (.ref 1), some (.ref 238), some (.ref 263), some (.int (vz (x4 + 5))), none, none, none]) (And.intro rfl (And.intro rfl (And.intro rfl (And.intro rfl (And.intro rfl trivial))))) (w_end (fun ls hl => Or.inr (Or.inl ⟨rfl, rfl, hl, by omega, ⟨_, _, _, _, _, _, hL289, hZ9⟩⟩)))
        ·
          refine w_kI e0_300 ?_
          refine w_x e0_301 (fun _ => rfl) ?_
          obtain ⟨fs293, e294⟩ := lI_1 hL
          refine w_cv e0_305 (by decide) rfl e294 rfl (Nat.le_of_ble_eq_true rfl) (Nat.le_of_ble_eq_true rfl) (Nat.le_of_ble_eq_true rfl) (by decide) (by decide) (x48 hL h240 (by omega)) (fun o295 v296 hq297 => ?_)
          obtain ⟨⟨n298, p299, hr301, hL302⟩, q303, h304, rfl⟩ := hq297
          rw [hr301.1, hr301.2] at hL302
          refine w_x e0_308 (fun _ => rfl) ?_
          refine w_ldA e0_309 (fun _ => rfl) rfl ?_
          refine w_ldA e0_310 (fun _ => rfl) rfl ?_
          refine w_ldI e0_311 (fun _ => rfl) rfl ?_
          refine w_kI e0_313 ?_
          refine w_iadd e0_314 ?_
          refine w_aldO e0_315 (lI_0 hL302) (by omega) (by omega) (by omega) (fun q305 h306 hx307 => ?_)
          have hqq308 : q239 = q305 := ((vz_inj h306 h240).mp (hx307.symm.trans hx241)).symm
          subst hqq308
          refine w_ldA e0_316 (fun _ => rfl) rfl ?_
          refine w_ldI e0_317 (fun _ => rfl) rfl ?_
          refine w_kI e0_319 ?_
          refine w_iadd e0_320 ?_
          refine w_aldO e0_321 (lI_0 hL302) (by omega) (by omega) (by omega) (fun q309 h310 hx311 => ?_)
          have hqq312 : q242 = q309 := ((vz_inj h310 h243).mp (hx311.symm.trans hx244)).symm
          subst hqq312
          refine w_if e0_322 h243 (fun (h313 : q242 = 0) => ?_) (fun (h313 : q242 ≠ 0) => ?_)
          ·
            refine w_kI e0_329 ?_
            obtain ⟨fs314, e315⟩ := lI_238 hL302
            refine w_cv e0_330 (by decide) rfl e315 rfl (Nat.le_of_ble_eq_true rfl) (Nat.le_of_ble_eq_true rfl) (Nat.le_of_ble_eq_true rfl) (by decide) (by decide) (y109 hL302 h240 (by omega)) (fun o316 v317 hq318 => ?_)
            obtain ⟨⟨n319, p320, t321, hr322, hL323⟩, q324, h325, rfl⟩ := hq318
            rw [hr322.1, hr322.2] at hL323
            refine w_x e0_333 (fun _ => rfl) ?_
            refine w_x e0_334 (fun _ => rfl) ?_
            refine w_iinc (A1 := [some (.ref 0), some (.ref 1), some (.ref 238), some (.ref 263), some (.int (vz (x4 + 5))), none, none, none]) e0_770 rfl (by decide) rfl ?_
            refine w_x e0_773 (fun _ => rfl) ?_
            have hnp326 : n = n ∧ p = p := by omega
            have hZ9 : rel5 n p u w := hZ
            exact w_sub (A1 := [some (.ref 0), some (.ref 1), some (.ref 238), some (.ref 263), some (.int (vz (x4 + 5))), none, none, none]) (And.intro rfl (And.intro rfl (And.intro rfl (And.intro rfl (And.intro rfl trivial))))) (w_end (fun ls hl => Or.inr (Or.inl ⟨rfl, rfl, hl, by omega, ⟨_, _, _, _, _, _, hL323, hZ9⟩⟩)))
          ·
            refine w_kI e0_325 ?_
            refine w_x e0_326 (fun _ => rfl) ?_
            obtain ⟨fs327, e328⟩ := lI_238 hL302
            refine w_cv e0_330 (by decide) rfl e328 rfl (Nat.le_of_ble_eq_true rfl) (Nat.le_of_ble_eq_true rfl) (Nat.le_of_ble_eq_true rfl) (by decide) (by decide) (y109 hL302 h240 (by omega)) (fun o329 v330 hq331 => ?_)
            obtain ⟨⟨n332, p333, t334, hr335, hL336⟩, q337, h338, rfl⟩ := hq331
            rw [hr335.1, hr335.2] at hL336
            refine w_x e0_333 (fun _ => rfl) ?_
            refine w_x e0_334 (fun _ => rfl) ?_
            refine w_iinc (A1 := [some (.ref 0), some (.ref 1), some (.ref 238), some (.ref 263), some (.int (vz (x4 + 5))), none, none, none]) e0_770 rfl (by decide) rfl ?_
            refine w_x e0_773 (fun _ => rfl) ?_
            have hnp339 : n = n ∧ p = p := by omega
            have hZ9 : rel5 n p u w := hZ
            exact w_sub (A1 := [some (.ref 0), some (.ref 1), some (.ref 238), some (.ref 263), some (.int (vz (x4 + 5))), none, none, none]) (And.intro rfl (And.intro rfl (And.intro rfl (And.intro rfl (And.intro rfl trivial))))) (w_end (fun ls hl => Or.inr (Or.inl ⟨rfl, rfl, hl, by omega, ⟨_, _, _, _, _, _, hL336, hZ9⟩⟩)))
      ·
        refine w_swI (t := 337) e0_39 (by omega) h7 (by rw [h9]; rfl) rfl ?_
        refine w_ldA e0_337 (fun _ => rfl) rfl ?_
        obtain ⟨fs340, e341⟩ := lI_1 hL
        refine w_cv e0_338 (by decide) rfl e341 rfl (Nat.le_of_ble_eq_true rfl) (Nat.le_of_ble_eq_true rfl) (Nat.le_of_ble_eq_true rfl) (by decide) (by decide) (x49 hL) (fun o342 v343 hq344 => ?_)
        obtain ⟨⟨n345, p346, hr348, hL349⟩, q350, h351, rfl⟩ := hq344
        rw [hr348.1, hr348.2] at hL349
        refine w_x e0_341 (fun _ => rfl) ?_
        refine w_ldA e0_342 (fun _ => rfl) rfl ?_
        obtain ⟨fs352, e353⟩ := lI_238 hL349
        refine w_cv e0_343 (by decide) rfl e353 rfl (Nat.le_of_ble_eq_true rfl) (Nat.le_of_ble_eq_true rfl) (Nat.le_of_ble_eq_true rfl) (by decide) (by decide) (y102 hL349) (fun o354 v355 hq356 => ?_)
        obtain ⟨⟨n357, p358, t359, hr360, hL361⟩, q362, h363, rfl⟩ := hq356
        rw [hr360.1, hr360.2] at hL361
        refine w_x e0_346 (fun _ => rfl) ?_
        refine w_x e0_347 (fun _ => rfl) ?_
        refine w_iinc (A1 := [some (.ref 0), some (.ref 1), some (.ref 238), some (.ref 263), some (.int (vz (x4 + 5))), none, none, none]) e0_770 rfl (by decide) rfl ?_
        refine w_x e0_773 (fun _ => rfl) ?_
        have hnp364 : n = n ∧ p = p := by omega
        have hZ9 : rel5 n p u w := hZ
        exact w_sub (A1 := [some (.ref 0), some (.ref 1), some (.ref 238), some (.ref 263), some (.int (vz (x4 + 5))), none, none, none]) (And.intro rfl (And.intro rfl (And.intro rfl (And.intro rfl (And.intro rfl trivial))))) (w_end (fun ls hl => Or.inr (Or.inl ⟨rfl, rfl, hl, by omega, ⟨_, _, _, _, _, _, hL361, hZ9⟩⟩)))
      ·
        refine w_swI (t := 350) e0_39 (by omega) h7 (by rw [h9]; rfl) rfl ?_
        refine w_ldA e0_350 (fun _ => rfl) rfl ?_
        refine w_ldA e0_351 (fun _ => rfl) rfl ?_
        refine w_ldI e0_352 (fun _ => rfl) rfl ?_
        refine w_kI e0_354 ?_
        refine w_iadd e0_355 ?_
        refine w_aldO e0_356 (lI_0 hL) (by omega) (by omega) (by omega) (fun q365 h366 hx367 => ?_)
        obtain ⟨fs368, e369⟩ := lI_1 hL
        refine w_cv e0_357 (by decide) rfl e369 rfl (Nat.le_of_ble_eq_true rfl) (Nat.le_of_ble_eq_true rfl) (Nat.le_of_ble_eq_true rfl) (by decide) (by decide) (x50 hL h366) (fun o370 v371 hq372 => ?_)
        obtain ⟨⟨n373, p374, hr376, hL377⟩, q378, h379, rfl⟩ := hq372
        rw [hr376.1, hr376.2] at hL377
        refine w_x e0_360 (fun _ => rfl) ?_
        refine w_ldA e0_361 (fun _ => rfl) rfl ?_
        refine w_ldA e0_362 (fun _ => rfl) rfl ?_
        refine w_ldI e0_363 (fun _ => rfl) rfl ?_
        refine w_kI e0_365 ?_
        refine w_iadd e0_366 ?_
        refine w_aldO e0_367 (lI_0 hL377) (by omega) (by omega) (by omega) (fun q380 h381 hx382 => ?_)
        have hqq383 : q365 = q380 := ((vz_inj h381 h366).mp (hx382.symm.trans hx367)).symm
        subst hqq383
        obtain ⟨fs384, e385⟩ := lI_238 hL377
        refine w_cv e0_368 (by decide) rfl e385 rfl (Nat.le_of_ble_eq_true rfl) (Nat.le_of_ble_eq_true rfl) (Nat.le_of_ble_eq_true rfl) (by decide) (by decide) (y104 hL377 h366) (fun o386 v387 hq388 => ?_)
        obtain ⟨⟨n389, p390, t391, hr392, hL393⟩, q394, h395, rfl⟩ := hq388
        rw [hr392.1, hr392.2] at hL393
        refine w_x e0_371 (fun _ => rfl) ?_
        refine w_x e0_372 (fun _ => rfl) ?_
        refine w_iinc (A1 := [some (.ref 0), some (.ref 1), some (.ref 238), some (.ref 263), some (.int (vz (x4 + 5))), none, none, none]) e0_770 rfl (by decide) rfl ?_
        refine w_x e0_773 (fun _ => rfl) ?_
        have hnp396 : n = n ∧ p = p := by omega
        have hZ9 : rel5 n p u w := hZ
        exact w_sub (A1 := [some (.ref 0), some (.ref 1), some (.ref 238), some (.ref 263), some (.int (vz (x4 + 5))), none, none, none]) (And.intro rfl (And.intro rfl (And.intro rfl (And.intro rfl (And.intro rfl trivial))))) (w_end (fun ls hl => Or.inr (Or.inl ⟨rfl, rfl, hl, by omega, ⟨_, _, _, _, _, _, hL393, hZ9⟩⟩)))
      ·
        refine w_swI (t := 375) e0_39 (by omega) h7 (by rw [h9]; rfl) rfl ?_
        refine w_ldA e0_375 (fun _ => rfl) rfl ?_
        refine w_ldA e0_376 (fun _ => rfl) rfl ?_
        refine w_ldI e0_377 (fun _ => rfl) rfl ?_
        refine w_kI e0_379 ?_
        refine w_iadd e0_380 ?_
        refine w_aldO e0_381 (lI_0 hL) (by omega) (by omega) (by omega) (fun q397 h398 hx399 => ?_)
        refine w_ldA e0_382 (fun _ => rfl) rfl ?_
        refine w_ldI e0_383 (fun _ => rfl) rfl ?_
        refine w_kI e0_385 ?_
        refine w_iadd e0_386 ?_
        refine w_aldO e0_387 (lI_0 hL) (by omega) (by omega) (by omega) (fun q400 h401 hx402 => ?_)
        obtain ⟨fs403, e404⟩ := lI_1 hL
        refine w_cv e0_388 (by decide) rfl e404 rfl (Nat.le_of_ble_eq_true rfl) (Nat.le_of_ble_eq_true rfl) (Nat.le_of_ble_eq_true rfl) (by decide) (by decide) (x51 hL h398 h401) (fun o405 v406 hq407 => ?_)
        obtain ⟨⟨n408, p409, hr411, hL412⟩, q413, h414, rfl⟩ := hq407
        rw [hr411.1, hr411.2] at hL412
        refine w_x e0_391 (fun _ => rfl) ?_
        refine w_ldA e0_392 (fun _ => rfl) rfl ?_
        refine w_ldA e0_393 (fun _ => rfl) rfl ?_
        refine w_ldI e0_394 (fun _ => rfl) rfl ?_
        refine w_kI e0_396 ?_
        refine w_iadd e0_397 ?_
        refine w_aldO e0_398 (lI_0 hL412) (by omega) (by omega) (by omega) (fun q415 h416 hx417 => ?_)
        have hqq418 : q397 = q415 := ((vz_inj h416 h398).mp (hx417.symm.trans hx399)).symm
        subst hqq418
        refine w_ldA e0_399 (fun _ => rfl) rfl ?_
        refine w_ldI e0_400 (fun _ => rfl) rfl ?_
        refine w_kI e0_402 ?_
        refine w_iadd e0_403 ?_
        refine w_aldO e0_404 (lI_0 hL412) (by omega) (by omega) (by omega) (fun q419 h420 hx421 => ?_)
        have hqq422 : q400 = q419 := ((vz_inj h420 h401).mp (hx421.symm.trans hx402)).symm
        subst hqq422
        obtain ⟨fs423, e424⟩ := lI_238 hL412
        refine w_cv e0_405 (by decide) rfl e424 rfl (Nat.le_of_ble_eq_true rfl) (Nat.le_of_ble_eq_true rfl) (Nat.le_of_ble_eq_true rfl) (by decide) (by decide) (y112 hL412 h398 h401) (fun o425 v426 hq427 => ?_)
        obtain ⟨⟨n428, p429, t430, hr431, hL432⟩, q433, h434, rfl⟩ := hq427
        rw [hr431.1, hr431.2] at hL432
        refine w_x e0_408 (fun _ => rfl) ?_
        refine w_x e0_409 (fun _ => rfl) ?_
        refine w_iinc (A1 := [some (.ref 0), some (.ref 1), some (.ref 238), some (.ref 263), some (.int (vz (x4 + 5))), none, none, none]) e0_770 rfl (by decide) rfl ?_
        refine w_x e0_773 (fun _ => rfl) ?_
        have hnp435 : n = n ∧ p = p := by omega
        have hZ9 : rel5 n p u w := hZ
        exact w_sub (A1 := [some (.ref 0), some (.ref 1), some (.ref 238), some (.ref 263), some (.int (vz (x4 + 5))), none, none, none]) (And.intro rfl (And.intro rfl (And.intro rfl (And.intro rfl (And.intro rfl trivial))))) (w_end (fun ls hl => Or.inr (Or.inl ⟨rfl, rfl, hl, by omega, ⟨_, _, _, _, _, _, hL432, hZ9⟩⟩)))
      ·
        refine w_swI (t := 412) e0_39 (by omega) h7 (by rw [h9]; rfl) rfl ?_
        refine w_ldA e0_412 (fun _ => rfl) rfl ?_
        refine w_ldA e0_413 (fun _ => rfl) rfl ?_
        refine w_ldI e0_414 (fun _ => rfl) rfl ?_
        refine w_kI e0_416 ?_
        refine w_iadd e0_417 ?_
        refine w_aldO e0_418 (lI_0 hL) (by omega) (by omega) (by omega) (fun q436 h437 hx438 => ?_)
        obtain ⟨fs439, e440⟩ := lI_1 hL
        refine w_cv e0_419 (by decide) rfl e440 rfl (Nat.le_of_ble_eq_true rfl) (Nat.le_of_ble_eq_true rfl) (Nat.le_of_ble_eq_true rfl) (by decide) (by decide) (x52 hL h437) (fun o441 v442 hq443 => ?_)
        obtain ⟨⟨n444, p445, hr447, hL448⟩, q449, h450, rfl⟩ := hq443
        rw [hr447.1, hr447.2] at hL448
        refine w_x e0_422 (fun _ => rfl) ?_
        refine w_ldA e0_423 (fun _ => rfl) rfl ?_
        refine w_ldA e0_424 (fun _ => rfl) rfl ?_
        refine w_ldI e0_425 (fun _ => rfl) rfl ?_
        refine w_kI e0_427 ?_
        refine w_iadd e0_428 ?_
        refine w_aldO e0_429 (lI_0 hL448) (by omega) (by omega) (by omega) (fun q451 h452 hx453 => ?_)
        have hqq454 : q436 = q451 := ((vz_inj h452 h437).mp (hx453.symm.trans hx438)).symm
        subst hqq454
        obtain ⟨fs455, e456⟩ := lI_238 hL448
        refine w_cv e0_430 (by decide) rfl e456 rfl (Nat.le_of_ble_eq_true rfl) (Nat.le_of_ble_eq_true rfl) (Nat.le_of_ble_eq_true rfl) (by decide) (by decide) (y113 hL448 h437) (fun o457 v458 hq459 => ?_)
        obtain ⟨⟨n460, p461, t462, hr463, hL464⟩, q465, h466, rfl⟩ := hq459
        rw [hr463.1, hr463.2] at hL464
        refine w_x e0_433 (fun _ => rfl) ?_
        refine w_x e0_434 (fun _ => rfl) ?_
        refine w_iinc (A1 := [some (.ref 0), some (.ref 1), some (.ref 238), some (.ref 263), some (.int (vz (x4 + 5))), none, none, none]) e0_770 rfl (by decide) rfl ?_
        refine w_x e0_773 (fun _ => rfl) ?_
        have hnp467 : n = n ∧ p = p := by omega
        have hZ9 : rel5 n p u w := hZ
        exact w_sub (A1 := [some (.ref 0), some (.ref 1), some (.ref 238), some (.ref 263), some (.int (vz (x4 + 5))), none, none, none]) (And.intro rfl (And.intro rfl (And.intro rfl (And.intro rfl (And.intro rfl trivial))))) (w_end (fun ls hl => Or.inr (Or.inl ⟨rfl, rfl, hl, by omega, ⟨_, _, _, _, _, _, hL464, hZ9⟩⟩)))
      ·
        refine w_swI (t := 437) e0_39 (by omega) h7 (by rw [h9]; rfl) rfl ?_
        refine w_ldA e0_437 (fun _ => rfl) rfl ?_
        refine w_ldA e0_438 (fun _ => rfl) rfl ?_
        refine w_ldI e0_439 (fun _ => rfl) rfl ?_
        refine w_kI e0_441 ?_
        refine w_iadd e0_442 ?_
        refine w_aldO e0_443 (lI_0 hL) (by omega) (by omega) (by omega) (fun q468 h469 hx470 => ?_)
        refine w_ldA e0_444 (fun _ => rfl) rfl ?_
        refine w_ldI e0_445 (fun _ => rfl) rfl ?_
        refine w_kI e0_447 ?_
        refine w_iadd e0_448 ?_
        refine w_aldO e0_449 (lI_0 hL) (by omega) (by omega) (by omega) (fun q471 h472 hx473 => ?_)
        refine w_ldA e0_450 (fun _ => rfl) rfl ?_
        refine w_ldI e0_451 (fun _ => rfl) rfl ?_
        refine w_kI e0_453 ?_
        refine w_iadd e0_454 ?_
        refine w_aldO e0_455 (lI_0 hL) (by omega) (by omega) (by omega) (fun q474 h475 hx476 => ?_)
        obtain ⟨fs477, e478⟩ := lI_1 hL
        refine w_cv e0_456 (by decide) rfl e478 rfl (Nat.le_of_ble_eq_true rfl) (Nat.le_of_ble_eq_true rfl) (Nat.le_of_ble_eq_true rfl) (by decide) (by decide) (x53 hL h469 h472 h475) (fun o479 v480 hq481 => ?_)
        obtain ⟨⟨n482, p483, hr485, hL486⟩, q487, rfl⟩ := hq481
        rw [hr485.1, hr485.2] at hL486
        refine w_x e0_459 (fun _ => rfl) ?_
        refine w_ldA e0_460 (fun _ => rfl) rfl ?_
        refine w_ldA e0_461 (fun _ => rfl) rfl ?_
        refine w_ldI e0_462 (fun _ => rfl) rfl ?_
        refine w_kI e0_464 ?_
        refine w_iadd e0_465 ?_
        refine w_aldO e0_466 (lI_0 hL486) (by omega) (by omega) (by omega) (fun q489 h490 hx491 => ?_)
        have hqq492 : q468 = q489 := ((vz_inj h490 h469).mp (hx491.symm.trans hx470)).symm
        subst hqq492
        refine w_ldA e0_467 (fun _ => rfl) rfl ?_
        refine w_ldI e0_468 (fun _ => rfl) rfl ?_
        refine w_kI e0_470 ?_
        refine w_iadd e0_471 ?_
        refine w_aldO e0_472 (lI_0 hL486) (by omega) (by omega) (by omega) (fun q493 h494 hx495 => ?_)
        have hqq496 : q471 = q493 := ((vz_inj h494 h472).mp (hx495.symm.trans hx473)).symm
        subst hqq496
        refine w_ldA e0_473 (fun _ => rfl) rfl ?_
        refine w_ldI e0_474 (fun _ => rfl) rfl ?_
        refine w_kI e0_476 ?_
        refine w_iadd e0_477 ?_
        refine w_aldO e0_478 (lI_0 hL486) (by omega) (by omega) (by omega) (fun q497 h498 hx499 => ?_)
        have hqq500 : q474 = q497 := ((vz_inj h498 h475).mp (hx499.symm.trans hx476)).symm
        subst hqq500
        obtain ⟨fs501, e502⟩ := lI_238 hL486
        refine w_cv e0_479 (by decide) rfl e502 rfl (Nat.le_of_ble_eq_true rfl) (Nat.le_of_ble_eq_true rfl) (Nat.le_of_ble_eq_true rfl) (by decide) (by decide) (y115 hL486 h469 h472 h475) (fun o503 v504 hq505 => ?_)
        obtain ⟨⟨n506, p507, t508, hr509, hL510⟩, q511, rfl⟩ := hq505
        rw [hr509.1, hr509.2] at hL510
        refine w_x e0_482 (fun _ => rfl) ?_
        refine w_x e0_483 (fun _ => rfl) ?_
        refine w_iinc (A1 := [some (.ref 0), some (.ref 1), some (.ref 238), some (.ref 263), some (.int (vz (x4 + 5))), none, none, none]) e0_770 rfl (by decide) rfl ?_
        refine w_x e0_773 (fun _ => rfl) ?_
        have hnp513 : n = n ∧ p = p := by omega
        have hZ9 : rel5 n p u w := hZ
        exact w_sub (A1 := [some (.ref 0), some (.ref 1), some (.ref 238), some (.ref 263), some (.int (vz (x4 + 5))), none, none, none]) (And.intro rfl (And.intro rfl (And.intro rfl (And.intro rfl (And.intro rfl trivial))))) (w_end (fun ls hl => Or.inr (Or.inl ⟨rfl, rfl, hl, by omega, ⟨_, _, _, _, _, _, hL510, hZ9⟩⟩)))
      ·
        refine w_swI (t := 486) e0_39 (by omega) h7 (by rw [h9]; rfl) rfl ?_
        refine w_ldA e0_486 (fun _ => rfl) rfl ?_
        refine w_ldA e0_487 (fun _ => rfl) rfl ?_
        refine w_ldI e0_488 (fun _ => rfl) rfl ?_
        refine w_kI e0_490 ?_
        refine w_iadd e0_491 ?_
        refine w_aldO e0_492 (lI_0 hL) (by omega) (by omega) (by omega) (fun q514 h515 hx516 => ?_)
        refine w_ldA e0_493 (fun _ => rfl) rfl ?_
        refine w_ldI e0_494 (fun _ => rfl) rfl ?_
        refine w_kI e0_496 ?_
        refine w_iadd e0_497 ?_
        refine w_aldO e0_498 (lI_0 hL) (by omega) (by omega) (by omega) (fun q517 h518 hx519 => ?_)
        refine w_ldA e0_499 (fun _ => rfl) rfl ?_
        refine w_ldI e0_500 (fun _ => rfl) rfl ?_
        refine w_kI e0_502 ?_
        refine w_iadd e0_503 ?_
        refine w_aldO e0_504 (lI_0 hL) (by omega) (by omega) (by omega) (fun q520 h521 hx522 => ?_)
        obtain ⟨fs523, e524⟩ := lI_1 hL
        refine w_cv e0_505 (by decide) rfl e524 rfl (Nat.le_of_ble_eq_true rfl) (Nat.le_of_ble_eq_true rfl) (Nat.le_of_ble_eq_true rfl) (by decide) (by decide) (x54 hL h515 h518 h521) (fun o525 v526 hq527 => ?_)
        obtain ⟨⟨n528, p529, hr531, hL532⟩, q533, h534, rfl⟩ := hq527
        rw [hr531.1, hr531.2] at hL532
        refine w_x e0_508 (fun _ => rfl) ?_
        refine w_ldA e0_509 (fun _ => rfl) rfl ?_
        refine w_ldA e0_510 (fun _ => rfl) rfl ?_
        refine w_ldI e0_511 (fun _ => rfl) rfl ?_
        refine w_kI e0_513 ?_
        refine w_iadd e0_514 ?_
        refine w_aldO e0_515 (lI_0 hL532) (by omega) (by omega) (by omega) (fun q535 h536 hx537 => ?_)
        have hqq538 : q514 = q535 := ((vz_inj h536 h515).mp (hx537.symm.trans hx516)).symm
        subst hqq538
        refine w_ldA e0_516 (fun _ => rfl) rfl ?_
        refine w_ldI e0_517 (fun _ => rfl) rfl ?_
        refine w_kI e0_519 ?_
        refine w_iadd e0_520 ?_
        refine w_aldO e0_521 (lI_0 hL532) (by omega) (by omega) (by omega) (fun q539 h540 hx541 => ?_)
        have hqq542 : q517 = q539 := ((vz_inj h540 h518).mp (hx541.symm.trans hx519)).symm
        subst hqq542
        refine w_ldA e0_522 (fun _ => rfl) rfl ?_
        refine w_ldI e0_523 (fun _ => rfl) rfl ?_
        refine w_kI e0_525 ?_
        refine w_iadd e0_526 ?_
        refine w_aldO e0_527 (lI_0 hL532) (by omega) (by omega) (by omega) (fun q543 h544 hx545 => ?_)
        have hqq546 : q520 = q543 := ((vz_inj h544 h521).mp (hx545.symm.trans hx522)).symm
        subst hqq546
        obtain ⟨fs547, e548⟩ := lI_238 hL532
        refine w_cv e0_528 (by decide) rfl e548 rfl (Nat.le_of_ble_eq_true rfl) (Nat.le_of_ble_eq_true rfl) (Nat.le_of_ble_eq_true rfl) (by decide) (by decide) (y116 hL532 h515 h518 h521) (fun o549 v550 hq551 => ?_)
        obtain ⟨⟨n552, p553, t554, hr555, hL556⟩, q557, h558, rfl⟩ := hq551
        rw [hr555.1, hr555.2] at hL556
        refine w_x e0_531 (fun _ => rfl) ?_
        refine w_x e0_532 (fun _ => rfl) ?_
        refine w_iinc (A1 := [some (.ref 0), some (.ref 1), some (.ref 238), some (.ref 263), some (.int (vz (x4 + 5))), none, none, none]) e0_770 rfl (by decide) rfl ?_
        refine w_x e0_773 (fun _ => rfl) ?_
        have hnp559 : n = n ∧ p = p := by omega
        have hZ9 : rel5 n p u w := hZ
        exact w_sub (A1 := [some (.ref 0), some (.ref 1), some (.ref 238), some (.ref 263), some (.int (vz (x4 + 5))), none, none, none]) (And.intro rfl (And.intro rfl (And.intro rfl (And.intro rfl (And.intro rfl trivial))))) (w_end (fun ls hl => Or.inr (Or.inl ⟨rfl, rfl, hl, by omega, ⟨_, _, _, _, _, _, hL556, hZ9⟩⟩)))
      ·
        refine w_swI (t := 535) e0_39 (by omega) h7 (by rw [h9]; rfl) rfl ?_
        refine w_ldA e0_535 (fun _ => rfl) rfl ?_
        refine w_ldA e0_536 (fun _ => rfl) rfl ?_
        refine w_ldI e0_537 (fun _ => rfl) rfl ?_
        refine w_kI e0_539 ?_
        refine w_iadd e0_540 ?_
        refine w_aldO e0_541 (lI_0 hL) (by omega) (by omega) (by omega) (fun q560 h561 hx562 => ?_)
        refine w_ldA e0_542 (fun _ => rfl) rfl ?_
        refine w_ldI e0_543 (fun _ => rfl) rfl ?_
        refine w_kI e0_545 ?_
        refine w_iadd e0_546 ?_
        refine w_aldO e0_547 (lI_0 hL) (by omega) (by omega) (by omega) (fun q563 h564 hx565 => ?_)
        refine w_oL e0_548 (fun _ => rfl) (fun l566 => ?_)
        refine w_kB e0_549 rfl ?_
        refine w_oL e0_551 (fun _ => rfl) (fun l567 => ?_)
        refine w_ldA e0_552 (fun _ => rfl) rfl ?_
        refine w_ldI e0_553 (fun _ => rfl) rfl ?_
        refine w_kI e0_555 ?_
        refine w_iadd e0_556 ?_
        refine w_aldO e0_557 (lI_0 hL) (by omega) (by omega) (by omega) (fun q568 h569 hx570 => ?_)
        refine w_oL e0_558 (fun _ => rfl) (fun l571 => ?_)
        refine w_oL e0_559 (fun _ => rfl) (fun l572 => ?_)
        refine w_oL e0_562 (fun _ => rfl) (fun l573 => ?_)
        refine w_oL e0_563 (fun _ => rfl) (fun l574 => ?_)
        obtain ⟨fs575, e576⟩ := lI_1 hL
        refine w_cv e0_564 (by decide) rfl e576 rfl (Nat.le_of_ble_eq_true rfl) (Nat.le_of_ble_eq_true rfl) (Nat.le_of_ble_eq_true rfl) (by decide) (by decide) (x55 hL h561) (fun o577 v578 hq579 => ?_)
        obtain ⟨⟨n580, p581, hr583, hL584⟩, q585, h586, rfl⟩ := hq579
        rw [hr583.1, hr583.2] at hL584
        refine w_x e0_567 (fun _ => rfl) ?_
        refine w_ldA e0_568 (fun _ => rfl) rfl ?_
        refine w_ldA e0_569 (fun _ => rfl) rfl ?_
        refine w_ldI e0_570 (fun _ => rfl) rfl ?_
        refine w_kI e0_572 ?_
        refine w_iadd e0_573 ?_
        refine w_aldO e0_574 (lI_0 hL584) (by omega) (by omega) (by omega) (fun q587 h588 hx589 => ?_)
        have hqq590 : q560 = q587 := ((vz_inj h588 h561).mp (hx589.symm.trans hx562)).symm
        subst hqq590
        refine w_ldA e0_575 (fun _ => rfl) rfl ?_
        refine w_ldI e0_576 (fun _ => rfl) rfl ?_
        refine w_kI e0_578 ?_
        refine w_iadd e0_579 ?_
        refine w_aldO e0_580 (lI_0 hL584) (by omega) (by omega) (by omega) (fun q591 h592 hx593 => ?_)
        have hqq594 : q563 = q591 := ((vz_inj h592 h564).mp (hx593.symm.trans hx565)).symm
        subst hqq594
        refine w_oL e0_581 (fun _ => rfl) (fun l595 => ?_)
        refine w_kB e0_582 rfl ?_
        refine w_oL e0_584 (fun _ => rfl) (fun l596 => ?_)
        refine w_ldA e0_585 (fun _ => rfl) rfl ?_
        refine w_ldI e0_586 (fun _ => rfl) rfl ?_
        refine w_kI e0_588 ?_
        refine w_iadd e0_589 ?_
        refine w_aldO e0_590 (lI_0 hL584) (by omega) (by omega) (by omega) (fun q597 h598 hx599 => ?_)
        have hqq600 : q568 = q597 := ((vz_inj h598 h569).mp (hx599.symm.trans hx570)).symm
        subst hqq600
        refine w_oL e0_591 (fun _ => rfl) (fun l601 => ?_)
        refine w_oL e0_592 (fun _ => rfl) (fun l602 => ?_)
        refine w_oL e0_595 (fun _ => rfl) (fun l603 => ?_)
        refine w_oL e0_596 (fun _ => rfl) (fun l604 => ?_)
        obtain ⟨fs605, e606⟩ := lI_238 hL584
        refine w_cv e0_597 (by decide) rfl e606 rfl (Nat.le_of_ble_eq_true rfl) (Nat.le_of_ble_eq_true rfl) (Nat.le_of_ble_eq_true rfl) (by decide) (by decide) (y117 hL584 h561) (fun o607 v608 hq609 => ?_)
        obtain ⟨⟨n610, p611, t612, hr613, hL614⟩, q615, h616, rfl⟩ := hq609
        rw [hr613.1, hr613.2] at hL614
        refine w_x e0_600 (fun _ => rfl) ?_
        refine w_x e0_601 (fun _ => rfl) ?_
        refine w_iinc (A1 := [some (.ref 0), some (.ref 1), some (.ref 238), some (.ref 263), some (.int (vz (x4 + 5))), none, none, none]) e0_770 rfl (by decide) rfl ?_
        refine w_x e0_773 (fun _ => rfl) ?_
        have hnp617 : n = n ∧ p = p := by omega
        have hZ9 : rel5 n p u w := hZ
        exact w_sub (A1 := [some (.ref 0), some (.ref 1), some (.ref 238), some (.ref 263), some (.int (vz (x4 + 5))), none, none, none]) (And.intro rfl (And.intro rfl (And.intro rfl (And.intro rfl (And.intro rfl trivial))))) (w_end (fun ls hl => Or.inr (Or.inl ⟨rfl, rfl, hl, by omega, ⟨_, _, _, _, _, _, hL614, hZ9⟩⟩)))
      ·
        refine w_swI (t := 604) e0_39 (by omega) h7 (by rw [h9]; rfl) rfl ?_
        refine w_ldA e0_604 (fun _ => rfl) rfl ?_
        refine w_ldA e0_605 (fun _ => rfl) rfl ?_
        refine w_ldI e0_606 (fun _ => rfl) rfl ?_
        refine w_kI e0_608 ?_
        refine w_iadd e0_609 ?_
        refine w_aldO e0_610 (lI_0 hL) (by omega) (by omega) (by omega) (fun q618 h619 hx620 => ?_)
        refine w_ldA e0_611 (fun _ => rfl) rfl ?_
        refine w_ldI e0_612 (fun _ => rfl) rfl ?_
        refine w_kI e0_614 ?_
        refine w_iadd e0_615 ?_
        refine w_aldO e0_616 (lI_0 hL) (by omega) (by omega) (by omega) (fun q621 h622 hx623 => ?_)
        obtain ⟨fs624, e625⟩ := lI_1 hL
        refine w_cv e0_617 (by decide) rfl e625 rfl (Nat.le_of_ble_eq_true rfl) (Nat.le_of_ble_eq_true rfl) (Nat.le_of_ble_eq_true rfl) (by decide) (by decide) (x56 hL h619 h622) (fun o626 v627 hq628 => ?_)
        obtain ⟨⟨n629, p630, hr632, hL633⟩, q634, rfl⟩ := hq628
        rw [hr632.1, hr632.2] at hL633
        refine w_x e0_620 (fun _ => rfl) ?_
        refine w_ldA e0_621 (fun _ => rfl) rfl ?_
        refine w_ldA e0_622 (fun _ => rfl) rfl ?_
        refine w_ldI e0_623 (fun _ => rfl) rfl ?_
        refine w_kI e0_625 ?_
        refine w_iadd e0_626 ?_
        refine w_aldO e0_627 (lI_0 hL633) (by omega) (by omega) (by omega) (fun q636 h637 hx638 => ?_)
        have hqq639 : q618 = q636 := ((vz_inj h637 h619).mp (hx638.symm.trans hx620)).symm
        subst hqq639
        refine w_ldA e0_628 (fun _ => rfl) rfl ?_
        refine w_ldI e0_629 (fun _ => rfl) rfl ?_
        refine w_kI e0_631 ?_
        refine w_iadd e0_632 ?_
        refine w_aldO e0_633 (lI_0 hL633) (by omega) (by omega) (by omega) (fun q640 h641 hx642 => ?_)
        have hqq643 : q621 = q640 := ((vz_inj h641 h622).mp (hx642.symm.trans hx623)).symm
        subst hqq643
        obtain ⟨fs644, e645⟩ := lI_238 hL633
        refine w_cv e0_634 (by decide) rfl e645 rfl (Nat.le_of_ble_eq_true rfl) (Nat.le_of_ble_eq_true rfl) (Nat.le_of_ble_eq_true rfl) (by decide) (by decide) (y120 hL633 h619 h622) (fun o646 v647 hq648 => ?_)
        obtain ⟨⟨n649, p650, t651, hr652, hL653⟩, q654, rfl⟩ := hq648
        rw [hr652.1, hr652.2] at hL653
        refine w_x e0_637 (fun _ => rfl) ?_
        refine w_x e0_638 (fun _ => rfl) ?_
        refine w_iinc (A1 := [some (.ref 0), some (.ref 1), some (.ref 238), some (.ref 263), some (.int (vz (x4 + 5))), none, none, none]) e0_770 rfl (by decide) rfl ?_
        refine w_x e0_773 (fun _ => rfl) ?_
        have hnp656 : n = n ∧ p = p := by omega
        have hZ9 : rel5 n p u w := hZ
        exact w_sub (A1 := [some (.ref 0), some (.ref 1), some (.ref 238), some (.ref 263), some (.int (vz (x4 + 5))), none, none, none]) (And.intro rfl (And.intro rfl (And.intro rfl (And.intro rfl (And.intro rfl trivial))))) (w_end (fun ls hl => Or.inr (Or.inl ⟨rfl, rfl, hl, by omega, ⟨_, _, _, _, _, _, hL653, hZ9⟩⟩)))
      ·
        refine w_swI (t := 641) e0_39 (by omega) h7 (by rw [h9]; rfl) rfl ?_
        refine w_ldA e0_641 (fun _ => rfl) rfl ?_
        refine w_ldA e0_642 (fun _ => rfl) rfl ?_
        refine w_ldI e0_643 (fun _ => rfl) rfl ?_
        refine w_kI e0_645 ?_
        refine w_iadd e0_646 ?_
        refine w_aldO e0_647 (lI_0 hL) (by omega) (by omega) (by omega) (fun q657 h658 hx659 => ?_)
        obtain ⟨fs660, e661⟩ := lI_1 hL
        refine w_cv e0_648 (by decide) rfl e661 rfl (Nat.le_of_ble_eq_true rfl) (Nat.le_of_ble_eq_true rfl) (Nat.le_of_ble_eq_true rfl) (by decide) (by decide) (x57 hL h658) (fun o662 v663 hq664 => ?_)
        obtain ⟨⟨n665, p666, hr668, hL669⟩, q670, rfl⟩ := hq664
        rw [hr668.1, hr668.2] at hL669
        refine w_x e0_651 (fun _ => rfl) ?_
        refine w_ldA e0_652 (fun _ => rfl) rfl ?_
        refine w_ldA e0_653 (fun _ => rfl) rfl ?_
        refine w_ldI e0_654 (fun _ => rfl) rfl ?_
        refine w_kI e0_656 ?_
        refine w_iadd e0_657 ?_
        refine w_aldO e0_658 (lI_0 hL669) (by omega) (by omega) (by omega) (fun q672 h673 hx674 => ?_)
        have hqq675 : q657 = q672 := ((vz_inj h673 h658).mp (hx674.symm.trans hx659)).symm
        subst hqq675
        obtain ⟨fs676, e677⟩ := lI_238 hL669
        refine w_cv e0_659 (by decide) rfl e677 rfl (Nat.le_of_ble_eq_true rfl) (Nat.le_of_ble_eq_true rfl) (Nat.le_of_ble_eq_true rfl) (by decide) (by decide) (y121 hL669 h658) (fun o678 v679 hq680 => ?_)
        obtain ⟨⟨n681, p682, t683, hr684, hL685⟩, q686, rfl⟩ := hq680
        rw [hr684.1, hr684.2] at hL685
        refine w_x e0_662 (fun _ => rfl) ?_
        refine w_x e0_663 (fun _ => rfl) ?_
        refine w_iinc (A1 := [some (.ref 0), some (.ref 1), some (.ref 238), some (.ref 263), some (.int (vz (x4 + 5))), none, none, none]) e0_770 rfl (by decide) rfl ?_
        refine w_x e0_773 (fun _ => rfl) ?_
        have hnp688 : n = n ∧ p = p := by omega
        have hZ9 : rel5 n p u w := hZ
        exact w_sub (A1 := [some (.ref 0), some (.ref 1), some (.ref 238), some (.ref 263), some (.int (vz (x4 + 5))), none, none, none]) (And.intro rfl (And.intro rfl (And.intro rfl (And.intro rfl (And.intro rfl trivial))))) (w_end (fun ls hl => Or.inr (Or.inl ⟨rfl, rfl, hl, by omega, ⟨_, _, _, _, _, _, hL685, hZ9⟩⟩)))
      ·
        refine w_swI (t := 666) e0_39 (by omega) h7 (by rw [h9]; rfl) rfl ?_
        refine w_ldA e0_666 (fun _ => rfl) rfl ?_
        refine w_ldA e0_667 (fun _ => rfl) rfl ?_
        refine w_ldI e0_668 (fun _ => rfl) rfl ?_
        refine w_kI e0_670 ?_
        refine w_iadd e0_671 ?_
        refine w_ald e0_672 (lI_0 hL) (by omega) (by omega) (by omega) ?_
        refine w_x e0_673 (fun _ => rfl) ?_
        refine w_kB e0_674 rfl ?_
        refine w_x e0_676 (fun _ => rfl) ?_
        refine w_ldA e0_677 (fun _ => rfl) rfl ?_
        refine w_ldI e0_678 (fun _ => rfl) rfl ?_
        refine w_kI e0_680 ?_
        refine w_iadd e0_681 ?_
        refine w_ald e0_682 (lI_0 hL) (by omega) (by omega) (by omega) ?_
        refine w_x e0_683 (fun _ => rfl) ?_
        refine w_x e0_684 (fun _ => rfl) ?_
        refine w_x e0_687 (fun _ => rfl) ?_
        refine w_x e0_688 (fun _ => rfl) ?_
        refine w_ldA e0_689 (fun _ => rfl) rfl ?_
        refine w_ldI e0_690 (fun _ => rfl) rfl ?_
        refine w_kI e0_692 ?_
        refine w_iadd e0_693 ?_
        refine w_ald e0_694 (lI_0 hL) (by omega) (by omega) (by omega) ?_
        refine w_x e0_695 (fun _ => rfl) ?_
        refine w_kB e0_696 rfl ?_
        refine w_x e0_698 (fun _ => rfl) ?_
        refine w_ldA e0_699 (fun _ => rfl) rfl ?_
        refine w_ldI e0_700 (fun _ => rfl) rfl ?_
        refine w_kI e0_702 ?_
        refine w_iadd e0_703 ?_
        refine w_ald e0_704 (lI_0 hL) (by omega) (by omega) (by omega) ?_
        refine w_x e0_705 (fun _ => rfl) ?_
        refine w_x e0_706 (fun _ => rfl) ?_
        refine w_x e0_709 (fun _ => rfl) ?_
        refine w_x e0_710 (fun _ => rfl) ?_
        refine w_ldA e0_711 (fun _ => rfl) rfl ?_
        show vm_Wp _ _ _ 712 _ [.ref 263, .long (laL (xs (x4 + 3).toNat) (xs (x4 + 4).toNat)), .long (laL (xs (x4 + 1).toNat) (xs (x4 + 2).toNat)), .ref 1] _ _
        exact w_end (fun ls hl => Or.inr (Or.inr ⟨rfl, rfl, hl, by omega, _, _, _, _, _, _, hL, hZ⟩))
set_option maxRecDepth 100000 in
set_option maxHeartbeats 8000000 in
theorem lw_psez {L : Nat} {xs : Nat → Int32} {vh : vm_H} {n p t : Int} {g : Int64} {x4 : Int} {u : D5u} {w : D5w} (hL : lI L xs vh n p n p t g u w) (hZ : rel5 n p u w) (h0 : 0 ≤ x4) (hx : x4 + 5 ≤ (L : Int)) (hl : L ≤ 2560) (hb : (laL (xs (x4 + 3).toNat) (xs (x4 + 4).toNat)) = 0) : vm_Wp 9 400 0 715 (lwA x4) [.int (vz 1)] vh (lwQ L xs x4) := by
  refine w_stI (j := 5) (A1 := [some (.ref 0), some (.ref 1), some (.ref 238), some (.ref 263), some (.int (vz x4)), some (.int (vz 1)), none, none]) e0_715 (fun _ => rfl) (by decide) rfl ?_
  refine w_ldA e0_717 (fun _ => rfl) rfl ?_
  refine w_ldA e0_718 (fun _ => rfl) rfl ?_
  refine w_ldI e0_719 (fun _ => rfl) rfl ?_
  refine w_kI e0_721 ?_
  refine w_iadd e0_722 ?_
  refine w_ald e0_723 (lI_0 hL) (by omega) (by omega) (by omega) ?_
  refine w_x e0_724 (fun _ => rfl) ?_
  refine w_kB e0_725 rfl ?_
  refine w_x e0_727 (fun _ => rfl) ?_
  refine w_ldA e0_728 (fun _ => rfl) rfl ?_
  refine w_ldI e0_729 (fun _ => rfl) rfl ?_
  refine w_kI e0_731 ?_
  refine w_iadd e0_732 ?_
  refine w_ald e0_733 (lI_0 hL) (by omega) (by omega) (by omega) ?_
  refine w_x e0_734 (fun _ => rfl) ?_
  refine w_x e0_735 (fun _ => rfl) ?_
  refine w_x e0_738 (fun _ => rfl) ?_
  refine w_x e0_739 (fun _ => rfl) ?_
  refine w_ldA e0_740 (fun _ => rfl) rfl ?_
  refine w_ldI e0_741 (fun _ => rfl) rfl ?_
  refine w_kI e0_743 ?_
  refine w_iadd e0_744 ?_
  refine w_ald e0_745 (lI_0 hL) (by omega) (by omega) (by omega) ?_
  refine w_x e0_746 (fun _ => rfl) ?_
  refine w_kB e0_747 rfl ?_
  refine w_x e0_749 (fun _ => rfl) ?_
  refine w_ldA e0_750 (fun _ => rfl) rfl ?_
  refine w_ldI e0_751 (fun _ => rfl) rfl ?_
  refine w_kI e0_753 ?_
  refine w_iadd e0_754 ?_
  refine w_ald e0_755 (lI_0 hL) (by omega) (by omega) (by omega) ?_
  refine w_x e0_756 (fun _ => rfl) ?_
  refine w_x e0_757 (fun _ => rfl) ?_
  refine w_x e0_760 (fun _ => rfl) ?_
  refine w_x e0_761 (fun _ => rfl) ?_
  obtain ⟨fs1, e2⟩ := lI_238 hL
  show vm_Wp _ _ _ 762 _ [.long (laL (xs (x4 + 3).toNat) (xs (x4 + 4).toNat)), .long (laL (xs (x4 + 1).toNat) (xs (x4 + 2).toNat)), .ref 238] _ _
  refine w_cv e0_762 (by decide) rfl e2 rfl (Nat.le_of_ble_eq_true rfl) (Nat.le_of_ble_eq_true rfl) (Nat.le_of_ble_eq_true rfl) (by decide) (by decide) (y122z hL _ _ hb) (fun o3 v4 hq5 => ?_)
  obtain ⟨hL6, l7, rfl⟩ := hq5
  refine w_stL (j := 6) (A1 := [some (.ref 0), some (.ref 1), some (.ref 238), some (.ref 263), some (.int (vz x4)), some (.int (vz 1)), some (.long l7), none]) e0_765 (fun _ => rfl) (by decide) rfl ?_
  refine w_x e0_767 (fun _ => rfl) ?_
  refine w_iinc (A1 := [some (.ref 0), some (.ref 1), some (.ref 238), some (.ref 263), some (.int (vz (x4 + 5))), some (.int (vz 1)), some (.long l7), none]) e0_770 rfl (by decide) rfl ?_
  refine w_x e0_773 (fun _ => rfl) ?_
  have hnp8 : n = n ∧ p = p := by omega
  have hZ9 : rel5 n p u w := hZ
  exact w_sub (A1 := [some (.ref 0), some (.ref 1), some (.ref 238), some (.ref 263), some (.int (vz (x4 + 5))), none, none, none]) (And.intro rfl (And.intro rfl (And.intro rfl (And.intro rfl (And.intro rfl trivial))))) (w_end (fun ls hl => ⟨rfl, rfl, hl, by omega, ⟨_, _, _, _, _, _, hL6, hZ9⟩⟩))
set_option maxRecDepth 100000 in
set_option maxHeartbeats 8000000 in
theorem lw_psen {L : Nat} {xs : Nat → Int32} {vh : vm_H} {n p t : Int} {g : Int64} {x4 : Int} {u : D5u} {w : D5w} (hL : lI L xs vh n p n p t g u w) (hZ : rel5 n p u w) (h0 : 0 ≤ x4) (hx : x4 + 5 ≤ (L : Int)) (hl : L ≤ 2560) (hb : ¬ (laL (xs (x4 + 3).toNat) (xs (x4 + 4).toNat)) = 0) (hg : g = (laL (xs (x4 + 1).toNat) (xs (x4 + 2).toNat)) <<< (Int32.toInt64 (Int8.ofInt 32).toInt32 &&& 63) / (laL (xs (x4 + 3).toNat) (xs (x4 + 4).toNat))) : vm_Wp 9 400 0 715 (lwA x4) [.int (vz 0)] vh (lwQ L xs x4) := by
  refine w_stI (j := 5) (A1 := [some (.ref 0), some (.ref 1), some (.ref 238), some (.ref 263), some (.int (vz x4)), some (.int (vz 0)), none, none]) e0_715 (fun _ => rfl) (by decide) rfl ?_
  refine w_ldA e0_717 (fun _ => rfl) rfl ?_
  refine w_ldA e0_718 (fun _ => rfl) rfl ?_
  refine w_ldI e0_719 (fun _ => rfl) rfl ?_
  refine w_kI e0_721 ?_
  refine w_iadd e0_722 ?_
  refine w_ald e0_723 (lI_0 hL) (by omega) (by omega) (by omega) ?_
  refine w_x e0_724 (fun _ => rfl) ?_
  refine w_kB e0_725 rfl ?_
  refine w_x e0_727 (fun _ => rfl) ?_
  refine w_ldA e0_728 (fun _ => rfl) rfl ?_
  refine w_ldI e0_729 (fun _ => rfl) rfl ?_
  refine w_kI e0_731 ?_
  refine w_iadd e0_732 ?_
  refine w_ald e0_733 (lI_0 hL) (by omega) (by omega) (by omega) ?_
  refine w_x e0_734 (fun _ => rfl) ?_
  refine w_x e0_735 (fun _ => rfl) ?_
  refine w_x e0_738 (fun _ => rfl) ?_
  refine w_x e0_739 (fun _ => rfl) ?_
  refine w_ldA e0_740 (fun _ => rfl) rfl ?_
  refine w_ldI e0_741 (fun _ => rfl) rfl ?_
  refine w_kI e0_743 ?_
  refine w_iadd e0_744 ?_
  refine w_ald e0_745 (lI_0 hL) (by omega) (by omega) (by omega) ?_
  refine w_x e0_746 (fun _ => rfl) ?_
  refine w_kB e0_747 rfl ?_
  refine w_x e0_749 (fun _ => rfl) ?_
  refine w_ldA e0_750 (fun _ => rfl) rfl ?_
  refine w_ldI e0_751 (fun _ => rfl) rfl ?_
  refine w_kI e0_753 ?_
  refine w_iadd e0_754 ?_
  refine w_ald e0_755 (lI_0 hL) (by omega) (by omega) (by omega) ?_
  refine w_x e0_756 (fun _ => rfl) ?_
  refine w_x e0_757 (fun _ => rfl) ?_
  refine w_x e0_760 (fun _ => rfl) ?_
  refine w_x e0_761 (fun _ => rfl) ?_
  obtain ⟨fs1, e2⟩ := lI_238 hL
  show vm_Wp _ _ _ 762 _ [.long (laL (xs (x4 + 3).toNat) (xs (x4 + 4).toNat)), .long (laL (xs (x4 + 1).toNat) (xs (x4 + 2).toNat)), .ref 238] _ _
  refine w_cv e0_762 (by decide) rfl e2 rfl (Nat.le_of_ble_eq_true rfl) (Nat.le_of_ble_eq_true rfl) (Nat.le_of_ble_eq_true rfl) (by decide) (by decide) (y122n hL _ _ hb) (fun o3 v4 hq5 => ?_)
  obtain ⟨hL6, rfl⟩ := hq5
  refine w_stL (j := 6) (A1 := [some (.ref 0), some (.ref 1), some (.ref 238), some (.ref 263), some (.int (vz x4)), some (.int (vz 0)), some (.long ((laL (xs (x4 + 1).toNat) (xs (x4 + 2).toNat)) <<< (Int32.toInt64 (Int8.ofInt 32).toInt32 &&& 63) / (laL (xs (x4 + 3).toNat) (xs (x4 + 4).toNat)))), none]) e0_765 (fun _ => rfl) (by decide) rfl ?_
  refine w_x e0_767 (fun _ => rfl) ?_
  refine w_iinc (A1 := [some (.ref 0), some (.ref 1), some (.ref 238), some (.ref 263), some (.int (vz (x4 + 5))), some (.int (vz 0)), some (.long ((laL (xs (x4 + 1).toNat) (xs (x4 + 2).toNat)) <<< (Int32.toInt64 (Int8.ofInt 32).toInt32 &&& 63) / (laL (xs (x4 + 3).toNat) (xs (x4 + 4).toNat)))), none]) e0_770 rfl (by decide) rfl ?_
  refine w_x e0_773 (fun _ => rfl) ?_
  have hnp7 : n = n ∧ p = p := by omega
  have hZ9 : rel5 n p u w := hZ
  exact w_sub (A1 := [some (.ref 0), some (.ref 1), some (.ref 238), some (.ref 263), some (.int (vz (x4 + 5))), none, none, none]) (And.intro rfl (And.intro rfl (And.intro rfl (And.intro rfl (And.intro rfl trivial))))) (w_end (fun ls hl => ⟨rfl, rfl, hl, by omega, ⟨_, _, _, _, _, _, hL6, hZ9⟩⟩))
