theorem e0_23 : vm_ent 0 23 = some (.iload 4, 0, 0, 0) := by decide +kernel
theorem e0_25 : vm_ent 0 25 = some (.aload_n 0, 0, 0, 0) := by decide +kernel
theorem e0_26 : vm_ent 0 26 = some (.arraylength, 0, 0, 0) := by decide +kernel
theorem e0_27 : vm_ent 0 27 = some (.iconst 5, 0, 0, 0) := by decide +kernel
theorem e0_28 : vm_ent 0 28 = some (.isub, 0, 0, 0) := by decide +kernel
theorem e0_29 : vm_ent 0 29 = some (.if_icmp .gt 747, 776, 0, 0) := by decide +kernel
theorem e0_32 : vm_ent 0 32 = some (.aload_n 0, 0, 0, 0) := by decide +kernel
theorem e0_33 : vm_ent 0 33 = some (.iload 4, 0, 0, 0) := by decide +kernel
theorem e0_35 : vm_ent 0 35 = some (.iaload, 0, 0, 0) := by decide +kernel
theorem e0_36 : vm_ent 0 36 = some (.bipush 15, 0, 0, 0) := by decide +kernel
theorem e0_38 : vm_ent 0 38 = some (.iand, 0, 0, 0) := by decide +kernel
theorem e0_39 : vm_ent 0 39 = some (.tableswitch 731 0 14 #[73, 114, 151, 164, 245, 298, 311, 336, 373, 398, 447, 496, 565, 602, 627], 73, 0, 0) := by decide +kernel
theorem e0_112 : vm_ent 0 112 = some (.aload_n 1, 0, 0, 0) := by decide +kernel
theorem e0_113 : vm_ent 0 113 = some (.aload_n 0, 0, 0, 0) := by decide +kernel
theorem e0_114 : vm_ent 0 114 = some (.iload 4, 0, 0, 0) := by decide +kernel
theorem e0_116 : vm_ent 0 116 = some (.iconst 1, 0, 0, 0) := by decide +kernel
theorem e0_117 : vm_ent 0 117 = some (.iadd, 0, 0, 0) := by decide +kernel
theorem e0_118 : vm_ent 0 118 = some (.iaload, 0, 0, 0) := by decide +kernel
theorem e0_119 : vm_ent 0 119 = some (.ifCond .eq 7, 126, 0, 0) := by decide +kernel
theorem e0_122 : vm_ent 0 122 = some (.iconst 1, 0, 0, 0) := by decide +kernel
theorem e0_123 : vm_ent 0 123 = some (.goto 4, 127, 0, 0) := by decide +kernel
theorem e0_126 : vm_ent 0 126 = some (.iconst 0, 0, 0, 0) := by decide +kernel
theorem e0_127 : vm_ent 0 127 = some (.invokevirtual 19, 44, 4, 250) := by decide +kernel
theorem e0_130 : vm_ent 0 130 = some (.pop, 0, 0, 0) := by decide +kernel
theorem e0_131 : vm_ent 0 131 = some (.aload_n 2, 0, 0, 0) := by decide +kernel
theorem e0_132 : vm_ent 0 132 = some (.aload_n 0, 0, 0, 0) := by decide +kernel
theorem e0_133 : vm_ent 0 133 = some (.iload 4, 0, 0, 0) := by decide +kernel
theorem e0_135 : vm_ent 0 135 = some (.iconst 1, 0, 0, 0) := by decide +kernel
theorem e0_136 : vm_ent 0 136 = some (.iadd, 0, 0, 0) := by decide +kernel
theorem e0_137 : vm_ent 0 137 = some (.iaload, 0, 0, 0) := by decide +kernel
theorem e0_138 : vm_ent 0 138 = some (.ifCond .eq 7, 145, 0, 0) := by decide +kernel
theorem e0_141 : vm_ent 0 141 = some (.iconst 1, 0, 0, 0) := by decide +kernel
theorem e0_142 : vm_ent 0 142 = some (.goto 4, 146, 0, 0) := by decide +kernel
theorem e0_145 : vm_ent 0 145 = some (.iconst 0, 0, 0, 0) := by decide +kernel
theorem e0_146 : vm_ent 0 146 = some (.invokevirtual 23, 105, 4, 877) := by decide +kernel
theorem e0_149 : vm_ent 0 149 = some (.pop, 0, 0, 0) := by decide +kernel
theorem e0_150 : vm_ent 0 150 = some (.goto 620, 770, 0, 0) := by decide +kernel
theorem e0_153 : vm_ent 0 153 = some (.aload_n 1, 0, 0, 0) := by decide +kernel
theorem e0_154 : vm_ent 0 154 = some (.aload_n 0, 0, 0, 0) := by decide +kernel
theorem e0_155 : vm_ent 0 155 = some (.iload 4, 0, 0, 0) := by decide +kernel
theorem e0_157 : vm_ent 0 157 = some (.iconst 1, 0, 0, 0) := by decide +kernel
theorem e0_158 : vm_ent 0 158 = some (.iadd, 0, 0, 0) := by decide +kernel
theorem e0_159 : vm_ent 0 159 = some (.iaload, 0, 0, 0) := by decide +kernel
theorem e0_160 : vm_ent 0 160 = some (.aload_n 0, 0, 0, 0) := by decide +kernel
theorem e0_161 : vm_ent 0 161 = some (.iload 4, 0, 0, 0) := by decide +kernel
theorem e0_163 : vm_ent 0 163 = some (.iconst 2, 0, 0, 0) := by decide +kernel
theorem e0_164 : vm_ent 0 164 = some (.iadd, 0, 0, 0) := by decide +kernel
theorem e0_165 : vm_ent 0 165 = some (.iaload, 0, 0, 0) := by decide +kernel
theorem e0_166 : vm_ent 0 166 = some (.invokevirtual 24, 45, 4, 269) := by decide +kernel
theorem e0_169 : vm_ent 0 169 = some (.pop, 0, 0, 0) := by decide +kernel
theorem e0_170 : vm_ent 0 170 = some (.aload_n 2, 0, 0, 0) := by decide +kernel
theorem e0_171 : vm_ent 0 171 = some (.aload_n 0, 0, 0, 0) := by decide +kernel
theorem e0_172 : vm_ent 0 172 = some (.iload 4, 0, 0, 0) := by decide +kernel
theorem e0_174 : vm_ent 0 174 = some (.iconst 1, 0, 0, 0) := by decide +kernel
theorem e0_175 : vm_ent 0 175 = some (.iadd, 0, 0, 0) := by decide +kernel
theorem e0_176 : vm_ent 0 176 = some (.iaload, 0, 0, 0) := by decide +kernel
theorem e0_177 : vm_ent 0 177 = some (.aload_n 0, 0, 0, 0) := by decide +kernel
theorem e0_178 : vm_ent 0 178 = some (.iload 4, 0, 0, 0) := by decide +kernel
theorem e0_180 : vm_ent 0 180 = some (.iconst 2, 0, 0, 0) := by decide +kernel
theorem e0_181 : vm_ent 0 181 = some (.iadd, 0, 0, 0) := by decide +kernel
theorem e0_182 : vm_ent 0 182 = some (.iaload, 0, 0, 0) := by decide +kernel
theorem e0_183 : vm_ent 0 183 = some (.invokevirtual 28, 106, 4, 881) := by decide +kernel
theorem e0_186 : vm_ent 0 186 = some (.pop, 0, 0, 0) := by decide +kernel
theorem e0_187 : vm_ent 0 187 = some (.goto 583, 770, 0, 0) := by decide +kernel
theorem e0_190 : vm_ent 0 190 = some (.aload_n 1, 0, 0, 0) := by decide +kernel
theorem e0_191 : vm_ent 0 191 = some (.invokevirtual 29, 46, 4, 312) := by decide +kernel
theorem e0_194 : vm_ent 0 194 = some (.aload_n 2, 0, 0, 0) := by decide +kernel
theorem e0_195 : vm_ent 0 195 = some (.invokevirtual 33, 107, 4, 885) := by decide +kernel
theorem e0_198 : vm_ent 0 198 = some (.if_icmp .eq 572, 770, 0, 0) := by decide +kernel
theorem e0_201 : vm_ent 0 201 = some (.iconst 0, 0, 0, 0) := by decide +kernel
theorem e0_202 : vm_ent 0 202 = some (.ireturn, 0, 0, 0) := by decide +kernel
theorem e0_203 : vm_ent 0 203 = some (.aload_n 1, 0, 0, 0) := by decide +kernel
theorem e0_204 : vm_ent 0 204 = some (.aload_n 0, 0, 0, 0) := by decide +kernel
theorem e0_205 : vm_ent 0 205 = some (.iload 4, 0, 0, 0) := by decide +kernel
theorem e0_207 : vm_ent 0 207 = some (.iconst 1, 0, 0, 0) := by decide +kernel
theorem e0_208 : vm_ent 0 208 = some (.iadd, 0, 0, 0) := by decide +kernel
theorem e0_209 : vm_ent 0 209 = some (.iaload, 0, 0, 0) := by decide +kernel
theorem e0_210 : vm_ent 0 210 = some (.aload_n 0, 0, 0, 0) := by decide +kernel
theorem e0_211 : vm_ent 0 211 = some (.iload 4, 0, 0, 0) := by decide +kernel
theorem e0_213 : vm_ent 0 213 = some (.iconst 2, 0, 0, 0) := by decide +kernel
theorem e0_214 : vm_ent 0 214 = some (.iadd, 0, 0, 0) := by decide +kernel
theorem e0_215 : vm_ent 0 215 = some (.iaload, 0, 0, 0) := by decide +kernel
theorem e0_216 : vm_ent 0 216 = some (.i2l, 0, 0, 0) := by decide +kernel
theorem e0_217 : vm_ent 0 217 = some (.bipush 32, 0, 0, 0) := by decide +kernel
theorem e0_219 : vm_ent 0 219 = some (.lshl, 0, 0, 0) := by decide +kernel
theorem e0_220 : vm_ent 0 220 = some (.aload_n 0, 0, 0, 0) := by decide +kernel
theorem e0_221 : vm_ent 0 221 = some (.iload 4, 0, 0, 0) := by decide +kernel
theorem e0_223 : vm_ent 0 223 = some (.iconst 3, 0, 0, 0) := by decide +kernel
theorem e0_224 : vm_ent 0 224 = some (.iadd, 0, 0, 0) := by decide +kernel
theorem e0_225 : vm_ent 0 225 = some (.iaload, 0, 0, 0) := by decide +kernel
theorem e0_226 : vm_ent 0 226 = some (.i2l, 0, 0, 0) := by decide +kernel
theorem e0_227 : vm_ent 0 227 = some (.ldc2_w 34, 4294967295, 0, 951) := by decide +kernel
theorem e0_230 : vm_ent 0 230 = some (.land, 0, 0, 0) := by decide +kernel
theorem e0_231 : vm_ent 0 231 = some (.lor, 0, 0, 0) := by decide +kernel
theorem e0_232 : vm_ent 0 232 = some (.aload_n 0, 0, 0, 0) := by decide +kernel
theorem e0_233 : vm_ent 0 233 = some (.iload 4, 0, 0, 0) := by decide +kernel
theorem e0_235 : vm_ent 0 235 = some (.iconst 4, 0, 0, 0) := by decide +kernel
theorem e0_236 : vm_ent 0 236 = some (.iadd, 0, 0, 0) := by decide +kernel
theorem e0_237 : vm_ent 0 237 = some (.iaload, 0, 0, 0) := by decide +kernel
theorem e0_238 : vm_ent 0 238 = some (.invokevirtual 36, 47, 4, 316) := by decide +kernel
theorem e0_241 : vm_ent 0 241 = some (.pop, 0, 0, 0) := by decide +kernel
theorem e0_242 : vm_ent 0 242 = some (.aload_n 2, 0, 0, 0) := by decide +kernel
theorem e0_243 : vm_ent 0 243 = some (.aload_n 0, 0, 0, 0) := by decide +kernel
theorem e0_244 : vm_ent 0 244 = some (.iload 4, 0, 0, 0) := by decide +kernel
theorem e0_246 : vm_ent 0 246 = some (.iconst 1, 0, 0, 0) := by decide +kernel
theorem e0_247 : vm_ent 0 247 = some (.iadd, 0, 0, 0) := by decide +kernel
theorem e0_248 : vm_ent 0 248 = some (.iaload, 0, 0, 0) := by decide +kernel
theorem e0_249 : vm_ent 0 249 = some (.aload_n 0, 0, 0, 0) := by decide +kernel
theorem e0_250 : vm_ent 0 250 = some (.iload 4, 0, 0, 0) := by decide +kernel
theorem e0_252 : vm_ent 0 252 = some (.iconst 2, 0, 0, 0) := by decide +kernel
theorem e0_253 : vm_ent 0 253 = some (.iadd, 0, 0, 0) := by decide +kernel
theorem e0_254 : vm_ent 0 254 = some (.iaload, 0, 0, 0) := by decide +kernel
theorem e0_255 : vm_ent 0 255 = some (.i2l, 0, 0, 0) := by decide +kernel
theorem e0_256 : vm_ent 0 256 = some (.bipush 32, 0, 0, 0) := by decide +kernel
theorem e0_258 : vm_ent 0 258 = some (.lshl, 0, 0, 0) := by decide +kernel
theorem e0_259 : vm_ent 0 259 = some (.aload_n 0, 0, 0, 0) := by decide +kernel
theorem e0_260 : vm_ent 0 260 = some (.iload 4, 0, 0, 0) := by decide +kernel
theorem e0_262 : vm_ent 0 262 = some (.iconst 3, 0, 0, 0) := by decide +kernel
theorem e0_263 : vm_ent 0 263 = some (.iadd, 0, 0, 0) := by decide +kernel
theorem e0_264 : vm_ent 0 264 = some (.iaload, 0, 0, 0) := by decide +kernel
theorem e0_265 : vm_ent 0 265 = some (.i2l, 0, 0, 0) := by decide +kernel
theorem e0_266 : vm_ent 0 266 = some (.ldc2_w 34, 4294967295, 0, 951) := by decide +kernel
theorem e0_269 : vm_ent 0 269 = some (.land, 0, 0, 0) := by decide +kernel
theorem e0_270 : vm_ent 0 270 = some (.lor, 0, 0, 0) := by decide +kernel
theorem e0_271 : vm_ent 0 271 = some (.aload_n 0, 0, 0, 0) := by decide +kernel
theorem e0_272 : vm_ent 0 272 = some (.iload 4, 0, 0, 0) := by decide +kernel
theorem e0_274 : vm_ent 0 274 = some (.iconst 4, 0, 0, 0) := by decide +kernel
theorem e0_275 : vm_ent 0 275 = some (.iadd, 0, 0, 0) := by decide +kernel
theorem e0_276 : vm_ent 0 276 = some (.iaload, 0, 0, 0) := by decide +kernel
theorem e0_277 : vm_ent 0 277 = some (.invokevirtual 40, 108, 4, 889) := by decide +kernel
theorem e0_280 : vm_ent 0 280 = some (.pop, 0, 0, 0) := by decide +kernel
theorem e0_281 : vm_ent 0 281 = some (.goto 489, 770, 0, 0) := by decide +kernel
theorem e0_284 : vm_ent 0 284 = some (.aload_n 1, 0, 0, 0) := by decide +kernel
theorem e0_285 : vm_ent 0 285 = some (.aload_n 0, 0, 0, 0) := by decide +kernel
theorem e0_286 : vm_ent 0 286 = some (.iload 4, 0, 0, 0) := by decide +kernel
theorem e0_288 : vm_ent 0 288 = some (.iconst 1, 0, 0, 0) := by decide +kernel
theorem e0_289 : vm_ent 0 289 = some (.iadd, 0, 0, 0) := by decide +kernel
theorem e0_290 : vm_ent 0 290 = some (.iaload, 0, 0, 0) := by decide +kernel
theorem e0_291 : vm_ent 0 291 = some (.aload_n 0, 0, 0, 0) := by decide +kernel
theorem e0_292 : vm_ent 0 292 = some (.iload 4, 0, 0, 0) := by decide +kernel
theorem e0_294 : vm_ent 0 294 = some (.iconst 2, 0, 0, 0) := by decide +kernel
theorem e0_295 : vm_ent 0 295 = some (.iadd, 0, 0, 0) := by decide +kernel
theorem e0_296 : vm_ent 0 296 = some (.iaload, 0, 0, 0) := by decide +kernel
theorem e0_297 : vm_ent 0 297 = some (.ifCond .eq 7, 304, 0, 0) := by decide +kernel
theorem e0_300 : vm_ent 0 300 = some (.iconst 1, 0, 0, 0) := by decide +kernel
theorem e0_301 : vm_ent 0 301 = some (.goto 4, 305, 0, 0) := by decide +kernel
theorem e0_304 : vm_ent 0 304 = some (.iconst 0, 0, 0, 0) := by decide +kernel
theorem e0_305 : vm_ent 0 305 = some (.invokevirtual 41, 48, 4, 351) := by decide +kernel
theorem e0_308 : vm_ent 0 308 = some (.pop, 0, 0, 0) := by decide +kernel
theorem e0_309 : vm_ent 0 309 = some (.aload_n 2, 0, 0, 0) := by decide +kernel
theorem e0_310 : vm_ent 0 310 = some (.aload_n 0, 0, 0, 0) := by decide +kernel
theorem e0_311 : vm_ent 0 311 = some (.iload 4, 0, 0, 0) := by decide +kernel
theorem e0_313 : vm_ent 0 313 = some (.iconst 1, 0, 0, 0) := by decide +kernel
theorem e0_314 : vm_ent 0 314 = some (.iadd, 0, 0, 0) := by decide +kernel
theorem e0_315 : vm_ent 0 315 = some (.iaload, 0, 0, 0) := by decide +kernel
theorem e0_316 : vm_ent 0 316 = some (.aload_n 0, 0, 0, 0) := by decide +kernel
theorem e0_317 : vm_ent 0 317 = some (.iload 4, 0, 0, 0) := by decide +kernel
theorem e0_319 : vm_ent 0 319 = some (.iconst 2, 0, 0, 0) := by decide +kernel
theorem e0_320 : vm_ent 0 320 = some (.iadd, 0, 0, 0) := by decide +kernel
theorem e0_321 : vm_ent 0 321 = some (.iaload, 0, 0, 0) := by decide +kernel
theorem e0_322 : vm_ent 0 322 = some (.ifCond .eq 7, 329, 0, 0) := by decide +kernel
theorem e0_325 : vm_ent 0 325 = some (.iconst 1, 0, 0, 0) := by decide +kernel
theorem e0_326 : vm_ent 0 326 = some (.goto 4, 330, 0, 0) := by decide +kernel
theorem e0_329 : vm_ent 0 329 = some (.iconst 0, 0, 0, 0) := by decide +kernel
theorem e0_330 : vm_ent 0 330 = some (.invokevirtual 45, 109, 4, 895) := by decide +kernel
theorem e0_333 : vm_ent 0 333 = some (.pop, 0, 0, 0) := by decide +kernel
theorem e0_334 : vm_ent 0 334 = some (.goto 436, 770, 0, 0) := by decide +kernel
theorem e0_337 : vm_ent 0 337 = some (.aload_n 1, 0, 0, 0) := by decide +kernel
theorem e0_338 : vm_ent 0 338 = some (.invokevirtual 46, 49, 4, 355) := by decide +kernel
theorem e0_341 : vm_ent 0 341 = some (.pop, 0, 0, 0) := by decide +kernel
theorem e0_342 : vm_ent 0 342 = some (.aload_n 2, 0, 0, 0) := by decide +kernel
theorem e0_343 : vm_ent 0 343 = some (.invokevirtual 49, 102, 4, 767) := by decide +kernel
theorem e0_346 : vm_ent 0 346 = some (.pop, 0, 0, 0) := by decide +kernel
theorem e0_347 : vm_ent 0 347 = some (.goto 423, 770, 0, 0) := by decide +kernel
theorem e0_350 : vm_ent 0 350 = some (.aload_n 1, 0, 0, 0) := by decide +kernel
theorem e0_351 : vm_ent 0 351 = some (.aload_n 0, 0, 0, 0) := by decide +kernel
theorem e0_352 : vm_ent 0 352 = some (.iload 4, 0, 0, 0) := by decide +kernel
theorem e0_354 : vm_ent 0 354 = some (.iconst 1, 0, 0, 0) := by decide +kernel
theorem e0_355 : vm_ent 0 355 = some (.iadd, 0, 0, 0) := by decide +kernel
theorem e0_356 : vm_ent 0 356 = some (.iaload, 0, 0, 0) := by decide +kernel
theorem e0_357 : vm_ent 0 357 = some (.invokevirtual 50, 50, 4, 482) := by decide +kernel
theorem e0_360 : vm_ent 0 360 = some (.pop, 0, 0, 0) := by decide +kernel
theorem e0_361 : vm_ent 0 361 = some (.aload_n 2, 0, 0, 0) := by decide +kernel
theorem e0_362 : vm_ent 0 362 = some (.aload_n 0, 0, 0, 0) := by decide +kernel
theorem e0_363 : vm_ent 0 363 = some (.iload 4, 0, 0, 0) := by decide +kernel
theorem e0_365 : vm_ent 0 365 = some (.iconst 1, 0, 0, 0) := by decide +kernel
theorem e0_366 : vm_ent 0 366 = some (.iadd, 0, 0, 0) := by decide +kernel
theorem e0_367 : vm_ent 0 367 = some (.iaload, 0, 0, 0) := by decide +kernel
theorem e0_368 : vm_ent 0 368 = some (.invokevirtual 54, 104, 4, 869) := by decide +kernel
theorem e0_371 : vm_ent 0 371 = some (.pop, 0, 0, 0) := by decide +kernel
theorem e0_372 : vm_ent 0 372 = some (.goto 398, 770, 0, 0) := by decide +kernel
theorem e0_375 : vm_ent 0 375 = some (.aload_n 1, 0, 0, 0) := by decide +kernel
theorem e0_376 : vm_ent 0 376 = some (.aload_n 0, 0, 0, 0) := by decide +kernel
theorem e0_377 : vm_ent 0 377 = some (.iload 4, 0, 0, 0) := by decide +kernel
theorem e0_379 : vm_ent 0 379 = some (.iconst 1, 0, 0, 0) := by decide +kernel
theorem e0_380 : vm_ent 0 380 = some (.iadd, 0, 0, 0) := by decide +kernel
theorem e0_381 : vm_ent 0 381 = some (.iaload, 0, 0, 0) := by decide +kernel
theorem e0_382 : vm_ent 0 382 = some (.aload_n 0, 0, 0, 0) := by decide +kernel
theorem e0_383 : vm_ent 0 383 = some (.iload 4, 0, 0, 0) := by decide +kernel
theorem e0_385 : vm_ent 0 385 = some (.iconst 2, 0, 0, 0) := by decide +kernel
theorem e0_386 : vm_ent 0 386 = some (.iadd, 0, 0, 0) := by decide +kernel
theorem e0_387 : vm_ent 0 387 = some (.iaload, 0, 0, 0) := by decide +kernel
theorem e0_388 : vm_ent 0 388 = some (.invokevirtual 55, 51, 4, 487) := by decide +kernel
theorem e0_391 : vm_ent 0 391 = some (.pop, 0, 0, 0) := by decide +kernel
theorem e0_392 : vm_ent 0 392 = some (.aload_n 2, 0, 0, 0) := by decide +kernel
theorem e0_393 : vm_ent 0 393 = some (.aload_n 0, 0, 0, 0) := by decide +kernel
theorem e0_394 : vm_ent 0 394 = some (.iload 4, 0, 0, 0) := by decide +kernel
theorem e0_396 : vm_ent 0 396 = some (.iconst 1, 0, 0, 0) := by decide +kernel
theorem e0_397 : vm_ent 0 397 = some (.iadd, 0, 0, 0) := by decide +kernel
theorem e0_398 : vm_ent 0 398 = some (.iaload, 0, 0, 0) := by decide +kernel
theorem e0_399 : vm_ent 0 399 = some (.aload_n 0, 0, 0, 0) := by decide +kernel
theorem e0_400 : vm_ent 0 400 = some (.iload 4, 0, 0, 0) := by decide +kernel
theorem e0_402 : vm_ent 0 402 = some (.iconst 2, 0, 0, 0) := by decide +kernel
theorem e0_403 : vm_ent 0 403 = some (.iadd, 0, 0, 0) := by decide +kernel
theorem e0_404 : vm_ent 0 404 = some (.iaload, 0, 0, 0) := by decide +kernel
theorem e0_405 : vm_ent 0 405 = some (.invokevirtual 59, 112, 4, 899) := by decide +kernel
theorem e0_408 : vm_ent 0 408 = some (.pop, 0, 0, 0) := by decide +kernel
theorem e0_409 : vm_ent 0 409 = some (.goto 361, 770, 0, 0) := by decide +kernel
theorem e0_412 : vm_ent 0 412 = some (.aload_n 1, 0, 0, 0) := by decide +kernel
theorem e0_413 : vm_ent 0 413 = some (.aload_n 0, 0, 0, 0) := by decide +kernel
theorem e0_414 : vm_ent 0 414 = some (.iload 4, 0, 0, 0) := by decide +kernel
theorem e0_416 : vm_ent 0 416 = some (.iconst 1, 0, 0, 0) := by decide +kernel
theorem e0_417 : vm_ent 0 417 = some (.iadd, 0, 0, 0) := by decide +kernel
theorem e0_418 : vm_ent 0 418 = some (.iaload, 0, 0, 0) := by decide +kernel
theorem e0_419 : vm_ent 0 419 = some (.invokevirtual 60, 52, 4, 500) := by decide +kernel
theorem e0_422 : vm_ent 0 422 = some (.pop, 0, 0, 0) := by decide +kernel
theorem e0_423 : vm_ent 0 423 = some (.aload_n 2, 0, 0, 0) := by decide +kernel
theorem e0_424 : vm_ent 0 424 = some (.aload_n 0, 0, 0, 0) := by decide +kernel
theorem e0_425 : vm_ent 0 425 = some (.iload 4, 0, 0, 0) := by decide +kernel
theorem e0_427 : vm_ent 0 427 = some (.iconst 1, 0, 0, 0) := by decide +kernel
theorem e0_428 : vm_ent 0 428 = some (.iadd, 0, 0, 0) := by decide +kernel
theorem e0_429 : vm_ent 0 429 = some (.iaload, 0, 0, 0) := by decide +kernel
theorem e0_430 : vm_ent 0 430 = some (.invokevirtual 63, 113, 4, 911) := by decide +kernel
theorem e0_433 : vm_ent 0 433 = some (.pop, 0, 0, 0) := by decide +kernel
theorem e0_434 : vm_ent 0 434 = some (.goto 336, 770, 0, 0) := by decide +kernel
theorem e0_437 : vm_ent 0 437 = some (.aload_n 1, 0, 0, 0) := by decide +kernel
theorem e0_438 : vm_ent 0 438 = some (.aload_n 0, 0, 0, 0) := by decide +kernel
theorem e0_439 : vm_ent 0 439 = some (.iload 4, 0, 0, 0) := by decide +kernel
theorem e0_441 : vm_ent 0 441 = some (.iconst 1, 0, 0, 0) := by decide +kernel
theorem e0_442 : vm_ent 0 442 = some (.iadd, 0, 0, 0) := by decide +kernel
theorem e0_443 : vm_ent 0 443 = some (.iaload, 0, 0, 0) := by decide +kernel
theorem e0_444 : vm_ent 0 444 = some (.aload_n 0, 0, 0, 0) := by decide +kernel
theorem e0_445 : vm_ent 0 445 = some (.iload 4, 0, 0, 0) := by decide +kernel
theorem e0_447 : vm_ent 0 447 = some (.iconst 2, 0, 0, 0) := by decide +kernel
theorem e0_448 : vm_ent 0 448 = some (.iadd, 0, 0, 0) := by decide +kernel
theorem e0_449 : vm_ent 0 449 = some (.iaload, 0, 0, 0) := by decide +kernel
theorem e0_450 : vm_ent 0 450 = some (.aload_n 0, 0, 0, 0) := by decide +kernel
theorem e0_451 : vm_ent 0 451 = some (.iload 4, 0, 0, 0) := by decide +kernel
theorem e0_453 : vm_ent 0 453 = some (.iconst 3, 0, 0, 0) := by decide +kernel
theorem e0_454 : vm_ent 0 454 = some (.iadd, 0, 0, 0) := by decide +kernel
theorem e0_455 : vm_ent 0 455 = some (.iaload, 0, 0, 0) := by decide +kernel
theorem e0_456 : vm_ent 0 456 = some (.invokevirtual 64, 53, 4, 508) := by decide +kernel
theorem e0_459 : vm_ent 0 459 = some (.pop2, 0, 0, 0) := by decide +kernel
theorem e0_460 : vm_ent 0 460 = some (.aload_n 2, 0, 0, 0) := by decide +kernel
theorem e0_461 : vm_ent 0 461 = some (.aload_n 0, 0, 0, 0) := by decide +kernel
theorem e0_462 : vm_ent 0 462 = some (.iload 4, 0, 0, 0) := by decide +kernel
theorem e0_464 : vm_ent 0 464 = some (.iconst 1, 0, 0, 0) := by decide +kernel
theorem e0_465 : vm_ent 0 465 = some (.iadd, 0, 0, 0) := by decide +kernel
theorem e0_466 : vm_ent 0 466 = some (.iaload, 0, 0, 0) := by decide +kernel
theorem e0_467 : vm_ent 0 467 = some (.aload_n 0, 0, 0, 0) := by decide +kernel
theorem e0_468 : vm_ent 0 468 = some (.iload 4, 0, 0, 0) := by decide +kernel
theorem e0_470 : vm_ent 0 470 = some (.iconst 2, 0, 0, 0) := by decide +kernel
theorem e0_471 : vm_ent 0 471 = some (.iadd, 0, 0, 0) := by decide +kernel
theorem e0_472 : vm_ent 0 472 = some (.iaload, 0, 0, 0) := by decide +kernel
theorem e0_473 : vm_ent 0 473 = some (.aload_n 0, 0, 0, 0) := by decide +kernel
theorem e0_474 : vm_ent 0 474 = some (.iload 4, 0, 0, 0) := by decide +kernel
theorem e0_476 : vm_ent 0 476 = some (.iconst 3, 0, 0, 0) := by decide +kernel
theorem e0_477 : vm_ent 0 477 = some (.iadd, 0, 0, 0) := by decide +kernel
theorem e0_478 : vm_ent 0 478 = some (.iaload, 0, 0, 0) := by decide +kernel
theorem e0_479 : vm_ent 0 479 = some (.invokevirtual 68, 115, 4, 915) := by decide +kernel
theorem e0_482 : vm_ent 0 482 = some (.pop2, 0, 0, 0) := by decide +kernel
theorem e0_483 : vm_ent 0 483 = some (.goto 287, 770, 0, 0) := by decide +kernel
theorem e0_486 : vm_ent 0 486 = some (.aload_n 1, 0, 0, 0) := by decide +kernel
theorem e0_487 : vm_ent 0 487 = some (.aload_n 0, 0, 0, 0) := by decide +kernel
theorem e0_488 : vm_ent 0 488 = some (.iload 4, 0, 0, 0) := by decide +kernel
theorem e0_490 : vm_ent 0 490 = some (.iconst 1, 0, 0, 0) := by decide +kernel
theorem e0_491 : vm_ent 0 491 = some (.iadd, 0, 0, 0) := by decide +kernel
theorem e0_492 : vm_ent 0 492 = some (.iaload, 0, 0, 0) := by decide +kernel
theorem e0_493 : vm_ent 0 493 = some (.aload_n 0, 0, 0, 0) := by decide +kernel
theorem e0_494 : vm_ent 0 494 = some (.iload 4, 0, 0, 0) := by decide +kernel
theorem e0_496 : vm_ent 0 496 = some (.iconst 2, 0, 0, 0) := by decide +kernel
theorem e0_497 : vm_ent 0 497 = some (.iadd, 0, 0, 0) := by decide +kernel
theorem e0_498 : vm_ent 0 498 = some (.iaload, 0, 0, 0) := by decide +kernel
theorem e0_499 : vm_ent 0 499 = some (.aload_n 0, 0, 0, 0) := by decide +kernel
theorem e0_500 : vm_ent 0 500 = some (.iload 4, 0, 0, 0) := by decide +kernel
theorem e0_502 : vm_ent 0 502 = some (.iconst 3, 0, 0, 0) := by decide +kernel
theorem e0_503 : vm_ent 0 503 = some (.iadd, 0, 0, 0) := by decide +kernel
theorem e0_504 : vm_ent 0 504 = some (.iaload, 0, 0, 0) := by decide +kernel
theorem e0_505 : vm_ent 0 505 = some (.invokevirtual 69, 54, 4, 524) := by decide +kernel
theorem e0_508 : vm_ent 0 508 = some (.pop, 0, 0, 0) := by decide +kernel
theorem e0_509 : vm_ent 0 509 = some (.aload_n 2, 0, 0, 0) := by decide +kernel
theorem e0_510 : vm_ent 0 510 = some (.aload_n 0, 0, 0, 0) := by decide +kernel
theorem e0_511 : vm_ent 0 511 = some (.iload 4, 0, 0, 0) := by decide +kernel
theorem e0_513 : vm_ent 0 513 = some (.iconst 1, 0, 0, 0) := by decide +kernel
theorem e0_514 : vm_ent 0 514 = some (.iadd, 0, 0, 0) := by decide +kernel
theorem e0_515 : vm_ent 0 515 = some (.iaload, 0, 0, 0) := by decide +kernel
theorem e0_516 : vm_ent 0 516 = some (.aload_n 0, 0, 0, 0) := by decide +kernel
theorem e0_517 : vm_ent 0 517 = some (.iload 4, 0, 0, 0) := by decide +kernel
theorem e0_519 : vm_ent 0 519 = some (.iconst 2, 0, 0, 0) := by decide +kernel
theorem e0_520 : vm_ent 0 520 = some (.iadd, 0, 0, 0) := by decide +kernel
theorem e0_521 : vm_ent 0 521 = some (.iaload, 0, 0, 0) := by decide +kernel
theorem e0_522 : vm_ent 0 522 = some (.aload_n 0, 0, 0, 0) := by decide +kernel
theorem e0_523 : vm_ent 0 523 = some (.iload 4, 0, 0, 0) := by decide +kernel
theorem e0_525 : vm_ent 0 525 = some (.iconst 3, 0, 0, 0) := by decide +kernel
theorem e0_526 : vm_ent 0 526 = some (.iadd, 0, 0, 0) := by decide +kernel
theorem e0_527 : vm_ent 0 527 = some (.iaload, 0, 0, 0) := by decide +kernel
theorem e0_528 : vm_ent 0 528 = some (.invokevirtual 73, 116, 4, 923) := by decide +kernel
theorem e0_531 : vm_ent 0 531 = some (.pop, 0, 0, 0) := by decide +kernel
theorem e0_532 : vm_ent 0 532 = some (.goto 238, 770, 0, 0) := by decide +kernel
theorem e0_535 : vm_ent 0 535 = some (.aload_n 1, 0, 0, 0) := by decide +kernel
theorem e0_536 : vm_ent 0 536 = some (.aload_n 0, 0, 0, 0) := by decide +kernel
theorem e0_537 : vm_ent 0 537 = some (.iload 4, 0, 0, 0) := by decide +kernel
theorem e0_539 : vm_ent 0 539 = some (.iconst 1, 0, 0, 0) := by decide +kernel
theorem e0_540 : vm_ent 0 540 = some (.iadd, 0, 0, 0) := by decide +kernel
theorem e0_541 : vm_ent 0 541 = some (.iaload, 0, 0, 0) := by decide +kernel
theorem e0_542 : vm_ent 0 542 = some (.aload_n 0, 0, 0, 0) := by decide +kernel
theorem e0_543 : vm_ent 0 543 = some (.iload 4, 0, 0, 0) := by decide +kernel
theorem e0_545 : vm_ent 0 545 = some (.iconst 2, 0, 0, 0) := by decide +kernel
theorem e0_546 : vm_ent 0 546 = some (.iadd, 0, 0, 0) := by decide +kernel
theorem e0_547 : vm_ent 0 547 = some (.iaload, 0, 0, 0) := by decide +kernel
theorem e0_548 : vm_ent 0 548 = some (.i2l, 0, 0, 0) := by decide +kernel
theorem e0_549 : vm_ent 0 549 = some (.bipush 32, 0, 0, 0) := by decide +kernel
theorem e0_551 : vm_ent 0 551 = some (.lshl, 0, 0, 0) := by decide +kernel
theorem e0_552 : vm_ent 0 552 = some (.aload_n 0, 0, 0, 0) := by decide +kernel
theorem e0_553 : vm_ent 0 553 = some (.iload 4, 0, 0, 0) := by decide +kernel
theorem e0_555 : vm_ent 0 555 = some (.iconst 3, 0, 0, 0) := by decide +kernel
theorem e0_556 : vm_ent 0 556 = some (.iadd, 0, 0, 0) := by decide +kernel
theorem e0_557 : vm_ent 0 557 = some (.iaload, 0, 0, 0) := by decide +kernel
theorem e0_558 : vm_ent 0 558 = some (.i2l, 0, 0, 0) := by decide +kernel
theorem e0_559 : vm_ent 0 559 = some (.ldc2_w 34, 4294967295, 0, 951) := by decide +kernel
theorem e0_562 : vm_ent 0 562 = some (.land, 0, 0, 0) := by decide +kernel
theorem e0_563 : vm_ent 0 563 = some (.lor, 0, 0, 0) := by decide +kernel
theorem e0_564 : vm_ent 0 564 = some (.invokevirtual 74, 55, 4, 529) := by decide +kernel
theorem e0_567 : vm_ent 0 567 = some (.pop, 0, 0, 0) := by decide +kernel
theorem e0_568 : vm_ent 0 568 = some (.aload_n 2, 0, 0, 0) := by decide +kernel
theorem e0_569 : vm_ent 0 569 = some (.aload_n 0, 0, 0, 0) := by decide +kernel
theorem e0_570 : vm_ent 0 570 = some (.iload 4, 0, 0, 0) := by decide +kernel
theorem e0_572 : vm_ent 0 572 = some (.iconst 1, 0, 0, 0) := by decide +kernel
theorem e0_573 : vm_ent 0 573 = some (.iadd, 0, 0, 0) := by decide +kernel
theorem e0_574 : vm_ent 0 574 = some (.iaload, 0, 0, 0) := by decide +kernel
theorem e0_575 : vm_ent 0 575 = some (.aload_n 0, 0, 0, 0) := by decide +kernel
theorem e0_576 : vm_ent 0 576 = some (.iload 4, 0, 0, 0) := by decide +kernel
theorem e0_578 : vm_ent 0 578 = some (.iconst 2, 0, 0, 0) := by decide +kernel
theorem e0_579 : vm_ent 0 579 = some (.iadd, 0, 0, 0) := by decide +kernel
theorem e0_580 : vm_ent 0 580 = some (.iaload, 0, 0, 0) := by decide +kernel
theorem e0_581 : vm_ent 0 581 = some (.i2l, 0, 0, 0) := by decide +kernel
theorem e0_582 : vm_ent 0 582 = some (.bipush 32, 0, 0, 0) := by decide +kernel
theorem e0_584 : vm_ent 0 584 = some (.lshl, 0, 0, 0) := by decide +kernel
theorem e0_585 : vm_ent 0 585 = some (.aload_n 0, 0, 0, 0) := by decide +kernel
theorem e0_586 : vm_ent 0 586 = some (.iload 4, 0, 0, 0) := by decide +kernel
theorem e0_588 : vm_ent 0 588 = some (.iconst 3, 0, 0, 0) := by decide +kernel
theorem e0_589 : vm_ent 0 589 = some (.iadd, 0, 0, 0) := by decide +kernel
theorem e0_590 : vm_ent 0 590 = some (.iaload, 0, 0, 0) := by decide +kernel
theorem e0_591 : vm_ent 0 591 = some (.i2l, 0, 0, 0) := by decide +kernel
theorem e0_592 : vm_ent 0 592 = some (.ldc2_w 34, 4294967295, 0, 951) := by decide +kernel
theorem e0_595 : vm_ent 0 595 = some (.land, 0, 0, 0) := by decide +kernel
theorem e0_596 : vm_ent 0 596 = some (.lor, 0, 0, 0) := by decide +kernel
theorem e0_597 : vm_ent 0 597 = some (.invokevirtual 78, 117, 4, 927) := by decide +kernel
theorem e0_600 : vm_ent 0 600 = some (.pop, 0, 0, 0) := by decide +kernel
theorem e0_601 : vm_ent 0 601 = some (.goto 169, 770, 0, 0) := by decide +kernel
theorem e0_604 : vm_ent 0 604 = some (.aload_n 1, 0, 0, 0) := by decide +kernel
theorem e0_605 : vm_ent 0 605 = some (.aload_n 0, 0, 0, 0) := by decide +kernel
theorem e0_606 : vm_ent 0 606 = some (.iload 4, 0, 0, 0) := by decide +kernel
theorem e0_608 : vm_ent 0 608 = some (.iconst 1, 0, 0, 0) := by decide +kernel
theorem e0_609 : vm_ent 0 609 = some (.iadd, 0, 0, 0) := by decide +kernel
theorem e0_610 : vm_ent 0 610 = some (.iaload, 0, 0, 0) := by decide +kernel
theorem e0_611 : vm_ent 0 611 = some (.aload_n 0, 0, 0, 0) := by decide +kernel
theorem e0_612 : vm_ent 0 612 = some (.iload 4, 0, 0, 0) := by decide +kernel
theorem e0_614 : vm_ent 0 614 = some (.iconst 2, 0, 0, 0) := by decide +kernel
theorem e0_615 : vm_ent 0 615 = some (.iadd, 0, 0, 0) := by decide +kernel
theorem e0_616 : vm_ent 0 616 = some (.iaload, 0, 0, 0) := by decide +kernel
theorem e0_617 : vm_ent 0 617 = some (.invokevirtual 79, 56, 4, 533) := by decide +kernel
theorem e0_620 : vm_ent 0 620 = some (.pop2, 0, 0, 0) := by decide +kernel
theorem e0_621 : vm_ent 0 621 = some (.aload_n 2, 0, 0, 0) := by decide +kernel
theorem e0_622 : vm_ent 0 622 = some (.aload_n 0, 0, 0, 0) := by decide +kernel
theorem e0_623 : vm_ent 0 623 = some (.iload 4, 0, 0, 0) := by decide +kernel
theorem e0_625 : vm_ent 0 625 = some (.iconst 1, 0, 0, 0) := by decide +kernel
theorem e0_626 : vm_ent 0 626 = some (.iadd, 0, 0, 0) := by decide +kernel
theorem e0_627 : vm_ent 0 627 = some (.iaload, 0, 0, 0) := by decide +kernel
theorem e0_628 : vm_ent 0 628 = some (.aload_n 0, 0, 0, 0) := by decide +kernel
theorem e0_629 : vm_ent 0 629 = some (.iload 4, 0, 0, 0) := by decide +kernel
theorem e0_631 : vm_ent 0 631 = some (.iconst 2, 0, 0, 0) := by decide +kernel
theorem e0_632 : vm_ent 0 632 = some (.iadd, 0, 0, 0) := by decide +kernel
theorem e0_633 : vm_ent 0 633 = some (.iaload, 0, 0, 0) := by decide +kernel
theorem e0_634 : vm_ent 0 634 = some (.invokevirtual 83, 120, 4, 931) := by decide +kernel
theorem e0_637 : vm_ent 0 637 = some (.pop2, 0, 0, 0) := by decide +kernel
theorem e0_638 : vm_ent 0 638 = some (.goto 132, 770, 0, 0) := by decide +kernel
theorem e0_641 : vm_ent 0 641 = some (.aload_n 1, 0, 0, 0) := by decide +kernel
theorem e0_642 : vm_ent 0 642 = some (.aload_n 0, 0, 0, 0) := by decide +kernel
theorem e0_643 : vm_ent 0 643 = some (.iload 4, 0, 0, 0) := by decide +kernel
theorem e0_645 : vm_ent 0 645 = some (.iconst 1, 0, 0, 0) := by decide +kernel
theorem e0_646 : vm_ent 0 646 = some (.iadd, 0, 0, 0) := by decide +kernel
theorem e0_647 : vm_ent 0 647 = some (.iaload, 0, 0, 0) := by decide +kernel
theorem e0_648 : vm_ent 0 648 = some (.invokevirtual 84, 57, 4, 545) := by decide +kernel
theorem e0_651 : vm_ent 0 651 = some (.pop2, 0, 0, 0) := by decide +kernel
theorem e0_652 : vm_ent 0 652 = some (.aload_n 2, 0, 0, 0) := by decide +kernel
theorem e0_653 : vm_ent 0 653 = some (.aload_n 0, 0, 0, 0) := by decide +kernel
theorem e0_654 : vm_ent 0 654 = some (.iload 4, 0, 0, 0) := by decide +kernel
theorem e0_656 : vm_ent 0 656 = some (.iconst 1, 0, 0, 0) := by decide +kernel
theorem e0_657 : vm_ent 0 657 = some (.iadd, 0, 0, 0) := by decide +kernel
theorem e0_658 : vm_ent 0 658 = some (.iaload, 0, 0, 0) := by decide +kernel
theorem e0_659 : vm_ent 0 659 = some (.invokevirtual 88, 121, 4, 943) := by decide +kernel
theorem e0_662 : vm_ent 0 662 = some (.pop2, 0, 0, 0) := by decide +kernel
theorem e0_663 : vm_ent 0 663 = some (.goto 107, 770, 0, 0) := by decide +kernel
theorem e0_666 : vm_ent 0 666 = some (.aload_n 1, 0, 0, 0) := by decide +kernel
theorem e0_667 : vm_ent 0 667 = some (.aload_n 0, 0, 0, 0) := by decide +kernel
theorem e0_668 : vm_ent 0 668 = some (.iload 4, 0, 0, 0) := by decide +kernel
theorem e0_670 : vm_ent 0 670 = some (.iconst 1, 0, 0, 0) := by decide +kernel
theorem e0_671 : vm_ent 0 671 = some (.iadd, 0, 0, 0) := by decide +kernel
theorem e0_672 : vm_ent 0 672 = some (.iaload, 0, 0, 0) := by decide +kernel
theorem e0_673 : vm_ent 0 673 = some (.i2l, 0, 0, 0) := by decide +kernel
theorem e0_674 : vm_ent 0 674 = some (.bipush 32, 0, 0, 0) := by decide +kernel
theorem e0_676 : vm_ent 0 676 = some (.lshl, 0, 0, 0) := by decide +kernel
theorem e0_677 : vm_ent 0 677 = some (.aload_n 0, 0, 0, 0) := by decide +kernel
theorem e0_678 : vm_ent 0 678 = some (.iload 4, 0, 0, 0) := by decide +kernel
theorem e0_680 : vm_ent 0 680 = some (.iconst 2, 0, 0, 0) := by decide +kernel
theorem e0_681 : vm_ent 0 681 = some (.iadd, 0, 0, 0) := by decide +kernel
theorem e0_682 : vm_ent 0 682 = some (.iaload, 0, 0, 0) := by decide +kernel
theorem e0_683 : vm_ent 0 683 = some (.i2l, 0, 0, 0) := by decide +kernel
theorem e0_684 : vm_ent 0 684 = some (.ldc2_w 34, 4294967295, 0, 951) := by decide +kernel
theorem e0_687 : vm_ent 0 687 = some (.land, 0, 0, 0) := by decide +kernel
theorem e0_688 : vm_ent 0 688 = some (.lor, 0, 0, 0) := by decide +kernel
theorem e0_689 : vm_ent 0 689 = some (.aload_n 0, 0, 0, 0) := by decide +kernel
theorem e0_690 : vm_ent 0 690 = some (.iload 4, 0, 0, 0) := by decide +kernel
theorem e0_692 : vm_ent 0 692 = some (.iconst 3, 0, 0, 0) := by decide +kernel
theorem e0_693 : vm_ent 0 693 = some (.iadd, 0, 0, 0) := by decide +kernel
theorem e0_694 : vm_ent 0 694 = some (.iaload, 0, 0, 0) := by decide +kernel
theorem e0_695 : vm_ent 0 695 = some (.i2l, 0, 0, 0) := by decide +kernel
theorem e0_696 : vm_ent 0 696 = some (.bipush 32, 0, 0, 0) := by decide +kernel
theorem e0_698 : vm_ent 0 698 = some (.lshl, 0, 0, 0) := by decide +kernel
theorem e0_699 : vm_ent 0 699 = some (.aload_n 0, 0, 0, 0) := by decide +kernel
theorem e0_700 : vm_ent 0 700 = some (.iload 4, 0, 0, 0) := by decide +kernel
theorem e0_702 : vm_ent 0 702 = some (.iconst 4, 0, 0, 0) := by decide +kernel
theorem e0_703 : vm_ent 0 703 = some (.iadd, 0, 0, 0) := by decide +kernel
theorem e0_704 : vm_ent 0 704 = some (.iaload, 0, 0, 0) := by decide +kernel
theorem e0_705 : vm_ent 0 705 = some (.i2l, 0, 0, 0) := by decide +kernel
theorem e0_706 : vm_ent 0 706 = some (.ldc2_w 34, 4294967295, 0, 951) := by decide +kernel
theorem e0_709 : vm_ent 0 709 = some (.land, 0, 0, 0) := by decide +kernel
theorem e0_710 : vm_ent 0 710 = some (.lor, 0, 0, 0) := by decide +kernel
theorem e0_711 : vm_ent 0 711 = some (.aload_n 3, 0, 0, 0) := by decide +kernel
theorem e0_712 : vm_ent 0 712 = some (.invokestatic 89, 124, 2, 554) := by decide +kernel
theorem e0_715 : vm_ent 0 715 = some (.istore 5, 0, 0, 0) := by decide +kernel
theorem e0_717 : vm_ent 0 717 = some (.aload_n 2, 0, 0, 0) := by decide +kernel
theorem e0_718 : vm_ent 0 718 = some (.aload_n 0, 0, 0, 0) := by decide +kernel
theorem e0_719 : vm_ent 0 719 = some (.iload 4, 0, 0, 0) := by decide +kernel
theorem e0_721 : vm_ent 0 721 = some (.iconst 1, 0, 0, 0) := by decide +kernel
theorem e0_722 : vm_ent 0 722 = some (.iadd, 0, 0, 0) := by decide +kernel
theorem e0_723 : vm_ent 0 723 = some (.iaload, 0, 0, 0) := by decide +kernel
theorem e0_724 : vm_ent 0 724 = some (.i2l, 0, 0, 0) := by decide +kernel
theorem e0_725 : vm_ent 0 725 = some (.bipush 32, 0, 0, 0) := by decide +kernel
theorem e0_727 : vm_ent 0 727 = some (.lshl, 0, 0, 0) := by decide +kernel
theorem e0_728 : vm_ent 0 728 = some (.aload_n 0, 0, 0, 0) := by decide +kernel
theorem e0_729 : vm_ent 0 729 = some (.iload 4, 0, 0, 0) := by decide +kernel
theorem e0_731 : vm_ent 0 731 = some (.iconst 2, 0, 0, 0) := by decide +kernel
theorem e0_732 : vm_ent 0 732 = some (.iadd, 0, 0, 0) := by decide +kernel
theorem e0_733 : vm_ent 0 733 = some (.iaload, 0, 0, 0) := by decide +kernel
theorem e0_734 : vm_ent 0 734 = some (.i2l, 0, 0, 0) := by decide +kernel
theorem e0_735 : vm_ent 0 735 = some (.ldc2_w 34, 4294967295, 0, 951) := by decide +kernel
theorem e0_738 : vm_ent 0 738 = some (.land, 0, 0, 0) := by decide +kernel
theorem e0_739 : vm_ent 0 739 = some (.lor, 0, 0, 0) := by decide +kernel
theorem e0_740 : vm_ent 0 740 = some (.aload_n 0, 0, 0, 0) := by decide +kernel
theorem e0_741 : vm_ent 0 741 = some (.iload 4, 0, 0, 0) := by decide +kernel
theorem e0_743 : vm_ent 0 743 = some (.iconst 3, 0, 0, 0) := by decide +kernel
theorem e0_744 : vm_ent 0 744 = some (.iadd, 0, 0, 0) := by decide +kernel
theorem e0_745 : vm_ent 0 745 = some (.iaload, 0, 0, 0) := by decide +kernel
theorem e0_746 : vm_ent 0 746 = some (.i2l, 0, 0, 0) := by decide +kernel
theorem e0_747 : vm_ent 0 747 = some (.bipush 32, 0, 0, 0) := by decide +kernel
theorem e0_749 : vm_ent 0 749 = some (.lshl, 0, 0, 0) := by decide +kernel
theorem e0_750 : vm_ent 0 750 = some (.aload_n 0, 0, 0, 0) := by decide +kernel
theorem e0_751 : vm_ent 0 751 = some (.iload 4, 0, 0, 0) := by decide +kernel
theorem e0_753 : vm_ent 0 753 = some (.iconst 4, 0, 0, 0) := by decide +kernel
theorem e0_754 : vm_ent 0 754 = some (.iadd, 0, 0, 0) := by decide +kernel
theorem e0_755 : vm_ent 0 755 = some (.iaload, 0, 0, 0) := by decide +kernel
theorem e0_756 : vm_ent 0 756 = some (.i2l, 0, 0, 0) := by decide +kernel
theorem e0_757 : vm_ent 0 757 = some (.ldc2_w 34, 4294967295, 0, 951) := by decide +kernel
theorem e0_760 : vm_ent 0 760 = some (.land, 0, 0, 0) := by decide +kernel
theorem e0_761 : vm_ent 0 761 = some (.lor, 0, 0, 0) := by decide +kernel
theorem e0_762 : vm_ent 0 762 = some (.invokevirtual 94, 122, 4, 947) := by decide +kernel
theorem e0_765 : vm_ent 0 765 = some (.lstore 6, 0, 0, 0) := by decide +kernel
theorem e0_767 : vm_ent 0 767 = some (.goto 3, 770, 0, 0) := by decide +kernel
theorem e0_770 : vm_ent 0 770 = some (.iinc 4 5, 0, 0, 0) := by decide +kernel
theorem e0_773 : vm_ent 0 773 = some (.goto (-750), 23, 0, 0) := by decide +kernel
theorem e0_776 : vm_ent 0 776 = some (.iconst 1, 0, 0, 0) := by decide +kernel
theorem e0_777 : vm_ent 0 777 = some (.ireturn, 0, 0, 0) := by decide +kernel
def laL (u v : Int32) : Int64 := (u.toInt64 <<< ((vz 32).toInt64 &&& 63)) ||| (v.toInt64 &&& Int64.ofNat 4294967295)
abbrev lwA (x : Int) : vq_A := [some (.ref 0), some (.ref 1), some (.ref 238), some (.ref 263), some (.int (vz x)), none, none, none]
/-- what a turn comes to: the end; the next turn; the call of pseudo -/
def lwQ (L : Nat) (xs : Nat → Int32) (x : Int) : vq_Q := fun pc ls st v1 => pc = 23 ∧ st = [] ∧ vq_ag (lwA (x + 5)) ls ∧ (x + 5 ≤ (L : Int)) ∧ ∃ (n p t : Int) (g : Int64), lI L xs v1 n p n p t g
def lwP (L : Nat) (xs : Nat → Int32) (x : Int) : vq_Q := fun pc ls st v1 => (pc = 777 ∧ st = [.int (vz 1)]) ∨ lwQ L xs x pc ls st v1 ∨ (pc = 712 ∧ st = [.ref 263, .long (laL (xs (x + 3).toNat) (xs (x + 4).toNat)), .long (laL (xs (x + 1).toNat) (xs (x + 2).toNat)), .ref 1] ∧ vq_ag (lwA x) ls ∧ (x + 5 ≤ (L : Int)) ∧ ∃ (n p t : Int) (g : Int64), lI L xs v1 n p n p t g)

set_option maxRecDepth 100000 in
set_option maxHeartbeats 8000000 in
theorem lw_turn {L : Nat} {xs : Nat → Int32} {vh : vm_H} {n p t : Int} {g : Int64} {x4 : Int} (hL : lI L xs vh n p n p t g) (h0 : 0 ≤ x4) (hx : x4 ≤ (L : Int)) (hl : L ≤ 2560) : vm_Wp 9 400 0 23 (lwA x4) [] vh (lwP L xs x4) := by
  have hbd := lI_b hL
  refine w_ldI e0_23 (fun _ => rfl) rfl ?_
  refine w_ldA e0_25 (fun _ => rfl) rfl ?_
  refine w_len e0_26 (lI_0 hL) (by decide) ?_
  refine w_kI e0_27 ?_
  refine w_isub e0_28 ?_
  refine w_ic e0_29 (by omega) (by omega) (fun (h1 : ((L : Int)) - 5 < x4) => ?_) (fun (h1 : x4 ≤ ((L : Int)) - 5) => ?_)
  ·
    refine w_kI e0_776 ?_
    exact w_end (fun ls hl => Or.inl ⟨rfl, rfl⟩)
  ·
    refine w_ldA e0_32 (fun _ => rfl) rfl ?_
    refine w_ldI e0_33 (fun _ => rfl) rfl ?_
    refine w_aldO e0_35 (lI_0 hL) (by omega) (by omega) (by omega) (fun q2 h3 hx4 => ?_)
    refine w_kB e0_36 rfl ?_
    refine w_iand e0_38 h3 (by omega) (fun q5 (h6 : 0 ≤ q5 ∧ q5 ≤ 15) => ?_)
    by_cases h7 : q5 < 0 ∨ 14 < q5
    ·
      refine w_swO (t := 770) e0_39 (by omega) h7 rfl ?_
      refine w_iinc (A1 := [some (.ref 0), some (.ref 1), some (.ref 238), some (.ref 263), some (.int (vz (x4 + 5))), none, none, none]) e0_770 rfl (by decide) rfl ?_
      refine w_x e0_773 (fun _ => rfl) ?_
      have hnp8 : n = n ∧ p = p := by omega
      exact w_sub (A1 := [some (.ref 0), some (.ref 1), some (.ref 238), some (.ref 263), some (.int (vz (x4 + 5))), none, none, none]) (And.intro rfl (And.intro rfl (And.intro rfl (And.intro rfl (And.intro rfl trivial))))) (w_end (fun ls hl => Or.inr (Or.inl ⟨rfl, rfl, hl, by omega, _, _, _, _, hL⟩)))
    ·
      have h9 : q5 = 0 ∨ q5 = 1 ∨ q5 = 2 ∨ q5 = 3 ∨ q5 = 4 ∨ q5 = 5 ∨ q5 = 6 ∨ q5 = 7 ∨ q5 = 8 ∨ q5 = 9 ∨ q5 = 10 ∨ q5 = 11 ∨ q5 = 12 ∨ q5 = 13 ∨ q5 = 14 := by omega
      rcases h9 with h9 | h9 | h9 | h9 | h9 | h9 | h9 | h9 | h9 | h9 | h9 | h9 | h9 | h9 | h9
      ·
        refine w_swI (t := 112) e0_39 (by omega) h7 (by rw [h9]; rfl) rfl ?_
        refine w_ldA e0_112 (fun _ => rfl) rfl ?_
        refine w_ldA e0_113 (fun _ => rfl) rfl ?_
        refine w_ldI e0_114 (fun _ => rfl) rfl ?_
        refine w_kI e0_116 ?_
        refine w_iadd e0_117 ?_
        refine w_aldO e0_118 (lI_0 hL) (by omega) (by omega) (by omega) (fun q10 h11 hx12 => ?_)
        refine w_if e0_119 h11 (fun (h13 : q10 = 0) => ?_) (fun (h13 : q10 ≠ 0) => ?_)
        ·
          refine w_kI e0_126 ?_
          obtain ⟨fs14, e15⟩ := lI_1 hL
          refine w_cv e0_127 (by decide) rfl e15 rfl (Nat.le_of_ble_eq_true rfl) (Nat.le_of_ble_eq_true rfl) (Nat.le_of_ble_eq_true rfl) (by decide) (by decide) (x44 hL (by omega)) (fun o16 v17 hq18 => ?_)
          obtain ⟨⟨n19, p20, hr22, hL23⟩, q24, h25, rfl⟩ := hq18
          refine w_x e0_130 (fun _ => rfl) ?_
          refine w_ldA e0_131 (fun _ => rfl) rfl ?_
          refine w_ldA e0_132 (fun _ => rfl) rfl ?_
          refine w_ldI e0_133 (fun _ => rfl) rfl ?_
          refine w_kI e0_135 ?_
          refine w_iadd e0_136 ?_
          refine w_aldO e0_137 (lI_0 hL23) (by omega) (by omega) (by omega) (fun q26 h27 hx28 => ?_)
          have hqq29 : q26 = q10 := (vz_inj h27 h11).mp (hx28.symm.trans hx12)
          refine w_if e0_138 h27 (fun (h30 : q26 = 0) => ?_) (fun (h30 : q26 ≠ 0) => ?_)
          ·
            refine w_kI e0_145 ?_
            obtain ⟨fs31, e32⟩ := lI_238 hL23
            refine w_cv e0_146 (by decide) rfl e32 rfl (Nat.le_of_ble_eq_true rfl) (Nat.le_of_ble_eq_true rfl) (Nat.le_of_ble_eq_true rfl) (by decide) (by decide) (y105 hL23 (by omega)) (fun o33 v34 hq35 => ?_)
            obtain ⟨⟨n36, p37, t38, hr39, hL40⟩, q41, h42, rfl⟩ := hq35
            refine w_x e0_149 (fun _ => rfl) ?_
            refine w_x e0_150 (fun _ => rfl) ?_
            refine w_iinc (A1 := [some (.ref 0), some (.ref 1), some (.ref 238), some (.ref 263), some (.int (vz (x4 + 5))), none, none, none]) e0_770 rfl (by decide) rfl ?_
            refine w_x e0_773 (fun _ => rfl) ?_
            have hnp43 : n36 = n19 ∧ p37 = p20 := by omega
            rw [hnp43.1, hnp43.2] at hL40
            exact w_sub (A1 := [some (.ref 0), some (.ref 1), some (.ref 238), some (.ref 263), some (.int (vz (x4 + 5))), none, none, none]) (And.intro rfl (And.intro rfl (And.intro rfl (And.intro rfl (And.intro rfl trivial))))) (w_end (fun ls hl => Or.inr (Or.inl ⟨rfl, rfl, hl, by omega, _, _, _, _, hL40⟩)))
          ·
            refine w_kI e0_141 ?_
            refine w_x e0_142 (fun _ => rfl) ?_
            obtain ⟨fs44, e45⟩ := lI_238 hL23
            refine w_cv e0_146 (by decide) rfl e45 rfl (Nat.le_of_ble_eq_true rfl) (Nat.le_of_ble_eq_true rfl) (Nat.le_of_ble_eq_true rfl) (by decide) (by decide) (y105 hL23 (by omega)) (fun o46 v47 hq48 => ?_)
            obtain ⟨⟨n49, p50, t51, hr52, hL53⟩, q54, h55, rfl⟩ := hq48
            refine w_x e0_149 (fun _ => rfl) ?_
            refine w_x e0_150 (fun _ => rfl) ?_
            refine w_iinc (A1 := [some (.ref 0), some (.ref 1), some (.ref 238), some (.ref 263), some (.int (vz (x4 + 5))), none, none, none]) e0_770 rfl (by decide) rfl ?_
            refine w_x e0_773 (fun _ => rfl) ?_
            have hnp56 : n49 = n19 ∧ p50 = p20 := by omega
            rw [hnp56.1, hnp56.2] at hL53
            exact w_sub (A1 := [some (.ref 0), some (.ref 1), some (.ref 238), some (.ref 263), some (.int (vz (x4 + 5))), none, none, none]) (And.intro rfl (And.intro rfl (And.intro rfl (And.intro rfl (And.intro rfl trivial))))) (w_end (fun ls hl => Or.inr (Or.inl ⟨rfl, rfl, hl, by omega, _, _, _, _, hL53⟩)))
        ·
          refine w_kI e0_122 ?_
          refine w_x e0_123 (fun _ => rfl) ?_
          obtain ⟨fs57, e58⟩ := lI_1 hL
          refine w_cv e0_127 (by decide) rfl e58 rfl (Nat.le_of_ble_eq_true rfl) (Nat.le_of_ble_eq_true rfl) (Nat.le_of_ble_eq_true rfl) (by decide) (by decide) (x44 hL (by omega)) (fun o59 v60 hq61 => ?_)
          obtain ⟨⟨n62, p63, hr65, hL66⟩, q67, h68, rfl⟩ := hq61
          refine w_x e0_130 (fun _ => rfl) ?_
          refine w_ldA e0_131 (fun _ => rfl) rfl ?_
          refine w_ldA e0_132 (fun _ => rfl) rfl ?_
          refine w_ldI e0_133 (fun _ => rfl) rfl ?_
          refine w_kI e0_135 ?_
          refine w_iadd e0_136 ?_
          refine w_aldO e0_137 (lI_0 hL66) (by omega) (by omega) (by omega) (fun q69 h70 hx71 => ?_)
          have hqq72 : q69 = q10 := (vz_inj h70 h11).mp (hx71.symm.trans hx12)
          refine w_if e0_138 h70 (fun (h73 : q69 = 0) => ?_) (fun (h73 : q69 ≠ 0) => ?_)
          ·
            refine w_kI e0_145 ?_
            obtain ⟨fs74, e75⟩ := lI_238 hL66
            refine w_cv e0_146 (by decide) rfl e75 rfl (Nat.le_of_ble_eq_true rfl) (Nat.le_of_ble_eq_true rfl) (Nat.le_of_ble_eq_true rfl) (by decide) (by decide) (y105 hL66 (by omega)) (fun o76 v77 hq78 => ?_)
            obtain ⟨⟨n79, p80, t81, hr82, hL83⟩, q84, h85, rfl⟩ := hq78
            refine w_x e0_149 (fun _ => rfl) ?_
            refine w_x e0_150 (fun _ => rfl) ?_
            refine w_iinc (A1 := [some (.ref 0), some (.ref 1), some (.ref 238), some (.ref 263), some (.int (vz (x4 + 5))), none, none, none]) e0_770 rfl (by decide) rfl ?_
            refine w_x e0_773 (fun _ => rfl) ?_
            have hnp86 : n79 = n62 ∧ p80 = p63 := by omega
            rw [hnp86.1, hnp86.2] at hL83
            exact w_sub (A1 := [some (.ref 0), some (.ref 1), some (.ref 238), some (.ref 263), some (.int (vz (x4 + 5))), none, none, none]) (And.intro rfl (And.intro rfl (And.intro rfl (And.intro rfl (And.intro rfl trivial))))) (w_end (fun ls hl => Or.inr (Or.inl ⟨rfl, rfl, hl, by omega, _, _, _, _, hL83⟩)))
          ·
            refine w_kI e0_141 ?_
            refine w_x e0_142 (fun _ => rfl) ?_
            obtain ⟨fs87, e88⟩ := lI_238 hL66
            refine w_cv e0_146 (by decide) rfl e88 rfl (Nat.le_of_ble_eq_true rfl) (Nat.le_of_ble_eq_true rfl) (Nat.le_of_ble_eq_true rfl) (by decide) (by decide) (y105 hL66 (by omega)) (fun o89 v90 hq91 => ?_)
            obtain ⟨⟨n92, p93, t94, hr95, hL96⟩, q97, h98, rfl⟩ := hq91
            refine w_x e0_149 (fun _ => rfl) ?_
            refine w_x e0_150 (fun _ => rfl) ?_
            refine w_iinc (A1 := [some (.ref 0), some (.ref 1), some (.ref 238), some (.ref 263), some (.int (vz (x4 + 5))), none, none, none]) e0_770 rfl (by decide) rfl ?_
            refine w_x e0_773 (fun _ => rfl) ?_
            have hnp99 : n92 = n62 ∧ p93 = p63 := by omega
            rw [hnp99.1, hnp99.2] at hL96
            exact w_sub (A1 := [some (.ref 0), some (.ref 1), some (.ref 238), some (.ref 263), some (.int (vz (x4 + 5))), none, none, none]) (And.intro rfl (And.intro rfl (And.intro rfl (And.intro rfl (And.intro rfl trivial))))) (w_end (fun ls hl => Or.inr (Or.inl ⟨rfl, rfl, hl, by omega, _, _, _, _, hL96⟩)))
      ·
        refine w_swI (t := 153) e0_39 (by omega) h7 (by rw [h9]; rfl) rfl ?_
        refine w_ldA e0_153 (fun _ => rfl) rfl ?_
        refine w_ldA e0_154 (fun _ => rfl) rfl ?_
        refine w_ldI e0_155 (fun _ => rfl) rfl ?_
        refine w_kI e0_157 ?_
        refine w_iadd e0_158 ?_
        refine w_aldO e0_159 (lI_0 hL) (by omega) (by omega) (by omega) (fun q100 h101 hx102 => ?_)
        refine w_ldA e0_160 (fun _ => rfl) rfl ?_
        refine w_ldI e0_161 (fun _ => rfl) rfl ?_
        refine w_kI e0_163 ?_
        refine w_iadd e0_164 ?_
        refine w_aldO e0_165 (lI_0 hL) (by omega) (by omega) (by omega) (fun q103 h104 hx105 => ?_)
        obtain ⟨fs106, e107⟩ := lI_1 hL
        refine w_cv e0_166 (by decide) rfl e107 rfl (Nat.le_of_ble_eq_true rfl) (Nat.le_of_ble_eq_true rfl) (Nat.le_of_ble_eq_true rfl) (by decide) (by decide) (x45 hL h101 h104) (fun o108 v109 hq110 => ?_)
        obtain ⟨⟨n111, p112, hr114, hL115⟩, q116, h117, rfl⟩ := hq110
        refine w_x e0_169 (fun _ => rfl) ?_
        refine w_ldA e0_170 (fun _ => rfl) rfl ?_
        refine w_ldA e0_171 (fun _ => rfl) rfl ?_
        refine w_ldI e0_172 (fun _ => rfl) rfl ?_
        refine w_kI e0_174 ?_
        refine w_iadd e0_175 ?_
        refine w_aldO e0_176 (lI_0 hL115) (by omega) (by omega) (by omega) (fun q118 h119 hx120 => ?_)
        have hqq121 : q118 = q100 := (vz_inj h119 h101).mp (hx120.symm.trans hx102)
        refine w_ldA e0_177 (fun _ => rfl) rfl ?_
        refine w_ldI e0_178 (fun _ => rfl) rfl ?_
        refine w_kI e0_180 ?_
        refine w_iadd e0_181 ?_
        refine w_aldO e0_182 (lI_0 hL115) (by omega) (by omega) (by omega) (fun q122 h123 hx124 => ?_)
        have hqq125 : q122 = q103 := (vz_inj h123 h104).mp (hx124.symm.trans hx105)
        obtain ⟨fs126, e127⟩ := lI_238 hL115
        refine w_cv e0_183 (by decide) rfl e127 rfl (Nat.le_of_ble_eq_true rfl) (Nat.le_of_ble_eq_true rfl) (Nat.le_of_ble_eq_true rfl) (by decide) (by decide) (y106 hL115 h119 h123) (fun o128 v129 hq130 => ?_)
        obtain ⟨⟨n131, p132, t133, hr134, hL135⟩, q136, h137, rfl⟩ := hq130
        refine w_x e0_186 (fun _ => rfl) ?_
        refine w_x e0_187 (fun _ => rfl) ?_
        refine w_iinc (A1 := [some (.ref 0), some (.ref 1), some (.ref 238), some (.ref 263), some (.int (vz (x4 + 5))), none, none, none]) e0_770 rfl (by decide) rfl ?_
        refine w_x e0_773 (fun _ => rfl) ?_
        have hnp138 : n131 = n111 ∧ p132 = p112 := by omega
        rw [hnp138.1, hnp138.2] at hL135
        exact w_sub (A1 := [some (.ref 0), some (.ref 1), some (.ref 238), some (.ref 263), some (.int (vz (x4 + 5))), none, none, none]) (And.intro rfl (And.intro rfl (And.intro rfl (And.intro rfl (And.intro rfl trivial))))) (w_end (fun ls hl => Or.inr (Or.inl ⟨rfl, rfl, hl, by omega, _, _, _, _, hL135⟩)))
      ·
        refine w_swI (t := 190) e0_39 (by omega) h7 (by rw [h9]; rfl) rfl ?_
        refine w_ldA e0_190 (fun _ => rfl) rfl ?_
        obtain ⟨fs139, e140⟩ := lI_1 hL
        refine w_cv e0_191 (by decide) rfl e140 rfl (Nat.le_of_ble_eq_true rfl) (Nat.le_of_ble_eq_true rfl) (Nat.le_of_ble_eq_true rfl) (by decide) (by decide) (x46 hL) (fun o141 v142 hq143 => ?_)
        obtain ⟨⟨n144, p145, hr147, hL148⟩, q149, h150, rfl⟩ := hq143
        refine w_ldA e0_194 (fun _ => rfl) rfl ?_
        obtain ⟨fs151, e152⟩ := lI_238 hL148
        refine w_cv e0_195 (by decide) rfl e152 rfl (Nat.le_of_ble_eq_true rfl) (Nat.le_of_ble_eq_true rfl) (Nat.le_of_ble_eq_true rfl) (by decide) (by decide) (y107 hL148) (fun o153 v154 hq155 => ?_)
        obtain ⟨⟨n156, p157, t158, hr159, hL160⟩, q161, h162, rfl⟩ := hq155
        refine w_ic e0_198 (by omega) (by omega) (fun (h163 : q149 = q161) => ?_) (fun (h163 : q149 ≠ q161) => ?_)
        ·
          refine w_iinc (A1 := [some (.ref 0), some (.ref 1), some (.ref 238), some (.ref 263), some (.int (vz (x4 + 5))), none, none, none]) e0_770 rfl (by decide) rfl ?_
          refine w_x e0_773 (fun _ => rfl) ?_
          have hnp164 : n156 = n144 ∧ p157 = p145 := by omega
          rw [hnp164.1, hnp164.2] at hL160
          exact w_sub (A1 := [some (.ref 0), some (.ref 1), some (.ref 238), some (.ref 263), some (.int (vz (x4 + 5))), none, none, none]) (And.intro rfl (And.intro rfl (And.intro rfl (And.intro rfl (And.intro rfl trivial))))) (w_end (fun ls hl => Or.inr (Or.inl ⟨rfl, rfl, hl, by omega, _, _, _, _, hL160⟩)))
        ·
          refine w_kI e0_201 ?_
          exfalso; omega
      ·
        refine w_swI (t := 203) e0_39 (by omega) h7 (by rw [h9]; rfl) rfl ?_
        refine w_ldA e0_203 (fun _ => rfl) rfl ?_
        refine w_ldA e0_204 (fun _ => rfl) rfl ?_
        refine w_ldI e0_205 (fun _ => rfl) rfl ?_
        refine w_kI e0_207 ?_
        refine w_iadd e0_208 ?_
        refine w_aldO e0_209 (lI_0 hL) (by omega) (by omega) (by omega) (fun q165 h166 hx167 => ?_)
        refine w_ldA e0_210 (fun _ => rfl) rfl ?_
        refine w_ldI e0_211 (fun _ => rfl) rfl ?_
        refine w_kI e0_213 ?_
        refine w_iadd e0_214 ?_
        refine w_aldO e0_215 (lI_0 hL) (by omega) (by omega) (by omega) (fun q168 h169 hx170 => ?_)
        refine w_oL e0_216 (fun _ => rfl) (fun l171 => ?_)
        refine w_kB e0_217 rfl ?_
        refine w_oL e0_219 (fun _ => rfl) (fun l172 => ?_)
        refine w_ldA e0_220 (fun _ => rfl) rfl ?_
        refine w_ldI e0_221 (fun _ => rfl) rfl ?_
        refine w_kI e0_223 ?_
        refine w_iadd e0_224 ?_
        refine w_aldO e0_225 (lI_0 hL) (by omega) (by omega) (by omega) (fun q173 h174 hx175 => ?_)
        refine w_oL e0_226 (fun _ => rfl) (fun l176 => ?_)
        refine w_oL e0_227 (fun _ => rfl) (fun l177 => ?_)
        refine w_oL e0_230 (fun _ => rfl) (fun l178 => ?_)
        refine w_oL e0_231 (fun _ => rfl) (fun l179 => ?_)
        refine w_ldA e0_232 (fun _ => rfl) rfl ?_
        refine w_ldI e0_233 (fun _ => rfl) rfl ?_
        refine w_kI e0_235 ?_
        refine w_iadd e0_236 ?_
        refine w_aldO e0_237 (lI_0 hL) (by omega) (by omega) (by omega) (fun q180 h181 hx182 => ?_)
        obtain ⟨fs183, e184⟩ := lI_1 hL
        refine w_cv e0_238 (by decide) rfl e184 rfl (Nat.le_of_ble_eq_true rfl) (Nat.le_of_ble_eq_true rfl) (Nat.le_of_ble_eq_true rfl) (by decide) (by decide) (x47 hL h166 h181) (fun o185 v186 hq187 => ?_)
        obtain ⟨⟨n188, p189, hr191, hL192⟩, q193, h194, rfl⟩ := hq187
        refine w_x e0_241 (fun _ => rfl) ?_
        refine w_ldA e0_242 (fun _ => rfl) rfl ?_
        refine w_ldA e0_243 (fun _ => rfl) rfl ?_
        refine w_ldI e0_244 (fun _ => rfl) rfl ?_
        refine w_kI e0_246 ?_
        refine w_iadd e0_247 ?_
        refine w_aldO e0_248 (lI_0 hL192) (by omega) (by omega) (by omega) (fun q195 h196 hx197 => ?_)
        have hqq198 : q195 = q165 := (vz_inj h196 h166).mp (hx197.symm.trans hx167)
        refine w_ldA e0_249 (fun _ => rfl) rfl ?_
        refine w_ldI e0_250 (fun _ => rfl) rfl ?_
        refine w_kI e0_252 ?_
        refine w_iadd e0_253 ?_
        refine w_aldO e0_254 (lI_0 hL192) (by omega) (by omega) (by omega) (fun q199 h200 hx201 => ?_)
        have hqq202 : q199 = q168 := (vz_inj h200 h169).mp (hx201.symm.trans hx170)
        refine w_oL e0_255 (fun _ => rfl) (fun l203 => ?_)
        refine w_kB e0_256 rfl ?_
        refine w_oL e0_258 (fun _ => rfl) (fun l204 => ?_)
        refine w_ldA e0_259 (fun _ => rfl) rfl ?_
        refine w_ldI e0_260 (fun _ => rfl) rfl ?_
        refine w_kI e0_262 ?_
        refine w_iadd e0_263 ?_
        refine w_aldO e0_264 (lI_0 hL192) (by omega) (by omega) (by omega) (fun q205 h206 hx207 => ?_)
        have hqq208 : q205 = q173 := (vz_inj h206 h174).mp (hx207.symm.trans hx175)
        refine w_oL e0_265 (fun _ => rfl) (fun l209 => ?_)
        refine w_oL e0_266 (fun _ => rfl) (fun l210 => ?_)
        refine w_oL e0_269 (fun _ => rfl) (fun l211 => ?_)
        refine w_oL e0_270 (fun _ => rfl) (fun l212 => ?_)
        refine w_ldA e0_271 (fun _ => rfl) rfl ?_
        refine w_ldI e0_272 (fun _ => rfl) rfl ?_
        refine w_kI e0_274 ?_
        refine w_iadd e0_275 ?_
        refine w_aldO e0_276 (lI_0 hL192) (by omega) (by omega) (by omega) (fun q213 h214 hx215 => ?_)
        have hqq216 : q213 = q180 := (vz_inj h214 h181).mp (hx215.symm.trans hx182)
        obtain ⟨fs217, e218⟩ := lI_238 hL192
        refine w_cv e0_277 (by decide) rfl e218 rfl (Nat.le_of_ble_eq_true rfl) (Nat.le_of_ble_eq_true rfl) (Nat.le_of_ble_eq_true rfl) (by decide) (by decide) (y108 hL192 h196 h214) (fun o219 v220 hq221 => ?_)
        obtain ⟨⟨n222, p223, t224, hr225, hL226⟩, q227, h228, rfl⟩ := hq221
        refine w_x e0_280 (fun _ => rfl) ?_
        refine w_x e0_281 (fun _ => rfl) ?_
        refine w_iinc (A1 := [some (.ref 0), some (.ref 1), some (.ref 238), some (.ref 263), some (.int (vz (x4 + 5))), none, none, none]) e0_770 rfl (by decide) rfl ?_
        refine w_x e0_773 (fun _ => rfl) ?_
        have hnp229 : n222 = n188 ∧ p223 = p189 := by omega
        rw [hnp229.1, hnp229.2] at hL226
        exact w_sub (A1 := [some (.ref 0), some (.ref 1), some (.ref 238), some (.ref 263), some (.int (vz (x4 + 5))), none, none, none]) (And.intro rfl (And.intro rfl (And.intro rfl (And.intro rfl (And.intro rfl trivial))))) (w_end (fun ls hl => Or.inr (Or.inl ⟨rfl, rfl, hl, by omega, _, _, _, _, hL226⟩)))
      ·
        refine w_swI (t := 284) e0_39 (by omega) h7 (by rw [h9]; rfl) rfl ?_
        refine w_ldA e0_284 (fun _ => rfl) rfl ?_
        refine w_ldA e0_285 (fun _ => rfl) rfl ?_
        refine w_ldI e0_286 (fun _ => rfl) rfl ?_
        refine w_kI e0_288 ?_
        refine w_iadd e0_289 ?_
        refine w_aldO e0_290 (lI_0 hL) (by omega) (by omega) (by omega) (fun q230 h231 hx232 => ?_)
        refine w_ldA e0_291 (fun _ => rfl) rfl ?_
        refine w_ldI e0_292 (fun _ => rfl) rfl ?_
        refine w_kI e0_294 ?_
        refine w_iadd e0_295 ?_
        refine w_aldO e0_296 (lI_0 hL) (by omega) (by omega) (by omega) (fun q233 h234 hx235 => ?_)
        refine w_if e0_297 h234 (fun (h236 : q233 = 0) => ?_) (fun (h236 : q233 ≠ 0) => ?_)
        ·
          refine w_kI e0_304 ?_
          obtain ⟨fs237, e238⟩ := lI_1 hL
          refine w_cv e0_305 (by decide) rfl e238 rfl (Nat.le_of_ble_eq_true rfl) (Nat.le_of_ble_eq_true rfl) (Nat.le_of_ble_eq_true rfl) (by decide) (by decide) (x48 hL h231 (by omega)) (fun o239 v240 hq241 => ?_)
          obtain ⟨⟨n242, p243, hr245, hL246⟩, q247, h248, rfl⟩ := hq241
          refine w_x e0_308 (fun _ => rfl) ?_
          refine w_ldA e0_309 (fun _ => rfl) rfl ?_
          refine w_ldA e0_310 (fun _ => rfl) rfl ?_
          refine w_ldI e0_311 (fun _ => rfl) rfl ?_
          refine w_kI e0_313 ?_
          refine w_iadd e0_314 ?_
          refine w_aldO e0_315 (lI_0 hL246) (by omega) (by omega) (by omega) (fun q249 h250 hx251 => ?_)
          have hqq252 : q249 = q230 := (vz_inj h250 h231).mp (hx251.symm.trans hx232)
          refine w_ldA e0_316 (fun _ => rfl) rfl ?_
          refine w_ldI e0_317 (fun _ => rfl) rfl ?_
          refine w_kI e0_319 ?_
          refine w_iadd e0_320 ?_
          refine w_aldO e0_321 (lI_0 hL246) (by omega) (by omega) (by omega) (fun q253 h254 hx255 => ?_)
          have hqq256 : q253 = q233 := (vz_inj h254 h234).mp (hx255.symm.trans hx235)
          refine w_if e0_322 h254 (fun (h257 : q253 = 0) => ?_) (fun (h257 : q253 ≠ 0) => ?_)
          ·
            refine w_kI e0_329 ?_
            obtain ⟨fs258, e259⟩ := lI_238 hL246
            refine w_cv e0_330 (by decide) rfl e259 rfl (Nat.le_of_ble_eq_true rfl) (Nat.le_of_ble_eq_true rfl) (Nat.le_of_ble_eq_true rfl) (by decide) (by decide) (y109 hL246 h250 (by omega)) (fun o260 v261 hq262 => ?_)
            obtain ⟨⟨n263, p264, t265, hr266, hL267⟩, q268, h269, rfl⟩ := hq262
            refine w_x e0_333 (fun _ => rfl) ?_
            refine w_x e0_334 (fun _ => rfl) ?_
            refine w_iinc (A1 := [some (.ref 0), some (.ref 1), some (.ref 238), some (.ref 263), some (.int (vz (x4 + 5))), none, none, none]) e0_770 rfl (by decide) rfl ?_
            refine w_x e0_773 (fun _ => rfl) ?_
            have hnp270 : n263 = n242 ∧ p264 = p243 := by omega
            rw [hnp270.1, hnp270.2] at hL267
            exact w_sub (A1 := [some (.ref 0), some (.ref 1), some (.ref 238), some (.ref 263), some (.int (vz (x4 + 5))), none, none, none]) (And.intro rfl (And.intro rfl (And.intro rfl (And.intro rfl (And.intro rfl trivial))))) (w_end (fun ls hl => Or.inr (Or.inl ⟨rfl, rfl, hl, by omega, _, _, _, _, hL267⟩)))
          ·
            refine w_kI e0_325 ?_
            refine w_x e0_326 (fun _ => rfl) ?_
            obtain ⟨fs271, e272⟩ := lI_238 hL246
            refine w_cv e0_330 (by decide) rfl e272 rfl (Nat.le_of_ble_eq_true rfl) (Nat.le_of_ble_eq_true rfl) (Nat.le_of_ble_eq_true rfl) (by decide) (by decide) (y109 hL246 h250 (by omega)) (fun o273 v274 hq275 => ?_)
            obtain ⟨⟨n276, p277, t278, hr279, hL280⟩, q281, h282, rfl⟩ := hq275
            refine w_x e0_333 (fun _ => rfl) ?_
            refine w_x e0_334 (fun _ => rfl) ?_
            refine w_iinc (A1 := [some (.ref 0), some (.ref 1), some (.ref 238), some (.ref 263), some (.int (vz (x4 + 5))), none, none, none]) e0_770 rfl (by decide) rfl ?_
            refine w_x e0_773 (fun _ => rfl) ?_
            have hnp283 : n276 = n242 ∧ p277 = p243 := by omega
            rw [hnp283.1, hnp283.2] at hL280
            exact w_sub (A1 := [some (.ref 0), some (.ref 1), some (.ref 238), some (.ref 263), some (.int (vz (x4 + 5))), none, none, none]) (And.intro rfl (And.intro rfl (And.intro rfl (And.intro rfl (And.intro rfl trivial))))) (w_end (fun ls hl => Or.inr (Or.inl ⟨rfl, rfl, hl, by omega, _, _, _, _, hL280⟩)))
        ·
          refine w_kI e0_300 ?_
          refine w_x e0_301 (fun _ => rfl) ?_
          obtain ⟨fs284, e285⟩ := lI_1 hL
          refine w_cv e0_305 (by decide) rfl e285 rfl (Nat.le_of_ble_eq_true rfl) (Nat.le_of_ble_eq_true rfl) (Nat.le_of_ble_eq_true rfl) (by decide) (by decide) (x48 hL h231 (by omega)) (fun o286 v287 hq288 => ?_)
          obtain ⟨⟨n289, p290, hr292, hL293⟩, q294, h295, rfl⟩ := hq288
          refine w_x e0_308 (fun _ => rfl) ?_
          refine w_ldA e0_309 (fun _ => rfl) rfl ?_
          refine w_ldA e0_310 (fun _ => rfl) rfl ?_
          refine w_ldI e0_311 (fun _ => rfl) rfl ?_
          refine w_kI e0_313 ?_
          refine w_iadd e0_314 ?_
          refine w_aldO e0_315 (lI_0 hL293) (by omega) (by omega) (by omega) (fun q296 h297 hx298 => ?_)
          have hqq299 : q296 = q230 := (vz_inj h297 h231).mp (hx298.symm.trans hx232)
          refine w_ldA e0_316 (fun _ => rfl) rfl ?_
          refine w_ldI e0_317 (fun _ => rfl) rfl ?_
          refine w_kI e0_319 ?_
          refine w_iadd e0_320 ?_
          refine w_aldO e0_321 (lI_0 hL293) (by omega) (by omega) (by omega) (fun q300 h301 hx302 => ?_)
          have hqq303 : q300 = q233 := (vz_inj h301 h234).mp (hx302.symm.trans hx235)
          refine w_if e0_322 h301 (fun (h304 : q300 = 0) => ?_) (fun (h304 : q300 ≠ 0) => ?_)
          ·
            refine w_kI e0_329 ?_
            obtain ⟨fs305, e306⟩ := lI_238 hL293
            refine w_cv e0_330 (by decide) rfl e306 rfl (Nat.le_of_ble_eq_true rfl) (Nat.le_of_ble_eq_true rfl) (Nat.le_of_ble_eq_true rfl) (by decide) (by decide) (y109 hL293 h297 (by omega)) (fun o307 v308 hq309 => ?_)
            obtain ⟨⟨n310, p311, t312, hr313, hL314⟩, q315, h316, rfl⟩ := hq309
            refine w_x e0_333 (fun _ => rfl) ?_
            refine w_x e0_334 (fun _ => rfl) ?_
            refine w_iinc (A1 := [some (.ref 0), some (.ref 1), some (.ref 238), some (.ref 263), some (.int (vz (x4 + 5))), none, none, none]) e0_770 rfl (by decide) rfl ?_
            refine w_x e0_773 (fun _ => rfl) ?_
            have hnp317 : n310 = n289 ∧ p311 = p290 := by omega
            rw [hnp317.1, hnp317.2] at hL314
            exact w_sub (A1 := [some (.ref 0), some (.ref 1), some (.ref 238), some (.ref 263), some (.int (vz (x4 + 5))), none, none, none]) (And.intro rfl (And.intro rfl (And.intro rfl (And.intro rfl (And.intro rfl trivial))))) (w_end (fun ls hl => Or.inr (Or.inl ⟨rfl, rfl, hl, by omega, _, _, _, _, hL314⟩)))
          ·
            refine w_kI e0_325 ?_
            refine w_x e0_326 (fun _ => rfl) ?_
            obtain ⟨fs318, e319⟩ := lI_238 hL293
            refine w_cv e0_330 (by decide) rfl e319 rfl (Nat.le_of_ble_eq_true rfl) (Nat.le_of_ble_eq_true rfl) (Nat.le_of_ble_eq_true rfl) (by decide) (by decide) (y109 hL293 h297 (by omega)) (fun o320 v321 hq322 => ?_)
            obtain ⟨⟨n323, p324, t325, hr326, hL327⟩, q328, h329, rfl⟩ := hq322
            refine w_x e0_333 (fun _ => rfl) ?_
            refine w_x e0_334 (fun _ => rfl) ?_
            refine w_iinc (A1 := [some (.ref 0), some (.ref 1), some (.ref 238), some (.ref 263), some (.int (vz (x4 + 5))), none, none, none]) e0_770 rfl (by decide) rfl ?_
            refine w_x e0_773 (fun _ => rfl) ?_
            have hnp330 : n323 = n289 ∧ p324 = p290 := by omega
            rw [hnp330.1, hnp330.2] at hL327
            exact w_sub (A1 := [some (.ref 0), some (.ref 1), some (.ref 238), some (.ref 263), some (.int (vz (x4 + 5))), none, none, none]) (And.intro rfl (And.intro rfl (And.intro rfl (And.intro rfl (And.intro rfl trivial))))) (w_end (fun ls hl => Or.inr (Or.inl ⟨rfl, rfl, hl, by omega, _, _, _, _, hL327⟩)))
      ·
        refine w_swI (t := 337) e0_39 (by omega) h7 (by rw [h9]; rfl) rfl ?_
        refine w_ldA e0_337 (fun _ => rfl) rfl ?_
        obtain ⟨fs331, e332⟩ := lI_1 hL
        refine w_cv e0_338 (by decide) rfl e332 rfl (Nat.le_of_ble_eq_true rfl) (Nat.le_of_ble_eq_true rfl) (Nat.le_of_ble_eq_true rfl) (by decide) (by decide) (x49 hL) (fun o333 v334 hq335 => ?_)
        obtain ⟨⟨n336, p337, hr339, hL340⟩, q341, h342, rfl⟩ := hq335
        refine w_x e0_341 (fun _ => rfl) ?_
        refine w_ldA e0_342 (fun _ => rfl) rfl ?_
        obtain ⟨fs343, e344⟩ := lI_238 hL340
        refine w_cv e0_343 (by decide) rfl e344 rfl (Nat.le_of_ble_eq_true rfl) (Nat.le_of_ble_eq_true rfl) (Nat.le_of_ble_eq_true rfl) (by decide) (by decide) (y102 hL340) (fun o345 v346 hq347 => ?_)
        obtain ⟨⟨n348, p349, t350, hr351, hL352⟩, q353, h354, rfl⟩ := hq347
        refine w_x e0_346 (fun _ => rfl) ?_
        refine w_x e0_347 (fun _ => rfl) ?_
        refine w_iinc (A1 := [some (.ref 0), some (.ref 1), some (.ref 238), some (.ref 263), some (.int (vz (x4 + 5))), none, none, none]) e0_770 rfl (by decide) rfl ?_
        refine w_x e0_773 (fun _ => rfl) ?_
        have hnp355 : n348 = n336 ∧ p349 = p337 := by omega
        rw [hnp355.1, hnp355.2] at hL352
        exact w_sub (A1 := [some (.ref 0), some (.ref 1), some (.ref 238), some (.ref 263), some (.int (vz (x4 + 5))), none, none, none]) (And.intro rfl (And.intro rfl (And.intro rfl (And.intro rfl (And.intro rfl trivial))))) (w_end (fun ls hl => Or.inr (Or.inl ⟨rfl, rfl, hl, by omega, _, _, _, _, hL352⟩)))
      ·
        refine w_swI (t := 350) e0_39 (by omega) h7 (by rw [h9]; rfl) rfl ?_
        refine w_ldA e0_350 (fun _ => rfl) rfl ?_
        refine w_ldA e0_351 (fun _ => rfl) rfl ?_
        refine w_ldI e0_352 (fun _ => rfl) rfl ?_
        refine w_kI e0_354 ?_
        refine w_iadd e0_355 ?_
        refine w_aldO e0_356 (lI_0 hL) (by omega) (by omega) (by omega) (fun q356 h357 hx358 => ?_)
        obtain ⟨fs359, e360⟩ := lI_1 hL
        refine w_cv e0_357 (by decide) rfl e360 rfl (Nat.le_of_ble_eq_true rfl) (Nat.le_of_ble_eq_true rfl) (Nat.le_of_ble_eq_true rfl) (by decide) (by decide) (x50 hL h357) (fun o361 v362 hq363 => ?_)
        obtain ⟨⟨n364, p365, hr367, hL368⟩, q369, h370, rfl⟩ := hq363
        refine w_x e0_360 (fun _ => rfl) ?_
        refine w_ldA e0_361 (fun _ => rfl) rfl ?_
        refine w_ldA e0_362 (fun _ => rfl) rfl ?_
        refine w_ldI e0_363 (fun _ => rfl) rfl ?_
        refine w_kI e0_365 ?_
        refine w_iadd e0_366 ?_
        refine w_aldO e0_367 (lI_0 hL368) (by omega) (by omega) (by omega) (fun q371 h372 hx373 => ?_)
        have hqq374 : q371 = q356 := (vz_inj h372 h357).mp (hx373.symm.trans hx358)
        obtain ⟨fs375, e376⟩ := lI_238 hL368
        refine w_cv e0_368 (by decide) rfl e376 rfl (Nat.le_of_ble_eq_true rfl) (Nat.le_of_ble_eq_true rfl) (Nat.le_of_ble_eq_true rfl) (by decide) (by decide) (y104 hL368 h372) (fun o377 v378 hq379 => ?_)
        obtain ⟨⟨n380, p381, t382, hr383, hL384⟩, q385, h386, rfl⟩ := hq379
        refine w_x e0_371 (fun _ => rfl) ?_
        refine w_x e0_372 (fun _ => rfl) ?_
        refine w_iinc (A1 := [some (.ref 0), some (.ref 1), some (.ref 238), some (.ref 263), some (.int (vz (x4 + 5))), none, none, none]) e0_770 rfl (by decide) rfl ?_
        refine w_x e0_773 (fun _ => rfl) ?_
        have hnp387 : n380 = n364 ∧ p381 = p365 := by omega
        rw [hnp387.1, hnp387.2] at hL384
        exact w_sub (A1 := [some (.ref 0), some (.ref 1), some (.ref 238), some (.ref 263), some (.int (vz (x4 + 5))), none, none, none]) (And.intro rfl (And.intro rfl (And.intro rfl (And.intro rfl (And.intro rfl trivial))))) (w_end (fun ls hl => Or.inr (Or.inl ⟨rfl, rfl, hl, by omega, _, _, _, _, hL384⟩)))
      ·
        refine w_swI (t := 375) e0_39 (by omega) h7 (by rw [h9]; rfl) rfl ?_
        refine w_ldA e0_375 (fun _ => rfl) rfl ?_
        refine w_ldA e0_376 (fun _ => rfl) rfl ?_
        refine w_ldI e0_377 (fun _ => rfl) rfl ?_
        refine w_kI e0_379 ?_
        refine w_iadd e0_380 ?_
        refine w_aldO e0_381 (lI_0 hL) (by omega) (by omega) (by omega) (fun q388 h389 hx390 => ?_)
        refine w_ldA e0_382 (fun _ => rfl) rfl ?_
        refine w_ldI e0_383 (fun _ => rfl) rfl ?_
        refine w_kI e0_385 ?_
        refine w_iadd e0_386 ?_
        refine w_aldO e0_387 (lI_0 hL) (by omega) (by omega) (by omega) (fun q391 h392 hx393 => ?_)
        obtain ⟨fs394, e395⟩ := lI_1 hL
        refine w_cv e0_388 (by decide) rfl e395 rfl (Nat.le_of_ble_eq_true rfl) (Nat.le_of_ble_eq_true rfl) (Nat.le_of_ble_eq_true rfl) (by decide) (by decide) (x51 hL h389 h392) (fun o396 v397 hq398 => ?_)
        obtain ⟨⟨n399, p400, hr402, hL403⟩, q404, h405, rfl⟩ := hq398
        refine w_x e0_391 (fun _ => rfl) ?_
        refine w_ldA e0_392 (fun _ => rfl) rfl ?_
        refine w_ldA e0_393 (fun _ => rfl) rfl ?_
        refine w_ldI e0_394 (fun _ => rfl) rfl ?_
        refine w_kI e0_396 ?_
        refine w_iadd e0_397 ?_
        refine w_aldO e0_398 (lI_0 hL403) (by omega) (by omega) (by omega) (fun q406 h407 hx408 => ?_)
        have hqq409 : q406 = q388 := (vz_inj h407 h389).mp (hx408.symm.trans hx390)
        refine w_ldA e0_399 (fun _ => rfl) rfl ?_
        refine w_ldI e0_400 (fun _ => rfl) rfl ?_
        refine w_kI e0_402 ?_
        refine w_iadd e0_403 ?_
        refine w_aldO e0_404 (lI_0 hL403) (by omega) (by omega) (by omega) (fun q410 h411 hx412 => ?_)
        have hqq413 : q410 = q391 := (vz_inj h411 h392).mp (hx412.symm.trans hx393)
        obtain ⟨fs414, e415⟩ := lI_238 hL403
        refine w_cv e0_405 (by decide) rfl e415 rfl (Nat.le_of_ble_eq_true rfl) (Nat.le_of_ble_eq_true rfl) (Nat.le_of_ble_eq_true rfl) (by decide) (by decide) (y112 hL403 h407 h411) (fun o416 v417 hq418 => ?_)
        obtain ⟨⟨n419, p420, t421, hr422, hL423⟩, q424, h425, rfl⟩ := hq418
        refine w_x e0_408 (fun _ => rfl) ?_
        refine w_x e0_409 (fun _ => rfl) ?_
        refine w_iinc (A1 := [some (.ref 0), some (.ref 1), some (.ref 238), some (.ref 263), some (.int (vz (x4 + 5))), none, none, none]) e0_770 rfl (by decide) rfl ?_
        refine w_x e0_773 (fun _ => rfl) ?_
        have hnp426 : n419 = n399 ∧ p420 = p400 := by omega
        rw [hnp426.1, hnp426.2] at hL423
        exact w_sub (A1 := [some (.ref 0), some (.ref 1), some (.ref 238), some (.ref 263), some (.int (vz (x4 + 5))), none, none, none]) (And.intro rfl (And.intro rfl (And.intro rfl (And.intro rfl (And.intro rfl trivial))))) (w_end (fun ls hl => Or.inr (Or.inl ⟨rfl, rfl, hl, by omega, _, _, _, _, hL423⟩)))
      ·
        refine w_swI (t := 412) e0_39 (by omega) h7 (by rw [h9]; rfl) rfl ?_
        refine w_ldA e0_412 (fun _ => rfl) rfl ?_
        refine w_ldA e0_413 (fun _ => rfl) rfl ?_
        refine w_ldI e0_414 (fun _ => rfl) rfl ?_
        refine w_kI e0_416 ?_
        refine w_iadd e0_417 ?_
        refine w_aldO e0_418 (lI_0 hL) (by omega) (by omega) (by omega) (fun q427 h428 hx429 => ?_)
        obtain ⟨fs430, e431⟩ := lI_1 hL
        refine w_cv e0_419 (by decide) rfl e431 rfl (Nat.le_of_ble_eq_true rfl) (Nat.le_of_ble_eq_true rfl) (Nat.le_of_ble_eq_true rfl) (by decide) (by decide) (x52 hL h428) (fun o432 v433 hq434 => ?_)
        obtain ⟨⟨n435, p436, hr438, hL439⟩, q440, h441, rfl⟩ := hq434
        refine w_x e0_422 (fun _ => rfl) ?_
        refine w_ldA e0_423 (fun _ => rfl) rfl ?_
        refine w_ldA e0_424 (fun _ => rfl) rfl ?_
        refine w_ldI e0_425 (fun _ => rfl) rfl ?_
        refine w_kI e0_427 ?_
        refine w_iadd e0_428 ?_
        refine w_aldO e0_429 (lI_0 hL439) (by omega) (by omega) (by omega) (fun q442 h443 hx444 => ?_)
        have hqq445 : q442 = q427 := (vz_inj h443 h428).mp (hx444.symm.trans hx429)
        obtain ⟨fs446, e447⟩ := lI_238 hL439
        refine w_cv e0_430 (by decide) rfl e447 rfl (Nat.le_of_ble_eq_true rfl) (Nat.le_of_ble_eq_true rfl) (Nat.le_of_ble_eq_true rfl) (by decide) (by decide) (y113 hL439 h443) (fun o448 v449 hq450 => ?_)
        obtain ⟨⟨n451, p452, t453, hr454, hL455⟩, q456, h457, rfl⟩ := hq450
        refine w_x e0_433 (fun _ => rfl) ?_
        refine w_x e0_434 (fun _ => rfl) ?_
        refine w_iinc (A1 := [some (.ref 0), some (.ref 1), some (.ref 238), some (.ref 263), some (.int (vz (x4 + 5))), none, none, none]) e0_770 rfl (by decide) rfl ?_
        refine w_x e0_773 (fun _ => rfl) ?_
        have hnp458 : n451 = n435 ∧ p452 = p436 := by omega
        rw [hnp458.1, hnp458.2] at hL455
        exact w_sub (A1 := [some (.ref 0), some (.ref 1), some (.ref 238), some (.ref 263), some (.int (vz (x4 + 5))), none, none, none]) (And.intro rfl (And.intro rfl (And.intro rfl (And.intro rfl (And.intro rfl trivial))))) (w_end (fun ls hl => Or.inr (Or.inl ⟨rfl, rfl, hl, by omega, _, _, _, _, hL455⟩)))
      ·
        refine w_swI (t := 437) e0_39 (by omega) h7 (by rw [h9]; rfl) rfl ?_
        refine w_ldA e0_437 (fun _ => rfl) rfl ?_
        refine w_ldA e0_438 (fun _ => rfl) rfl ?_
        refine w_ldI e0_439 (fun _ => rfl) rfl ?_
        refine w_kI e0_441 ?_
        refine w_iadd e0_442 ?_
        refine w_aldO e0_443 (lI_0 hL) (by omega) (by omega) (by omega) (fun q459 h460 hx461 => ?_)
        refine w_ldA e0_444 (fun _ => rfl) rfl ?_
        refine w_ldI e0_445 (fun _ => rfl) rfl ?_
        refine w_kI e0_447 ?_
        refine w_iadd e0_448 ?_
        refine w_aldO e0_449 (lI_0 hL) (by omega) (by omega) (by omega) (fun q462 h463 hx464 => ?_)
        refine w_ldA e0_450 (fun _ => rfl) rfl ?_
        refine w_ldI e0_451 (fun _ => rfl) rfl ?_
        refine w_kI e0_453 ?_
        refine w_iadd e0_454 ?_
        refine w_aldO e0_455 (lI_0 hL) (by omega) (by omega) (by omega) (fun q465 h466 hx467 => ?_)
        obtain ⟨fs468, e469⟩ := lI_1 hL
        refine w_cv e0_456 (by decide) rfl e469 rfl (Nat.le_of_ble_eq_true rfl) (Nat.le_of_ble_eq_true rfl) (Nat.le_of_ble_eq_true rfl) (by decide) (by decide) (x53 hL h460 h463 h466) (fun o470 v471 hq472 => ?_)
        obtain ⟨⟨n473, p474, hr476, hL477⟩, q478, rfl⟩ := hq472
        refine w_x e0_459 (fun _ => rfl) ?_
        refine w_ldA e0_460 (fun _ => rfl) rfl ?_
        refine w_ldA e0_461 (fun _ => rfl) rfl ?_
        refine w_ldI e0_462 (fun _ => rfl) rfl ?_
        refine w_kI e0_464 ?_
        refine w_iadd e0_465 ?_
        refine w_aldO e0_466 (lI_0 hL477) (by omega) (by omega) (by omega) (fun q480 h481 hx482 => ?_)
        have hqq483 : q480 = q459 := (vz_inj h481 h460).mp (hx482.symm.trans hx461)
        refine w_ldA e0_467 (fun _ => rfl) rfl ?_
        refine w_ldI e0_468 (fun _ => rfl) rfl ?_
        refine w_kI e0_470 ?_
        refine w_iadd e0_471 ?_
        refine w_aldO e0_472 (lI_0 hL477) (by omega) (by omega) (by omega) (fun q484 h485 hx486 => ?_)
        have hqq487 : q484 = q462 := (vz_inj h485 h463).mp (hx486.symm.trans hx464)
        refine w_ldA e0_473 (fun _ => rfl) rfl ?_
        refine w_ldI e0_474 (fun _ => rfl) rfl ?_
        refine w_kI e0_476 ?_
        refine w_iadd e0_477 ?_
        refine w_aldO e0_478 (lI_0 hL477) (by omega) (by omega) (by omega) (fun q488 h489 hx490 => ?_)
        have hqq491 : q488 = q465 := (vz_inj h489 h466).mp (hx490.symm.trans hx467)
        obtain ⟨fs492, e493⟩ := lI_238 hL477
        refine w_cv e0_479 (by decide) rfl e493 rfl (Nat.le_of_ble_eq_true rfl) (Nat.le_of_ble_eq_true rfl) (Nat.le_of_ble_eq_true rfl) (by decide) (by decide) (y115 hL477 h481 h485 h489) (fun o494 v495 hq496 => ?_)
        obtain ⟨⟨n497, p498, t499, hr500, hL501⟩, q502, rfl⟩ := hq496
        refine w_x e0_482 (fun _ => rfl) ?_
        refine w_x e0_483 (fun _ => rfl) ?_
        refine w_iinc (A1 := [some (.ref 0), some (.ref 1), some (.ref 238), some (.ref 263), some (.int (vz (x4 + 5))), none, none, none]) e0_770 rfl (by decide) rfl ?_
        refine w_x e0_773 (fun _ => rfl) ?_
        have hnp504 : n497 = n473 ∧ p498 = p474 := by omega
        rw [hnp504.1, hnp504.2] at hL501
        exact w_sub (A1 := [some (.ref 0), some (.ref 1), some (.ref 238), some (.ref 263), some (.int (vz (x4 + 5))), none, none, none]) (And.intro rfl (And.intro rfl (And.intro rfl (And.intro rfl (And.intro rfl trivial))))) (w_end (fun ls hl => Or.inr (Or.inl ⟨rfl, rfl, hl, by omega, _, _, _, _, hL501⟩)))
      ·
        refine w_swI (t := 486) e0_39 (by omega) h7 (by rw [h9]; rfl) rfl ?_
        refine w_ldA e0_486 (fun _ => rfl) rfl ?_
        refine w_ldA e0_487 (fun _ => rfl) rfl ?_
        refine w_ldI e0_488 (fun _ => rfl) rfl ?_
        refine w_kI e0_490 ?_
        refine w_iadd e0_491 ?_
        refine w_aldO e0_492 (lI_0 hL) (by omega) (by omega) (by omega) (fun q505 h506 hx507 => ?_)
        refine w_ldA e0_493 (fun _ => rfl) rfl ?_
        refine w_ldI e0_494 (fun _ => rfl) rfl ?_
        refine w_kI e0_496 ?_
        refine w_iadd e0_497 ?_
        refine w_aldO e0_498 (lI_0 hL) (by omega) (by omega) (by omega) (fun q508 h509 hx510 => ?_)
        refine w_ldA e0_499 (fun _ => rfl) rfl ?_
        refine w_ldI e0_500 (fun _ => rfl) rfl ?_
        refine w_kI e0_502 ?_
        refine w_iadd e0_503 ?_
        refine w_aldO e0_504 (lI_0 hL) (by omega) (by omega) (by omega) (fun q511 h512 hx513 => ?_)
        obtain ⟨fs514, e515⟩ := lI_1 hL
        refine w_cv e0_505 (by decide) rfl e515 rfl (Nat.le_of_ble_eq_true rfl) (Nat.le_of_ble_eq_true rfl) (Nat.le_of_ble_eq_true rfl) (by decide) (by decide) (x54 hL h506 h509 h512) (fun o516 v517 hq518 => ?_)
        obtain ⟨⟨n519, p520, hr522, hL523⟩, q524, h525, rfl⟩ := hq518
        refine w_x e0_508 (fun _ => rfl) ?_
        refine w_ldA e0_509 (fun _ => rfl) rfl ?_
        refine w_ldA e0_510 (fun _ => rfl) rfl ?_
        refine w_ldI e0_511 (fun _ => rfl) rfl ?_
        refine w_kI e0_513 ?_
        refine w_iadd e0_514 ?_
        refine w_aldO e0_515 (lI_0 hL523) (by omega) (by omega) (by omega) (fun q526 h527 hx528 => ?_)
        have hqq529 : q526 = q505 := (vz_inj h527 h506).mp (hx528.symm.trans hx507)
        refine w_ldA e0_516 (fun _ => rfl) rfl ?_
        refine w_ldI e0_517 (fun _ => rfl) rfl ?_
        refine w_kI e0_519 ?_
        refine w_iadd e0_520 ?_
        refine w_aldO e0_521 (lI_0 hL523) (by omega) (by omega) (by omega) (fun q530 h531 hx532 => ?_)
        have hqq533 : q530 = q508 := (vz_inj h531 h509).mp (hx532.symm.trans hx510)
        refine w_ldA e0_522 (fun _ => rfl) rfl ?_
        refine w_ldI e0_523 (fun _ => rfl) rfl ?_
        refine w_kI e0_525 ?_
        refine w_iadd e0_526 ?_
        refine w_aldO e0_527 (lI_0 hL523) (by omega) (by omega) (by omega) (fun q534 h535 hx536 => ?_)
        have hqq537 : q534 = q511 := (vz_inj h535 h512).mp (hx536.symm.trans hx513)
        obtain ⟨fs538, e539⟩ := lI_238 hL523
        refine w_cv e0_528 (by decide) rfl e539 rfl (Nat.le_of_ble_eq_true rfl) (Nat.le_of_ble_eq_true rfl) (Nat.le_of_ble_eq_true rfl) (by decide) (by decide) (y116 hL523 h527 h531 h535) (fun o540 v541 hq542 => ?_)
        obtain ⟨⟨n543, p544, t545, hr546, hL547⟩, q548, h549, rfl⟩ := hq542
        refine w_x e0_531 (fun _ => rfl) ?_
        refine w_x e0_532 (fun _ => rfl) ?_
        refine w_iinc (A1 := [some (.ref 0), some (.ref 1), some (.ref 238), some (.ref 263), some (.int (vz (x4 + 5))), none, none, none]) e0_770 rfl (by decide) rfl ?_
        refine w_x e0_773 (fun _ => rfl) ?_
        have hnp550 : n543 = n519 ∧ p544 = p520 := by omega
        rw [hnp550.1, hnp550.2] at hL547
        exact w_sub (A1 := [some (.ref 0), some (.ref 1), some (.ref 238), some (.ref 263), some (.int (vz (x4 + 5))), none, none, none]) (And.intro rfl (And.intro rfl (And.intro rfl (And.intro rfl (And.intro rfl trivial))))) (w_end (fun ls hl => Or.inr (Or.inl ⟨rfl, rfl, hl, by omega, _, _, _, _, hL547⟩)))
      ·
        refine w_swI (t := 535) e0_39 (by omega) h7 (by rw [h9]; rfl) rfl ?_
        refine w_ldA e0_535 (fun _ => rfl) rfl ?_
        refine w_ldA e0_536 (fun _ => rfl) rfl ?_
        refine w_ldI e0_537 (fun _ => rfl) rfl ?_
        refine w_kI e0_539 ?_
        refine w_iadd e0_540 ?_
        refine w_aldO e0_541 (lI_0 hL) (by omega) (by omega) (by omega) (fun q551 h552 hx553 => ?_)
        refine w_ldA e0_542 (fun _ => rfl) rfl ?_
        refine w_ldI e0_543 (fun _ => rfl) rfl ?_
        refine w_kI e0_545 ?_
        refine w_iadd e0_546 ?_
        refine w_aldO e0_547 (lI_0 hL) (by omega) (by omega) (by omega) (fun q554 h555 hx556 => ?_)
        refine w_oL e0_548 (fun _ => rfl) (fun l557 => ?_)
        refine w_kB e0_549 rfl ?_
        refine w_oL e0_551 (fun _ => rfl) (fun l558 => ?_)
        refine w_ldA e0_552 (fun _ => rfl) rfl ?_
        refine w_ldI e0_553 (fun _ => rfl) rfl ?_
        refine w_kI e0_555 ?_
        refine w_iadd e0_556 ?_
        refine w_aldO e0_557 (lI_0 hL) (by omega) (by omega) (by omega) (fun q559 h560 hx561 => ?_)
        refine w_oL e0_558 (fun _ => rfl) (fun l562 => ?_)
        refine w_oL e0_559 (fun _ => rfl) (fun l563 => ?_)
        refine w_oL e0_562 (fun _ => rfl) (fun l564 => ?_)
        refine w_oL e0_563 (fun _ => rfl) (fun l565 => ?_)
        obtain ⟨fs566, e567⟩ := lI_1 hL
        refine w_cv e0_564 (by decide) rfl e567 rfl (Nat.le_of_ble_eq_true rfl) (Nat.le_of_ble_eq_true rfl) (Nat.le_of_ble_eq_true rfl) (by decide) (by decide) (x55 hL h552) (fun o568 v569 hq570 => ?_)
        obtain ⟨⟨n571, p572, hr574, hL575⟩, q576, h577, rfl⟩ := hq570
        refine w_x e0_567 (fun _ => rfl) ?_
        refine w_ldA e0_568 (fun _ => rfl) rfl ?_
        refine w_ldA e0_569 (fun _ => rfl) rfl ?_
        refine w_ldI e0_570 (fun _ => rfl) rfl ?_
        refine w_kI e0_572 ?_
        refine w_iadd e0_573 ?_
        refine w_aldO e0_574 (lI_0 hL575) (by omega) (by omega) (by omega) (fun q578 h579 hx580 => ?_)
        have hqq581 : q578 = q551 := (vz_inj h579 h552).mp (hx580.symm.trans hx553)
        refine w_ldA e0_575 (fun _ => rfl) rfl ?_
        refine w_ldI e0_576 (fun _ => rfl) rfl ?_
        refine w_kI e0_578 ?_
        refine w_iadd e0_579 ?_
        refine w_aldO e0_580 (lI_0 hL575) (by omega) (by omega) (by omega) (fun q582 h583 hx584 => ?_)
        have hqq585 : q582 = q554 := (vz_inj h583 h555).mp (hx584.symm.trans hx556)
        refine w_oL e0_581 (fun _ => rfl) (fun l586 => ?_)
        refine w_kB e0_582 rfl ?_
        refine w_oL e0_584 (fun _ => rfl) (fun l587 => ?_)
        refine w_ldA e0_585 (fun _ => rfl) rfl ?_
        refine w_ldI e0_586 (fun _ => rfl) rfl ?_
        refine w_kI e0_588 ?_
        refine w_iadd e0_589 ?_
        refine w_aldO e0_590 (lI_0 hL575) (by omega) (by omega) (by omega) (fun q588 h589 hx590 => ?_)
        have hqq591 : q588 = q559 := (vz_inj h589 h560).mp (hx590.symm.trans hx561)
        refine w_oL e0_591 (fun _ => rfl) (fun l592 => ?_)
        refine w_oL e0_592 (fun _ => rfl) (fun l593 => ?_)
        refine w_oL e0_595 (fun _ => rfl) (fun l594 => ?_)
        refine w_oL e0_596 (fun _ => rfl) (fun l595 => ?_)
        obtain ⟨fs596, e597⟩ := lI_238 hL575
        refine w_cv e0_597 (by decide) rfl e597 rfl (Nat.le_of_ble_eq_true rfl) (Nat.le_of_ble_eq_true rfl) (Nat.le_of_ble_eq_true rfl) (by decide) (by decide) (y117 hL575 h579) (fun o598 v599 hq600 => ?_)
        obtain ⟨⟨n601, p602, t603, hr604, hL605⟩, q606, h607, rfl⟩ := hq600
        refine w_x e0_600 (fun _ => rfl) ?_
        refine w_x e0_601 (fun _ => rfl) ?_
        refine w_iinc (A1 := [some (.ref 0), some (.ref 1), some (.ref 238), some (.ref 263), some (.int (vz (x4 + 5))), none, none, none]) e0_770 rfl (by decide) rfl ?_
        refine w_x e0_773 (fun _ => rfl) ?_
        have hnp608 : n601 = n571 ∧ p602 = p572 := by omega
        rw [hnp608.1, hnp608.2] at hL605
        exact w_sub (A1 := [some (.ref 0), some (.ref 1), some (.ref 238), some (.ref 263), some (.int (vz (x4 + 5))), none, none, none]) (And.intro rfl (And.intro rfl (And.intro rfl (And.intro rfl (And.intro rfl trivial))))) (w_end (fun ls hl => Or.inr (Or.inl ⟨rfl, rfl, hl, by omega, _, _, _, _, hL605⟩)))
      ·
        refine w_swI (t := 604) e0_39 (by omega) h7 (by rw [h9]; rfl) rfl ?_
        refine w_ldA e0_604 (fun _ => rfl) rfl ?_
        refine w_ldA e0_605 (fun _ => rfl) rfl ?_
        refine w_ldI e0_606 (fun _ => rfl) rfl ?_
        refine w_kI e0_608 ?_
        refine w_iadd e0_609 ?_
        refine w_aldO e0_610 (lI_0 hL) (by omega) (by omega) (by omega) (fun q609 h610 hx611 => ?_)
        refine w_ldA e0_611 (fun _ => rfl) rfl ?_
        refine w_ldI e0_612 (fun _ => rfl) rfl ?_
        refine w_kI e0_614 ?_
        refine w_iadd e0_615 ?_
        refine w_aldO e0_616 (lI_0 hL) (by omega) (by omega) (by omega) (fun q612 h613 hx614 => ?_)
        obtain ⟨fs615, e616⟩ := lI_1 hL
        refine w_cv e0_617 (by decide) rfl e616 rfl (Nat.le_of_ble_eq_true rfl) (Nat.le_of_ble_eq_true rfl) (Nat.le_of_ble_eq_true rfl) (by decide) (by decide) (x56 hL h610 h613) (fun o617 v618 hq619 => ?_)
        obtain ⟨⟨n620, p621, hr623, hL624⟩, q625, rfl⟩ := hq619
        refine w_x e0_620 (fun _ => rfl) ?_
        refine w_ldA e0_621 (fun _ => rfl) rfl ?_
        refine w_ldA e0_622 (fun _ => rfl) rfl ?_
        refine w_ldI e0_623 (fun _ => rfl) rfl ?_
        refine w_kI e0_625 ?_
        refine w_iadd e0_626 ?_
        refine w_aldO e0_627 (lI_0 hL624) (by omega) (by omega) (by omega) (fun q627 h628 hx629 => ?_)
        have hqq630 : q627 = q609 := (vz_inj h628 h610).mp (hx629.symm.trans hx611)
        refine w_ldA e0_628 (fun _ => rfl) rfl ?_
        refine w_ldI e0_629 (fun _ => rfl) rfl ?_
        refine w_kI e0_631 ?_
        refine w_iadd e0_632 ?_
        refine w_aldO e0_633 (lI_0 hL624) (by omega) (by omega) (by omega) (fun q631 h632 hx633 => ?_)
        have hqq634 : q631 = q612 := (vz_inj h632 h613).mp (hx633.symm.trans hx614)
        obtain ⟨fs635, e636⟩ := lI_238 hL624
        refine w_cv e0_634 (by decide) rfl e636 rfl (Nat.le_of_ble_eq_true rfl) (Nat.le_of_ble_eq_true rfl) (Nat.le_of_ble_eq_true rfl) (by decide) (by decide) (y120 hL624 h628 h632) (fun o637 v638 hq639 => ?_)
        obtain ⟨⟨n640, p641, t642, hr643, hL644⟩, q645, rfl⟩ := hq639
        refine w_x e0_637 (fun _ => rfl) ?_
        refine w_x e0_638 (fun _ => rfl) ?_
        refine w_iinc (A1 := [some (.ref 0), some (.ref 1), some (.ref 238), some (.ref 263), some (.int (vz (x4 + 5))), none, none, none]) e0_770 rfl (by decide) rfl ?_
        refine w_x e0_773 (fun _ => rfl) ?_
        have hnp647 : n640 = n620 ∧ p641 = p621 := by omega
        rw [hnp647.1, hnp647.2] at hL644
        exact w_sub (A1 := [some (.ref 0), some (.ref 1), some (.ref 238), some (.ref 263), some (.int (vz (x4 + 5))), none, none, none]) (And.intro rfl (And.intro rfl (And.intro rfl (And.intro rfl (And.intro rfl trivial))))) (w_end (fun ls hl => Or.inr (Or.inl ⟨rfl, rfl, hl, by omega, _, _, _, _, hL644⟩)))
      ·
        refine w_swI (t := 641) e0_39 (by omega) h7 (by rw [h9]; rfl) rfl ?_
        refine w_ldA e0_641 (fun _ => rfl) rfl ?_
        refine w_ldA e0_642 (fun _ => rfl) rfl ?_
        refine w_ldI e0_643 (fun _ => rfl) rfl ?_
        refine w_kI e0_645 ?_
        refine w_iadd e0_646 ?_
        refine w_aldO e0_647 (lI_0 hL) (by omega) (by omega) (by omega) (fun q648 h649 hx650 => ?_)
        obtain ⟨fs651, e652⟩ := lI_1 hL
        refine w_cv e0_648 (by decide) rfl e652 rfl (Nat.le_of_ble_eq_true rfl) (Nat.le_of_ble_eq_true rfl) (Nat.le_of_ble_eq_true rfl) (by decide) (by decide) (x57 hL h649) (fun o653 v654 hq655 => ?_)
        obtain ⟨⟨n656, p657, hr659, hL660⟩, q661, rfl⟩ := hq655
        refine w_x e0_651 (fun _ => rfl) ?_
        refine w_ldA e0_652 (fun _ => rfl) rfl ?_
        refine w_ldA e0_653 (fun _ => rfl) rfl ?_
        refine w_ldI e0_654 (fun _ => rfl) rfl ?_
        refine w_kI e0_656 ?_
        refine w_iadd e0_657 ?_
        refine w_aldO e0_658 (lI_0 hL660) (by omega) (by omega) (by omega) (fun q663 h664 hx665 => ?_)
        have hqq666 : q663 = q648 := (vz_inj h664 h649).mp (hx665.symm.trans hx650)
        obtain ⟨fs667, e668⟩ := lI_238 hL660
        refine w_cv e0_659 (by decide) rfl e668 rfl (Nat.le_of_ble_eq_true rfl) (Nat.le_of_ble_eq_true rfl) (Nat.le_of_ble_eq_true rfl) (by decide) (by decide) (y121 hL660 h664) (fun o669 v670 hq671 => ?_)
        obtain ⟨⟨n672, p673, t674, hr675, hL676⟩, q677, rfl⟩ := hq671
        refine w_x e0_662 (fun _ => rfl) ?_
        refine w_x e0_663 (fun _ => rfl) ?_
        refine w_iinc (A1 := [some (.ref 0), some (.ref 1), some (.ref 238), some (.ref 263), some (.int (vz (x4 + 5))), none, none, none]) e0_770 rfl (by decide) rfl ?_
        refine w_x e0_773 (fun _ => rfl) ?_
        have hnp679 : n672 = n656 ∧ p673 = p657 := by omega
        rw [hnp679.1, hnp679.2] at hL676
        exact w_sub (A1 := [some (.ref 0), some (.ref 1), some (.ref 238), some (.ref 263), some (.int (vz (x4 + 5))), none, none, none]) (And.intro rfl (And.intro rfl (And.intro rfl (And.intro rfl (And.intro rfl trivial))))) (w_end (fun ls hl => Or.inr (Or.inl ⟨rfl, rfl, hl, by omega, _, _, _, _, hL676⟩)))
      ·
        refine w_swI (t := 666) e0_39 (by omega) h7 (by rw [h9]; rfl) rfl ?_
        refine w_ldA e0_666 (fun _ => rfl) rfl ?_
        refine w_ldA e0_667 (fun _ => rfl) rfl ?_
        refine w_ldI e0_668 (fun _ => rfl) rfl ?_
        refine w_kI e0_670 ?_
        refine w_iadd e0_671 ?_
        refine w_ald e0_672 (lI_0 hL) (by omega) (by omega) (by omega) ?_
        refine w_x e0_673 (fun _ => rfl) ?_
        refine w_kB e0_674 rfl ?_
        refine w_x e0_676 (fun _ => rfl) ?_
        refine w_ldA e0_677 (fun _ => rfl) rfl ?_
        refine w_ldI e0_678 (fun _ => rfl) rfl ?_
        refine w_kI e0_680 ?_
        refine w_iadd e0_681 ?_
        refine w_ald e0_682 (lI_0 hL) (by omega) (by omega) (by omega) ?_
        refine w_x e0_683 (fun _ => rfl) ?_
        refine w_x e0_684 (fun _ => rfl) ?_
        refine w_x e0_687 (fun _ => rfl) ?_
        refine w_x e0_688 (fun _ => rfl) ?_
        refine w_ldA e0_689 (fun _ => rfl) rfl ?_
        refine w_ldI e0_690 (fun _ => rfl) rfl ?_
        refine w_kI e0_692 ?_
        refine w_iadd e0_693 ?_
        refine w_ald e0_694 (lI_0 hL) (by omega) (by omega) (by omega) ?_
        refine w_x e0_695 (fun _ => rfl) ?_
        refine w_kB e0_696 rfl ?_
        refine w_x e0_698 (fun _ => rfl) ?_
        refine w_ldA e0_699 (fun _ => rfl) rfl ?_
        refine w_ldI e0_700 (fun _ => rfl) rfl ?_
        refine w_kI e0_702 ?_
        refine w_iadd e0_703 ?_
        refine w_ald e0_704 (lI_0 hL) (by omega) (by omega) (by omega) ?_
        refine w_x e0_705 (fun _ => rfl) ?_
        refine w_x e0_706 (fun _ => rfl) ?_
        refine w_x e0_709 (fun _ => rfl) ?_
        refine w_x e0_710 (fun _ => rfl) ?_
        refine w_ldA e0_711 (fun _ => rfl) rfl ?_
        show vm_Wp _ _ _ 712 _ [.ref 263, .long (laL (xs (x4 + 3).toNat) (xs (x4 + 4).toNat)), .long (laL (xs (x4 + 1).toNat) (xs (x4 + 2).toNat)), .ref 1] _ _
        exact w_end (fun ls hl => Or.inr (Or.inr ⟨rfl, rfl, hl, by omega, _, _, _, _, hL⟩))
set_option maxRecDepth 100000 in
set_option maxHeartbeats 8000000 in
theorem lw_psez {L : Nat} {xs : Nat → Int32} {vh : vm_H} {n p t : Int} {g : Int64} {x4 : Int} (hL : lI L xs vh n p n p t g) (h0 : 0 ≤ x4) (hx : x4 + 5 ≤ (L : Int)) (hl : L ≤ 2560) (hb : (laL (xs (x4 + 3).toNat) (xs (x4 + 4).toNat)) = 0) : vm_Wp 9 400 0 715 (lwA x4) [.int (vz 1)] vh (lwQ L xs x4) := by
  refine w_stI (j := 5) (A1 := [some (.ref 0), some (.ref 1), some (.ref 238), some (.ref 263), some (.int (vz x4)), some (.int (vz 1)), none, none]) e0_715 (fun _ => rfl) (by decide) rfl ?_
  refine w_ldA e0_717 (fun _ => rfl) rfl ?_
  refine w_ldA e0_718 (fun _ => rfl) rfl ?_
  refine w_ldI e0_719 (fun _ => rfl) rfl ?_
  refine w_kI e0_721 ?_
  refine w_iadd e0_722 ?_
  refine w_ald e0_723 (lI_0 hL) (by omega) (by omega) (by omega) ?_
  refine w_x e0_724 (fun _ => rfl) ?_
  refine w_kB e0_725 rfl ?_
  refine w_x e0_727 (fun _ => rfl) ?_
  refine w_ldA e0_728 (fun _ => rfl) rfl ?_
  refine w_ldI e0_729 (fun _ => rfl) rfl ?_
  refine w_kI e0_731 ?_
  refine w_iadd e0_732 ?_
  refine w_ald e0_733 (lI_0 hL) (by omega) (by omega) (by omega) ?_
  refine w_x e0_734 (fun _ => rfl) ?_
  refine w_x e0_735 (fun _ => rfl) ?_
  refine w_x e0_738 (fun _ => rfl) ?_
  refine w_x e0_739 (fun _ => rfl) ?_
  refine w_ldA e0_740 (fun _ => rfl) rfl ?_
  refine w_ldI e0_741 (fun _ => rfl) rfl ?_
  refine w_kI e0_743 ?_
  refine w_iadd e0_744 ?_
  refine w_ald e0_745 (lI_0 hL) (by omega) (by omega) (by omega) ?_
  refine w_x e0_746 (fun _ => rfl) ?_
  refine w_kB e0_747 rfl ?_
  refine w_x e0_749 (fun _ => rfl) ?_
  refine w_ldA e0_750 (fun _ => rfl) rfl ?_
  refine w_ldI e0_751 (fun _ => rfl) rfl ?_
  refine w_kI e0_753 ?_
  refine w_iadd e0_754 ?_
  refine w_ald e0_755 (lI_0 hL) (by omega) (by omega) (by omega) ?_
  refine w_x e0_756 (fun _ => rfl) ?_
  refine w_x e0_757 (fun _ => rfl) ?_
  refine w_x e0_760 (fun _ => rfl) ?_
  refine w_x e0_761 (fun _ => rfl) ?_
  obtain ⟨fs1, e2⟩ := lI_238 hL
  show vm_Wp _ _ _ 762 _ [.long (laL (xs (x4 + 3).toNat) (xs (x4 + 4).toNat)), .long (laL (xs (x4 + 1).toNat) (xs (x4 + 2).toNat)), .ref 238] _ _
  refine w_cv e0_762 (by decide) rfl e2 rfl (Nat.le_of_ble_eq_true rfl) (Nat.le_of_ble_eq_true rfl) (Nat.le_of_ble_eq_true rfl) (by decide) (by decide) (y122z hL _ _ hb) (fun o3 v4 hq5 => ?_)
  obtain ⟨hL6, l7, rfl⟩ := hq5
  refine w_stL (j := 6) (A1 := [some (.ref 0), some (.ref 1), some (.ref 238), some (.ref 263), some (.int (vz x4)), some (.int (vz 1)), some (.long l7), none]) e0_765 (fun _ => rfl) (by decide) rfl ?_
  refine w_x e0_767 (fun _ => rfl) ?_
  refine w_iinc (A1 := [some (.ref 0), some (.ref 1), some (.ref 238), some (.ref 263), some (.int (vz (x4 + 5))), some (.int (vz 1)), some (.long l7), none]) e0_770 rfl (by decide) rfl ?_
  refine w_x e0_773 (fun _ => rfl) ?_
  have hnp8 : n = n ∧ p = p := by omega
  exact w_sub (A1 := [some (.ref 0), some (.ref 1), some (.ref 238), some (.ref 263), some (.int (vz (x4 + 5))), none, none, none]) (And.intro rfl (And.intro rfl (And.intro rfl (And.intro rfl (And.intro rfl trivial))))) (w_end (fun ls hl => ⟨rfl, rfl, hl, by omega, _, _, _, _, hL6⟩))
set_option maxRecDepth 100000 in
set_option maxHeartbeats 8000000 in
theorem lw_psen {L : Nat} {xs : Nat → Int32} {vh : vm_H} {n p t : Int} {g : Int64} {x4 : Int} (hL : lI L xs vh n p n p t g) (h0 : 0 ≤ x4) (hx : x4 + 5 ≤ (L : Int)) (hl : L ≤ 2560) (hb : ¬ (laL (xs (x4 + 3).toNat) (xs (x4 + 4).toNat)) = 0) (hg : g = (laL (xs (x4 + 1).toNat) (xs (x4 + 2).toNat)) <<< (Int32.toInt64 (Int8.ofInt 32).toInt32 &&& 63) / (laL (xs (x4 + 3).toNat) (xs (x4 + 4).toNat))) : vm_Wp 9 400 0 715 (lwA x4) [.int (vz 0)] vh (lwQ L xs x4) := by
  refine w_stI (j := 5) (A1 := [some (.ref 0), some (.ref 1), some (.ref 238), some (.ref 263), some (.int (vz x4)), some (.int (vz 0)), none, none]) e0_715 (fun _ => rfl) (by decide) rfl ?_
  refine w_ldA e0_717 (fun _ => rfl) rfl ?_
  refine w_ldA e0_718 (fun _ => rfl) rfl ?_
  refine w_ldI e0_719 (fun _ => rfl) rfl ?_
  refine w_kI e0_721 ?_
  refine w_iadd e0_722 ?_
  refine w_ald e0_723 (lI_0 hL) (by omega) (by omega) (by omega) ?_
  refine w_x e0_724 (fun _ => rfl) ?_
  refine w_kB e0_725 rfl ?_
  refine w_x e0_727 (fun _ => rfl) ?_
  refine w_ldA e0_728 (fun _ => rfl) rfl ?_
  refine w_ldI e0_729 (fun _ => rfl) rfl ?_
  refine w_kI e0_731 ?_
  refine w_iadd e0_732 ?_
  refine w_ald e0_733 (lI_0 hL) (by omega) (by omega) (by omega) ?_
  refine w_x e0_734 (fun _ => rfl) ?_
  refine w_x e0_735 (fun _ => rfl) ?_
  refine w_x e0_738 (fun _ => rfl) ?_
  refine w_x e0_739 (fun _ => rfl) ?_
  refine w_ldA e0_740 (fun _ => rfl) rfl ?_
  refine w_ldI e0_741 (fun _ => rfl) rfl ?_
  refine w_kI e0_743 ?_
  refine w_iadd e0_744 ?_
  refine w_ald e0_745 (lI_0 hL) (by omega) (by omega) (by omega) ?_
  refine w_x e0_746 (fun _ => rfl) ?_
  refine w_kB e0_747 rfl ?_
  refine w_x e0_749 (fun _ => rfl) ?_
  refine w_ldA e0_750 (fun _ => rfl) rfl ?_
  refine w_ldI e0_751 (fun _ => rfl) rfl ?_
  refine w_kI e0_753 ?_
  refine w_iadd e0_754 ?_
  refine w_ald e0_755 (lI_0 hL) (by omega) (by omega) (by omega) ?_
  refine w_x e0_756 (fun _ => rfl) ?_
  refine w_x e0_757 (fun _ => rfl) ?_
  refine w_x e0_760 (fun _ => rfl) ?_
  refine w_x e0_761 (fun _ => rfl) ?_
  obtain ⟨fs1, e2⟩ := lI_238 hL
  show vm_Wp _ _ _ 762 _ [.long (laL (xs (x4 + 3).toNat) (xs (x4 + 4).toNat)), .long (laL (xs (x4 + 1).toNat) (xs (x4 + 2).toNat)), .ref 238] _ _
  refine w_cv e0_762 (by decide) rfl e2 rfl (Nat.le_of_ble_eq_true rfl) (Nat.le_of_ble_eq_true rfl) (Nat.le_of_ble_eq_true rfl) (by decide) (by decide) (y122n hL _ _ hb) (fun o3 v4 hq5 => ?_)
  obtain ⟨hL6, rfl⟩ := hq5
  refine w_stL (j := 6) (A1 := [some (.ref 0), some (.ref 1), some (.ref 238), some (.ref 263), some (.int (vz x4)), some (.int (vz 0)), some (.long ((laL (xs (x4 + 1).toNat) (xs (x4 + 2).toNat)) <<< (Int32.toInt64 (Int8.ofInt 32).toInt32 &&& 63) / (laL (xs (x4 + 3).toNat) (xs (x4 + 4).toNat)))), none]) e0_765 (fun _ => rfl) (by decide) rfl ?_
  refine w_x e0_767 (fun _ => rfl) ?_
  refine w_iinc (A1 := [some (.ref 0), some (.ref 1), some (.ref 238), some (.ref 263), some (.int (vz (x4 + 5))), some (.int (vz 0)), some (.long ((laL (xs (x4 + 1).toNat) (xs (x4 + 2).toNat)) <<< (Int32.toInt64 (Int8.ofInt 32).toInt32 &&& 63) / (laL (xs (x4 + 3).toNat) (xs (x4 + 4).toNat)))), none]) e0_770 rfl (by decide) rfl ?_
  refine w_x e0_773 (fun _ => rfl) ?_
  have hnp7 : n = n ∧ p = p := by omega
  exact w_sub (A1 := [some (.ref 0), some (.ref 1), some (.ref 238), some (.ref 263), some (.int (vz (x4 + 5))), none, none, none]) (And.intro rfl (And.intro rfl (And.intro rfl (And.intro rfl (And.intro rfl trivial))))) (w_end (fun ls hl => ⟨rfl, rfl, hl, by omega, _, _, _, _, hL6⟩))
