theorem e0_23 : vm_ent 0 23 = some (.iload 4, 0, 0, 0) := by decide +kernel
theorem e0_25 : vm_ent 0 25 = some (.aload_n 0, 0, 0, 0) := by decide +kernel
theorem e0_26 : vm_ent 0 26 = some (.arraylength, 0, 0, 0) := by decide +kernel
theorem e0_27 : vm_ent 0 27 = some (.iconst 5, 0, 0, 0) := by decide +kernel
theorem e0_28 : vm_ent 0 28 = some (.isub, 0, 0, 0) := by decide +kernel
theorem e0_29 : vm_ent 0 29 = some (.if_icmp .gt 747, 776, 0, 0) := by decide +kernel
theorem e0_32 : vm_ent 0 32 = some (.aload_n 0, 0, 0, 0) := by decide +kernel
theorem e0_33 : vm_ent 0 33 = some (.iload 4, 0, 0, 0) := by decide +kernel
theorem e0_35 : vm_ent 0 35 = some (.iaload, 0, 0, 0) := by decide +kernel
theorem e0_36 : vm_ent 0 36 = some (.bipush 15, 0, 0, 0) := by decide +kernel
theorem e0_38 : vm_ent 0 38 = some (.iand, 0, 0, 0) := by decide +kernel
theorem e0_39 : vm_ent 0 39 = some (.tableswitch 731 0 14 #[73, 114, 151, 164, 245, 298, 311, 336, 373, 398, 447, 496, 565, 602, 627], 73, 0, 0) := by decide +kernel
theorem e0_112 : vm_ent 0 112 = some (.aload_n 1, 0, 0, 0) := by decide +kernel
theorem e0_113 : vm_ent 0 113 = some (.aload_n 0, 0, 0, 0) := by decide +kernel
theorem e0_114 : vm_ent 0 114 = some (.iload 4, 0, 0, 0) := by decide +kernel
theorem e0_116 : vm_ent 0 116 = some (.iconst 1, 0, 0, 0) := by decide +kernel
theorem e0_117 : vm_ent 0 117 = some (.iadd, 0, 0, 0) := by decide +kernel
theorem e0_118 : vm_ent 0 118 = some (.iaload, 0, 0, 0) := by decide +kernel
theorem e0_119 : vm_ent 0 119 = some (.ifCond .eq 7, 126, 0, 0) := by decide +kernel
theorem e0_122 : vm_ent 0 122 = some (.iconst 1, 0, 0, 0) := by decide +kernel
theorem e0_123 : vm_ent 0 123 = some (.goto 4, 127, 0, 0) := by decide +kernel
theorem e0_126 : vm_ent 0 126 = some (.iconst 0, 0, 0, 0) := by decide +kernel
theorem e0_127 : vm_ent 0 127 = some (.invokevirtual 19, 44, 4, 250) := by decide +kernel
theorem e0_130 : vm_ent 0 130 = some (.pop, 0, 0, 0) := by decide +kernel
theorem e0_131 : vm_ent 0 131 = some (.aload_n 2, 0, 0, 0) := by decide +kernel
theorem e0_132 : vm_ent 0 132 = some (.aload_n 0, 0, 0, 0) := by decide +kernel
theorem e0_133 : vm_ent 0 133 = some (.iload 4, 0, 0, 0) := by decide +kernel
theorem e0_135 : vm_ent 0 135 = some (.iconst 1, 0, 0, 0) := by decide +kernel
theorem e0_136 : vm_ent 0 136 = some (.iadd, 0, 0, 0) := by decide +kernel
theorem e0_137 : vm_ent 0 137 = some (.iaload, 0, 0, 0) := by decide +kernel
theorem e0_138 : vm_ent 0 138 = some (.ifCond .eq 7, 145, 0, 0) := by decide +kernel
theorem e0_141 : vm_ent 0 141 = some (.iconst 1, 0, 0, 0) := by decide +kernel
theorem e0_142 : vm_ent 0 142 = some (.goto 4, 146, 0, 0) := by decide +kernel
theorem e0_145 : vm_ent 0 145 = some (.iconst 0, 0, 0, 0) := by decide +kernel
theorem e0_146 : vm_ent 0 146 = some (.invokevirtual 23, 105, 4, 877) := by decide +kernel
theorem e0_149 : vm_ent 0 149 = some (.pop, 0, 0, 0) := by decide +kernel
theorem e0_150 : vm_ent 0 150 = some (.goto 620, 770, 0, 0) := by decide +kernel
theorem e0_153 : vm_ent 0 153 = some (.aload_n 1, 0, 0, 0) := by decide +kernel
theorem e0_154 : vm_ent 0 154 = some (.aload_n 0, 0, 0, 0) := by decide +kernel
theorem e0_155 : vm_ent 0 155 = some (.iload 4, 0, 0, 0) := by decide +kernel
theorem e0_157 : vm_ent 0 157 = some (.iconst 1, 0, 0, 0) := by decide +kernel
theorem e0_158 : vm_ent 0 158 = some (.iadd, 0, 0, 0) := by decide +kernel
theorem e0_159 : vm_ent 0 159 = some (.iaload, 0, 0, 0) := by decide +kernel
theorem e0_160 : vm_ent 0 160 = some (.aload_n 0, 0, 0, 0) := by decide +kernel
theorem e0_161 : vm_ent 0 161 = some (.iload 4, 0, 0, 0) := by decide +kernel
theorem e0_163 : vm_ent 0 163 = some (.iconst 2, 0, 0, 0) := by decide +kernel
theorem e0_164 : vm_ent 0 164 = some (.iadd, 0, 0, 0) := by decide +kernel
theorem e0_165 : vm_ent 0 165 = some (.iaload, 0, 0, 0) := by decide +kernel
theorem e0_166 : vm_ent 0 166 = some (.invokevirtual 24, 45, 4, 269) := by decide +kernel
theorem e0_169 : vm_ent 0 169 = some (.pop, 0, 0, 0) := by decide +kernel
theorem e0_170 : vm_ent 0 170 = some (.aload_n 2, 0, 0, 0) := by decide +kernel
theorem e0_171 : vm_ent 0 171 = some (.aload_n 0, 0, 0, 0) := by decide +kernel
theorem e0_172 : vm_ent 0 172 = some (.iload 4, 0, 0, 0) := by decide +kernel
theorem e0_174 : vm_ent 0 174 = some (.iconst 1, 0, 0, 0) := by decide +kernel
theorem e0_175 : vm_ent 0 175 = some (.iadd, 0, 0, 0) := by decide +kernel
theorem e0_176 : vm_ent 0 176 = some (.iaload, 0, 0, 0) := by decide +kernel
theorem e0_177 : vm_ent 0 177 = some (.aload_n 0, 0, 0, 0) := by decide +kernel
theorem e0_178 : vm_ent 0 178 = some (.iload 4, 0, 0, 0) := by decide +kernel
theorem e0_180 : vm_ent 0 180 = some (.iconst 2, 0, 0, 0) := by decide +kernel
theorem e0_181 : vm_ent 0 181 = some (.iadd, 0, 0, 0) := by decide +kernel
theorem e0_182 : vm_ent 0 182 = some (.iaload, 0, 0, 0) := by decide +kernel
theorem e0_183 : vm_ent 0 183 = some (.invokevirtual 28, 106, 4, 881) := by decide +kernel
theorem e0_186 : vm_ent 0 186 = some (.pop, 0, 0, 0) := by decide +kernel
theorem e0_187 : vm_ent 0 187 = some (.goto 583, 770, 0, 0) := by decide +kernel
theorem e0_190 : vm_ent 0 190 = some (.aload_n 1, 0, 0, 0) := by decide +kernel
theorem e0_191 : vm_ent 0 191 = some (.invokevirtual 29, 46, 4, 312) := by decide +kernel
theorem e0_194 : vm_ent 0 194 = some (.pop, 0, 0, 0) := by decide +kernel
theorem e0_195 : vm_ent 0 195 = some (.aload_n 2, 0, 0, 0) := by decide +kernel
theorem e0_196 : vm_ent 0 196 = some (.invokevirtual 33, 107, 4, 885) := by decide +kernel
theorem e0_199 : vm_ent 0 199 = some (.pop, 0, 0, 0) := by decide +kernel
theorem e0_200 : vm_ent 0 200 = some (.goto 570, 770, 0, 0) := by decide +kernel
theorem e0_203 : vm_ent 0 203 = some (.aload_n 1, 0, 0, 0) := by decide +kernel
theorem e0_204 : vm_ent 0 204 = some (.aload_n 0, 0, 0, 0) := by decide +kernel
theorem e0_205 : vm_ent 0 205 = some (.iload 4, 0, 0, 0) := by decide +kernel
theorem e0_207 : vm_ent 0 207 = some (.iconst 1, 0, 0, 0) := by decide +kernel
theorem e0_208 : vm_ent 0 208 = some (.iadd, 0, 0, 0) := by decide +kernel
theorem e0_209 : vm_ent 0 209 = some (.iaload, 0, 0, 0) := by decide +kernel
theorem e0_210 : vm_ent 0 210 = some (.aload_n 0, 0, 0, 0) := by decide +kernel
theorem e0_211 : vm_ent 0 211 = some (.iload 4, 0, 0, 0) := by decide +kernel
theorem e0_213 : vm_ent 0 213 = some (.iconst 2, 0, 0, 0) := by decide +kernel
theorem e0_214 : vm_ent 0 214 = some (.iadd, 0, 0, 0) := by decide +kernel
theorem e0_215 : vm_ent 0 215 = some (.iaload, 0, 0, 0) := by decide +kernel
theorem e0_216 : vm_ent 0 216 = some (.i2l, 0, 0, 0) := by decide +kernel
theorem e0_217 : vm_ent 0 217 = some (.bipush 32, 0, 0, 0) := by decide +kernel
theorem e0_219 : vm_ent 0 219 = some (.lshl, 0, 0, 0) := by decide +kernel
theorem e0_220 : vm_ent 0 220 = some (.aload_n 0, 0, 0, 0) := by decide +kernel
theorem e0_221 : vm_ent 0 221 = some (.iload 4, 0, 0, 0) := by decide +kernel
theorem e0_223 : vm_ent 0 223 = some (.iconst 3, 0, 0, 0) := by decide +kernel
theorem e0_224 : vm_ent 0 224 = some (.iadd, 0, 0, 0) := by decide +kernel
theorem e0_225 : vm_ent 0 225 = some (.iaload, 0, 0, 0) := by decide +kernel
theorem e0_226 : vm_ent 0 226 = some (.i2l, 0, 0, 0) := by decide +kernel
theorem e0_227 : vm_ent 0 227 = some (.ldc2_w 34, 4294967295, 0, 951) := by decide +kernel
theorem e0_230 : vm_ent 0 230 = some (.land, 0, 0, 0) := by decide +kernel
theorem e0_231 : vm_ent 0 231 = some (.lor, 0, 0, 0) := by decide +kernel
theorem e0_232 : vm_ent 0 232 = some (.aload_n 0, 0, 0, 0) := by decide +kernel
theorem e0_233 : vm_ent 0 233 = some (.iload 4, 0, 0, 0) := by decide +kernel
theorem e0_235 : vm_ent 0 235 = some (.iconst 4, 0, 0, 0) := by decide +kernel
theorem e0_236 : vm_ent 0 236 = some (.iadd, 0, 0, 0) := by decide +kernel
theorem e0_237 : vm_ent 0 237 = some (.iaload, 0, 0, 0) := by decide +kernel
theorem e0_238 : vm_ent 0 238 = some (.invokevirtual 36, 47, 4, 316) := by decide +kernel
theorem e0_241 : vm_ent 0 241 = some (.pop, 0, 0, 0) := by decide +kernel
theorem e0_242 : vm_ent 0 242 = some (.aload_n 2, 0, 0, 0) := by decide +kernel
theorem e0_243 : vm_ent 0 243 = some (.aload_n 0, 0, 0, 0) := by decide +kernel
theorem e0_244 : vm_ent 0 244 = some (.iload 4, 0, 0, 0) := by decide +kernel
theorem e0_246 : vm_ent 0 246 = some (.iconst 1, 0, 0, 0) := by decide +kernel
theorem e0_247 : vm_ent 0 247 = some (.iadd, 0, 0, 0) := by decide +kernel
theorem e0_248 : vm_ent 0 248 = some (.iaload, 0, 0, 0) := by decide +kernel
theorem e0_249 : vm_ent 0 249 = some (.aload_n 0, 0, 0, 0) := by decide +kernel
theorem e0_250 : vm_ent 0 250 = some (.iload 4, 0, 0, 0) := by decide +kernel
theorem e0_252 : vm_ent 0 252 = some (.iconst 2, 0, 0, 0) := by decide +kernel
theorem e0_253 : vm_ent 0 253 = some (.iadd, 0, 0, 0) := by decide +kernel
theorem e0_254 : vm_ent 0 254 = some (.iaload, 0, 0, 0) := by decide +kernel
theorem e0_255 : vm_ent 0 255 = some (.i2l, 0, 0, 0) := by decide +kernel
theorem e0_256 : vm_ent 0 256 = some (.bipush 32, 0, 0, 0) := by decide +kernel
theorem e0_258 : vm_ent 0 258 = some (.lshl, 0, 0, 0) := by decide +kernel
theorem e0_259 : vm_ent 0 259 = some (.aload_n 0, 0, 0, 0) := by decide +kernel
theorem e0_260 : vm_ent 0 260 = some (.iload 4, 0, 0, 0) := by decide +kernel
theorem e0_262 : vm_ent 0 262 = some (.iconst 3, 0, 0, 0) := by decide +kernel
theorem e0_263 : vm_ent 0 263 = some (.iadd, 0, 0, 0) := by decide +kernel
theorem e0_264 : vm_ent 0 264 = some (.iaload, 0, 0, 0) := by decide +kernel
theorem e0_265 : vm_ent 0 265 = some (.i2l, 0, 0, 0) := by decide +kernel
theorem e0_266 : vm_ent 0 266 = some (.ldc2_w 34, 4294967295, 0, 951) := by decide +kernel
theorem e0_269 : vm_ent 0 269 = some (.land, 0, 0, 0) := by decide +kernel
theorem e0_270 : vm_ent 0 270 = some (.lor, 0, 0, 0) := by decide +kernel
theorem e0_271 : vm_ent 0 271 = some (.aload_n 0, 0, 0, 0) := by decide +kernel
theorem e0_272 : vm_ent 0 272 = some (.iload 4, 0, 0, 0) := by decide +kernel
theorem e0_274 : vm_ent 0 274 = some (.iconst 4, 0, 0, 0) := by decide +kernel
theorem e0_275 : vm_ent 0 275 = some (.iadd, 0, 0, 0) := by decide +kernel
theorem e0_276 : vm_ent 0 276 = some (.iaload, 0, 0, 0) := by decide +kernel
theorem e0_277 : vm_ent 0 277 = some (.invokevirtual 40, 108, 4, 889) := by decide +kernel
theorem e0_280 : vm_ent 0 280 = some (.pop, 0, 0, 0) := by decide +kernel
theorem e0_281 : vm_ent 0 281 = some (.goto 489, 770, 0, 0) := by decide +kernel
theorem e0_284 : vm_ent 0 284 = some (.aload_n 1, 0, 0, 0) := by decide +kernel
theorem e0_285 : vm_ent 0 285 = some (.aload_n 0, 0, 0, 0) := by decide +kernel
theorem e0_286 : vm_ent 0 286 = some (.iload 4, 0, 0, 0) := by decide +kernel
theorem e0_288 : vm_ent 0 288 = some (.iconst 1, 0, 0, 0) := by decide +kernel
theorem e0_289 : vm_ent 0 289 = some (.iadd, 0, 0, 0) := by decide +kernel
theorem e0_290 : vm_ent 0 290 = some (.iaload, 0, 0, 0) := by decide +kernel
theorem e0_291 : vm_ent 0 291 = some (.aload_n 0, 0, 0, 0) := by decide +kernel
theorem e0_292 : vm_ent 0 292 = some (.iload 4, 0, 0, 0) := by decide +kernel
theorem e0_294 : vm_ent 0 294 = some (.iconst 2, 0, 0, 0) := by decide +kernel
theorem e0_295 : vm_ent 0 295 = some (.iadd, 0, 0, 0) := by decide +kernel
theorem e0_296 : vm_ent 0 296 = some (.iaload, 0, 0, 0) := by decide +kernel
theorem e0_297 : vm_ent 0 297 = some (.ifCond .eq 7, 304, 0, 0) := by decide +kernel
theorem e0_300 : vm_ent 0 300 = some (.iconst 1, 0, 0, 0) := by decide +kernel
theorem e0_301 : vm_ent 0 301 = some (.goto 4, 305, 0, 0) := by decide +kernel
theorem e0_304 : vm_ent 0 304 = some (.iconst 0, 0, 0, 0) := by decide +kernel
theorem e0_305 : vm_ent 0 305 = some (.invokevirtual 41, 48, 4, 351) := by decide +kernel
theorem e0_308 : vm_ent 0 308 = some (.pop, 0, 0, 0) := by decide +kernel
theorem e0_309 : vm_ent 0 309 = some (.aload_n 2, 0, 0, 0) := by decide +kernel
theorem e0_310 : vm_ent 0 310 = some (.aload_n 0, 0, 0, 0) := by decide +kernel
theorem e0_311 : vm_ent 0 311 = some (.iload 4, 0, 0, 0) := by decide +kernel
theorem e0_313 : vm_ent 0 313 = some (.iconst 1, 0, 0, 0) := by decide +kernel
theorem e0_314 : vm_ent 0 314 = some (.iadd, 0, 0, 0) := by decide +kernel
theorem e0_315 : vm_ent 0 315 = some (.iaload, 0, 0, 0) := by decide +kernel
theorem e0_316 : vm_ent 0 316 = some (.aload_n 0, 0, 0, 0) := by decide +kernel
theorem e0_317 : vm_ent 0 317 = some (.iload 4, 0, 0, 0) := by decide +kernel
theorem e0_319 : vm_ent 0 319 = some (.iconst 2, 0, 0, 0) := by decide +kernel
theorem e0_320 : vm_ent 0 320 = some (.iadd, 0, 0, 0) := by decide +kernel
theorem e0_321 : vm_ent 0 321 = some (.iaload, 0, 0, 0) := by decide +kernel
theorem e0_322 : vm_ent 0 322 = some (.ifCond .eq 7, 329, 0, 0) := by decide +kernel
theorem e0_325 : vm_ent 0 325 = some (.iconst 1, 0, 0, 0) := by decide +kernel
theorem e0_326 : vm_ent 0 326 = some (.goto 4, 330, 0, 0) := by decide +kernel
theorem e0_329 : vm_ent 0 329 = some (.iconst 0, 0, 0, 0) := by decide +kernel
theorem e0_330 : vm_ent 0 330 = some (.invokevirtual 45, 109, 4, 895) := by decide +kernel
theorem e0_333 : vm_ent 0 333 = some (.pop, 0, 0, 0) := by decide +kernel
theorem e0_334 : vm_ent 0 334 = some (.goto 436, 770, 0, 0) := by decide +kernel
theorem e0_337 : vm_ent 0 337 = some (.aload_n 1, 0, 0, 0) := by decide +kernel
theorem e0_338 : vm_ent 0 338 = some (.invokevirtual 46, 49, 4, 355) := by decide +kernel
theorem e0_341 : vm_ent 0 341 = some (.aload_n 2, 0, 0, 0) := by decide +kernel
theorem e0_342 : vm_ent 0 342 = some (.invokevirtual 49, 102, 4, 767) := by decide +kernel
theorem e0_345 : vm_ent 0 345 = some (.if_icmp .eq 425, 770, 0, 0) := by decide +kernel
theorem e0_348 : vm_ent 0 348 = some (.iconst 0, 0, 0, 0) := by decide +kernel
theorem e0_349 : vm_ent 0 349 = some (.ireturn, 0, 0, 0) := by decide +kernel
theorem e0_350 : vm_ent 0 350 = some (.aload_n 1, 0, 0, 0) := by decide +kernel
theorem e0_351 : vm_ent 0 351 = some (.aload_n 0, 0, 0, 0) := by decide +kernel
theorem e0_352 : vm_ent 0 352 = some (.iload 4, 0, 0, 0) := by decide +kernel
theorem e0_354 : vm_ent 0 354 = some (.iconst 1, 0, 0, 0) := by decide +kernel
theorem e0_355 : vm_ent 0 355 = some (.iadd, 0, 0, 0) := by decide +kernel
theorem e0_356 : vm_ent 0 356 = some (.iaload, 0, 0, 0) := by decide +kernel
theorem e0_357 : vm_ent 0 357 = some (.invokevirtual 50, 50, 4, 482) := by decide +kernel
theorem e0_360 : vm_ent 0 360 = some (.pop, 0, 0, 0) := by decide +kernel
theorem e0_361 : vm_ent 0 361 = some (.aload_n 2, 0, 0, 0) := by decide +kernel
theorem e0_362 : vm_ent 0 362 = some (.aload_n 0, 0, 0, 0) := by decide +kernel
theorem e0_363 : vm_ent 0 363 = some (.iload 4, 0, 0, 0) := by decide +kernel
theorem e0_365 : vm_ent 0 365 = some (.iconst 1, 0, 0, 0) := by decide +kernel
theorem e0_366 : vm_ent 0 366 = some (.iadd, 0, 0, 0) := by decide +kernel
theorem e0_367 : vm_ent 0 367 = some (.iaload, 0, 0, 0) := by decide +kernel
theorem e0_368 : vm_ent 0 368 = some (.invokevirtual 54, 104, 4, 869) := by decide +kernel
theorem e0_371 : vm_ent 0 371 = some (.pop, 0, 0, 0) := by decide +kernel
theorem e0_372 : vm_ent 0 372 = some (.goto 398, 770, 0, 0) := by decide +kernel
theorem e0_375 : vm_ent 0 375 = some (.aload_n 1, 0, 0, 0) := by decide +kernel
theorem e0_376 : vm_ent 0 376 = some (.aload_n 0, 0, 0, 0) := by decide +kernel
theorem e0_377 : vm_ent 0 377 = some (.iload 4, 0, 0, 0) := by decide +kernel
theorem e0_379 : vm_ent 0 379 = some (.iconst 1, 0, 0, 0) := by decide +kernel
theorem e0_380 : vm_ent 0 380 = some (.iadd, 0, 0, 0) := by decide +kernel
theorem e0_381 : vm_ent 0 381 = some (.iaload, 0, 0, 0) := by decide +kernel
theorem e0_382 : vm_ent 0 382 = some (.aload_n 0, 0, 0, 0) := by decide +kernel
theorem e0_383 : vm_ent 0 383 = some (.iload 4, 0, 0, 0) := by decide +kernel
theorem e0_385 : vm_ent 0 385 = some (.iconst 2, 0, 0, 0) := by decide +kernel
theorem e0_386 : vm_ent 0 386 = some (.iadd, 0, 0, 0) := by decide +kernel
theorem e0_387 : vm_ent 0 387 = some (.iaload, 0, 0, 0) := by decide +kernel
theorem e0_388 : vm_ent 0 388 = some (.invokevirtual 55, 51, 4, 487) := by decide +kernel
theorem e0_391 : vm_ent 0 391 = some (.pop, 0, 0, 0) := by decide +kernel
theorem e0_392 : vm_ent 0 392 = some (.aload_n 2, 0, 0, 0) := by decide +kernel
theorem e0_393 : vm_ent 0 393 = some (.aload_n 0, 0, 0, 0) := by decide +kernel
theorem e0_394 : vm_ent 0 394 = some (.iload 4, 0, 0, 0) := by decide +kernel
theorem e0_396 : vm_ent 0 396 = some (.iconst 1, 0, 0, 0) := by decide +kernel
theorem e0_397 : vm_ent 0 397 = some (.iadd, 0, 0, 0) := by decide +kernel
theorem e0_398 : vm_ent 0 398 = some (.iaload, 0, 0, 0) := by decide +kernel
theorem e0_399 : vm_ent 0 399 = some (.aload_n 0, 0, 0, 0) := by decide +kernel
theorem e0_400 : vm_ent 0 400 = some (.iload 4, 0, 0, 0) := by decide +kernel
theorem e0_402 : vm_ent 0 402 = some (.iconst 2, 0, 0, 0) := by decide +kernel
theorem e0_403 : vm_ent 0 403 = some (.iadd, 0, 0, 0) := by decide +kernel
theorem e0_404 : vm_ent 0 404 = some (.iaload, 0, 0, 0) := by decide +kernel
theorem e0_405 : vm_ent 0 405 = some (.invokevirtual 59, 112, 4, 899) := by decide +kernel
theorem e0_408 : vm_ent 0 408 = some (.pop, 0, 0, 0) := by decide +kernel
theorem e0_409 : vm_ent 0 409 = some (.goto 361, 770, 0, 0) := by decide +kernel
theorem e0_412 : vm_ent 0 412 = some (.aload_n 1, 0, 0, 0) := by decide +kernel
theorem e0_413 : vm_ent 0 413 = some (.aload_n 0, 0, 0, 0) := by decide +kernel
theorem e0_414 : vm_ent 0 414 = some (.iload 4, 0, 0, 0) := by decide +kernel
theorem e0_416 : vm_ent 0 416 = some (.iconst 1, 0, 0, 0) := by decide +kernel
theorem e0_417 : vm_ent 0 417 = some (.iadd, 0, 0, 0) := by decide +kernel
theorem e0_418 : vm_ent 0 418 = some (.iaload, 0, 0, 0) := by decide +kernel
theorem e0_419 : vm_ent 0 419 = some (.invokevirtual 60, 52, 4, 500) := by decide +kernel
theorem e0_422 : vm_ent 0 422 = some (.pop, 0, 0, 0) := by decide +kernel
theorem e0_423 : vm_ent 0 423 = some (.aload_n 2, 0, 0, 0) := by decide +kernel
theorem e0_424 : vm_ent 0 424 = some (.aload_n 0, 0, 0, 0) := by decide +kernel
theorem e0_425 : vm_ent 0 425 = some (.iload 4, 0, 0, 0) := by decide +kernel
theorem e0_427 : vm_ent 0 427 = some (.iconst 1, 0, 0, 0) := by decide +kernel
theorem e0_428 : vm_ent 0 428 = some (.iadd, 0, 0, 0) := by decide +kernel
theorem e0_429 : vm_ent 0 429 = some (.iaload, 0, 0, 0) := by decide +kernel
theorem e0_430 : vm_ent 0 430 = some (.invokevirtual 63, 113, 4, 911) := by decide +kernel
theorem e0_433 : vm_ent 0 433 = some (.pop, 0, 0, 0) := by decide +kernel
theorem e0_434 : vm_ent 0 434 = some (.goto 336, 770, 0, 0) := by decide +kernel
theorem e0_437 : vm_ent 0 437 = some (.aload_n 1, 0, 0, 0) := by decide +kernel
theorem e0_438 : vm_ent 0 438 = some (.aload_n 0, 0, 0, 0) := by decide +kernel
theorem e0_439 : vm_ent 0 439 = some (.iload 4, 0, 0, 0) := by decide +kernel
theorem e0_441 : vm_ent 0 441 = some (.iconst 1, 0, 0, 0) := by decide +kernel
theorem e0_442 : vm_ent 0 442 = some (.iadd, 0, 0, 0) := by decide +kernel
theorem e0_443 : vm_ent 0 443 = some (.iaload, 0, 0, 0) := by decide +kernel
theorem e0_444 : vm_ent 0 444 = some (.aload_n 0, 0, 0, 0) := by decide +kernel
theorem e0_445 : vm_ent 0 445 = some (.iload 4, 0, 0, 0) := by decide +kernel
theorem e0_447 : vm_ent 0 447 = some (.iconst 2, 0, 0, 0) := by decide +kernel
theorem e0_448 : vm_ent 0 448 = some (.iadd, 0, 0, 0) := by decide +kernel
theorem e0_449 : vm_ent 0 449 = some (.iaload, 0, 0, 0) := by decide +kernel
theorem e0_450 : vm_ent 0 450 = some (.aload_n 0, 0, 0, 0) := by decide +kernel
theorem e0_451 : vm_ent 0 451 = some (.iload 4, 0, 0, 0) := by decide +kernel
theorem e0_453 : vm_ent 0 453 = some (.iconst 3, 0, 0, 0) := by decide +kernel
theorem e0_454 : vm_ent 0 454 = some (.iadd, 0, 0, 0) := by decide +kernel
theorem e0_455 : vm_ent 0 455 = some (.iaload, 0, 0, 0) := by decide +kernel
theorem e0_456 : vm_ent 0 456 = some (.invokevirtual 64, 53, 4, 508) := by decide +kernel
theorem e0_459 : vm_ent 0 459 = some (.pop2, 0, 0, 0) := by decide +kernel
theorem e0_460 : vm_ent 0 460 = some (.aload_n 2, 0, 0, 0) := by decide +kernel
theorem e0_461 : vm_ent 0 461 = some (.aload_n 0, 0, 0, 0) := by decide +kernel
theorem e0_462 : vm_ent 0 462 = some (.iload 4, 0, 0, 0) := by decide +kernel
theorem e0_464 : vm_ent 0 464 = some (.iconst 1, 0, 0, 0) := by decide +kernel
theorem e0_465 : vm_ent 0 465 = some (.iadd, 0, 0, 0) := by decide +kernel
theorem e0_466 : vm_ent 0 466 = some (.iaload, 0, 0, 0) := by decide +kernel
theorem e0_467 : vm_ent 0 467 = some (.aload_n 0, 0, 0, 0) := by decide +kernel
theorem e0_468 : vm_ent 0 468 = some (.iload 4, 0, 0, 0) := by decide +kernel
theorem e0_470 : vm_ent 0 470 = some (.iconst 2, 0, 0, 0) := by decide +kernel
theorem e0_471 : vm_ent 0 471 = some (.iadd, 0, 0, 0) := by decide +kernel
theorem e0_472 : vm_ent 0 472 = some (.iaload, 0, 0, 0) := by decide +kernel
theorem e0_473 : vm_ent 0 473 = some (.aload_n 0, 0, 0, 0) := by decide +kernel
theorem e0_474 : vm_ent 0 474 = some (.iload 4, 0, 0, 0) := by decide +kernel
theorem e0_476 : vm_ent 0 476 = some (.iconst 3, 0, 0, 0) := by decide +kernel
theorem e0_477 : vm_ent 0 477 = some (.iadd, 0, 0, 0) := by decide +kernel
theorem e0_478 : vm_ent 0 478 = some (.iaload, 0, 0, 0) := by decide +kernel
theorem e0_479 : vm_ent 0 479 = some (.invokevirtual 68, 115, 4, 915) := by decide +kernel
theorem e0_482 : vm_ent 0 482 = some (.pop2, 0, 0, 0) := by decide +kernel
theorem e0_483 : vm_ent 0 483 = some (.goto 287, 770, 0, 0) := by decide +kernel
theorem e0_486 : vm_ent 0 486 = some (.aload_n 1, 0, 0, 0) := by decide +kernel
theorem e0_487 : vm_ent 0 487 = some (.aload_n 0, 0, 0, 0) := by decide +kernel
theorem e0_488 : vm_ent 0 488 = some (.iload 4, 0, 0, 0) := by decide +kernel
theorem e0_490 : vm_ent 0 490 = some (.iconst 1, 0, 0, 0) := by decide +kernel
theorem e0_491 : vm_ent 0 491 = some (.iadd, 0, 0, 0) := by decide +kernel
theorem e0_492 : vm_ent 0 492 = some (.iaload, 0, 0, 0) := by decide +kernel
theorem e0_493 : vm_ent 0 493 = some (.aload_n 0, 0, 0, 0) := by decide +kernel
theorem e0_494 : vm_ent 0 494 = some (.iload 4, 0, 0, 0) := by decide +kernel
theorem e0_496 : vm_ent 0 496 = some (.iconst 2, 0, 0, 0) := by decide +kernel
theorem e0_497 : vm_ent 0 497 = some (.iadd, 0, 0, 0) := by decide +kernel
theorem e0_498 : vm_ent 0 498 = some (.iaload, 0, 0, 0) := by decide +kernel
theorem e0_499 : vm_ent 0 499 = some (.aload_n 0, 0, 0, 0) := by decide +kernel
theorem e0_500 : vm_ent 0 500 = some (.iload 4, 0, 0, 0) := by decide +kernel
theorem e0_502 : vm_ent 0 502 = some (.iconst 3, 0, 0, 0) := by decide +kernel
theorem e0_503 : vm_ent 0 503 = some (.iadd, 0, 0, 0) := by decide +kernel
theorem e0_504 : vm_ent 0 504 = some (.iaload, 0, 0, 0) := by decide +kernel
theorem e0_505 : vm_ent 0 505 = some (.invokevirtual 69, 54, 4, 524) := by decide +kernel
theorem e0_508 : vm_ent 0 508 = some (.pop, 0, 0, 0) := by decide +kernel
theorem e0_509 : vm_ent 0 509 = some (.aload_n 2, 0, 0, 0) := by decide +kernel
theorem e0_510 : vm_ent 0 510 = some (.aload_n 0, 0, 0, 0) := by decide +kernel
theorem e0_511 : vm_ent 0 511 = some (.iload 4, 0, 0, 0) := by decide +kernel
theorem e0_513 : vm_ent 0 513 = some (.iconst 1, 0, 0, 0) := by decide +kernel
theorem e0_514 : vm_ent 0 514 = some (.iadd, 0, 0, 0) := by decide +kernel
theorem e0_515 : vm_ent 0 515 = some (.iaload, 0, 0, 0) := by decide +kernel
theorem e0_516 : vm_ent 0 516 = some (.aload_n 0, 0, 0, 0) := by decide +kernel
theorem e0_517 : vm_ent 0 517 = some (.iload 4, 0, 0, 0) := by decide +kernel
theorem e0_519 : vm_ent 0 519 = some (.iconst 2, 0, 0, 0) := by decide +kernel
theorem e0_520 : vm_ent 0 520 = some (.iadd, 0, 0, 0) := by decide +kernel
theorem e0_521 : vm_ent 0 521 = some (.iaload, 0, 0, 0) := by decide +kernel
theorem e0_522 : vm_ent 0 522 = some (.aload_n 0, 0, 0, 0) := by decide +kernel
theorem e0_523 : vm_ent 0 523 = some (.iload 4, 0, 0, 0) := by decide +kernel
theorem e0_525 : vm_ent 0 525 = some (.iconst 3, 0, 0, 0) := by decide +kernel
theorem e0_526 : vm_ent 0 526 = some (.iadd, 0, 0, 0) := by decide +kernel
theorem e0_527 : vm_ent 0 527 = some (.iaload, 0, 0, 0) := by decide +kernel
theorem e0_528 : vm_ent 0 528 = some (.invokevirtual 73, 116, 4, 923) := by decide +kernel
theorem e0_531 : vm_ent 0 531 = some (.pop, 0, 0, 0) := by decide +kernel
theorem e0_532 : vm_ent 0 532 = some (.goto 238, 770, 0, 0) := by decide +kernel
theorem e0_535 : vm_ent 0 535 = some (.aload_n 1, 0, 0, 0) := by decide +kernel
theorem e0_536 : vm_ent 0 536 = some (.aload_n 0, 0, 0, 0) := by decide +kernel
theorem e0_537 : vm_ent 0 537 = some (.iload 4, 0, 0, 0) := by decide +kernel
theorem e0_539 : vm_ent 0 539 = some (.iconst 1, 0, 0, 0) := by decide +kernel
theorem e0_540 : vm_ent 0 540 = some (.iadd, 0, 0, 0) := by decide +kernel
theorem e0_541 : vm_ent 0 541 = some (.iaload, 0, 0, 0) := by decide +kernel
theorem e0_542 : vm_ent 0 542 = some (.aload_n 0, 0, 0, 0) := by decide +kernel
theorem e0_543 : vm_ent 0 543 = some (.iload 4, 0, 0, 0) := by decide +kernel
theorem e0_545 : vm_ent 0 545 = some (.iconst 2, 0, 0, 0) := by decide +kernel
theorem e0_546 : vm_ent 0 546 = some (.iadd, 0, 0, 0) := by decide +kernel
theorem e0_547 : vm_ent 0 547 = some (.iaload, 0, 0, 0) := by decide +kernel
theorem e0_548 : vm_ent 0 548 = some (.i2l, 0, 0, 0) := by decide +kernel
theorem e0_549 : vm_ent 0 549 = some (.bipush 32, 0, 0, 0) := by decide +kernel
theorem e0_551 : vm_ent 0 551 = some (.lshl, 0, 0, 0) := by decide +kernel
theorem e0_552 : vm_ent 0 552 = some (.aload_n 0, 0, 0, 0) := by decide +kernel
theorem e0_553 : vm_ent 0 553 = some (.iload 4, 0, 0, 0) := by decide +kernel
theorem e0_555 : vm_ent 0 555 = some (.iconst 3, 0, 0, 0) := by decide +kernel
theorem e0_556 : vm_ent 0 556 = some (.iadd, 0, 0, 0) := by decide +kernel
theorem e0_557 : vm_ent 0 557 = some (.iaload, 0, 0, 0) := by decide +kernel
theorem e0_558 : vm_ent 0 558 = some (.i2l, 0, 0, 0) := by decide +kernel
theorem e0_559 : vm_ent 0 559 = some (.ldc2_w 34, 4294967295, 0, 951) := by decide +kernel
theorem e0_562 : vm_ent 0 562 = some (.land, 0, 0, 0) := by decide +kernel
theorem e0_563 : vm_ent 0 563 = some (.lor, 0, 0, 0) := by decide +kernel
theorem e0_564 : vm_ent 0 564 = some (.invokevirtual 74, 55, 4, 529) := by decide +kernel
theorem e0_567 : vm_ent 0 567 = some (.pop, 0, 0, 0) := by decide +kernel
theorem e0_568 : vm_ent 0 568 = some (.aload_n 2, 0, 0, 0) := by decide +kernel
theorem e0_569 : vm_ent 0 569 = some (.aload_n 0, 0, 0, 0) := by decide +kernel
theorem e0_570 : vm_ent 0 570 = some (.iload 4, 0, 0, 0) := by decide +kernel
theorem e0_572 : vm_ent 0 572 = some (.iconst 1, 0, 0, 0) := by decide +kernel
theorem e0_573 : vm_ent 0 573 = some (.iadd, 0, 0, 0) := by decide +kernel
theorem e0_574 : vm_ent 0 574 = some (.iaload, 0, 0, 0) := by decide +kernel
theorem e0_575 : vm_ent 0 575 = some (.aload_n 0, 0, 0, 0) := by decide +kernel
theorem e0_576 : vm_ent 0 576 = some (.iload 4, 0, 0, 0) := by decide +kernel
theorem e0_578 : vm_ent 0 578 = some (.iconst 2, 0, 0, 0) := by decide +kernel
theorem e0_579 : vm_ent 0 579 = some (.iadd, 0, 0, 0) := by decide +kernel
theorem e0_580 : vm_ent 0 580 = some (.iaload, 0, 0, 0) := by decide +kernel
theorem e0_581 : vm_ent 0 581 = some (.i2l, 0, 0, 0) := by decide +kernel
theorem e0_582 : vm_ent 0 582 = some (.bipush 32, 0, 0, 0) := by decide +kernel
theorem e0_584 : vm_ent 0 584 = some (.lshl, 0, 0, 0) := by decide +kernel
theorem e0_585 : vm_ent 0 585 = some (.aload_n 0, 0, 0, 0) := by decide +kernel
theorem e0_586 : vm_ent 0 586 = some (.iload 4, 0, 0, 0) := by decide +kernel
theorem e0_588 : vm_ent 0 588 = some (.iconst 3, 0, 0, 0) := by decide +kernel
theorem e0_589 : vm_ent 0 589 = some (.iadd, 0, 0, 0) := by decide +kernel
theorem e0_590 : vm_ent 0 590 = some (.iaload, 0, 0, 0) := by decide +kernel
theorem e0_591 : vm_ent 0 591 = some (.i2l, 0, 0, 0) := by decide +kernel
theorem e0_592 : vm_ent 0 592 = some (.ldc2_w 34, 4294967295, 0, 951) := by decide +kernel
theorem e0_595 : vm_ent 0 595 = some (.land, 0, 0, 0) := by decide +kernel
theorem e0_596 : vm_ent 0 596 = some (.lor, 0, 0, 0) := by decide +kernel
theorem e0_597 : vm_ent 0 597 = some (.invokevirtual 78, 117, 4, 927) := by decide +kernel
theorem e0_600 : vm_ent 0 600 = some (.pop, 0, 0, 0) := by decide +kernel
theorem e0_601 : vm_ent 0 601 = some (.goto 169, 770, 0, 0) := by decide +kernel
theorem e0_604 : vm_ent 0 604 = some (.aload_n 1, 0, 0, 0) := by decide +kernel
theorem e0_605 : vm_ent 0 605 = some (.aload_n 0, 0, 0, 0) := by decide +kernel
theorem e0_606 : vm_ent 0 606 = some (.iload 4, 0, 0, 0) := by decide +kernel
theorem e0_608 : vm_ent 0 608 = some (.iconst 1, 0, 0, 0) := by decide +kernel
theorem e0_609 : vm_ent 0 609 = some (.iadd, 0, 0, 0) := by decide +kernel
theorem e0_610 : vm_ent 0 610 = some (.iaload, 0, 0, 0) := by decide +kernel
theorem e0_611 : vm_ent 0 611 = some (.aload_n 0, 0, 0, 0) := by decide +kernel
theorem e0_612 : vm_ent 0 612 = some (.iload 4, 0, 0, 0) := by decide +kernel
theorem e0_614 : vm_ent 0 614 = some (.iconst 2, 0, 0, 0) := by decide +kernel
theorem e0_615 : vm_ent 0 615 = some (.iadd, 0, 0, 0) := by decide +kernel
theorem e0_616 : vm_ent 0 616 = some (.iaload, 0, 0, 0) := by decide +kernel
theorem e0_617 : vm_ent 0 617 = some (.invokevirtual 79, 56, 4, 533) := by decide +kernel
theorem e0_620 : vm_ent 0 620 = some (.pop2, 0, 0, 0) := by decide +kernel
theorem e0_621 : vm_ent 0 621 = some (.aload_n 2, 0, 0, 0) := by decide +kernel
theorem e0_622 : vm_ent 0 622 = some (.aload_n 0, 0, 0, 0) := by decide +kernel
theorem e0_623 : vm_ent 0 623 = some (.iload 4, 0, 0, 0) := by decide +kernel
theorem e0_625 : vm_ent 0 625 = some (.iconst 1, 0, 0, 0) := by decide +kernel
theorem e0_626 : vm_ent 0 626 = some (.iadd, 0, 0, 0) := by decide +kernel
theorem e0_627 : vm_ent 0 627 = some (.iaload, 0, 0, 0) := by decide +kernel
theorem e0_628 : vm_ent 0 628 = some (.aload_n 0, 0, 0, 0) := by decide +kernel
theorem e0_629 : vm_ent 0 629 = some (.iload 4, 0, 0, 0) := by decide +kernel
theorem e0_631 : vm_ent 0 631 = some (.iconst 2, 0, 0, 0) := by decide +kernel
theorem e0_632 : vm_ent 0 632 = some (.iadd, 0, 0, 0) := by decide +kernel
theorem e0_633 : vm_ent 0 633 = some (.iaload, 0, 0, 0) := by decide +kernel
theorem e0_634 : vm_ent 0 634 = some (.invokevirtual 83, 120, 4, 931) := by decide +kernel
theorem e0_637 : vm_ent 0 637 = some (.pop2, 0, 0, 0) := by decide +kernel
theorem e0_638 : vm_ent 0 638 = some (.goto 132, 770, 0, 0) := by decide +kernel
theorem e0_641 : vm_ent 0 641 = some (.aload_n 1, 0, 0, 0) := by decide +kernel
theorem e0_642 : vm_ent 0 642 = some (.aload_n 0, 0, 0, 0) := by decide +kernel
theorem e0_643 : vm_ent 0 643 = some (.iload 4, 0, 0, 0) := by decide +kernel
theorem e0_645 : vm_ent 0 645 = some (.iconst 1, 0, 0, 0) := by decide +kernel
theorem e0_646 : vm_ent 0 646 = some (.iadd, 0, 0, 0) := by decide +kernel
theorem e0_647 : vm_ent 0 647 = some (.iaload, 0, 0, 0) := by decide +kernel
theorem e0_648 : vm_ent 0 648 = some (.invokevirtual 84, 57, 4, 545) := by decide +kernel
theorem e0_651 : vm_ent 0 651 = some (.pop2, 0, 0, 0) := by decide +kernel
theorem e0_652 : vm_ent 0 652 = some (.aload_n 2, 0, 0, 0) := by decide +kernel
theorem e0_653 : vm_ent 0 653 = some (.aload_n 0, 0, 0, 0) := by decide +kernel
theorem e0_654 : vm_ent 0 654 = some (.iload 4, 0, 0, 0) := by decide +kernel
theorem e0_656 : vm_ent 0 656 = some (.iconst 1, 0, 0, 0) := by decide +kernel
theorem e0_657 : vm_ent 0 657 = some (.iadd, 0, 0, 0) := by decide +kernel
theorem e0_658 : vm_ent 0 658 = some (.iaload, 0, 0, 0) := by decide +kernel
theorem e0_659 : vm_ent 0 659 = some (.invokevirtual 88, 121, 4, 943) := by decide +kernel
theorem e0_662 : vm_ent 0 662 = some (.pop2, 0, 0, 0) := by decide +kernel
theorem e0_663 : vm_ent 0 663 = some (.goto 107, 770, 0, 0) := by decide +kernel
theorem e0_666 : vm_ent 0 666 = some (.aload_n 1, 0, 0, 0) := by decide +kernel
theorem e0_667 : vm_ent 0 667 = some (.aload_n 0, 0, 0, 0) := by decide +kernel
theorem e0_668 : vm_ent 0 668 = some (.iload 4, 0, 0, 0) := by decide +kernel
theorem e0_670 : vm_ent 0 670 = some (.iconst 1, 0, 0, 0) := by decide +kernel
theorem e0_671 : vm_ent 0 671 = some (.iadd, 0, 0, 0) := by decide +kernel
theorem e0_672 : vm_ent 0 672 = some (.iaload, 0, 0, 0) := by decide +kernel
theorem e0_673 : vm_ent 0 673 = some (.i2l, 0, 0, 0) := by decide +kernel
theorem e0_674 : vm_ent 0 674 = some (.bipush 32, 0, 0, 0) := by decide +kernel
theorem e0_676 : vm_ent 0 676 = some (.lshl, 0, 0, 0) := by decide +kernel
theorem e0_677 : vm_ent 0 677 = some (.aload_n 0, 0, 0, 0) := by decide +kernel
theorem e0_678 : vm_ent 0 678 = some (.iload 4, 0, 0, 0) := by decide +kernel
theorem e0_680 : vm_ent 0 680 = some (.iconst 2, 0, 0, 0) := by decide +kernel
theorem e0_681 : vm_ent 0 681 = some (.iadd, 0, 0, 0) := by decide +kernel
theorem e0_682 : vm_ent 0 682 = some (.iaload, 0, 0, 0) := by decide +kernel
theorem e0_683 : vm_ent 0 683 = some (.i2l, 0, 0, 0) := by decide +kernel
theorem e0_684 : vm_ent 0 684 = some (.ldc2_w 34, 4294967295, 0, 951) := by decide +kernel
theorem e0_687 : vm_ent 0 687 = some (.land, 0, 0, 0) := by decide +kernel
theorem e0_688 : vm_ent 0 688 = some (.lor, 0, 0, 0) := by decide +kernel
theorem e0_689 : vm_ent 0 689 = some (.aload_n 0, 0, 0, 0) := by decide +kernel
theorem e0_690 : vm_ent 0 690 = some (.iload 4, 0, 0, 0) := by decide +kernel
theorem e0_692 : vm_ent 0 692 = some (.iconst 3, 0, 0, 0) := by decide +kernel
theorem e0_693 : vm_ent 0 693 = some (.iadd, 0, 0, 0) := by decide +kernel
theorem e0_694 : vm_ent 0 694 = some (.iaload, 0, 0, 0) := by decide +kernel
theorem e0_695 : vm_ent 0 695 = some (.i2l, 0, 0, 0) := by decide +kernel
theorem e0_696 : vm_ent 0 696 = some (.bipush 32, 0, 0, 0) := by decide +kernel
theorem e0_698 : vm_ent 0 698 = some (.lshl, 0, 0, 0) := by decide +kernel
theorem e0_699 : vm_ent 0 699 = some (.aload_n 0, 0, 0, 0) := by decide +kernel
theorem e0_700 : vm_ent 0 700 = some (.iload 4, 0, 0, 0) := by decide +kernel
theorem e0_702 : vm_ent 0 702 = some (.iconst 4, 0, 0, 0) := by decide +kernel
theorem e0_703 : vm_ent 0 703 = some (.iadd, 0, 0, 0) := by decide +kernel
theorem e0_704 : vm_ent 0 704 = some (.iaload, 0, 0, 0) := by decide +kernel
theorem e0_705 : vm_ent 0 705 = some (.i2l, 0, 0, 0) := by decide +kernel
theorem e0_706 : vm_ent 0 706 = some (.ldc2_w 34, 4294967295, 0, 951) := by decide +kernel
theorem e0_709 : vm_ent 0 709 = some (.land, 0, 0, 0) := by decide +kernel
theorem e0_710 : vm_ent 0 710 = some (.lor, 0, 0, 0) := by decide +kernel
theorem e0_711 : vm_ent 0 711 = some (.aload_n 3, 0, 0, 0) := by decide +kernel
theorem e0_712 : vm_ent 0 712 = some (.invokestatic 89, 124, 2, 554) := by decide +kernel
theorem e0_715 : vm_ent 0 715 = some (.istore 5, 0, 0, 0) := by decide +kernel
theorem e0_717 : vm_ent 0 717 = some (.aload_n 2, 0, 0, 0) := by decide +kernel
theorem e0_718 : vm_ent 0 718 = some (.aload_n 0, 0, 0, 0) := by decide +kernel
theorem e0_719 : vm_ent 0 719 = some (.iload 4, 0, 0, 0) := by decide +kernel
theorem e0_721 : vm_ent 0 721 = some (.iconst 1, 0, 0, 0) := by decide +kernel
theorem e0_722 : vm_ent 0 722 = some (.iadd, 0, 0, 0) := by decide +kernel
theorem e0_723 : vm_ent 0 723 = some (.iaload, 0, 0, 0) := by decide +kernel
theorem e0_724 : vm_ent 0 724 = some (.i2l, 0, 0, 0) := by decide +kernel
theorem e0_725 : vm_ent 0 725 = some (.bipush 32, 0, 0, 0) := by decide +kernel
theorem e0_727 : vm_ent 0 727 = some (.lshl, 0, 0, 0) := by decide +kernel
theorem e0_728 : vm_ent 0 728 = some (.aload_n 0, 0, 0, 0) := by decide +kernel
theorem e0_729 : vm_ent 0 729 = some (.iload 4, 0, 0, 0) := by decide +kernel
theorem e0_731 : vm_ent 0 731 = some (.iconst 2, 0, 0, 0) := by decide +kernel
theorem e0_732 : vm_ent 0 732 = some (.iadd, 0, 0, 0) := by decide +kernel
theorem e0_733 : vm_ent 0 733 = some (.iaload, 0, 0, 0) := by decide +kernel
theorem e0_734 : vm_ent 0 734 = some (.i2l, 0, 0, 0) := by decide +kernel
theorem e0_735 : vm_ent 0 735 = some (.ldc2_w 34, 4294967295, 0, 951) := by decide +kernel
theorem e0_738 : vm_ent 0 738 = some (.land, 0, 0, 0) := by decide +kernel
theorem e0_739 : vm_ent 0 739 = some (.lor, 0, 0, 0) := by decide +kernel
theorem e0_740 : vm_ent 0 740 = some (.aload_n 0, 0, 0, 0) := by decide +kernel
theorem e0_741 : vm_ent 0 741 = some (.iload 4, 0, 0, 0) := by decide +kernel
theorem e0_743 : vm_ent 0 743 = some (.iconst 3, 0, 0, 0) := by decide +kernel
theorem e0_744 : vm_ent 0 744 = some (.iadd, 0, 0, 0) := by decide +kernel
theorem e0_745 : vm_ent 0 745 = some (.iaload, 0, 0, 0) := by decide +kernel
theorem e0_746 : vm_ent 0 746 = some (.i2l, 0, 0, 0) := by decide +kernel
theorem e0_747 : vm_ent 0 747 = some (.bipush 32, 0, 0, 0) := by decide +kernel
theorem e0_749 : vm_ent 0 749 = some (.lshl, 0, 0, 0) := by decide +kernel
theorem e0_750 : vm_ent 0 750 = some (.aload_n 0, 0, 0, 0) := by decide +kernel
theorem e0_751 : vm_ent 0 751 = some (.iload 4, 0, 0, 0) := by decide +kernel
theorem e0_753 : vm_ent 0 753 = some (.iconst 4, 0, 0, 0) := by decide +kernel
theorem e0_754 : vm_ent 0 754 = some (.iadd, 0, 0, 0) := by decide +kernel
theorem e0_755 : vm_ent 0 755 = some (.iaload, 0, 0, 0) := by decide +kernel
theorem e0_756 : vm_ent 0 756 = some (.i2l, 0, 0, 0) := by decide +kernel
theorem e0_757 : vm_ent 0 757 = some (.ldc2_w 34, 4294967295, 0, 951) := by decide +kernel
theorem e0_760 : vm_ent 0 760 = some (.land, 0, 0, 0) := by decide +kernel
theorem e0_761 : vm_ent 0 761 = some (.lor, 0, 0, 0) := by decide +kernel
theorem e0_762 : vm_ent 0 762 = some (.invokevirtual 94, 122, 4, 947) := by decide +kernel
theorem e0_765 : vm_ent 0 765 = some (.lstore 6, 0, 0, 0) := by decide +kernel
theorem e0_767 : vm_ent 0 767 = some (.goto 3, 770, 0, 0) := by decide +kernel
theorem e0_770 : vm_ent 0 770 = some (.iinc 4 5, 0, 0, 0) := by decide +kernel
theorem e0_773 : vm_ent 0 773 = some (.goto (-750), 23, 0, 0) := by decide +kernel
theorem e0_776 : vm_ent 0 776 = some (.iconst 1, 0, 0, 0) := by decide +kernel
theorem e0_777 : vm_ent 0 777 = some (.ireturn, 0, 0, 0) := by decide +kernel
theorem nv_n {n n1 q : Int} {A B : Prop} (h : (n = 8 ∧ q = -1 ∧ n1 = n ∧ A) ∨ (n < 8 ∧ q = n ∧ n1 = n + 1 ∧ B)) : (n = 8 ∧ n1 = n) ∨ (n < 8 ∧ n1 = n + 1) := by
  rcases h with ⟨a, _, b, _⟩ | ⟨a, _, b, _⟩ <;> omega
def laL (u v : Int32) : Int64 := (u.toInt64 <<< ((vz 32).toInt64 &&& 63)) ||| (v.toInt64 &&& Int64.ofNat 4294967295)
abbrev lwA (x : Int) : vq_A := [some (.ref 0), some (.ref 1), some (.ref 238), some (.ref 263), some (.int (vz x)), none, none, none]
/-- what a turn comes to: the end; the next turn; the call of pseudo -/
def lwQ (L : Nat) (xs : Nat → Int32) (x : Int) : vq_Q := fun pc ls st v1 => pc = 23 ∧ st = [] ∧ vq_ag (lwA (x + 5)) ls ∧ (x + 5 ≤ (L : Int)) ∧ ∃ (n p t : Int) (g : Int64) (u : D5u) (w : D5w) (V : Nat → Int) (F H : Nat → Int32), lI L xs v1 n p n p t g u w ∧ rel5 n p u w ∧ jC v1 V F H ∧ jR v1 V F H
def lwP (L : Nat) (xs : Nat → Int32) (x : Int) : vq_Q := fun pc ls st v1 => (pc = 777 ∧ st = [.int (vz 1)]) ∨ lwQ L xs x pc ls st v1 ∨ (pc = 712 ∧ st = [.ref 263, .long (laL (xs (x + 3).toNat) (xs (x + 4).toNat)), .long (laL (xs (x + 1).toNat) (xs (x + 2).toNat)), .ref 1] ∧ vq_ag (lwA x) ls ∧ (x + 5 ≤ (L : Int)) ∧ ∃ (n p t : Int) (g : Int64) (u : D5u) (w : D5w) (V : Nat → Int) (F H : Nat → Int32), lI L xs v1 n p n p t g u w ∧ rel5 n p u w ∧ jC v1 V F H ∧ jR v1 V F H)

set_option maxRecDepth 100000 in
set_option maxHeartbeats 8000000 in
theorem lw_turn {L : Nat} {xs : Nat → Int32} {vh : vm_H} {n p t : Int} {g : Int64} {x4 : Int} {u : D5u} {w : D5w} {V : Nat → Int} {F H : Nat → Int32} (hL : lI L xs vh n p n p t g u w) (hZ : rel5 n p u w) (hC : jC vh V F H) (hR : jR vh V F H) (h0 : 0 ≤ x4) (hx : x4 ≤ (L : Int)) (hl : L ≤ 2560) : vm_Wp 9 400 0 23 (lwA x4) [] vh (lwP L xs x4) := by
  have hbd := lI_b hL
  obtain ⟨hev, U, hUw⟩ := jU hL hZ hC hR
  refine w_ldI e0_23 (fun _ => rfl) rfl ?_
  refine w_ldA e0_25 (fun _ => rfl) rfl ?_
  refine w_len e0_26 (lI_0 hL) (by decide) ?_
  refine w_kI e0_27 ?_
  refine w_isub e0_28 ?_
  refine w_ic e0_29 (by omega) (by omega) (fun (h1 : ((L : Int)) - 5 < x4) => ?_) (fun (h1 : x4 ≤ ((L : Int)) - 5) => ?_)
  ·
    refine w_kI e0_776 ?_
    exact w_end (fun ls hl => Or.inl ⟨rfl, rfl⟩)
  ·
    refine w_ldA e0_32 (fun _ => rfl) rfl ?_
    refine w_ldI e0_33 (fun _ => rfl) rfl ?_
    refine w_aldO e0_35 (lI_0 hL) (by omega) (by omega) (by omega) (fun q2 h3 hx4 => ?_)
    refine w_kB e0_36 rfl ?_
    refine w_iand e0_38 h3 (by omega) (fun q5 (h6 : 0 ≤ q5 ∧ q5 ≤ 15) => ?_)
    by_cases h7 : q5 < 0 ∨ 14 < q5
    ·
      refine w_swO (t := 770) e0_39 (by omega) h7 rfl ?_
      refine w_iinc (A1 := [some (.ref 0), some (.ref 1), some (.ref 238), some (.ref 263), some (.int (vz (x4 + 5))), none, none, none]) e0_770 rfl (by decide) rfl ?_
      refine w_x e0_773 (fun _ => rfl) ?_
      have hnp8 : n = n ∧ p = p := by omega
      have hZ9 : rel5 n p u w := hZ
      exact w_sub (A1 := [some (.ref 0), some (.ref 1), some (.ref 238), some (.ref 263), some (.int (vz (x4 + 5))), none, none, none]) (And.intro rfl (And.intro rfl (And.intro rfl (And.intro rfl (And.intro rfl trivial))))) (w_end (fun ls hl => Or.inr (Or.inl ⟨rfl, rfl, hl, by omega, ⟨_, _, _, _, _, _, _, _, _, hL, hZ9, hC, hR⟩⟩)))
    ·
      have h9 : q5 = 0 ∨ q5 = 1 ∨ q5 = 2 ∨ q5 = 3 ∨ q5 = 4 ∨ q5 = 5 ∨ q5 = 6 ∨ q5 = 7 ∨ q5 = 8 ∨ q5 = 9 ∨ q5 = 10 ∨ q5 = 11 ∨ q5 = 12 ∨ q5 = 13 ∨ q5 = 14 := by omega
      rcases h9 with h9 | h9 | h9 | h9 | h9 | h9 | h9 | h9 | h9 | h9 | h9 | h9 | h9 | h9 | h9
      ·
        refine w_swI (t := 112) e0_39 (by omega) h7 (by rw [h9]; rfl) rfl ?_
        refine w_ldA e0_112 (fun _ => rfl) rfl ?_
        refine w_ldA e0_113 (fun _ => rfl) rfl ?_
        refine w_ldI e0_114 (fun _ => rfl) rfl ?_
        refine w_kI e0_116 ?_
        refine w_iadd e0_117 ?_
        refine w_aldO e0_118 (lI_0 hL) (by omega) (by omega) (by omega) (fun q10 h11 hx12 => ?_)
        refine w_if e0_119 h11 (fun (h13 : q10 = 0) => ?_) (fun (h13 : q10 ≠ 0) => ?_)
        ·
          refine w_kI e0_126 ?_
          obtain ⟨fs14, e15⟩ := lI_1 hL
          refine w_cv e0_127 (by decide) rfl e15 rfl (Nat.le_of_ble_eq_true rfl) (Nat.le_of_ble_eq_true rfl) (Nat.le_of_ble_eq_true rfl) (by decide) (by decide) (rp_and (x44 hL (by omega)) (J44 hL hC hR (by omega))) (fun o18 v19 hq20 => ?_)
          obtain ⟨hq22, hJ21⟩ := hq20
          obtain ⟨n23, ua24, q32, hw27, hc29, hL31, rfl⟩ := hq22
          have hb30 := nv_n hc29
          obtain ⟨hC16, hR17⟩ := hJ21
          refine w_x e0_130 (fun _ => rfl) ?_
          refine w_ldA e0_131 (fun _ => rfl) rfl ?_
          refine w_ldA e0_132 (fun _ => rfl) rfl ?_
          refine w_ldI e0_133 (fun _ => rfl) rfl ?_
          refine w_kI e0_135 ?_
          refine w_iadd e0_136 ?_
          refine w_aldO e0_137 (lI_0 hL31) (by omega) (by omega) (by omega) (fun q33 h34 hx35 => ?_)
          have hqq36 : q10 = q33 := ((vz_inj h34 h11).mp (hx35.symm.trans hx12)).symm
          subst hqq36
          refine w_if e0_138 h11 (fun (h37 : q10 = 0) => ?_) (fun (h37 : q10 ≠ 0) => ?_)
          ·
            refine w_kI e0_145 ?_
            obtain ⟨fs38, e39⟩ := lI_238 hL31
            refine w_cv e0_146 (by decide) rfl e39 rfl (Nat.le_of_ble_eq_true rfl) (Nat.le_of_ble_eq_true rfl) (Nat.le_of_ble_eq_true rfl) (by decide) (by decide) (rp_and (y105 hL31 (by omega)) (J105 hL31 hC16 hR17 (by omega))) (fun o42 v43 hq44 => ?_)
            obtain ⟨hq46, hJ45⟩ := hq44
            obtain ⟨⟨n47, p48, t49, hr50, hL51⟩, q52, h53, rfl⟩ := hq46
            rw [hr50.2] at hL51
            obtain ⟨hC40, hR41⟩ := hJ45
            refine w_x e0_149 (fun _ => rfl) ?_
            refine w_x e0_150 (fun _ => rfl) ?_
            refine w_iinc (A1 := [some (.ref 0), some (.ref 1), some (.ref 238), some (.ref 263), some (.int (vz (x4 + 5))), none, none, none]) e0_770 rfl (by decide) rfl ?_
            refine w_x e0_773 (fun _ => rfl) ?_
            have hnp54 : n47 = n23 ∧ p = p := by omega
            rw [hnp54.1] at hL51
            have hZ9 : rel5 n23 p ua24 w := rel_nv hZ (lI_u hL) hbd.1.1 hw27 hc29
            exact w_sub (A1 := [some (.ref 0), some (.ref 1), some (.ref 238), some (.ref 263), some (.int (vz (x4 + 5))), none, none, none]) (And.intro rfl (And.intro rfl (And.intro rfl (And.intro rfl (And.intro rfl trivial))))) (w_end (fun ls hl => Or.inr (Or.inl ⟨rfl, rfl, hl, by omega, ⟨_, _, _, _, _, _, _, _, _, hL51, hZ9, hC40, hR41⟩⟩)))
          ·
            refine w_kI e0_141 ?_
            refine w_x e0_142 (fun _ => rfl) ?_
            obtain ⟨fs55, e56⟩ := lI_238 hL31
            exfalso; omega
        ·
          refine w_kI e0_122 ?_
          refine w_x e0_123 (fun _ => rfl) ?_
          obtain ⟨fs59, e60⟩ := lI_1 hL
          refine w_cv e0_127 (by decide) rfl e60 rfl (Nat.le_of_ble_eq_true rfl) (Nat.le_of_ble_eq_true rfl) (Nat.le_of_ble_eq_true rfl) (by decide) (by decide) (rp_and (x44 hL (by omega)) (J44 hL hC hR (by omega))) (fun o63 v64 hq65 => ?_)
          obtain ⟨hq67, hJ66⟩ := hq65
          obtain ⟨n68, ua69, q77, hw72, hc74, hL76, rfl⟩ := hq67
          have hb75 := nv_n hc74
          obtain ⟨hC61, hR62⟩ := hJ66
          refine w_x e0_130 (fun _ => rfl) ?_
          refine w_ldA e0_131 (fun _ => rfl) rfl ?_
          refine w_ldA e0_132 (fun _ => rfl) rfl ?_
          refine w_ldI e0_133 (fun _ => rfl) rfl ?_
          refine w_kI e0_135 ?_
          refine w_iadd e0_136 ?_
          refine w_aldO e0_137 (lI_0 hL76) (by omega) (by omega) (by omega) (fun q78 h79 hx80 => ?_)
          have hqq81 : q10 = q78 := ((vz_inj h79 h11).mp (hx80.symm.trans hx12)).symm
          subst hqq81
          refine w_if e0_138 h11 (fun (h82 : q10 = 0) => ?_) (fun (h82 : q10 ≠ 0) => ?_)
          ·
            refine w_kI e0_145 ?_
            obtain ⟨fs83, e84⟩ := lI_238 hL76
            exfalso; omega
          ·
            refine w_kI e0_141 ?_
            refine w_x e0_142 (fun _ => rfl) ?_
            obtain ⟨fs87, e88⟩ := lI_238 hL76
            refine w_cv e0_146 (by decide) rfl e88 rfl (Nat.le_of_ble_eq_true rfl) (Nat.le_of_ble_eq_true rfl) (Nat.le_of_ble_eq_true rfl) (by decide) (by decide) (rp_and (y105 hL76 (by omega)) (J105 hL76 hC61 hR62 (by omega))) (fun o91 v92 hq93 => ?_)
            obtain ⟨hq95, hJ94⟩ := hq93
            obtain ⟨⟨n96, p97, t98, hr99, hL100⟩, q101, h102, rfl⟩ := hq95
            rw [hr99.2] at hL100
            obtain ⟨hC89, hR90⟩ := hJ94
            refine w_x e0_149 (fun _ => rfl) ?_
            refine w_x e0_150 (fun _ => rfl) ?_
            refine w_iinc (A1 := [some (.ref 0), some (.ref 1), some (.ref 238), some (.ref 263), some (.int (vz (x4 + 5))), none, none, none]) e0_770 rfl (by decide) rfl ?_
            refine w_x e0_773 (fun _ => rfl) ?_
            have hnp103 : n96 = n68 ∧ p = p := by omega
            rw [hnp103.1] at hL100
            have hZ9 : rel5 n68 p ua69 w := rel_nv hZ (lI_u hL) hbd.1.1 hw72 hc74
            exact w_sub (A1 := [some (.ref 0), some (.ref 1), some (.ref 238), some (.ref 263), some (.int (vz (x4 + 5))), none, none, none]) (And.intro rfl (And.intro rfl (And.intro rfl (And.intro rfl (And.intro rfl trivial))))) (w_end (fun ls hl => Or.inr (Or.inl ⟨rfl, rfl, hl, by omega, ⟨_, _, _, _, _, _, _, _, _, hL100, hZ9, hC89, hR90⟩⟩)))
      ·
        refine w_swI (t := 153) e0_39 (by omega) h7 (by rw [h9]; rfl) rfl ?_
        refine w_ldA e0_153 (fun _ => rfl) rfl ?_
        refine w_ldA e0_154 (fun _ => rfl) rfl ?_
        refine w_ldI e0_155 (fun _ => rfl) rfl ?_
        refine w_kI e0_157 ?_
        refine w_iadd e0_158 ?_
        refine w_aldO e0_159 (lI_0 hL) (by omega) (by omega) (by omega) (fun q104 h105 hx106 => ?_)
        refine w_ldA e0_160 (fun _ => rfl) rfl ?_
        refine w_ldI e0_161 (fun _ => rfl) rfl ?_
        refine w_kI e0_163 ?_
        refine w_iadd e0_164 ?_
        refine w_aldO e0_165 (lI_0 hL) (by omega) (by omega) (by omega) (fun q107 h108 hx109 => ?_)
        obtain ⟨fs110, e111⟩ := lI_1 hL
        refine w_cv e0_166 (by decide) rfl e111 rfl (Nat.le_of_ble_eq_true rfl) (Nat.le_of_ble_eq_true rfl) (Nat.le_of_ble_eq_true rfl) (by decide) (by decide) (rp_and (x45 hL h105 h108) (J45 hL hC hR h105 h108)) (fun o114 v115 hq116 => ?_)
        obtain ⟨hq118, hJ117⟩ := hq116
        obtain ⟨ua120, q128, hw123, hc125, hL127, hb126, rfl⟩ := hq118
        obtain ⟨V129, ho130, hC112, hR113⟩ := hJ117
        refine w_x e0_169 (fun _ => rfl) ?_
        refine w_ldA e0_170 (fun _ => rfl) rfl ?_
        refine w_ldA e0_171 (fun _ => rfl) rfl ?_
        refine w_ldI e0_172 (fun _ => rfl) rfl ?_
        refine w_kI e0_174 ?_
        refine w_iadd e0_175 ?_
        refine w_aldO e0_176 (lI_0 hL127) (by omega) (by omega) (by omega) (fun q131 h132 hx133 => ?_)
        have hqq134 : q104 = q131 := ((vz_inj h132 h105).mp (hx133.symm.trans hx106)).symm
        subst hqq134
        refine w_ldA e0_177 (fun _ => rfl) rfl ?_
        refine w_ldI e0_178 (fun _ => rfl) rfl ?_
        refine w_kI e0_180 ?_
        refine w_iadd e0_181 ?_
        refine w_aldO e0_182 (lI_0 hL127) (by omega) (by omega) (by omega) (fun q135 h136 hx137 => ?_)
        have hqq138 : q107 = q135 := ((vz_inj h136 h108).mp (hx137.symm.trans hx109)).symm
        subst hqq138
        obtain ⟨fs139, e140⟩ := lI_238 hL127
        refine w_cv e0_183 (by decide) rfl e140 rfl (Nat.le_of_ble_eq_true rfl) (Nat.le_of_ble_eq_true rfl) (Nat.le_of_ble_eq_true rfl) (by decide) (by decide) (rp_and (y106 hL127 h105 h108) (J106 hL127 (rel_v hZ) hZ.2 ho130 hC112 hR113 h105 h108)) (fun o143 v144 hq145 => ?_)
        obtain ⟨hq147, hJ146⟩ := hq145
        obtain ⟨t150, ua149, q157, hw152, hL156, hb155, rfl⟩ := hq147
        obtain ⟨hC141, hR142⟩ := hJ146
        refine w_x e0_186 (fun _ => rfl) ?_
        refine w_x e0_187 (fun _ => rfl) ?_
        refine w_iinc (A1 := [some (.ref 0), some (.ref 1), some (.ref 238), some (.ref 263), some (.int (vz (x4 + 5))), none, none, none]) e0_770 rfl (by decide) rfl ?_
        refine w_x e0_773 (fun _ => rfl) ?_
        have hnp158 : n = n ∧ p = p := by omega
        have hZ9 : rel5 n p ua120 ua149 := rel_mv hZ (lI_u hL) (lI_u hL127) hbd.1.1 hw123 hc125 hw152
        exact w_sub (A1 := [some (.ref 0), some (.ref 1), some (.ref 238), some (.ref 263), some (.int (vz (x4 + 5))), none, none, none]) (And.intro rfl (And.intro rfl (And.intro rfl (And.intro rfl (And.intro rfl trivial))))) (w_end (fun ls hl => Or.inr (Or.inl ⟨rfl, rfl, hl, by omega, ⟨_, _, _, _, _, _, _, _, _, hL156, hZ9, hC141, hR142⟩⟩)))
      ·
        refine w_swI (t := 190) e0_39 (by omega) h7 (by rw [h9]; rfl) rfl ?_
        refine w_ldA e0_190 (fun _ => rfl) rfl ?_
        obtain ⟨fs159, e160⟩ := lI_1 hL
        refine w_cv e0_191 (by decide) rfl e160 rfl (Nat.le_of_ble_eq_true rfl) (Nat.le_of_ble_eq_true rfl) (Nat.le_of_ble_eq_true rfl) (by decide) (by decide) (rp_and (x46 hL) (J46 hL hC hR)) (fun o163 v164 hq165 => ?_)
        obtain ⟨hq167, hJ166⟩ := hq165
        obtain ⟨⟨n168, p169, hr171, hL172⟩, q173, h174, rfl⟩ := hq167
        rw [hr171.2] at hL172
        obtain ⟨hC161, hR162, hHz175⟩ := hJ166
        refine w_x e0_194 (fun _ => rfl) ?_
        refine w_ldA e0_195 (fun _ => rfl) rfl ?_
        obtain ⟨fs176, e177⟩ := lI_238 hL172
        refine w_cv e0_196 (by decide) rfl e177 rfl (Nat.le_of_ble_eq_true rfl) (Nat.le_of_ble_eq_true rfl) (Nat.le_of_ble_eq_true rfl) (by decide) (by decide) (rp_and (y107 hL172) (J107 hL172 hC161 hR162 hHz175)) (fun o180 v181 hq182 => ?_)
        obtain ⟨hq184, hJ183⟩ := hq182
        obtain ⟨p188, t187, ua186, q194, hp190, hw189, hL193, hb192, rfl⟩ := hq184
        obtain ⟨hC178, hR179⟩ := hJ183
        refine w_x e0_199 (fun _ => rfl) ?_
        refine w_x e0_200 (fun _ => rfl) ?_
        refine w_iinc (A1 := [some (.ref 0), some (.ref 1), some (.ref 238), some (.ref 263), some (.int (vz (x4 + 5))), none, none, none]) e0_770 rfl (by decide) rfl ?_
        refine w_x e0_773 (fun _ => rfl) ?_
        have hnp195 : n = n ∧ p188 = p169 := by omega
        rw [hnp195.2] at hL193
        have hZ9 : rel5 n p169 u ua186 := rel_pl hZ hbd.1.2 hr171.1 hw189
        exact w_sub (A1 := [some (.ref 0), some (.ref 1), some (.ref 238), some (.ref 263), some (.int (vz (x4 + 5))), none, none, none]) (And.intro rfl (And.intro rfl (And.intro rfl (And.intro rfl (And.intro rfl trivial))))) (w_end (fun ls hl => Or.inr (Or.inl ⟨rfl, rfl, hl, by omega, ⟨_, _, _, _, _, _, _, _, _, hL193, hZ9, hC178, hR179⟩⟩)))
      ·
        refine w_swI (t := 203) e0_39 (by omega) h7 (by rw [h9]; rfl) rfl ?_
        refine w_ldA e0_203 (fun _ => rfl) rfl ?_
        refine w_ldA e0_204 (fun _ => rfl) rfl ?_
        refine w_ldI e0_205 (fun _ => rfl) rfl ?_
        refine w_kI e0_207 ?_
        refine w_iadd e0_208 ?_
        refine w_aldO e0_209 (lI_0 hL) (by omega) (by omega) (by omega) (fun q196 h197 hx198 => ?_)
        refine w_ldA e0_210 (fun _ => rfl) rfl ?_
        refine w_ldI e0_211 (fun _ => rfl) rfl ?_
        refine w_kI e0_213 ?_
        refine w_iadd e0_214 ?_
        refine w_aldO e0_215 (lI_0 hL) (by omega) (by omega) (by omega) (fun q199 h200 hx201 => ?_)
        refine w_x e0_216 (fun _ => rfl) ?_
        refine w_kB e0_217 rfl ?_
        refine w_x e0_219 (fun _ => rfl) ?_
        refine w_ldA e0_220 (fun _ => rfl) rfl ?_
        refine w_ldI e0_221 (fun _ => rfl) rfl ?_
        refine w_kI e0_223 ?_
        refine w_iadd e0_224 ?_
        refine w_aldO e0_225 (lI_0 hL) (by omega) (by omega) (by omega) (fun q202 h203 hx204 => ?_)
        refine w_x e0_226 (fun _ => rfl) ?_
        refine w_x e0_227 (fun _ => rfl) ?_
        refine w_x e0_230 (fun _ => rfl) ?_
        refine w_x e0_231 (fun _ => rfl) ?_
        refine w_ldA e0_232 (fun _ => rfl) rfl ?_
        refine w_ldI e0_233 (fun _ => rfl) rfl ?_
        refine w_kI e0_235 ?_
        refine w_iadd e0_236 ?_
        refine w_aldO e0_237 (lI_0 hL) (by omega) (by omega) (by omega) (fun q205 h206 hx207 => ?_)
        obtain ⟨fs208, e209⟩ := lI_1 hL
        refine w_cv e0_238 (by decide) rfl e209 rfl (Nat.le_of_ble_eq_true rfl) (Nat.le_of_ble_eq_true rfl) (Nat.le_of_ble_eq_true rfl) (by decide) (by decide) (rp_and (x47 hL h197 h206) (J47 hL hC hR h197 h206)) (fun o212 v213 hq214 => ?_)
        obtain ⟨hq216, hJ215⟩ := hq214
        obtain ⟨ua218, q226, hb224, hc223, hL225, rfl⟩ := hq216
        obtain ⟨hC210, hR211⟩ := hJ215
        refine w_x e0_241 (fun _ => rfl) ?_
        refine w_ldA e0_242 (fun _ => rfl) rfl ?_
        refine w_ldA e0_243 (fun _ => rfl) rfl ?_
        refine w_ldI e0_244 (fun _ => rfl) rfl ?_
        refine w_kI e0_246 ?_
        refine w_iadd e0_247 ?_
        refine w_aldO e0_248 (lI_0 hL225) (by omega) (by omega) (by omega) (fun q227 h228 hx229 => ?_)
        have hqq230 : q196 = q227 := ((vz_inj h228 h197).mp (hx229.symm.trans hx198)).symm
        subst hqq230
        refine w_ldA e0_249 (fun _ => rfl) rfl ?_
        refine w_ldI e0_250 (fun _ => rfl) rfl ?_
        refine w_kI e0_252 ?_
        refine w_iadd e0_253 ?_
        refine w_aldO e0_254 (lI_0 hL225) (by omega) (by omega) (by omega) (fun q231 h232 hx233 => ?_)
        have hqq234 : q199 = q231 := ((vz_inj h232 h200).mp (hx233.symm.trans hx201)).symm
        subst hqq234
        refine w_x e0_255 (fun _ => rfl) ?_
        refine w_kB e0_256 rfl ?_
        refine w_x e0_258 (fun _ => rfl) ?_
        refine w_ldA e0_259 (fun _ => rfl) rfl ?_
        refine w_ldI e0_260 (fun _ => rfl) rfl ?_
        refine w_kI e0_262 ?_
        refine w_iadd e0_263 ?_
        refine w_aldO e0_264 (lI_0 hL225) (by omega) (by omega) (by omega) (fun q235 h236 hx237 => ?_)
        have hqq238 : q202 = q235 := ((vz_inj h236 h203).mp (hx237.symm.trans hx204)).symm
        subst hqq238
        refine w_x e0_265 (fun _ => rfl) ?_
        refine w_x e0_266 (fun _ => rfl) ?_
        refine w_x e0_269 (fun _ => rfl) ?_
        refine w_x e0_270 (fun _ => rfl) ?_
        refine w_ldA e0_271 (fun _ => rfl) rfl ?_
        refine w_ldI e0_272 (fun _ => rfl) rfl ?_
        refine w_kI e0_274 ?_
        refine w_iadd e0_275 ?_
        refine w_aldO e0_276 (lI_0 hL225) (by omega) (by omega) (by omega) (fun q239 h240 hx241 => ?_)
        have hqq242 : q205 = q239 := ((vz_inj h240 h206).mp (hx241.symm.trans hx207)).symm
        subst hqq242
        obtain ⟨fs243, e244⟩ := lI_238 hL225
        refine w_cv e0_277 (by decide) rfl e244 rfl (Nat.le_of_ble_eq_true rfl) (Nat.le_of_ble_eq_true rfl) (Nat.le_of_ble_eq_true rfl) (by decide) (by decide) (rp_and (y108 hL225 h197 h206) (J108 hL225 (rel_v hZ) hC210 hR211 h197 h206)) (fun o247 v248 hq249 => ?_)
        obtain ⟨hq251, hJ250⟩ := hq249
        obtain ⟨t254, ua253, q261, hw256, hL260, rfl⟩ := hq251
        have hrt := rel_tm hZ (lI_u hL) hbd.1.1 hbd.1.2 hc223 hw256
        have hqe := hrt.1
        obtain ⟨hC245, hR246⟩ := hJ250
        refine w_x e0_280 (fun _ => rfl) ?_
        refine w_x e0_281 (fun _ => rfl) ?_
        refine w_iinc (A1 := [some (.ref 0), some (.ref 1), some (.ref 238), some (.ref 263), some (.int (vz (x4 + 5))), none, none, none]) e0_770 rfl (by decide) rfl ?_
        refine w_x e0_773 (fun _ => rfl) ?_
        have hnp262 : n = n ∧ p = p := by omega
        have hZ9 : rel5 n p ua218 ua253 := hrt.2
        exact w_sub (A1 := [some (.ref 0), some (.ref 1), some (.ref 238), some (.ref 263), some (.int (vz (x4 + 5))), none, none, none]) (And.intro rfl (And.intro rfl (And.intro rfl (And.intro rfl (And.intro rfl trivial))))) (w_end (fun ls hl => Or.inr (Or.inl ⟨rfl, rfl, hl, by omega, ⟨_, _, _, _, _, _, _, _, _, hL260, hZ9, hC245, hR246⟩⟩)))
      ·
        refine w_swI (t := 284) e0_39 (by omega) h7 (by rw [h9]; rfl) rfl ?_
        refine w_ldA e0_284 (fun _ => rfl) rfl ?_
        refine w_ldA e0_285 (fun _ => rfl) rfl ?_
        refine w_ldI e0_286 (fun _ => rfl) rfl ?_
        refine w_kI e0_288 ?_
        refine w_iadd e0_289 ?_
        refine w_aldO e0_290 (lI_0 hL) (by omega) (by omega) (by omega) (fun q263 h264 hx265 => ?_)
        refine w_ldA e0_291 (fun _ => rfl) rfl ?_
        refine w_ldI e0_292 (fun _ => rfl) rfl ?_
        refine w_kI e0_294 ?_
        refine w_iadd e0_295 ?_
        refine w_aldO e0_296 (lI_0 hL) (by omega) (by omega) (by omega) (fun q266 h267 hx268 => ?_)
        refine w_if e0_297 h267 (fun (h269 : q266 = 0) => ?_) (fun (h269 : q266 ≠ 0) => ?_)
        ·
          refine w_kI e0_304 ?_
          obtain ⟨fs270, e271⟩ := lI_1 hL
          refine w_cv e0_305 (by decide) rfl e271 rfl (Nat.le_of_ble_eq_true rfl) (Nat.le_of_ble_eq_true rfl) (Nat.le_of_ble_eq_true rfl) (by decide) (by decide) (rp_and (x48 hL h264 (by omega)) (J48 hL hC hR h264 (by omega))) (fun o274 v275 hq276 => ?_)
          obtain ⟨hq278, hJ277⟩ := hq276
          obtain ⟨⟨n279, p280, hr282, hL283⟩, q284, h285, rfl⟩ := hq278
          rw [hr282.1, hr282.2] at hL283
          obtain ⟨hC272, hR273⟩ := hJ277
          refine w_x e0_308 (fun _ => rfl) ?_
          refine w_ldA e0_309 (fun _ => rfl) rfl ?_
          refine w_ldA e0_310 (fun _ => rfl) rfl ?_
          refine w_ldI e0_311 (fun _ => rfl) rfl ?_
          refine w_kI e0_313 ?_
          refine w_iadd e0_314 ?_
          refine w_aldO e0_315 (lI_0 hL283) (by omega) (by omega) (by omega) (fun q286 h287 hx288 => ?_)
          have hqq289 : q263 = q286 := ((vz_inj h287 h264).mp (hx288.symm.trans hx265)).symm
          subst hqq289
          refine w_ldA e0_316 (fun _ => rfl) rfl ?_
          refine w_ldI e0_317 (fun _ => rfl) rfl ?_
          refine w_kI e0_319 ?_
          refine w_iadd e0_320 ?_
          refine w_aldO e0_321 (lI_0 hL283) (by omega) (by omega) (by omega) (fun q290 h291 hx292 => ?_)
          have hqq293 : q266 = q290 := ((vz_inj h291 h267).mp (hx292.symm.trans hx268)).symm
          subst hqq293
          refine w_if e0_322 h267 (fun (h294 : q266 = 0) => ?_) (fun (h294 : q266 ≠ 0) => ?_)
          ·
            refine w_kI e0_329 ?_
            obtain ⟨fs295, e296⟩ := lI_238 hL283
            refine w_cv e0_330 (by decide) rfl e296 rfl (Nat.le_of_ble_eq_true rfl) (Nat.le_of_ble_eq_true rfl) (Nat.le_of_ble_eq_true rfl) (by decide) (by decide) (rp_and (y109 hL283 h264 (by omega)) (J109 hL283 hC272 hR273 h264 (by omega))) (fun o299 v300 hq301 => ?_)
            obtain ⟨hq303, hJ302⟩ := hq301
            obtain ⟨⟨n304, p305, t306, hr307, hL308⟩, q309, h310, rfl⟩ := hq303
            rw [hr307.1, hr307.2] at hL308
            obtain ⟨hC297, hR298⟩ := hJ302
            refine w_x e0_333 (fun _ => rfl) ?_
            refine w_x e0_334 (fun _ => rfl) ?_
            refine w_iinc (A1 := [some (.ref 0), some (.ref 1), some (.ref 238), some (.ref 263), some (.int (vz (x4 + 5))), none, none, none]) e0_770 rfl (by decide) rfl ?_
            refine w_x e0_773 (fun _ => rfl) ?_
            have hnp311 : n = n ∧ p = p := by omega
            have hZ9 : rel5 n p u w := hZ
            exact w_sub (A1 := [some (.ref 0), some (.ref 1), some (.ref 238), some (.ref 263), some (.int (vz (x4 + 5))), none, none, none]) (And.intro rfl (And.intro rfl (And.intro rfl (And.intro rfl (And.intro rfl trivial))))) (w_end (fun ls hl => Or.inr (Or.inl ⟨rfl, rfl, hl, by omega, ⟨_, _, _, _, _, _, _, _, _, hL308, hZ9, hC297, hR298⟩⟩)))
          ·
            refine w_kI e0_325 ?_
            refine w_x e0_326 (fun _ => rfl) ?_
            obtain ⟨fs312, e313⟩ := lI_238 hL283
            exfalso; omega
        ·
          refine w_kI e0_300 ?_
          refine w_x e0_301 (fun _ => rfl) ?_
          obtain ⟨fs316, e317⟩ := lI_1 hL
          refine w_cv e0_305 (by decide) rfl e317 rfl (Nat.le_of_ble_eq_true rfl) (Nat.le_of_ble_eq_true rfl) (Nat.le_of_ble_eq_true rfl) (by decide) (by decide) (rp_and (x48 hL h264 (by omega)) (J48 hL hC hR h264 (by omega))) (fun o320 v321 hq322 => ?_)
          obtain ⟨hq324, hJ323⟩ := hq322
          obtain ⟨⟨n325, p326, hr328, hL329⟩, q330, h331, rfl⟩ := hq324
          rw [hr328.1, hr328.2] at hL329
          obtain ⟨hC318, hR319⟩ := hJ323
          refine w_x e0_308 (fun _ => rfl) ?_
          refine w_ldA e0_309 (fun _ => rfl) rfl ?_
          refine w_ldA e0_310 (fun _ => rfl) rfl ?_
          refine w_ldI e0_311 (fun _ => rfl) rfl ?_
          refine w_kI e0_313 ?_
          refine w_iadd e0_314 ?_
          refine w_aldO e0_315 (lI_0 hL329) (by omega) (by omega) (by omega) (fun q332 h333 hx334 => ?_)
          have hqq335 : q263 = q332 := ((vz_inj h333 h264).mp (hx334.symm.trans hx265)).symm
          subst hqq335
          refine w_ldA e0_316 (fun _ => rfl) rfl ?_
          refine w_ldI e0_317 (fun _ => rfl) rfl ?_
          refine w_kI e0_319 ?_
          refine w_iadd e0_320 ?_
          refine w_aldO e0_321 (lI_0 hL329) (by omega) (by omega) (by omega) (fun q336 h337 hx338 => ?_)
          have hqq339 : q266 = q336 := ((vz_inj h337 h267).mp (hx338.symm.trans hx268)).symm
          subst hqq339
          refine w_if e0_322 h267 (fun (h340 : q266 = 0) => ?_) (fun (h340 : q266 ≠ 0) => ?_)
          ·
            refine w_kI e0_329 ?_
            obtain ⟨fs341, e342⟩ := lI_238 hL329
            exfalso; omega
          ·
            refine w_kI e0_325 ?_
            refine w_x e0_326 (fun _ => rfl) ?_
            obtain ⟨fs345, e346⟩ := lI_238 hL329
            refine w_cv e0_330 (by decide) rfl e346 rfl (Nat.le_of_ble_eq_true rfl) (Nat.le_of_ble_eq_true rfl) (Nat.le_of_ble_eq_true rfl) (by decide) (by decide) (rp_and (y109 hL329 h264 (by omega)) (J109 hL329 hC318 hR319 h264 (by omega))) (fun o349 v350 hq351 => ?_)
            obtain ⟨hq353, hJ352⟩ := hq351
            obtain ⟨⟨n354, p355, t356, hr357, hL358⟩, q359, h360, rfl⟩ := hq353
            rw [hr357.1, hr357.2] at hL358
            obtain ⟨hC347, hR348⟩ := hJ352
            refine w_x e0_333 (fun _ => rfl) ?_
            refine w_x e0_334 (fun _ => rfl) ?_
            refine w_iinc (A1 := [some (.ref 0), some (.ref 1), some (.ref 238), some (.ref 263), some (.int (vz (x4 + 5))), none, none, none]) e0_770 rfl (by decide) rfl ?_
            refine w_x e0_773 (fun _ => rfl) ?_
            have hnp361 : n = n ∧ p = p := by omega
            have hZ9 : rel5 n p u w := hZ
            exact w_sub (A1 := [some (.ref 0), some (.ref 1), some (.ref 238), some (.ref 263), some (.int (vz (x4 + 5))), none, none, none]) (And.intro rfl (And.intro rfl (And.intro rfl (And.intro rfl (And.intro rfl trivial))))) (w_end (fun ls hl => Or.inr (Or.inl ⟨rfl, rfl, hl, by omega, ⟨_, _, _, _, _, _, _, _, _, hL358, hZ9, hC347, hR348⟩⟩)))
      ·
        refine w_swI (t := 337) e0_39 (by omega) h7 (by rw [h9]; rfl) rfl ?_
        refine w_ldA e0_337 (fun _ => rfl) rfl ?_
        obtain ⟨fs362, e363⟩ := lI_1 hL
        refine w_cv e0_338 (by decide) rfl e363 rfl (Nat.le_of_ble_eq_true rfl) (Nat.le_of_ble_eq_true rfl) (Nat.le_of_ble_eq_true rfl) (by decide) (by decide) (rp_and (x49 hL) (J49 hL hC hR hUw)) (fun o366 v367 hq368 => ?_)
        obtain ⟨hq370, hJ369⟩ := hq368
        obtain ⟨⟨n371, p372, hr374, hL375⟩, q376, h377, rfl⟩ := hq370
        rw [hr374.1, hr374.2] at hL375
        obtain ⟨hC364, hR365, hA378⟩ := hJ369
        refine w_ldA e0_341 (fun _ => rfl) rfl ?_
        obtain ⟨fs379, e380⟩ := lI_238 hL375
        refine w_cv e0_342 (by decide) rfl e380 rfl (Nat.le_of_ble_eq_true rfl) (Nat.le_of_ble_eq_true rfl) (Nat.le_of_ble_eq_true rfl) (by decide) (by decide) (rp_and (y102 hL375) (J102 hL375 hC364 hR365 hUw hev)) (fun o383 v384 hq385 => ?_)
        obtain ⟨hq387, hJ386⟩ := hq385
        obtain ⟨⟨n388, p389, t390, hr391, hL392⟩, q393, h394, rfl⟩ := hq387
        rw [hr391.1, hr391.2] at hL392
        obtain ⟨hC381, hR382, hA395⟩ := hJ386
        have hqe : q376 = q393 := (vz_inj (by omega) (by omega)).mp (by have e9 := hA378.trans hA395.symm; injection e9 with e9; injection e9)
        refine w_ic e0_345 (by omega) (by omega) (fun (h396 : q376 = q393) => ?_) (fun (h396 : q376 ≠ q393) => ?_)
        ·
          refine w_iinc (A1 := [some (.ref 0), some (.ref 1), some (.ref 238), some (.ref 263), some (.int (vz (x4 + 5))), none, none, none]) e0_770 rfl (by decide) rfl ?_
          refine w_x e0_773 (fun _ => rfl) ?_
          have hnp397 : n = n ∧ p = p := by omega
          have hZ9 : rel5 n p u w := hZ
          exact w_sub (A1 := [some (.ref 0), some (.ref 1), some (.ref 238), some (.ref 263), some (.int (vz (x4 + 5))), none, none, none]) (And.intro rfl (And.intro rfl (And.intro rfl (And.intro rfl (And.intro rfl trivial))))) (w_end (fun ls hl => Or.inr (Or.inl ⟨rfl, rfl, hl, by omega, ⟨_, _, _, _, _, _, _, _, _, hL392, hZ9, hC381, hR382⟩⟩)))
        ·
          refine w_kI e0_348 ?_
          exfalso; omega
      ·
        refine w_swI (t := 350) e0_39 (by omega) h7 (by rw [h9]; rfl) rfl ?_
        refine w_ldA e0_350 (fun _ => rfl) rfl ?_
        refine w_ldA e0_351 (fun _ => rfl) rfl ?_
        refine w_ldI e0_352 (fun _ => rfl) rfl ?_
        refine w_kI e0_354 ?_
        refine w_iadd e0_355 ?_
        refine w_aldO e0_356 (lI_0 hL) (by omega) (by omega) (by omega) (fun q398 h399 hx400 => ?_)
        obtain ⟨fs401, e402⟩ := lI_1 hL
        refine w_cv e0_357 (by decide) rfl e402 rfl (Nat.le_of_ble_eq_true rfl) (Nat.le_of_ble_eq_true rfl) (Nat.le_of_ble_eq_true rfl) (by decide) (by decide) (rp_and (x50 hL h399) (J50 hL hC hR hUw h399)) (fun o405 v406 hq407 => ?_)
        obtain ⟨hq409, hJ408⟩ := hq407
        obtain ⟨⟨n410, p411, hr413, hL414⟩, q415, h416, rfl⟩ := hq409
        rw [hr413.1, hr413.2] at hL414
        obtain ⟨hC403, hR404⟩ := hJ408
        refine w_x e0_360 (fun _ => rfl) ?_
        refine w_ldA e0_361 (fun _ => rfl) rfl ?_
        refine w_ldA e0_362 (fun _ => rfl) rfl ?_
        refine w_ldI e0_363 (fun _ => rfl) rfl ?_
        refine w_kI e0_365 ?_
        refine w_iadd e0_366 ?_
        refine w_aldO e0_367 (lI_0 hL414) (by omega) (by omega) (by omega) (fun q417 h418 hx419 => ?_)
        have hqq420 : q398 = q417 := ((vz_inj h418 h399).mp (hx419.symm.trans hx400)).symm
        subst hqq420
        obtain ⟨fs421, e422⟩ := lI_238 hL414
        refine w_cv e0_368 (by decide) rfl e422 rfl (Nat.le_of_ble_eq_true rfl) (Nat.le_of_ble_eq_true rfl) (Nat.le_of_ble_eq_true rfl) (by decide) (by decide) (rp_and (y104 hL414 h399) (J104 hL414 hC403 hR404 h399)) (fun o425 v426 hq427 => ?_)
        obtain ⟨hq429, hJ428⟩ := hq427
        obtain ⟨⟨n430, p431, t432, hr433, hL434⟩, q435, h436, rfl⟩ := hq429
        rw [hr433.1, hr433.2] at hL434
        obtain ⟨hC423, hR424⟩ := hJ428
        refine w_x e0_371 (fun _ => rfl) ?_
        refine w_x e0_372 (fun _ => rfl) ?_
        refine w_iinc (A1 := [some (.ref 0), some (.ref 1), some (.ref 238), some (.ref 263), some (.int (vz (x4 + 5))), none, none, none]) e0_770 rfl (by decide) rfl ?_
        refine w_x e0_773 (fun _ => rfl) ?_
        have hnp437 : n = n ∧ p = p := by omega
        have hZ9 : rel5 n p u w := hZ
        exact w_sub (A1 := [some (.ref 0), some (.ref 1), some (.ref 238), some (.ref 263), some (.int (vz (x4 + 5))), none, none, none]) (And.intro rfl (And.intro rfl (And.intro rfl (And.intro rfl (And.intro rfl trivial))))) (w_end (fun ls hl => Or.inr (Or.inl ⟨rfl, rfl, hl, by omega, ⟨_, _, _, _, _, _, _, _, _, hL434, hZ9, hC423, hR424⟩⟩)))
      ·
        refine w_swI (t := 375) e0_39 (by omega) h7 (by rw [h9]; rfl) rfl ?_
        refine w_ldA e0_375 (fun _ => rfl) rfl ?_
        refine w_ldA e0_376 (fun _ => rfl) rfl ?_
        refine w_ldI e0_377 (fun _ => rfl) rfl ?_
        refine w_kI e0_379 ?_
        refine w_iadd e0_380 ?_
        refine w_aldO e0_381 (lI_0 hL) (by omega) (by omega) (by omega) (fun q438 h439 hx440 => ?_)
        refine w_ldA e0_382 (fun _ => rfl) rfl ?_
        refine w_ldI e0_383 (fun _ => rfl) rfl ?_
        refine w_kI e0_385 ?_
        refine w_iadd e0_386 ?_
        refine w_aldO e0_387 (lI_0 hL) (by omega) (by omega) (by omega) (fun q441 h442 hx443 => ?_)
        obtain ⟨fs444, e445⟩ := lI_1 hL
        refine w_cv e0_388 (by decide) rfl e445 rfl (Nat.le_of_ble_eq_true rfl) (Nat.le_of_ble_eq_true rfl) (Nat.le_of_ble_eq_true rfl) (by decide) (by decide) (rp_and (x51 hL h439 h442) (J51 hL hC hR h439 h442)) (fun o448 v449 hq450 => ?_)
        obtain ⟨hq452, hJ451⟩ := hq450
        obtain ⟨⟨n453, p454, hr456, hL457⟩, q458, h459, rfl⟩ := hq452
        rw [hr456.1, hr456.2] at hL457
        obtain ⟨hC446, hR447⟩ := hJ451
        refine w_x e0_391 (fun _ => rfl) ?_
        refine w_ldA e0_392 (fun _ => rfl) rfl ?_
        refine w_ldA e0_393 (fun _ => rfl) rfl ?_
        refine w_ldI e0_394 (fun _ => rfl) rfl ?_
        refine w_kI e0_396 ?_
        refine w_iadd e0_397 ?_
        refine w_aldO e0_398 (lI_0 hL457) (by omega) (by omega) (by omega) (fun q460 h461 hx462 => ?_)
        have hqq463 : q438 = q460 := ((vz_inj h461 h439).mp (hx462.symm.trans hx440)).symm
        subst hqq463
        refine w_ldA e0_399 (fun _ => rfl) rfl ?_
        refine w_ldI e0_400 (fun _ => rfl) rfl ?_
        refine w_kI e0_402 ?_
        refine w_iadd e0_403 ?_
        refine w_aldO e0_404 (lI_0 hL457) (by omega) (by omega) (by omega) (fun q464 h465 hx466 => ?_)
        have hqq467 : q441 = q464 := ((vz_inj h465 h442).mp (hx466.symm.trans hx443)).symm
        subst hqq467
        obtain ⟨fs468, e469⟩ := lI_238 hL457
        refine w_cv e0_405 (by decide) rfl e469 rfl (Nat.le_of_ble_eq_true rfl) (Nat.le_of_ble_eq_true rfl) (Nat.le_of_ble_eq_true rfl) (by decide) (by decide) (rp_and (y112 hL457 h439 h442) (J112 hL457 hC446 hR447 h439 h442)) (fun o472 v473 hq474 => ?_)
        obtain ⟨hq476, hJ475⟩ := hq474
        obtain ⟨⟨n477, p478, t479, hr480, hL481⟩, q482, h483, rfl⟩ := hq476
        rw [hr480.1, hr480.2] at hL481
        obtain ⟨hC470, hR471⟩ := hJ475
        refine w_x e0_408 (fun _ => rfl) ?_
        refine w_x e0_409 (fun _ => rfl) ?_
        refine w_iinc (A1 := [some (.ref 0), some (.ref 1), some (.ref 238), some (.ref 263), some (.int (vz (x4 + 5))), none, none, none]) e0_770 rfl (by decide) rfl ?_
        refine w_x e0_773 (fun _ => rfl) ?_
        have hnp484 : n = n ∧ p = p := by omega
        have hZ9 : rel5 n p u w := hZ
        exact w_sub (A1 := [some (.ref 0), some (.ref 1), some (.ref 238), some (.ref 263), some (.int (vz (x4 + 5))), none, none, none]) (And.intro rfl (And.intro rfl (And.intro rfl (And.intro rfl (And.intro rfl trivial))))) (w_end (fun ls hl => Or.inr (Or.inl ⟨rfl, rfl, hl, by omega, ⟨_, _, _, _, _, _, _, _, _, hL481, hZ9, hC470, hR471⟩⟩)))
      ·
        refine w_swI (t := 412) e0_39 (by omega) h7 (by rw [h9]; rfl) rfl ?_
        refine w_ldA e0_412 (fun _ => rfl) rfl ?_
        refine w_ldA e0_413 (fun _ => rfl) rfl ?_
        refine w_ldI e0_414 (fun _ => rfl) rfl ?_
        refine w_kI e0_416 ?_
        refine w_iadd e0_417 ?_
        refine w_aldO e0_418 (lI_0 hL) (by omega) (by omega) (by omega) (fun q485 h486 hx487 => ?_)
        obtain ⟨fs488, e489⟩ := lI_1 hL
        refine w_cv e0_419 (by decide) rfl e489 rfl (Nat.le_of_ble_eq_true rfl) (Nat.le_of_ble_eq_true rfl) (Nat.le_of_ble_eq_true rfl) (by decide) (by decide) (rp_and (x52 hL h486) (J52 hL hC hR h486)) (fun o492 v493 hq494 => ?_)
        obtain ⟨hq496, hJ495⟩ := hq494
        obtain ⟨⟨n497, p498, hr500, hL501⟩, q502, h503, rfl⟩ := hq496
        rw [hr500.1, hr500.2] at hL501
        obtain ⟨hC490, hR491⟩ := hJ495
        refine w_x e0_422 (fun _ => rfl) ?_
        refine w_ldA e0_423 (fun _ => rfl) rfl ?_
        refine w_ldA e0_424 (fun _ => rfl) rfl ?_
        refine w_ldI e0_425 (fun _ => rfl) rfl ?_
        refine w_kI e0_427 ?_
        refine w_iadd e0_428 ?_
        refine w_aldO e0_429 (lI_0 hL501) (by omega) (by omega) (by omega) (fun q504 h505 hx506 => ?_)
        have hqq507 : q485 = q504 := ((vz_inj h505 h486).mp (hx506.symm.trans hx487)).symm
        subst hqq507
        obtain ⟨fs508, e509⟩ := lI_238 hL501
        refine w_cv e0_430 (by decide) rfl e509 rfl (Nat.le_of_ble_eq_true rfl) (Nat.le_of_ble_eq_true rfl) (Nat.le_of_ble_eq_true rfl) (by decide) (by decide) (rp_and (y113 hL501 h486) (J113 hL501 hC490 hR491 h486)) (fun o512 v513 hq514 => ?_)
        obtain ⟨hq516, hJ515⟩ := hq514
        obtain ⟨⟨n517, p518, t519, hr520, hL521⟩, q522, h523, rfl⟩ := hq516
        rw [hr520.1, hr520.2] at hL521
        obtain ⟨hC510, hR511⟩ := hJ515
        refine w_x e0_433 (fun _ => rfl) ?_
        refine w_x e0_434 (fun _ => rfl) ?_
        refine w_iinc (A1 := [some (.ref 0), some (.ref 1), some (.ref 238), some (.ref 263), some (.int (vz (x4 + 5))), none, none, none]) e0_770 rfl (by decide) rfl ?_
        refine w_x e0_773 (fun _ => rfl) ?_
        have hnp524 : n = n ∧ p = p := by omega
        have hZ9 : rel5 n p u w := hZ
        exact w_sub (A1 := [some (.ref 0), some (.ref 1), some (.ref 238), some (.ref 263), some (.int (vz (x4 + 5))), none, none, none]) (And.intro rfl (And.intro rfl (And.intro rfl (And.intro rfl (And.intro rfl trivial))))) (w_end (fun ls hl => Or.inr (Or.inl ⟨rfl, rfl, hl, by omega, ⟨_, _, _, _, _, _, _, _, _, hL521, hZ9, hC510, hR511⟩⟩)))
      ·
        refine w_swI (t := 437) e0_39 (by omega) h7 (by rw [h9]; rfl) rfl ?_
        refine w_ldA e0_437 (fun _ => rfl) rfl ?_
        refine w_ldA e0_438 (fun _ => rfl) rfl ?_
        refine w_ldI e0_439 (fun _ => rfl) rfl ?_
        refine w_kI e0_441 ?_
        refine w_iadd e0_442 ?_
        refine w_aldO e0_443 (lI_0 hL) (by omega) (by omega) (by omega) (fun q525 h526 hx527 => ?_)
        refine w_ldA e0_444 (fun _ => rfl) rfl ?_
        refine w_ldI e0_445 (fun _ => rfl) rfl ?_
        refine w_kI e0_447 ?_
        refine w_iadd e0_448 ?_
        refine w_aldO e0_449 (lI_0 hL) (by omega) (by omega) (by omega) (fun q528 h529 hx530 => ?_)
        refine w_ldA e0_450 (fun _ => rfl) rfl ?_
        refine w_ldI e0_451 (fun _ => rfl) rfl ?_
        refine w_kI e0_453 ?_
        refine w_iadd e0_454 ?_
        refine w_aldO e0_455 (lI_0 hL) (by omega) (by omega) (by omega) (fun q531 h532 hx533 => ?_)
        obtain ⟨fs534, e535⟩ := lI_1 hL
        refine w_cv e0_456 (by decide) rfl e535 rfl (Nat.le_of_ble_eq_true rfl) (Nat.le_of_ble_eq_true rfl) (Nat.le_of_ble_eq_true rfl) (by decide) (by decide) (rp_and (x53 hL h526 h529 h532) (J53 hL hC hR h526 h529 h532)) (fun o538 v539 hq540 => ?_)
        obtain ⟨hq542, hJ541⟩ := hq540
        obtain ⟨⟨n543, p544, hr546, hL547⟩, q548, rfl⟩ := hq542
        rw [hr546.1, hr546.2] at hL547
        obtain ⟨hC536, hR537⟩ := hJ541
        refine w_x e0_459 (fun _ => rfl) ?_
        refine w_ldA e0_460 (fun _ => rfl) rfl ?_
        refine w_ldA e0_461 (fun _ => rfl) rfl ?_
        refine w_ldI e0_462 (fun _ => rfl) rfl ?_
        refine w_kI e0_464 ?_
        refine w_iadd e0_465 ?_
        refine w_aldO e0_466 (lI_0 hL547) (by omega) (by omega) (by omega) (fun q550 h551 hx552 => ?_)
        have hqq553 : q525 = q550 := ((vz_inj h551 h526).mp (hx552.symm.trans hx527)).symm
        subst hqq553
        refine w_ldA e0_467 (fun _ => rfl) rfl ?_
        refine w_ldI e0_468 (fun _ => rfl) rfl ?_
        refine w_kI e0_470 ?_
        refine w_iadd e0_471 ?_
        refine w_aldO e0_472 (lI_0 hL547) (by omega) (by omega) (by omega) (fun q554 h555 hx556 => ?_)
        have hqq557 : q528 = q554 := ((vz_inj h555 h529).mp (hx556.symm.trans hx530)).symm
        subst hqq557
        refine w_ldA e0_473 (fun _ => rfl) rfl ?_
        refine w_ldI e0_474 (fun _ => rfl) rfl ?_
        refine w_kI e0_476 ?_
        refine w_iadd e0_477 ?_
        refine w_aldO e0_478 (lI_0 hL547) (by omega) (by omega) (by omega) (fun q558 h559 hx560 => ?_)
        have hqq561 : q531 = q558 := ((vz_inj h559 h532).mp (hx560.symm.trans hx533)).symm
        subst hqq561
        obtain ⟨fs562, e563⟩ := lI_238 hL547
        refine w_cv e0_479 (by decide) rfl e563 rfl (Nat.le_of_ble_eq_true rfl) (Nat.le_of_ble_eq_true rfl) (Nat.le_of_ble_eq_true rfl) (by decide) (by decide) (rp_and (y115 hL547 h526 h529 h532) (J115 hL547 hC536 hR537 h526 h529 h532)) (fun o566 v567 hq568 => ?_)
        obtain ⟨hq570, hJ569⟩ := hq568
        obtain ⟨⟨n571, p572, t573, hr574, hL575⟩, q576, rfl⟩ := hq570
        rw [hr574.1, hr574.2] at hL575
        obtain ⟨hC564, hR565⟩ := hJ569
        refine w_x e0_482 (fun _ => rfl) ?_
        refine w_x e0_483 (fun _ => rfl) ?_
        refine w_iinc (A1 := [some (.ref 0), some (.ref 1), some (.ref 238), some (.ref 263), some (.int (vz (x4 + 5))), none, none, none]) e0_770 rfl (by decide) rfl ?_
        refine w_x e0_773 (fun _ => rfl) ?_
        have hnp578 : n = n ∧ p = p := by omega
        have hZ9 : rel5 n p u w := hZ
        exact w_sub (A1 := [some (.ref 0), some (.ref 1), some (.ref 238), some (.ref 263), some (.int (vz (x4 + 5))), none, none, none]) (And.intro rfl (And.intro rfl (And.intro rfl (And.intro rfl (And.intro rfl trivial))))) (w_end (fun ls hl => Or.inr (Or.inl ⟨rfl, rfl, hl, by omega, ⟨_, _, _, _, _, _, _, _, _, hL575, hZ9, hC564, hR565⟩⟩)))
      ·
        refine w_swI (t := 486) e0_39 (by omega) h7 (by rw [h9]; rfl) rfl ?_
        refine w_ldA e0_486 (fun _ => rfl) rfl ?_
        refine w_ldA e0_487 (fun _ => rfl) rfl ?_
        refine w_ldI e0_488 (fun _ => rfl) rfl ?_
        refine w_kI e0_490 ?_
        refine w_iadd e0_491 ?_
        refine w_aldO e0_492 (lI_0 hL) (by omega) (by omega) (by omega) (fun q579 h580 hx581 => ?_)
        refine w_ldA e0_493 (fun _ => rfl) rfl ?_
        refine w_ldI e0_494 (fun _ => rfl) rfl ?_
        refine w_kI e0_496 ?_
        refine w_iadd e0_497 ?_
        refine w_aldO e0_498 (lI_0 hL) (by omega) (by omega) (by omega) (fun q582 h583 hx584 => ?_)
        refine w_ldA e0_499 (fun _ => rfl) rfl ?_
        refine w_ldI e0_500 (fun _ => rfl) rfl ?_
        refine w_kI e0_502 ?_
        refine w_iadd e0_503 ?_
        refine w_aldO e0_504 (lI_0 hL) (by omega) (by omega) (by omega) (fun q585 h586 hx587 => ?_)
        obtain ⟨fs588, e589⟩ := lI_1 hL
        refine w_cv e0_505 (by decide) rfl e589 rfl (Nat.le_of_ble_eq_true rfl) (Nat.le_of_ble_eq_true rfl) (Nat.le_of_ble_eq_true rfl) (by decide) (by decide) (rp_and (x54 hL h580 h583 h586) (J54 hL hC hR h580 h583 h586)) (fun o592 v593 hq594 => ?_)
        obtain ⟨hq596, hJ595⟩ := hq594
        obtain ⟨⟨n597, p598, hr600, hL601⟩, q602, h603, rfl⟩ := hq596
        rw [hr600.1, hr600.2] at hL601
        obtain ⟨hC590, hR591⟩ := hJ595
        refine w_x e0_508 (fun _ => rfl) ?_
        refine w_ldA e0_509 (fun _ => rfl) rfl ?_
        refine w_ldA e0_510 (fun _ => rfl) rfl ?_
        refine w_ldI e0_511 (fun _ => rfl) rfl ?_
        refine w_kI e0_513 ?_
        refine w_iadd e0_514 ?_
        refine w_aldO e0_515 (lI_0 hL601) (by omega) (by omega) (by omega) (fun q604 h605 hx606 => ?_)
        have hqq607 : q579 = q604 := ((vz_inj h605 h580).mp (hx606.symm.trans hx581)).symm
        subst hqq607
        refine w_ldA e0_516 (fun _ => rfl) rfl ?_
        refine w_ldI e0_517 (fun _ => rfl) rfl ?_
        refine w_kI e0_519 ?_
        refine w_iadd e0_520 ?_
        refine w_aldO e0_521 (lI_0 hL601) (by omega) (by omega) (by omega) (fun q608 h609 hx610 => ?_)
        have hqq611 : q582 = q608 := ((vz_inj h609 h583).mp (hx610.symm.trans hx584)).symm
        subst hqq611
        refine w_ldA e0_522 (fun _ => rfl) rfl ?_
        refine w_ldI e0_523 (fun _ => rfl) rfl ?_
        refine w_kI e0_525 ?_
        refine w_iadd e0_526 ?_
        refine w_aldO e0_527 (lI_0 hL601) (by omega) (by omega) (by omega) (fun q612 h613 hx614 => ?_)
        have hqq615 : q585 = q612 := ((vz_inj h613 h586).mp (hx614.symm.trans hx587)).symm
        subst hqq615
        obtain ⟨fs616, e617⟩ := lI_238 hL601
        refine w_cv e0_528 (by decide) rfl e617 rfl (Nat.le_of_ble_eq_true rfl) (Nat.le_of_ble_eq_true rfl) (Nat.le_of_ble_eq_true rfl) (by decide) (by decide) (rp_and (y116 hL601 h580 h583 h586) (J116 hL601 hC590 hR591 h580 h583 h586)) (fun o620 v621 hq622 => ?_)
        obtain ⟨hq624, hJ623⟩ := hq622
        obtain ⟨⟨n625, p626, t627, hr628, hL629⟩, q630, h631, rfl⟩ := hq624
        rw [hr628.1, hr628.2] at hL629
        obtain ⟨hC618, hR619⟩ := hJ623
        refine w_x e0_531 (fun _ => rfl) ?_
        refine w_x e0_532 (fun _ => rfl) ?_
        refine w_iinc (A1 := [some (.ref 0), some (.ref 1), some (.ref 238), some (.ref 263), some (.int (vz (x4 + 5))), none, none, none]) e0_770 rfl (by decide) rfl ?_
        refine w_x e0_773 (fun _ => rfl) ?_
        have hnp632 : n = n ∧ p = p := by omega
        have hZ9 : rel5 n p u w := hZ
        exact w_sub (A1 := [some (.ref 0), some (.ref 1), some (.ref 238), some (.ref 263), some (.int (vz (x4 + 5))), none, none, none]) (And.intro rfl (And.intro rfl (And.intro rfl (And.intro rfl (And.intro rfl trivial))))) (w_end (fun ls hl => Or.inr (Or.inl ⟨rfl, rfl, hl, by omega, ⟨_, _, _, _, _, _, _, _, _, hL629, hZ9, hC618, hR619⟩⟩)))
      ·
        refine w_swI (t := 535) e0_39 (by omega) h7 (by rw [h9]; rfl) rfl ?_
        refine w_ldA e0_535 (fun _ => rfl) rfl ?_
        refine w_ldA e0_536 (fun _ => rfl) rfl ?_
        refine w_ldI e0_537 (fun _ => rfl) rfl ?_
        refine w_kI e0_539 ?_
        refine w_iadd e0_540 ?_
        refine w_aldO e0_541 (lI_0 hL) (by omega) (by omega) (by omega) (fun q633 h634 hx635 => ?_)
        refine w_ldA e0_542 (fun _ => rfl) rfl ?_
        refine w_ldI e0_543 (fun _ => rfl) rfl ?_
        refine w_kI e0_545 ?_
        refine w_iadd e0_546 ?_
        refine w_aldO e0_547 (lI_0 hL) (by omega) (by omega) (by omega) (fun q636 h637 hx638 => ?_)
        refine w_oL e0_548 (fun _ => rfl) (fun l639 => ?_)
        refine w_kB e0_549 rfl ?_
        refine w_oL e0_551 (fun _ => rfl) (fun l640 => ?_)
        refine w_ldA e0_552 (fun _ => rfl) rfl ?_
        refine w_ldI e0_553 (fun _ => rfl) rfl ?_
        refine w_kI e0_555 ?_
        refine w_iadd e0_556 ?_
        refine w_aldO e0_557 (lI_0 hL) (by omega) (by omega) (by omega) (fun q641 h642 hx643 => ?_)
        refine w_oL e0_558 (fun _ => rfl) (fun l644 => ?_)
        refine w_oL e0_559 (fun _ => rfl) (fun l645 => ?_)
        refine w_oL e0_562 (fun _ => rfl) (fun l646 => ?_)
        refine w_oL e0_563 (fun _ => rfl) (fun l647 => ?_)
        obtain ⟨fs648, e649⟩ := lI_1 hL
        refine w_cv e0_564 (by decide) rfl e649 rfl (Nat.le_of_ble_eq_true rfl) (Nat.le_of_ble_eq_true rfl) (Nat.le_of_ble_eq_true rfl) (by decide) (by decide) (rp_and (x55 hL h634) (J55 hL hC hR h634)) (fun o652 v653 hq654 => ?_)
        obtain ⟨hq656, hJ655⟩ := hq654
        obtain ⟨⟨n657, p658, hr660, hL661⟩, q662, h663, rfl⟩ := hq656
        rw [hr660.1, hr660.2] at hL661
        obtain ⟨hC650, hR651⟩ := hJ655
        refine w_x e0_567 (fun _ => rfl) ?_
        refine w_ldA e0_568 (fun _ => rfl) rfl ?_
        refine w_ldA e0_569 (fun _ => rfl) rfl ?_
        refine w_ldI e0_570 (fun _ => rfl) rfl ?_
        refine w_kI e0_572 ?_
        refine w_iadd e0_573 ?_
        refine w_aldO e0_574 (lI_0 hL661) (by omega) (by omega) (by omega) (fun q664 h665 hx666 => ?_)
        have hqq667 : q633 = q664 := ((vz_inj h665 h634).mp (hx666.symm.trans hx635)).symm
        subst hqq667
        refine w_ldA e0_575 (fun _ => rfl) rfl ?_
        refine w_ldI e0_576 (fun _ => rfl) rfl ?_
        refine w_kI e0_578 ?_
        refine w_iadd e0_579 ?_
        refine w_aldO e0_580 (lI_0 hL661) (by omega) (by omega) (by omega) (fun q668 h669 hx670 => ?_)
        have hqq671 : q636 = q668 := ((vz_inj h669 h637).mp (hx670.symm.trans hx638)).symm
        subst hqq671
        refine w_oL e0_581 (fun _ => rfl) (fun l672 => ?_)
        refine w_kB e0_582 rfl ?_
        refine w_oL e0_584 (fun _ => rfl) (fun l673 => ?_)
        refine w_ldA e0_585 (fun _ => rfl) rfl ?_
        refine w_ldI e0_586 (fun _ => rfl) rfl ?_
        refine w_kI e0_588 ?_
        refine w_iadd e0_589 ?_
        refine w_aldO e0_590 (lI_0 hL661) (by omega) (by omega) (by omega) (fun q674 h675 hx676 => ?_)
        have hqq677 : q641 = q674 := ((vz_inj h675 h642).mp (hx676.symm.trans hx643)).symm
        subst hqq677
        refine w_oL e0_591 (fun _ => rfl) (fun l678 => ?_)
        refine w_oL e0_592 (fun _ => rfl) (fun l679 => ?_)
        refine w_oL e0_595 (fun _ => rfl) (fun l680 => ?_)
        refine w_oL e0_596 (fun _ => rfl) (fun l681 => ?_)
        obtain ⟨fs682, e683⟩ := lI_238 hL661
        refine w_cv e0_597 (by decide) rfl e683 rfl (Nat.le_of_ble_eq_true rfl) (Nat.le_of_ble_eq_true rfl) (Nat.le_of_ble_eq_true rfl) (by decide) (by decide) (rp_and (y117 hL661 h634) (J117 hL661 hC650 hR651 h634)) (fun o686 v687 hq688 => ?_)
        obtain ⟨hq690, hJ689⟩ := hq688
        obtain ⟨⟨n691, p692, t693, hr694, hL695⟩, q696, h697, rfl⟩ := hq690
        rw [hr694.1, hr694.2] at hL695
        obtain ⟨hC684, hR685⟩ := hJ689
        refine w_x e0_600 (fun _ => rfl) ?_
        refine w_x e0_601 (fun _ => rfl) ?_
        refine w_iinc (A1 := [some (.ref 0), some (.ref 1), some (.ref 238), some (.ref 263), some (.int (vz (x4 + 5))), none, none, none]) e0_770 rfl (by decide) rfl ?_
        refine w_x e0_773 (fun _ => rfl) ?_
        have hnp698 : n = n ∧ p = p := by omega
        have hZ9 : rel5 n p u w := hZ
        exact w_sub (A1 := [some (.ref 0), some (.ref 1), some (.ref 238), some (.ref 263), some (.int (vz (x4 + 5))), none, none, none]) (And.intro rfl (And.intro rfl (And.intro rfl (And.intro rfl (And.intro rfl trivial))))) (w_end (fun ls hl => Or.inr (Or.inl ⟨rfl, rfl, hl, by omega, ⟨_, _, _, _, _, _, _, _, _, hL695, hZ9, hC684, hR685⟩⟩)))
      ·
        refine w_swI (t := 604) e0_39 (by omega) h7 (by rw [h9]; rfl) rfl ?_
        refine w_ldA e0_604 (fun _ => rfl) rfl ?_
        refine w_ldA e0_605 (fun _ => rfl) rfl ?_
        refine w_ldI e0_606 (fun _ => rfl) rfl ?_
        refine w_kI e0_608 ?_
        refine w_iadd e0_609 ?_
        refine w_aldO e0_610 (lI_0 hL) (by omega) (by omega) (by omega) (fun q699 h700 hx701 => ?_)
        refine w_ldA e0_611 (fun _ => rfl) rfl ?_
        refine w_ldI e0_612 (fun _ => rfl) rfl ?_
        refine w_kI e0_614 ?_
        refine w_iadd e0_615 ?_
        refine w_aldO e0_616 (lI_0 hL) (by omega) (by omega) (by omega) (fun q702 h703 hx704 => ?_)
        obtain ⟨fs705, e706⟩ := lI_1 hL
        refine w_cv e0_617 (by decide) rfl e706 rfl (Nat.le_of_ble_eq_true rfl) (Nat.le_of_ble_eq_true rfl) (Nat.le_of_ble_eq_true rfl) (by decide) (by decide) (rp_and (x56 hL h700 h703) (J56 hL hC hR h700 h703)) (fun o709 v710 hq711 => ?_)
        obtain ⟨hq713, hJ712⟩ := hq711
        obtain ⟨⟨n714, p715, hr717, hL718⟩, q719, rfl⟩ := hq713
        rw [hr717.1, hr717.2] at hL718
        obtain ⟨hC707, hR708⟩ := hJ712
        refine w_x e0_620 (fun _ => rfl) ?_
        refine w_ldA e0_621 (fun _ => rfl) rfl ?_
        refine w_ldA e0_622 (fun _ => rfl) rfl ?_
        refine w_ldI e0_623 (fun _ => rfl) rfl ?_
        refine w_kI e0_625 ?_
        refine w_iadd e0_626 ?_
        refine w_aldO e0_627 (lI_0 hL718) (by omega) (by omega) (by omega) (fun q721 h722 hx723 => ?_)
        have hqq724 : q699 = q721 := ((vz_inj h722 h700).mp (hx723.symm.trans hx701)).symm
        subst hqq724
        refine w_ldA e0_628 (fun _ => rfl) rfl ?_
        refine w_ldI e0_629 (fun _ => rfl) rfl ?_
        refine w_kI e0_631 ?_
        refine w_iadd e0_632 ?_
        refine w_aldO e0_633 (lI_0 hL718) (by omega) (by omega) (by omega) (fun q725 h726 hx727 => ?_)
        have hqq728 : q702 = q725 := ((vz_inj h726 h703).mp (hx727.symm.trans hx704)).symm
        subst hqq728
        obtain ⟨fs729, e730⟩ := lI_238 hL718
        refine w_cv e0_634 (by decide) rfl e730 rfl (Nat.le_of_ble_eq_true rfl) (Nat.le_of_ble_eq_true rfl) (Nat.le_of_ble_eq_true rfl) (by decide) (by decide) (rp_and (y120 hL718 h700 h703) (J120 hL718 hC707 hR708 h700 h703)) (fun o733 v734 hq735 => ?_)
        obtain ⟨hq737, hJ736⟩ := hq735
        obtain ⟨⟨n738, p739, t740, hr741, hL742⟩, q743, rfl⟩ := hq737
        rw [hr741.1, hr741.2] at hL742
        obtain ⟨hC731, hR732⟩ := hJ736
        refine w_x e0_637 (fun _ => rfl) ?_
        refine w_x e0_638 (fun _ => rfl) ?_
        refine w_iinc (A1 := [some (.ref 0), some (.ref 1), some (.ref 238), some (.ref 263), some (.int (vz (x4 + 5))), none, none, none]) e0_770 rfl (by decide) rfl ?_
        refine w_x e0_773 (fun _ => rfl) ?_
        have hnp745 : n = n ∧ p = p := by omega
        have hZ9 : rel5 n p u w := hZ
        exact w_sub (A1 := [some (.ref 0), some (.ref 1), some (.ref 238), some (.ref 263), some (.int (vz (x4 + 5))), none, none, none]) (And.intro rfl (And.intro rfl (And.intro rfl (And.intro rfl (And.intro rfl trivial))))) (w_end (fun ls hl => Or.inr (Or.inl ⟨rfl, rfl, hl, by omega, ⟨_, _, _, _, _, _, _, _, _, hL742, hZ9, hC731, hR732⟩⟩)))
      ·
        refine w_swI (t := 641) e0_39 (by omega) h7 (by rw [h9]; rfl) rfl ?_
        refine w_ldA e0_641 (fun _ => rfl) rfl ?_
        refine w_ldA e0_642 (fun _ => rfl) rfl ?_
        refine w_ldI e0_643 (fun _ => rfl) rfl ?_
        refine w_kI e0_645 ?_
        refine w_iadd e0_646 ?_
        refine w_aldO e0_647 (lI_0 hL) (by omega) (by omega) (by omega) (fun q746 h747 hx748 => ?_)
        obtain ⟨fs749, e750⟩ := lI_1 hL
        refine w_cv e0_648 (by decide) rfl e750 rfl (Nat.le_of_ble_eq_true rfl) (Nat.le_of_ble_eq_true rfl) (Nat.le_of_ble_eq_true rfl) (by decide) (by decide) (rp_and (x57 hL h747) (J57 hL hC hR h747)) (fun o753 v754 hq755 => ?_)
        obtain ⟨hq757, hJ756⟩ := hq755
        obtain ⟨⟨n758, p759, hr761, hL762⟩, q763, rfl⟩ := hq757
        rw [hr761.1, hr761.2] at hL762
        obtain ⟨hC751, hR752⟩ := hJ756
        refine w_x e0_651 (fun _ => rfl) ?_
        refine w_ldA e0_652 (fun _ => rfl) rfl ?_
        refine w_ldA e0_653 (fun _ => rfl) rfl ?_
        refine w_ldI e0_654 (fun _ => rfl) rfl ?_
        refine w_kI e0_656 ?_
        refine w_iadd e0_657 ?_
        refine w_aldO e0_658 (lI_0 hL762) (by omega) (by omega) (by omega) (fun q765 h766 hx767 => ?_)
        have hqq768 : q746 = q765 := ((vz_inj h766 h747).mp (hx767.symm.trans hx748)).symm
        subst hqq768
        obtain ⟨fs769, e770⟩ := lI_238 hL762
        refine w_cv e0_659 (by decide) rfl e770 rfl (Nat.le_of_ble_eq_true rfl) (Nat.le_of_ble_eq_true rfl) (Nat.le_of_ble_eq_true rfl) (by decide) (by decide) (rp_and (y121 hL762 h747) (J121 hL762 hC751 hR752 h747)) (fun o773 v774 hq775 => ?_)
        obtain ⟨hq777, hJ776⟩ := hq775
        obtain ⟨⟨n778, p779, t780, hr781, hL782⟩, q783, rfl⟩ := hq777
        rw [hr781.1, hr781.2] at hL782
        obtain ⟨hC771, hR772⟩ := hJ776
        refine w_x e0_662 (fun _ => rfl) ?_
        refine w_x e0_663 (fun _ => rfl) ?_
        refine w_iinc (A1 := [some (.ref 0), some (.ref 1), some (.ref 238), some (.ref 263), some (.int (vz (x4 + 5))), none, none, none]) e0_770 rfl (by decide) rfl ?_
        refine w_x e0_773 (fun _ => rfl) ?_
        have hnp785 : n = n ∧ p = p := by omega
        have hZ9 : rel5 n p u w := hZ
        exact w_sub (A1 := [some (.ref 0), some (.ref 1), some (.ref 238), some (.ref 263), some (.int (vz (x4 + 5))), none, none, none]) (And.intro rfl (And.intro rfl (And.intro rfl (And.intro rfl (And.intro rfl trivial))))) (w_end (fun ls hl => Or.inr (Or.inl ⟨rfl, rfl, hl, by omega, ⟨_, _, _, _, _, _, _, _, _, hL782, hZ9, hC771, hR772⟩⟩)))
      ·
        refine w_swI (t := 666) e0_39 (by omega) h7 (by rw [h9]; rfl) rfl ?_
        refine w_ldA e0_666 (fun _ => rfl) rfl ?_
        refine w_ldA e0_667 (fun _ => rfl) rfl ?_
        refine w_ldI e0_668 (fun _ => rfl) rfl ?_
        refine w_kI e0_670 ?_
        refine w_iadd e0_671 ?_
        refine w_ald e0_672 (lI_0 hL) (by omega) (by omega) (by omega) ?_
        refine w_x e0_673 (fun _ => rfl) ?_
        refine w_kB e0_674 rfl ?_
        refine w_x e0_676 (fun _ => rfl) ?_
        refine w_ldA e0_677 (fun _ => rfl) rfl ?_
        refine w_ldI e0_678 (fun _ => rfl) rfl ?_
        refine w_kI e0_680 ?_
        refine w_iadd e0_681 ?_
        refine w_ald e0_682 (lI_0 hL) (by omega) (by omega) (by omega) ?_
        refine w_x e0_683 (fun _ => rfl) ?_
        refine w_x e0_684 (fun _ => rfl) ?_
        refine w_x e0_687 (fun _ => rfl) ?_
        refine w_x e0_688 (fun _ => rfl) ?_
        refine w_ldA e0_689 (fun _ => rfl) rfl ?_
        refine w_ldI e0_690 (fun _ => rfl) rfl ?_
        refine w_kI e0_692 ?_
        refine w_iadd e0_693 ?_
        refine w_ald e0_694 (lI_0 hL) (by omega) (by omega) (by omega) ?_
        refine w_x e0_695 (fun _ => rfl) ?_
        refine w_kB e0_696 rfl ?_
        refine w_x e0_698 (fun _ => rfl) ?_
        refine w_ldA e0_699 (fun _ => rfl) rfl ?_
        refine w_ldI e0_700 (fun _ => rfl) rfl ?_
        refine w_kI e0_702 ?_
        refine w_iadd e0_703 ?_
        refine w_ald e0_704 (lI_0 hL) (by omega) (by omega) (by omega) ?_
        refine w_x e0_705 (fun _ => rfl) ?_
        refine w_x e0_706 (fun _ => rfl) ?_
        refine w_x e0_709 (fun _ => rfl) ?_
        refine w_x e0_710 (fun _ => rfl) ?_
        refine w_ldA e0_711 (fun _ => rfl) rfl ?_
        show vm_Wp _ _ _ 712 _ [.ref 263, .long (laL (xs (x4 + 3).toNat) (xs (x4 + 4).toNat)), .long (laL (xs (x4 + 1).toNat) (xs (x4 + 2).toNat)), .ref 1] _ _
        exact w_end (fun ls hl => Or.inr (Or.inr ⟨rfl, rfl, hl, by omega, _, _, _, _, _, _, _, _, _, hL, hZ, hC, hR⟩))
set_option maxRecDepth 100000 in
set_option maxHeartbeats 8000000 in
theorem lw_psez {L : Nat} {xs : Nat → Int32} {vh : vm_H} {n p t : Int} {g : Int64} {x4 : Int} {u : D5u} {w : D5w} {V : Nat → Int} {F H : Nat → Int32} (hL : lI L xs vh n p n p t g u w) (hZ : rel5 n p u w) (hC : jC vh V F H) (hR : jR vh V F H) (h0 : 0 ≤ x4) (hx : x4 + 5 ≤ (L : Int)) (hl : L ≤ 2560) (hb : (laL (xs (x4 + 3).toNat) (xs (x4 + 4).toNat)) = 0) : vm_Wp 9 400 0 715 (lwA x4) [.int (vz 1)] vh (lwQ L xs x4) := by
  refine w_stI (j := 5) (A1 := [some (.ref 0), some (.ref 1), some (.ref 238), some (.ref 263), some (.int (vz x4)), some (.int (vz 1)), none, none]) e0_715 (fun _ => rfl) (by decide) rfl ?_
  refine w_ldA e0_717 (fun _ => rfl) rfl ?_
  refine w_ldA e0_718 (fun _ => rfl) rfl ?_
  refine w_ldI e0_719 (fun _ => rfl) rfl ?_
  refine w_kI e0_721 ?_
  refine w_iadd e0_722 ?_
  refine w_ald e0_723 (lI_0 hL) (by omega) (by omega) (by omega) ?_
  refine w_x e0_724 (fun _ => rfl) ?_
  refine w_kB e0_725 rfl ?_
  refine w_x e0_727 (fun _ => rfl) ?_
  refine w_ldA e0_728 (fun _ => rfl) rfl ?_
  refine w_ldI e0_729 (fun _ => rfl) rfl ?_
  refine w_kI e0_731 ?_
  refine w_iadd e0_732 ?_
  refine w_ald e0_733 (lI_0 hL) (by omega) (by omega) (by omega) ?_
  refine w_x e0_734 (fun _ => rfl) ?_
  refine w_x e0_735 (fun _ => rfl) ?_
  refine w_x e0_738 (fun _ => rfl) ?_
  refine w_x e0_739 (fun _ => rfl) ?_
  refine w_ldA e0_740 (fun _ => rfl) rfl ?_
  refine w_ldI e0_741 (fun _ => rfl) rfl ?_
  refine w_kI e0_743 ?_
  refine w_iadd e0_744 ?_
  refine w_ald e0_745 (lI_0 hL) (by omega) (by omega) (by omega) ?_
  refine w_x e0_746 (fun _ => rfl) ?_
  refine w_kB e0_747 rfl ?_
  refine w_x e0_749 (fun _ => rfl) ?_
  refine w_ldA e0_750 (fun _ => rfl) rfl ?_
  refine w_ldI e0_751 (fun _ => rfl) rfl ?_
  refine w_kI e0_753 ?_
  refine w_iadd e0_754 ?_
  refine w_ald e0_755 (lI_0 hL) (by omega) (by omega) (by omega) ?_
  refine w_x e0_756 (fun _ => rfl) ?_
  refine w_x e0_757 (fun _ => rfl) ?_
  refine w_x e0_760 (fun _ => rfl) ?_
  refine w_x e0_761 (fun _ => rfl) ?_
  obtain ⟨fs1, e2⟩ := lI_238 hL
  show vm_Wp _ _ _ 762 _ [.long (laL (xs (x4 + 3).toNat) (xs (x4 + 4).toNat)), .long (laL (xs (x4 + 1).toNat) (xs (x4 + 2).toNat)), .ref 238] _ _
  refine w_cv e0_762 (by decide) rfl e2 rfl (Nat.le_of_ble_eq_true rfl) (Nat.le_of_ble_eq_true rfl) (Nat.le_of_ble_eq_true rfl) (by decide) (by decide) (rp_and (y122z hL _ _ hb) (J122z hL hC hR _ _ hb)) (fun o5 v6 hq7 => ?_)
  obtain ⟨⟨hL8, l9, rfl⟩, hC3, hR4⟩ := hq7
  refine w_stL (j := 6) (A1 := [some (.ref 0), some (.ref 1), some (.ref 238), some (.ref 263), some (.int (vz x4)), some (.int (vz 1)), some (.long l9), none]) e0_765 (fun _ => rfl) (by decide) rfl ?_
  refine w_x e0_767 (fun _ => rfl) ?_
  refine w_iinc (A1 := [some (.ref 0), some (.ref 1), some (.ref 238), some (.ref 263), some (.int (vz (x4 + 5))), some (.int (vz 1)), some (.long l9), none]) e0_770 rfl (by decide) rfl ?_
  refine w_x e0_773 (fun _ => rfl) ?_
  have hnp10 : n = n ∧ p = p := by omega
  have hZ9 : rel5 n p u w := hZ
  exact w_sub (A1 := [some (.ref 0), some (.ref 1), some (.ref 238), some (.ref 263), some (.int (vz (x4 + 5))), none, none, none]) (And.intro rfl (And.intro rfl (And.intro rfl (And.intro rfl (And.intro rfl trivial))))) (w_end (fun ls hl => ⟨rfl, rfl, hl, by omega, ⟨_, _, _, _, _, _, _, _, _, hL8, hZ9, hC3, hR4⟩⟩))
set_option maxRecDepth 100000 in
set_option maxHeartbeats 8000000 in
theorem lw_psen {L : Nat} {xs : Nat → Int32} {vh : vm_H} {n p t : Int} {g : Int64} {x4 : Int} {u : D5u} {w : D5w} {V : Nat → Int} {F H : Nat → Int32} (hL : lI L xs vh n p n p t g u w) (hZ : rel5 n p u w) (hC : jC vh V F H) (hR : jR vh V F H) (h0 : 0 ≤ x4) (hx : x4 + 5 ≤ (L : Int)) (hl : L ≤ 2560) (hb : ¬ (laL (xs (x4 + 3).toNat) (xs (x4 + 4).toNat)) = 0) (hg : g = (laL (xs (x4 + 1).toNat) (xs (x4 + 2).toNat)) <<< (Int32.toInt64 (Int8.ofInt 32).toInt32 &&& 63) / (laL (xs (x4 + 3).toNat) (xs (x4 + 4).toNat))) : vm_Wp 9 400 0 715 (lwA x4) [.int (vz 0)] vh (lwQ L xs x4) := by
  refine w_stI (j := 5) (A1 := [some (.ref 0), some (.ref 1), some (.ref 238), some (.ref 263), some (.int (vz x4)), some (.int (vz 0)), none, none]) e0_715 (fun _ => rfl) (by decide) rfl ?_
  refine w_ldA e0_717 (fun _ => rfl) rfl ?_
  refine w_ldA e0_718 (fun _ => rfl) rfl ?_
  refine w_ldI e0_719 (fun _ => rfl) rfl ?_
  refine w_kI e0_721 ?_
  refine w_iadd e0_722 ?_
  refine w_ald e0_723 (lI_0 hL) (by omega) (by omega) (by omega) ?_
  refine w_x e0_724 (fun _ => rfl) ?_
  refine w_kB e0_725 rfl ?_
  refine w_x e0_727 (fun _ => rfl) ?_
  refine w_ldA e0_728 (fun _ => rfl) rfl ?_
  refine w_ldI e0_729 (fun _ => rfl) rfl ?_
  refine w_kI e0_731 ?_
  refine w_iadd e0_732 ?_
  refine w_ald e0_733 (lI_0 hL) (by omega) (by omega) (by omega) ?_
  refine w_x e0_734 (fun _ => rfl) ?_
  refine w_x e0_735 (fun _ => rfl) ?_
  refine w_x e0_738 (fun _ => rfl) ?_
  refine w_x e0_739 (fun _ => rfl) ?_
  refine w_ldA e0_740 (fun _ => rfl) rfl ?_
  refine w_ldI e0_741 (fun _ => rfl) rfl ?_
  refine w_kI e0_743 ?_
  refine w_iadd e0_744 ?_
  refine w_ald e0_745 (lI_0 hL) (by omega) (by omega) (by omega) ?_
  refine w_x e0_746 (fun _ => rfl) ?_
  refine w_kB e0_747 rfl ?_
  refine w_x e0_749 (fun _ => rfl) ?_
  refine w_ldA e0_750 (fun _ => rfl) rfl ?_
  refine w_ldI e0_751 (fun _ => rfl) rfl ?_
  refine w_kI e0_753 ?_
  refine w_iadd e0_754 ?_
  refine w_ald e0_755 (lI_0 hL) (by omega) (by omega) (by omega) ?_
  refine w_x e0_756 (fun _ => rfl) ?_
  refine w_x e0_757 (fun _ => rfl) ?_
  refine w_x e0_760 (fun _ => rfl) ?_
  refine w_x e0_761 (fun _ => rfl) ?_
  obtain ⟨fs1, e2⟩ := lI_238 hL
  show vm_Wp _ _ _ 762 _ [.long (laL (xs (x4 + 3).toNat) (xs (x4 + 4).toNat)), .long (laL (xs (x4 + 1).toNat) (xs (x4 + 2).toNat)), .ref 238] _ _
  refine w_cv e0_762 (by decide) rfl e2 rfl (Nat.le_of_ble_eq_true rfl) (Nat.le_of_ble_eq_true rfl) (Nat.le_of_ble_eq_true rfl) (by decide) (by decide) (rp_and (y122n hL _ _ hb) (J122n hL hC hR _ _ hb)) (fun o5 v6 hq7 => ?_)
  obtain ⟨⟨hL8, rfl⟩, hC3, hR4⟩ := hq7
  refine w_stL (j := 6) (A1 := [some (.ref 0), some (.ref 1), some (.ref 238), some (.ref 263), some (.int (vz x4)), some (.int (vz 0)), some (.long ((laL (xs (x4 + 1).toNat) (xs (x4 + 2).toNat)) <<< (Int32.toInt64 (Int8.ofInt 32).toInt32 &&& 63) / (laL (xs (x4 + 3).toNat) (xs (x4 + 4).toNat)))), none]) e0_765 (fun _ => rfl) (by decide) rfl ?_
  refine w_x e0_767 (fun _ => rfl) ?_
  refine w_iinc (A1 := [some (.ref 0), some (.ref 1), some (.ref 238), some (.ref 263), some (.int (vz (x4 + 5))), some (.int (vz 0)), some (.long ((laL (xs (x4 + 1).toNat) (xs (x4 + 2).toNat)) <<< (Int32.toInt64 (Int8.ofInt 32).toInt32 &&& 63) / (laL (xs (x4 + 3).toNat) (xs (x4 + 4).toNat)))), none]) e0_770 rfl (by decide) rfl ?_
  refine w_x e0_773 (fun _ => rfl) ?_
  have hnp9 : n = n ∧ p = p := by omega
  have hZ9 : rel5 n p u w := hZ
  exact w_sub (A1 := [some (.ref 0), some (.ref 1), some (.ref 238), some (.ref 263), some (.int (vz (x4 + 5))), none, none, none]) (And.intro rfl (And.intro rfl (And.intro rfl (And.intro rfl (And.intro rfl trivial))))) (w_end (fun ls hl => ⟨rfl, rfl, hl, by omega, ⟨_, _, _, _, _, _, _, _, _, hL8, hZ9, hC3, hR4⟩⟩))
