theorem e0_23 : vm_ent 0 23 = some (.iload 4, 0, 0, 0) := by decide +kernel
theorem e0_25 : vm_ent 0 25 = some (.aload_n 0, 0, 0, 0) := by decide +kernel
theorem e0_26 : vm_ent 0 26 = some (.arraylength, 0, 0, 0) := by decide +kernel
theorem e0_27 : vm_ent 0 27 = some (.iconst 5, 0, 0, 0) := by decide +kernel
theorem e0_28 : vm_ent 0 28 = some (.isub, 0, 0, 0) := by decide +kernel
theorem e0_29 : vm_ent 0 29 = some (.if_icmp .gt 774, 803, 0, 0) := by decide +kernel
theorem e0_32 : vm_ent 0 32 = some (.aload_n 0, 0, 0, 0) := by decide +kernel
theorem e0_33 : vm_ent 0 33 = some (.iload 4, 0, 0, 0) := by decide +kernel
theorem e0_35 : vm_ent 0 35 = some (.iaload, 0, 0, 0) := by decide +kernel
theorem e0_36 : vm_ent 0 36 = some (.bipush 15, 0, 0, 0) := by decide +kernel
theorem e0_38 : vm_ent 0 38 = some (.iand, 0, 0, 0) := by decide +kernel
theorem e0_39 : vm_ent 0 39 = some (.tableswitch 758 0 14 #[73, 114, 151, 164, 245, 298, 311, 336, 373, 398, 447, 496, 565, 602, 627], 73, 0, 0) := by decide +kernel
theorem e0_112 : vm_ent 0 112 = some (.aload_n 1, 0, 0, 0) := by decide +kernel
theorem e0_113 : vm_ent 0 113 = some (.aload_n 0, 0, 0, 0) := by decide +kernel
theorem e0_114 : vm_ent 0 114 = some (.iload 4, 0, 0, 0) := by decide +kernel
theorem e0_116 : vm_ent 0 116 = some (.iconst 1, 0, 0, 0) := by decide +kernel
theorem e0_117 : vm_ent 0 117 = some (.iadd, 0, 0, 0) := by decide +kernel
theorem e0_118 : vm_ent 0 118 = some (.iaload, 0, 0, 0) := by decide +kernel
theorem e0_119 : vm_ent 0 119 = some (.ifCond .eq 7, 126, 0, 0) := by decide +kernel
theorem e0_122 : vm_ent 0 122 = some (.iconst 1, 0, 0, 0) := by decide +kernel
theorem e0_123 : vm_ent 0 123 = some (.goto 4, 127, 0, 0) := by decide +kernel
theorem e0_126 : vm_ent 0 126 = some (.iconst 0, 0, 0, 0) := by decide +kernel
theorem e0_127 : vm_ent 0 127 = some (.invokevirtual 19, 44, 4, 250) := by decide +kernel
theorem e0_130 : vm_ent 0 130 = some (.pop, 0, 0, 0) := by decide +kernel
theorem e0_131 : vm_ent 0 131 = some (.aload_n 2, 0, 0, 0) := by decide +kernel
theorem e0_132 : vm_ent 0 132 = some (.aload_n 0, 0, 0, 0) := by decide +kernel
theorem e0_133 : vm_ent 0 133 = some (.iload 4, 0, 0, 0) := by decide +kernel
theorem e0_135 : vm_ent 0 135 = some (.iconst 1, 0, 0, 0) := by decide +kernel
theorem e0_136 : vm_ent 0 136 = some (.iadd, 0, 0, 0) := by decide +kernel
theorem e0_137 : vm_ent 0 137 = some (.iaload, 0, 0, 0) := by decide +kernel
theorem e0_138 : vm_ent 0 138 = some (.ifCond .eq 7, 145, 0, 0) := by decide +kernel
theorem e0_141 : vm_ent 0 141 = some (.iconst 1, 0, 0, 0) := by decide +kernel
theorem e0_142 : vm_ent 0 142 = some (.goto 4, 146, 0, 0) := by decide +kernel
theorem e0_145 : vm_ent 0 145 = some (.iconst 0, 0, 0, 0) := by decide +kernel
theorem e0_146 : vm_ent 0 146 = some (.invokevirtual 23, 105, 4, 881) := by decide +kernel
theorem e0_149 : vm_ent 0 149 = some (.pop, 0, 0, 0) := by decide +kernel
theorem e0_150 : vm_ent 0 150 = some (.goto 647, 797, 0, 0) := by decide +kernel
theorem e0_153 : vm_ent 0 153 = some (.aload_n 1, 0, 0, 0) := by decide +kernel
theorem e0_154 : vm_ent 0 154 = some (.aload_n 0, 0, 0, 0) := by decide +kernel
theorem e0_155 : vm_ent 0 155 = some (.iload 4, 0, 0, 0) := by decide +kernel
theorem e0_157 : vm_ent 0 157 = some (.iconst 1, 0, 0, 0) := by decide +kernel
theorem e0_158 : vm_ent 0 158 = some (.iadd, 0, 0, 0) := by decide +kernel
theorem e0_159 : vm_ent 0 159 = some (.iaload, 0, 0, 0) := by decide +kernel
theorem e0_160 : vm_ent 0 160 = some (.aload_n 0, 0, 0, 0) := by decide +kernel
theorem e0_161 : vm_ent 0 161 = some (.iload 4, 0, 0, 0) := by decide +kernel
theorem e0_163 : vm_ent 0 163 = some (.iconst 2, 0, 0, 0) := by decide +kernel
theorem e0_164 : vm_ent 0 164 = some (.iadd, 0, 0, 0) := by decide +kernel
theorem e0_165 : vm_ent 0 165 = some (.iaload, 0, 0, 0) := by decide +kernel
theorem e0_166 : vm_ent 0 166 = some (.invokevirtual 24, 45, 4, 269) := by decide +kernel
theorem e0_169 : vm_ent 0 169 = some (.pop, 0, 0, 0) := by decide +kernel
theorem e0_170 : vm_ent 0 170 = some (.aload_n 2, 0, 0, 0) := by decide +kernel
theorem e0_171 : vm_ent 0 171 = some (.aload_n 0, 0, 0, 0) := by decide +kernel
theorem e0_172 : vm_ent 0 172 = some (.iload 4, 0, 0, 0) := by decide +kernel
theorem e0_174 : vm_ent 0 174 = some (.iconst 1, 0, 0, 0) := by decide +kernel
theorem e0_175 : vm_ent 0 175 = some (.iadd, 0, 0, 0) := by decide +kernel
theorem e0_176 : vm_ent 0 176 = some (.iaload, 0, 0, 0) := by decide +kernel
theorem e0_177 : vm_ent 0 177 = some (.aload_n 0, 0, 0, 0) := by decide +kernel
theorem e0_178 : vm_ent 0 178 = some (.iload 4, 0, 0, 0) := by decide +kernel
theorem e0_180 : vm_ent 0 180 = some (.iconst 2, 0, 0, 0) := by decide +kernel
theorem e0_181 : vm_ent 0 181 = some (.iadd, 0, 0, 0) := by decide +kernel
theorem e0_182 : vm_ent 0 182 = some (.iaload, 0, 0, 0) := by decide +kernel
theorem e0_183 : vm_ent 0 183 = some (.invokevirtual 28, 106, 4, 885) := by decide +kernel
theorem e0_186 : vm_ent 0 186 = some (.pop, 0, 0, 0) := by decide +kernel
theorem e0_187 : vm_ent 0 187 = some (.goto 610, 797, 0, 0) := by decide +kernel
theorem e0_190 : vm_ent 0 190 = some (.aload_n 1, 0, 0, 0) := by decide +kernel
theorem e0_191 : vm_ent 0 191 = some (.invokevirtual 29, 46, 4, 312) := by decide +kernel
theorem e0_194 : vm_ent 0 194 = some (.pop, 0, 0, 0) := by decide +kernel
theorem e0_195 : vm_ent 0 195 = some (.aload_n 2, 0, 0, 0) := by decide +kernel
theorem e0_196 : vm_ent 0 196 = some (.invokevirtual 33, 107, 4, 889) := by decide +kernel
theorem e0_199 : vm_ent 0 199 = some (.pop, 0, 0, 0) := by decide +kernel
theorem e0_200 : vm_ent 0 200 = some (.goto 597, 797, 0, 0) := by decide +kernel
theorem e0_203 : vm_ent 0 203 = some (.aload_n 1, 0, 0, 0) := by decide +kernel
theorem e0_204 : vm_ent 0 204 = some (.aload_n 0, 0, 0, 0) := by decide +kernel
theorem e0_205 : vm_ent 0 205 = some (.iload 4, 0, 0, 0) := by decide +kernel
theorem e0_207 : vm_ent 0 207 = some (.iconst 1, 0, 0, 0) := by decide +kernel
theorem e0_208 : vm_ent 0 208 = some (.iadd, 0, 0, 0) := by decide +kernel
theorem e0_209 : vm_ent 0 209 = some (.iaload, 0, 0, 0) := by decide +kernel
theorem e0_210 : vm_ent 0 210 = some (.aload_n 0, 0, 0, 0) := by decide +kernel
theorem e0_211 : vm_ent 0 211 = some (.iload 4, 0, 0, 0) := by decide +kernel
theorem e0_213 : vm_ent 0 213 = some (.iconst 2, 0, 0, 0) := by decide +kernel
theorem e0_214 : vm_ent 0 214 = some (.iadd, 0, 0, 0) := by decide +kernel
theorem e0_215 : vm_ent 0 215 = some (.iaload, 0, 0, 0) := by decide +kernel
theorem e0_216 : vm_ent 0 216 = some (.i2l, 0, 0, 0) := by decide +kernel
theorem e0_217 : vm_ent 0 217 = some (.bipush 32, 0, 0, 0) := by decide +kernel
theorem e0_219 : vm_ent 0 219 = some (.lshl, 0, 0, 0) := by decide +kernel
theorem e0_220 : vm_ent 0 220 = some (.aload_n 0, 0, 0, 0) := by decide +kernel
theorem e0_221 : vm_ent 0 221 = some (.iload 4, 0, 0, 0) := by decide +kernel
theorem e0_223 : vm_ent 0 223 = some (.iconst 3, 0, 0, 0) := by decide +kernel
theorem e0_224 : vm_ent 0 224 = some (.iadd, 0, 0, 0) := by decide +kernel
theorem e0_225 : vm_ent 0 225 = some (.iaload, 0, 0, 0) := by decide +kernel
theorem e0_226 : vm_ent 0 226 = some (.i2l, 0, 0, 0) := by decide +kernel
theorem e0_227 : vm_ent 0 227 = some (.ldc2_w 34, 4294967295, 0, 955) := by decide +kernel
theorem e0_230 : vm_ent 0 230 = some (.land, 0, 0, 0) := by decide +kernel
theorem e0_231 : vm_ent 0 231 = some (.lor, 0, 0, 0) := by decide +kernel
theorem e0_232 : vm_ent 0 232 = some (.aload_n 0, 0, 0, 0) := by decide +kernel
theorem e0_233 : vm_ent 0 233 = some (.iload 4, 0, 0, 0) := by decide +kernel
theorem e0_235 : vm_ent 0 235 = some (.iconst 4, 0, 0, 0) := by decide +kernel
theorem e0_236 : vm_ent 0 236 = some (.iadd, 0, 0, 0) := by decide +kernel
theorem e0_237 : vm_ent 0 237 = some (.iaload, 0, 0, 0) := by decide +kernel
theorem e0_238 : vm_ent 0 238 = some (.invokevirtual 36, 47, 4, 316) := by decide +kernel
theorem e0_241 : vm_ent 0 241 = some (.pop, 0, 0, 0) := by decide +kernel
theorem e0_242 : vm_ent 0 242 = some (.aload_n 2, 0, 0, 0) := by decide +kernel
theorem e0_243 : vm_ent 0 243 = some (.aload_n 0, 0, 0, 0) := by decide +kernel
theorem e0_244 : vm_ent 0 244 = some (.iload 4, 0, 0, 0) := by decide +kernel
theorem e0_246 : vm_ent 0 246 = some (.iconst 1, 0, 0, 0) := by decide +kernel
theorem e0_247 : vm_ent 0 247 = some (.iadd, 0, 0, 0) := by decide +kernel
theorem e0_248 : vm_ent 0 248 = some (.iaload, 0, 0, 0) := by decide +kernel
theorem e0_249 : vm_ent 0 249 = some (.aload_n 0, 0, 0, 0) := by decide +kernel
theorem e0_250 : vm_ent 0 250 = some (.iload 4, 0, 0, 0) := by decide +kernel
theorem e0_252 : vm_ent 0 252 = some (.iconst 2, 0, 0, 0) := by decide +kernel
theorem e0_253 : vm_ent 0 253 = some (.iadd, 0, 0, 0) := by decide +kernel
theorem e0_254 : vm_ent 0 254 = some (.iaload, 0, 0, 0) := by decide +kernel
theorem e0_255 : vm_ent 0 255 = some (.i2l, 0, 0, 0) := by decide +kernel
theorem e0_256 : vm_ent 0 256 = some (.bipush 32, 0, 0, 0) := by decide +kernel
theorem e0_258 : vm_ent 0 258 = some (.lshl, 0, 0, 0) := by decide +kernel
theorem e0_259 : vm_ent 0 259 = some (.aload_n 0, 0, 0, 0) := by decide +kernel
theorem e0_260 : vm_ent 0 260 = some (.iload 4, 0, 0, 0) := by decide +kernel
theorem e0_262 : vm_ent 0 262 = some (.iconst 3, 0, 0, 0) := by decide +kernel
theorem e0_263 : vm_ent 0 263 = some (.iadd, 0, 0, 0) := by decide +kernel
theorem e0_264 : vm_ent 0 264 = some (.iaload, 0, 0, 0) := by decide +kernel
theorem e0_265 : vm_ent 0 265 = some (.i2l, 0, 0, 0) := by decide +kernel
theorem e0_266 : vm_ent 0 266 = some (.ldc2_w 34, 4294967295, 0, 955) := by decide +kernel
theorem e0_269 : vm_ent 0 269 = some (.land, 0, 0, 0) := by decide +kernel
theorem e0_270 : vm_ent 0 270 = some (.lor, 0, 0, 0) := by decide +kernel
theorem e0_271 : vm_ent 0 271 = some (.aload_n 0, 0, 0, 0) := by decide +kernel
theorem e0_272 : vm_ent 0 272 = some (.iload 4, 0, 0, 0) := by decide +kernel
theorem e0_274 : vm_ent 0 274 = some (.iconst 4, 0, 0, 0) := by decide +kernel
theorem e0_275 : vm_ent 0 275 = some (.iadd, 0, 0, 0) := by decide +kernel
theorem e0_276 : vm_ent 0 276 = some (.iaload, 0, 0, 0) := by decide +kernel
theorem e0_277 : vm_ent 0 277 = some (.invokevirtual 40, 108, 4, 893) := by decide +kernel
theorem e0_280 : vm_ent 0 280 = some (.pop, 0, 0, 0) := by decide +kernel
theorem e0_281 : vm_ent 0 281 = some (.goto 516, 797, 0, 0) := by decide +kernel
theorem e0_284 : vm_ent 0 284 = some (.aload_n 1, 0, 0, 0) := by decide +kernel
theorem e0_285 : vm_ent 0 285 = some (.aload_n 0, 0, 0, 0) := by decide +kernel
theorem e0_286 : vm_ent 0 286 = some (.iload 4, 0, 0, 0) := by decide +kernel
theorem e0_288 : vm_ent 0 288 = some (.iconst 1, 0, 0, 0) := by decide +kernel
theorem e0_289 : vm_ent 0 289 = some (.iadd, 0, 0, 0) := by decide +kernel
theorem e0_290 : vm_ent 0 290 = some (.iaload, 0, 0, 0) := by decide +kernel
theorem e0_291 : vm_ent 0 291 = some (.aload_n 0, 0, 0, 0) := by decide +kernel
theorem e0_292 : vm_ent 0 292 = some (.iload 4, 0, 0, 0) := by decide +kernel
theorem e0_294 : vm_ent 0 294 = some (.iconst 2, 0, 0, 0) := by decide +kernel
theorem e0_295 : vm_ent 0 295 = some (.iadd, 0, 0, 0) := by decide +kernel
theorem e0_296 : vm_ent 0 296 = some (.iaload, 0, 0, 0) := by decide +kernel
theorem e0_297 : vm_ent 0 297 = some (.ifCond .eq 7, 304, 0, 0) := by decide +kernel
theorem e0_300 : vm_ent 0 300 = some (.iconst 1, 0, 0, 0) := by decide +kernel
theorem e0_301 : vm_ent 0 301 = some (.goto 4, 305, 0, 0) := by decide +kernel
theorem e0_304 : vm_ent 0 304 = some (.iconst 0, 0, 0, 0) := by decide +kernel
theorem e0_305 : vm_ent 0 305 = some (.invokevirtual 41, 48, 4, 351) := by decide +kernel
theorem e0_308 : vm_ent 0 308 = some (.pop, 0, 0, 0) := by decide +kernel
theorem e0_309 : vm_ent 0 309 = some (.aload_n 2, 0, 0, 0) := by decide +kernel
theorem e0_310 : vm_ent 0 310 = some (.aload_n 0, 0, 0, 0) := by decide +kernel
theorem e0_311 : vm_ent 0 311 = some (.iload 4, 0, 0, 0) := by decide +kernel
theorem e0_313 : vm_ent 0 313 = some (.iconst 1, 0, 0, 0) := by decide +kernel
theorem e0_314 : vm_ent 0 314 = some (.iadd, 0, 0, 0) := by decide +kernel
theorem e0_315 : vm_ent 0 315 = some (.iaload, 0, 0, 0) := by decide +kernel
theorem e0_316 : vm_ent 0 316 = some (.aload_n 0, 0, 0, 0) := by decide +kernel
theorem e0_317 : vm_ent 0 317 = some (.iload 4, 0, 0, 0) := by decide +kernel
theorem e0_319 : vm_ent 0 319 = some (.iconst 2, 0, 0, 0) := by decide +kernel
theorem e0_320 : vm_ent 0 320 = some (.iadd, 0, 0, 0) := by decide +kernel
theorem e0_321 : vm_ent 0 321 = some (.iaload, 0, 0, 0) := by decide +kernel
theorem e0_322 : vm_ent 0 322 = some (.ifCond .eq 7, 329, 0, 0) := by decide +kernel
theorem e0_325 : vm_ent 0 325 = some (.iconst 1, 0, 0, 0) := by decide +kernel
theorem e0_326 : vm_ent 0 326 = some (.goto 4, 330, 0, 0) := by decide +kernel
theorem e0_329 : vm_ent 0 329 = some (.iconst 0, 0, 0, 0) := by decide +kernel
theorem e0_330 : vm_ent 0 330 = some (.invokevirtual 45, 109, 4, 899) := by decide +kernel
theorem e0_333 : vm_ent 0 333 = some (.pop, 0, 0, 0) := by decide +kernel
theorem e0_334 : vm_ent 0 334 = some (.goto 463, 797, 0, 0) := by decide +kernel
theorem e0_337 : vm_ent 0 337 = some (.aload_n 1, 0, 0, 0) := by decide +kernel
theorem e0_338 : vm_ent 0 338 = some (.invokevirtual 46, 49, 4, 355) := by decide +kernel
theorem e0_341 : vm_ent 0 341 = some (.pop, 0, 0, 0) := by decide +kernel
theorem e0_342 : vm_ent 0 342 = some (.aload_n 2, 0, 0, 0) := by decide +kernel
theorem e0_343 : vm_ent 0 343 = some (.invokevirtual 49, 102, 4, 771) := by decide +kernel
theorem e0_346 : vm_ent 0 346 = some (.pop, 0, 0, 0) := by decide +kernel
theorem e0_347 : vm_ent 0 347 = some (.goto 450, 797, 0, 0) := by decide +kernel
theorem e0_350 : vm_ent 0 350 = some (.aload_n 1, 0, 0, 0) := by decide +kernel
theorem e0_351 : vm_ent 0 351 = some (.aload_n 0, 0, 0, 0) := by decide +kernel
theorem e0_352 : vm_ent 0 352 = some (.iload 4, 0, 0, 0) := by decide +kernel
theorem e0_354 : vm_ent 0 354 = some (.iconst 1, 0, 0, 0) := by decide +kernel
theorem e0_355 : vm_ent 0 355 = some (.iadd, 0, 0, 0) := by decide +kernel
theorem e0_356 : vm_ent 0 356 = some (.iaload, 0, 0, 0) := by decide +kernel
theorem e0_357 : vm_ent 0 357 = some (.invokevirtual 50, 50, 4, 482) := by decide +kernel
theorem e0_360 : vm_ent 0 360 = some (.pop, 0, 0, 0) := by decide +kernel
theorem e0_361 : vm_ent 0 361 = some (.aload_n 2, 0, 0, 0) := by decide +kernel
theorem e0_362 : vm_ent 0 362 = some (.aload_n 0, 0, 0, 0) := by decide +kernel
theorem e0_363 : vm_ent 0 363 = some (.iload 4, 0, 0, 0) := by decide +kernel
theorem e0_365 : vm_ent 0 365 = some (.iconst 1, 0, 0, 0) := by decide +kernel
theorem e0_366 : vm_ent 0 366 = some (.iadd, 0, 0, 0) := by decide +kernel
theorem e0_367 : vm_ent 0 367 = some (.iaload, 0, 0, 0) := by decide +kernel
theorem e0_368 : vm_ent 0 368 = some (.invokevirtual 54, 104, 4, 873) := by decide +kernel
theorem e0_371 : vm_ent 0 371 = some (.pop, 0, 0, 0) := by decide +kernel
theorem e0_372 : vm_ent 0 372 = some (.goto 425, 797, 0, 0) := by decide +kernel
theorem e0_375 : vm_ent 0 375 = some (.aload_n 1, 0, 0, 0) := by decide +kernel
theorem e0_376 : vm_ent 0 376 = some (.aload_n 0, 0, 0, 0) := by decide +kernel
theorem e0_377 : vm_ent 0 377 = some (.iload 4, 0, 0, 0) := by decide +kernel
theorem e0_379 : vm_ent 0 379 = some (.iconst 1, 0, 0, 0) := by decide +kernel
theorem e0_380 : vm_ent 0 380 = some (.iadd, 0, 0, 0) := by decide +kernel
theorem e0_381 : vm_ent 0 381 = some (.iaload, 0, 0, 0) := by decide +kernel
theorem e0_382 : vm_ent 0 382 = some (.aload_n 0, 0, 0, 0) := by decide +kernel
theorem e0_383 : vm_ent 0 383 = some (.iload 4, 0, 0, 0) := by decide +kernel
theorem e0_385 : vm_ent 0 385 = some (.iconst 2, 0, 0, 0) := by decide +kernel
theorem e0_386 : vm_ent 0 386 = some (.iadd, 0, 0, 0) := by decide +kernel
theorem e0_387 : vm_ent 0 387 = some (.iaload, 0, 0, 0) := by decide +kernel
theorem e0_388 : vm_ent 0 388 = some (.invokevirtual 55, 51, 4, 487) := by decide +kernel
theorem e0_391 : vm_ent 0 391 = some (.pop, 0, 0, 0) := by decide +kernel
theorem e0_392 : vm_ent 0 392 = some (.aload_n 2, 0, 0, 0) := by decide +kernel
theorem e0_393 : vm_ent 0 393 = some (.aload_n 0, 0, 0, 0) := by decide +kernel
theorem e0_394 : vm_ent 0 394 = some (.iload 4, 0, 0, 0) := by decide +kernel
theorem e0_396 : vm_ent 0 396 = some (.iconst 1, 0, 0, 0) := by decide +kernel
theorem e0_397 : vm_ent 0 397 = some (.iadd, 0, 0, 0) := by decide +kernel
theorem e0_398 : vm_ent 0 398 = some (.iaload, 0, 0, 0) := by decide +kernel
theorem e0_399 : vm_ent 0 399 = some (.aload_n 0, 0, 0, 0) := by decide +kernel
theorem e0_400 : vm_ent 0 400 = some (.iload 4, 0, 0, 0) := by decide +kernel
theorem e0_402 : vm_ent 0 402 = some (.iconst 2, 0, 0, 0) := by decide +kernel
theorem e0_403 : vm_ent 0 403 = some (.iadd, 0, 0, 0) := by decide +kernel
theorem e0_404 : vm_ent 0 404 = some (.iaload, 0, 0, 0) := by decide +kernel
theorem e0_405 : vm_ent 0 405 = some (.invokevirtual 59, 112, 4, 903) := by decide +kernel
theorem e0_408 : vm_ent 0 408 = some (.pop, 0, 0, 0) := by decide +kernel
theorem e0_409 : vm_ent 0 409 = some (.goto 388, 797, 0, 0) := by decide +kernel
theorem e0_412 : vm_ent 0 412 = some (.aload_n 1, 0, 0, 0) := by decide +kernel
theorem e0_413 : vm_ent 0 413 = some (.aload_n 0, 0, 0, 0) := by decide +kernel
theorem e0_414 : vm_ent 0 414 = some (.iload 4, 0, 0, 0) := by decide +kernel
theorem e0_416 : vm_ent 0 416 = some (.iconst 1, 0, 0, 0) := by decide +kernel
theorem e0_417 : vm_ent 0 417 = some (.iadd, 0, 0, 0) := by decide +kernel
theorem e0_418 : vm_ent 0 418 = some (.iaload, 0, 0, 0) := by decide +kernel
theorem e0_419 : vm_ent 0 419 = some (.invokevirtual 60, 52, 4, 500) := by decide +kernel
theorem e0_422 : vm_ent 0 422 = some (.pop, 0, 0, 0) := by decide +kernel
theorem e0_423 : vm_ent 0 423 = some (.aload_n 2, 0, 0, 0) := by decide +kernel
theorem e0_424 : vm_ent 0 424 = some (.aload_n 0, 0, 0, 0) := by decide +kernel
theorem e0_425 : vm_ent 0 425 = some (.iload 4, 0, 0, 0) := by decide +kernel
theorem e0_427 : vm_ent 0 427 = some (.iconst 1, 0, 0, 0) := by decide +kernel
theorem e0_428 : vm_ent 0 428 = some (.iadd, 0, 0, 0) := by decide +kernel
theorem e0_429 : vm_ent 0 429 = some (.iaload, 0, 0, 0) := by decide +kernel
theorem e0_430 : vm_ent 0 430 = some (.invokevirtual 63, 113, 4, 915) := by decide +kernel
theorem e0_433 : vm_ent 0 433 = some (.pop, 0, 0, 0) := by decide +kernel
theorem e0_434 : vm_ent 0 434 = some (.goto 363, 797, 0, 0) := by decide +kernel
theorem e0_437 : vm_ent 0 437 = some (.aload_n 1, 0, 0, 0) := by decide +kernel
theorem e0_438 : vm_ent 0 438 = some (.aload_n 0, 0, 0, 0) := by decide +kernel
theorem e0_439 : vm_ent 0 439 = some (.iload 4, 0, 0, 0) := by decide +kernel
theorem e0_441 : vm_ent 0 441 = some (.iconst 1, 0, 0, 0) := by decide +kernel
theorem e0_442 : vm_ent 0 442 = some (.iadd, 0, 0, 0) := by decide +kernel
theorem e0_443 : vm_ent 0 443 = some (.iaload, 0, 0, 0) := by decide +kernel
theorem e0_444 : vm_ent 0 444 = some (.aload_n 0, 0, 0, 0) := by decide +kernel
theorem e0_445 : vm_ent 0 445 = some (.iload 4, 0, 0, 0) := by decide +kernel
theorem e0_447 : vm_ent 0 447 = some (.iconst 2, 0, 0, 0) := by decide +kernel
theorem e0_448 : vm_ent 0 448 = some (.iadd, 0, 0, 0) := by decide +kernel
theorem e0_449 : vm_ent 0 449 = some (.iaload, 0, 0, 0) := by decide +kernel
theorem e0_450 : vm_ent 0 450 = some (.aload_n 0, 0, 0, 0) := by decide +kernel
theorem e0_451 : vm_ent 0 451 = some (.iload 4, 0, 0, 0) := by decide +kernel
theorem e0_453 : vm_ent 0 453 = some (.iconst 3, 0, 0, 0) := by decide +kernel
theorem e0_454 : vm_ent 0 454 = some (.iadd, 0, 0, 0) := by decide +kernel
theorem e0_455 : vm_ent 0 455 = some (.iaload, 0, 0, 0) := by decide +kernel
theorem e0_456 : vm_ent 0 456 = some (.invokevirtual 64, 53, 4, 508) := by decide +kernel
theorem e0_459 : vm_ent 0 459 = some (.pop2, 0, 0, 0) := by decide +kernel
theorem e0_460 : vm_ent 0 460 = some (.aload_n 2, 0, 0, 0) := by decide +kernel
theorem e0_461 : vm_ent 0 461 = some (.aload_n 0, 0, 0, 0) := by decide +kernel
theorem e0_462 : vm_ent 0 462 = some (.iload 4, 0, 0, 0) := by decide +kernel
theorem e0_464 : vm_ent 0 464 = some (.iconst 1, 0, 0, 0) := by decide +kernel
theorem e0_465 : vm_ent 0 465 = some (.iadd, 0, 0, 0) := by decide +kernel
theorem e0_466 : vm_ent 0 466 = some (.iaload, 0, 0, 0) := by decide +kernel
theorem e0_467 : vm_ent 0 467 = some (.aload_n 0, 0, 0, 0) := by decide +kernel
theorem e0_468 : vm_ent 0 468 = some (.iload 4, 0, 0, 0) := by decide +kernel
theorem e0_470 : vm_ent 0 470 = some (.iconst 2, 0, 0, 0) := by decide +kernel
theorem e0_471 : vm_ent 0 471 = some (.iadd, 0, 0, 0) := by decide +kernel
theorem e0_472 : vm_ent 0 472 = some (.iaload, 0, 0, 0) := by decide +kernel
theorem e0_473 : vm_ent 0 473 = some (.aload_n 0, 0, 0, 0) := by decide +kernel
theorem e0_474 : vm_ent 0 474 = some (.iload 4, 0, 0, 0) := by decide +kernel
theorem e0_476 : vm_ent 0 476 = some (.iconst 3, 0, 0, 0) := by decide +kernel
theorem e0_477 : vm_ent 0 477 = some (.iadd, 0, 0, 0) := by decide +kernel
theorem e0_478 : vm_ent 0 478 = some (.iaload, 0, 0, 0) := by decide +kernel
theorem e0_479 : vm_ent 0 479 = some (.invokevirtual 68, 115, 4, 919) := by decide +kernel
theorem e0_482 : vm_ent 0 482 = some (.pop2, 0, 0, 0) := by decide +kernel
theorem e0_483 : vm_ent 0 483 = some (.goto 314, 797, 0, 0) := by decide +kernel
theorem e0_486 : vm_ent 0 486 = some (.aload_n 1, 0, 0, 0) := by decide +kernel
theorem e0_487 : vm_ent 0 487 = some (.aload_n 0, 0, 0, 0) := by decide +kernel
theorem e0_488 : vm_ent 0 488 = some (.iload 4, 0, 0, 0) := by decide +kernel
theorem e0_490 : vm_ent 0 490 = some (.iconst 1, 0, 0, 0) := by decide +kernel
theorem e0_491 : vm_ent 0 491 = some (.iadd, 0, 0, 0) := by decide +kernel
theorem e0_492 : vm_ent 0 492 = some (.iaload, 0, 0, 0) := by decide +kernel
theorem e0_493 : vm_ent 0 493 = some (.aload_n 0, 0, 0, 0) := by decide +kernel
theorem e0_494 : vm_ent 0 494 = some (.iload 4, 0, 0, 0) := by decide +kernel
theorem e0_496 : vm_ent 0 496 = some (.iconst 2, 0, 0, 0) := by decide +kernel
theorem e0_497 : vm_ent 0 497 = some (.iadd, 0, 0, 0) := by decide +kernel
theorem e0_498 : vm_ent 0 498 = some (.iaload, 0, 0, 0) := by decide +kernel
theorem e0_499 : vm_ent 0 499 = some (.aload_n 0, 0, 0, 0) := by decide +kernel
theorem e0_500 : vm_ent 0 500 = some (.iload 4, 0, 0, 0) := by decide +kernel
theorem e0_502 : vm_ent 0 502 = some (.iconst 3, 0, 0, 0) := by decide +kernel
theorem e0_503 : vm_ent 0 503 = some (.iadd, 0, 0, 0) := by decide +kernel
theorem e0_504 : vm_ent 0 504 = some (.iaload, 0, 0, 0) := by decide +kernel
theorem e0_505 : vm_ent 0 505 = some (.invokevirtual 69, 54, 4, 524) := by decide +kernel
theorem e0_508 : vm_ent 0 508 = some (.pop, 0, 0, 0) := by decide +kernel
theorem e0_509 : vm_ent 0 509 = some (.aload_n 2, 0, 0, 0) := by decide +kernel
theorem e0_510 : vm_ent 0 510 = some (.aload_n 0, 0, 0, 0) := by decide +kernel
theorem e0_511 : vm_ent 0 511 = some (.iload 4, 0, 0, 0) := by decide +kernel
theorem e0_513 : vm_ent 0 513 = some (.iconst 1, 0, 0, 0) := by decide +kernel
theorem e0_514 : vm_ent 0 514 = some (.iadd, 0, 0, 0) := by decide +kernel
theorem e0_515 : vm_ent 0 515 = some (.iaload, 0, 0, 0) := by decide +kernel
theorem e0_516 : vm_ent 0 516 = some (.aload_n 0, 0, 0, 0) := by decide +kernel
theorem e0_517 : vm_ent 0 517 = some (.iload 4, 0, 0, 0) := by decide +kernel
theorem e0_519 : vm_ent 0 519 = some (.iconst 2, 0, 0, 0) := by decide +kernel
theorem e0_520 : vm_ent 0 520 = some (.iadd, 0, 0, 0) := by decide +kernel
theorem e0_521 : vm_ent 0 521 = some (.iaload, 0, 0, 0) := by decide +kernel
theorem e0_522 : vm_ent 0 522 = some (.aload_n 0, 0, 0, 0) := by decide +kernel
theorem e0_523 : vm_ent 0 523 = some (.iload 4, 0, 0, 0) := by decide +kernel
theorem e0_525 : vm_ent 0 525 = some (.iconst 3, 0, 0, 0) := by decide +kernel
theorem e0_526 : vm_ent 0 526 = some (.iadd, 0, 0, 0) := by decide +kernel
theorem e0_527 : vm_ent 0 527 = some (.iaload, 0, 0, 0) := by decide +kernel
theorem e0_528 : vm_ent 0 528 = some (.invokevirtual 73, 116, 4, 927) := by decide +kernel
theorem e0_531 : vm_ent 0 531 = some (.pop, 0, 0, 0) := by decide +kernel
theorem e0_532 : vm_ent 0 532 = some (.goto 265, 797, 0, 0) := by decide +kernel
theorem e0_535 : vm_ent 0 535 = some (.aload_n 1, 0, 0, 0) := by decide +kernel
theorem e0_536 : vm_ent 0 536 = some (.aload_n 0, 0, 0, 0) := by decide +kernel
theorem e0_537 : vm_ent 0 537 = some (.iload 4, 0, 0, 0) := by decide +kernel
theorem e0_539 : vm_ent 0 539 = some (.iconst 1, 0, 0, 0) := by decide +kernel
theorem e0_540 : vm_ent 0 540 = some (.iadd, 0, 0, 0) := by decide +kernel
theorem e0_541 : vm_ent 0 541 = some (.iaload, 0, 0, 0) := by decide +kernel
theorem e0_542 : vm_ent 0 542 = some (.aload_n 0, 0, 0, 0) := by decide +kernel
theorem e0_543 : vm_ent 0 543 = some (.iload 4, 0, 0, 0) := by decide +kernel
theorem e0_545 : vm_ent 0 545 = some (.iconst 2, 0, 0, 0) := by decide +kernel
theorem e0_546 : vm_ent 0 546 = some (.iadd, 0, 0, 0) := by decide +kernel
theorem e0_547 : vm_ent 0 547 = some (.iaload, 0, 0, 0) := by decide +kernel
theorem e0_548 : vm_ent 0 548 = some (.i2l, 0, 0, 0) := by decide +kernel
theorem e0_549 : vm_ent 0 549 = some (.bipush 32, 0, 0, 0) := by decide +kernel
theorem e0_551 : vm_ent 0 551 = some (.lshl, 0, 0, 0) := by decide +kernel
theorem e0_552 : vm_ent 0 552 = some (.aload_n 0, 0, 0, 0) := by decide +kernel
theorem e0_553 : vm_ent 0 553 = some (.iload 4, 0, 0, 0) := by decide +kernel
theorem e0_555 : vm_ent 0 555 = some (.iconst 3, 0, 0, 0) := by decide +kernel
theorem e0_556 : vm_ent 0 556 = some (.iadd, 0, 0, 0) := by decide +kernel
theorem e0_557 : vm_ent 0 557 = some (.iaload, 0, 0, 0) := by decide +kernel
theorem e0_558 : vm_ent 0 558 = some (.i2l, 0, 0, 0) := by decide +kernel
theorem e0_559 : vm_ent 0 559 = some (.ldc2_w 34, 4294967295, 0, 955) := by decide +kernel
theorem e0_562 : vm_ent 0 562 = some (.land, 0, 0, 0) := by decide +kernel
theorem e0_563 : vm_ent 0 563 = some (.lor, 0, 0, 0) := by decide +kernel
theorem e0_564 : vm_ent 0 564 = some (.invokevirtual 74, 55, 4, 529) := by decide +kernel
theorem e0_567 : vm_ent 0 567 = some (.pop, 0, 0, 0) := by decide +kernel
theorem e0_568 : vm_ent 0 568 = some (.aload_n 2, 0, 0, 0) := by decide +kernel
theorem e0_569 : vm_ent 0 569 = some (.aload_n 0, 0, 0, 0) := by decide +kernel
theorem e0_570 : vm_ent 0 570 = some (.iload 4, 0, 0, 0) := by decide +kernel
theorem e0_572 : vm_ent 0 572 = some (.iconst 1, 0, 0, 0) := by decide +kernel
theorem e0_573 : vm_ent 0 573 = some (.iadd, 0, 0, 0) := by decide +kernel
theorem e0_574 : vm_ent 0 574 = some (.iaload, 0, 0, 0) := by decide +kernel
theorem e0_575 : vm_ent 0 575 = some (.aload_n 0, 0, 0, 0) := by decide +kernel
theorem e0_576 : vm_ent 0 576 = some (.iload 4, 0, 0, 0) := by decide +kernel
theorem e0_578 : vm_ent 0 578 = some (.iconst 2, 0, 0, 0) := by decide +kernel
theorem e0_579 : vm_ent 0 579 = some (.iadd, 0, 0, 0) := by decide +kernel
theorem e0_580 : vm_ent 0 580 = some (.iaload, 0, 0, 0) := by decide +kernel
theorem e0_581 : vm_ent 0 581 = some (.i2l, 0, 0, 0) := by decide +kernel
theorem e0_582 : vm_ent 0 582 = some (.bipush 32, 0, 0, 0) := by decide +kernel
theorem e0_584 : vm_ent 0 584 = some (.lshl, 0, 0, 0) := by decide +kernel
theorem e0_585 : vm_ent 0 585 = some (.aload_n 0, 0, 0, 0) := by decide +kernel
theorem e0_586 : vm_ent 0 586 = some (.iload 4, 0, 0, 0) := by decide +kernel
theorem e0_588 : vm_ent 0 588 = some (.iconst 3, 0, 0, 0) := by decide +kernel
theorem e0_589 : vm_ent 0 589 = some (.iadd, 0, 0, 0) := by decide +kernel
theorem e0_590 : vm_ent 0 590 = some (.iaload, 0, 0, 0) := by decide +kernel
theorem e0_591 : vm_ent 0 591 = some (.i2l, 0, 0, 0) := by decide +kernel
theorem e0_592 : vm_ent 0 592 = some (.ldc2_w 34, 4294967295, 0, 955) := by decide +kernel
theorem e0_595 : vm_ent 0 595 = some (.land, 0, 0, 0) := by decide +kernel
theorem e0_596 : vm_ent 0 596 = some (.lor, 0, 0, 0) := by decide +kernel
theorem e0_597 : vm_ent 0 597 = some (.invokevirtual 78, 117, 4, 931) := by decide +kernel
theorem e0_600 : vm_ent 0 600 = some (.pop, 0, 0, 0) := by decide +kernel
theorem e0_601 : vm_ent 0 601 = some (.goto 196, 797, 0, 0) := by decide +kernel
theorem e0_604 : vm_ent 0 604 = some (.aload_n 1, 0, 0, 0) := by decide +kernel
theorem e0_605 : vm_ent 0 605 = some (.aload_n 0, 0, 0, 0) := by decide +kernel
theorem e0_606 : vm_ent 0 606 = some (.iload 4, 0, 0, 0) := by decide +kernel
theorem e0_608 : vm_ent 0 608 = some (.iconst 1, 0, 0, 0) := by decide +kernel
theorem e0_609 : vm_ent 0 609 = some (.iadd, 0, 0, 0) := by decide +kernel
theorem e0_610 : vm_ent 0 610 = some (.iaload, 0, 0, 0) := by decide +kernel
theorem e0_611 : vm_ent 0 611 = some (.aload_n 0, 0, 0, 0) := by decide +kernel
theorem e0_612 : vm_ent 0 612 = some (.iload 4, 0, 0, 0) := by decide +kernel
theorem e0_614 : vm_ent 0 614 = some (.iconst 2, 0, 0, 0) := by decide +kernel
theorem e0_615 : vm_ent 0 615 = some (.iadd, 0, 0, 0) := by decide +kernel
theorem e0_616 : vm_ent 0 616 = some (.iaload, 0, 0, 0) := by decide +kernel
theorem e0_617 : vm_ent 0 617 = some (.invokevirtual 79, 56, 4, 533) := by decide +kernel
theorem e0_620 : vm_ent 0 620 = some (.pop2, 0, 0, 0) := by decide +kernel
theorem e0_621 : vm_ent 0 621 = some (.aload_n 2, 0, 0, 0) := by decide +kernel
theorem e0_622 : vm_ent 0 622 = some (.aload_n 0, 0, 0, 0) := by decide +kernel
theorem e0_623 : vm_ent 0 623 = some (.iload 4, 0, 0, 0) := by decide +kernel
theorem e0_625 : vm_ent 0 625 = some (.iconst 1, 0, 0, 0) := by decide +kernel
theorem e0_626 : vm_ent 0 626 = some (.iadd, 0, 0, 0) := by decide +kernel
theorem e0_627 : vm_ent 0 627 = some (.iaload, 0, 0, 0) := by decide +kernel
theorem e0_628 : vm_ent 0 628 = some (.aload_n 0, 0, 0, 0) := by decide +kernel
theorem e0_629 : vm_ent 0 629 = some (.iload 4, 0, 0, 0) := by decide +kernel
theorem e0_631 : vm_ent 0 631 = some (.iconst 2, 0, 0, 0) := by decide +kernel
theorem e0_632 : vm_ent 0 632 = some (.iadd, 0, 0, 0) := by decide +kernel
theorem e0_633 : vm_ent 0 633 = some (.iaload, 0, 0, 0) := by decide +kernel
theorem e0_634 : vm_ent 0 634 = some (.invokevirtual 83, 120, 4, 935) := by decide +kernel
theorem e0_637 : vm_ent 0 637 = some (.pop2, 0, 0, 0) := by decide +kernel
theorem e0_638 : vm_ent 0 638 = some (.goto 159, 797, 0, 0) := by decide +kernel
theorem e0_641 : vm_ent 0 641 = some (.aload_n 1, 0, 0, 0) := by decide +kernel
theorem e0_642 : vm_ent 0 642 = some (.aload_n 0, 0, 0, 0) := by decide +kernel
theorem e0_643 : vm_ent 0 643 = some (.iload 4, 0, 0, 0) := by decide +kernel
theorem e0_645 : vm_ent 0 645 = some (.iconst 1, 0, 0, 0) := by decide +kernel
theorem e0_646 : vm_ent 0 646 = some (.iadd, 0, 0, 0) := by decide +kernel
theorem e0_647 : vm_ent 0 647 = some (.iaload, 0, 0, 0) := by decide +kernel
theorem e0_648 : vm_ent 0 648 = some (.invokevirtual 84, 57, 4, 545) := by decide +kernel
theorem e0_651 : vm_ent 0 651 = some (.pop2, 0, 0, 0) := by decide +kernel
theorem e0_652 : vm_ent 0 652 = some (.aload_n 2, 0, 0, 0) := by decide +kernel
theorem e0_653 : vm_ent 0 653 = some (.aload_n 0, 0, 0, 0) := by decide +kernel
theorem e0_654 : vm_ent 0 654 = some (.iload 4, 0, 0, 0) := by decide +kernel
theorem e0_656 : vm_ent 0 656 = some (.iconst 1, 0, 0, 0) := by decide +kernel
theorem e0_657 : vm_ent 0 657 = some (.iadd, 0, 0, 0) := by decide +kernel
theorem e0_658 : vm_ent 0 658 = some (.iaload, 0, 0, 0) := by decide +kernel
theorem e0_659 : vm_ent 0 659 = some (.invokevirtual 88, 121, 4, 947) := by decide +kernel
theorem e0_662 : vm_ent 0 662 = some (.pop2, 0, 0, 0) := by decide +kernel
theorem e0_663 : vm_ent 0 663 = some (.goto 134, 797, 0, 0) := by decide +kernel
theorem e0_666 : vm_ent 0 666 = some (.aload_n 1, 0, 0, 0) := by decide +kernel
theorem e0_667 : vm_ent 0 667 = some (.aload_n 0, 0, 0, 0) := by decide +kernel
theorem e0_668 : vm_ent 0 668 = some (.iload 4, 0, 0, 0) := by decide +kernel
theorem e0_670 : vm_ent 0 670 = some (.iconst 1, 0, 0, 0) := by decide +kernel
theorem e0_671 : vm_ent 0 671 = some (.iadd, 0, 0, 0) := by decide +kernel
theorem e0_672 : vm_ent 0 672 = some (.iaload, 0, 0, 0) := by decide +kernel
theorem e0_673 : vm_ent 0 673 = some (.i2l, 0, 0, 0) := by decide +kernel
theorem e0_674 : vm_ent 0 674 = some (.bipush 32, 0, 0, 0) := by decide +kernel
theorem e0_676 : vm_ent 0 676 = some (.lshl, 0, 0, 0) := by decide +kernel
theorem e0_677 : vm_ent 0 677 = some (.aload_n 0, 0, 0, 0) := by decide +kernel
theorem e0_678 : vm_ent 0 678 = some (.iload 4, 0, 0, 0) := by decide +kernel
theorem e0_680 : vm_ent 0 680 = some (.iconst 2, 0, 0, 0) := by decide +kernel
theorem e0_681 : vm_ent 0 681 = some (.iadd, 0, 0, 0) := by decide +kernel
theorem e0_682 : vm_ent 0 682 = some (.iaload, 0, 0, 0) := by decide +kernel
theorem e0_683 : vm_ent 0 683 = some (.i2l, 0, 0, 0) := by decide +kernel
theorem e0_684 : vm_ent 0 684 = some (.ldc2_w 34, 4294967295, 0, 955) := by decide +kernel
theorem e0_687 : vm_ent 0 687 = some (.land, 0, 0, 0) := by decide +kernel
theorem e0_688 : vm_ent 0 688 = some (.lor, 0, 0, 0) := by decide +kernel
theorem e0_689 : vm_ent 0 689 = some (.aload_n 0, 0, 0, 0) := by decide +kernel
theorem e0_690 : vm_ent 0 690 = some (.iload 4, 0, 0, 0) := by decide +kernel
theorem e0_692 : vm_ent 0 692 = some (.iconst 3, 0, 0, 0) := by decide +kernel
theorem e0_693 : vm_ent 0 693 = some (.iadd, 0, 0, 0) := by decide +kernel
theorem e0_694 : vm_ent 0 694 = some (.iaload, 0, 0, 0) := by decide +kernel
theorem e0_695 : vm_ent 0 695 = some (.i2l, 0, 0, 0) := by decide +kernel
theorem e0_696 : vm_ent 0 696 = some (.bipush 32, 0, 0, 0) := by decide +kernel
theorem e0_698 : vm_ent 0 698 = some (.lshl, 0, 0, 0) := by decide +kernel
theorem e0_699 : vm_ent 0 699 = some (.aload_n 0, 0, 0, 0) := by decide +kernel
theorem e0_700 : vm_ent 0 700 = some (.iload 4, 0, 0, 0) := by decide +kernel
theorem e0_702 : vm_ent 0 702 = some (.iconst 4, 0, 0, 0) := by decide +kernel
theorem e0_703 : vm_ent 0 703 = some (.iadd, 0, 0, 0) := by decide +kernel
theorem e0_704 : vm_ent 0 704 = some (.iaload, 0, 0, 0) := by decide +kernel
theorem e0_705 : vm_ent 0 705 = some (.i2l, 0, 0, 0) := by decide +kernel
theorem e0_706 : vm_ent 0 706 = some (.ldc2_w 34, 4294967295, 0, 955) := by decide +kernel
theorem e0_709 : vm_ent 0 709 = some (.land, 0, 0, 0) := by decide +kernel
theorem e0_710 : vm_ent 0 710 = some (.lor, 0, 0, 0) := by decide +kernel
theorem e0_711 : vm_ent 0 711 = some (.aload_n 3, 0, 0, 0) := by decide +kernel
theorem e0_712 : vm_ent 0 712 = some (.invokestatic 89, 124, 2, 554) := by decide +kernel
theorem e0_715 : vm_ent 0 715 = some (.istore 5, 0, 0, 0) := by decide +kernel
theorem e0_717 : vm_ent 0 717 = some (.aload_n 2, 0, 0, 0) := by decide +kernel
theorem e0_718 : vm_ent 0 718 = some (.aload_n 0, 0, 0, 0) := by decide +kernel
theorem e0_719 : vm_ent 0 719 = some (.iload 4, 0, 0, 0) := by decide +kernel
theorem e0_721 : vm_ent 0 721 = some (.iconst 1, 0, 0, 0) := by decide +kernel
theorem e0_722 : vm_ent 0 722 = some (.iadd, 0, 0, 0) := by decide +kernel
theorem e0_723 : vm_ent 0 723 = some (.iaload, 0, 0, 0) := by decide +kernel
theorem e0_724 : vm_ent 0 724 = some (.i2l, 0, 0, 0) := by decide +kernel
theorem e0_725 : vm_ent 0 725 = some (.bipush 32, 0, 0, 0) := by decide +kernel
theorem e0_727 : vm_ent 0 727 = some (.lshl, 0, 0, 0) := by decide +kernel
theorem e0_728 : vm_ent 0 728 = some (.aload_n 0, 0, 0, 0) := by decide +kernel
theorem e0_729 : vm_ent 0 729 = some (.iload 4, 0, 0, 0) := by decide +kernel
theorem e0_731 : vm_ent 0 731 = some (.iconst 2, 0, 0, 0) := by decide +kernel
theorem e0_732 : vm_ent 0 732 = some (.iadd, 0, 0, 0) := by decide +kernel
theorem e0_733 : vm_ent 0 733 = some (.iaload, 0, 0, 0) := by decide +kernel
theorem e0_734 : vm_ent 0 734 = some (.i2l, 0, 0, 0) := by decide +kernel
theorem e0_735 : vm_ent 0 735 = some (.ldc2_w 34, 4294967295, 0, 955) := by decide +kernel
theorem e0_738 : vm_ent 0 738 = some (.land, 0, 0, 0) := by decide +kernel
theorem e0_739 : vm_ent 0 739 = some (.lor, 0, 0, 0) := by decide +kernel
theorem e0_740 : vm_ent 0 740 = some (.aload_n 0, 0, 0, 0) := by decide +kernel
theorem e0_741 : vm_ent 0 741 = some (.iload 4, 0, 0, 0) := by decide +kernel
theorem e0_743 : vm_ent 0 743 = some (.iconst 3, 0, 0, 0) := by decide +kernel
theorem e0_744 : vm_ent 0 744 = some (.iadd, 0, 0, 0) := by decide +kernel
theorem e0_745 : vm_ent 0 745 = some (.iaload, 0, 0, 0) := by decide +kernel
theorem e0_746 : vm_ent 0 746 = some (.i2l, 0, 0, 0) := by decide +kernel
theorem e0_747 : vm_ent 0 747 = some (.bipush 32, 0, 0, 0) := by decide +kernel
theorem e0_749 : vm_ent 0 749 = some (.lshl, 0, 0, 0) := by decide +kernel
theorem e0_750 : vm_ent 0 750 = some (.aload_n 0, 0, 0, 0) := by decide +kernel
theorem e0_751 : vm_ent 0 751 = some (.iload 4, 0, 0, 0) := by decide +kernel
theorem e0_753 : vm_ent 0 753 = some (.iconst 4, 0, 0, 0) := by decide +kernel
theorem e0_754 : vm_ent 0 754 = some (.iadd, 0, 0, 0) := by decide +kernel
theorem e0_755 : vm_ent 0 755 = some (.iaload, 0, 0, 0) := by decide +kernel
theorem e0_756 : vm_ent 0 756 = some (.i2l, 0, 0, 0) := by decide +kernel
theorem e0_757 : vm_ent 0 757 = some (.ldc2_w 34, 4294967295, 0, 955) := by decide +kernel
theorem e0_760 : vm_ent 0 760 = some (.land, 0, 0, 0) := by decide +kernel
theorem e0_761 : vm_ent 0 761 = some (.lor, 0, 0, 0) := by decide +kernel
theorem e0_762 : vm_ent 0 762 = some (.invokevirtual 94, 122, 4, 951) := by decide +kernel
theorem e0_765 : vm_ent 0 765 = some (.lstore 6, 0, 0, 0) := by decide +kernel
theorem e0_767 : vm_ent 0 767 = some (.aload_n 2, 0, 0, 0) := by decide +kernel
theorem e0_768 : vm_ent 0 768 = some (.invokevirtual 95, 77, 4, 767) := by decide +kernel
theorem e0_771 : vm_ent 0 771 = some (.iload 5, 0, 0, 0) := by decide +kernel
theorem e0_773 : vm_ent 0 773 = some (.if_icmp .eq 5, 778, 0, 0) := by decide +kernel
theorem e0_776 : vm_ent 0 776 = some (.iconst 0, 0, 0, 0) := by decide +kernel
theorem e0_777 : vm_ent 0 777 = some (.ireturn, 0, 0, 0) := by decide +kernel
theorem e0_778 : vm_ent 0 778 = some (.iload 5, 0, 0, 0) := by decide +kernel
theorem e0_780 : vm_ent 0 780 = some (.ifCond .ne 14, 794, 0, 0) := by decide +kernel
theorem e0_783 : vm_ent 0 783 = some (.aload_n 3, 0, 0, 0) := by decide +kernel
theorem e0_784 : vm_ent 0 784 = some (.iconst 0, 0, 0, 0) := by decide +kernel
theorem e0_785 : vm_ent 0 785 = some (.laload, 0, 0, 0) := by decide +kernel
theorem e0_786 : vm_ent 0 786 = some (.lload 6, 0, 0, 0) := by decide +kernel
theorem e0_788 : vm_ent 0 788 = some (.lcmp, 0, 0, 0) := by decide +kernel
theorem e0_789 : vm_ent 0 789 = some (.ifCond .eq 5, 794, 0, 0) := by decide +kernel
theorem e0_792 : vm_ent 0 792 = some (.iconst 0, 0, 0, 0) := by decide +kernel
theorem e0_793 : vm_ent 0 793 = some (.ireturn, 0, 0, 0) := by decide +kernel
theorem e0_794 : vm_ent 0 794 = some (.goto 3, 797, 0, 0) := by decide +kernel
theorem e0_797 : vm_ent 0 797 = some (.iinc 4 5, 0, 0, 0) := by decide +kernel
theorem e0_800 : vm_ent 0 800 = some (.goto (-777), 23, 0, 0) := by decide +kernel
theorem e0_803 : vm_ent 0 803 = some (.iconst 1, 0, 0, 0) := by decide +kernel
theorem e0_804 : vm_ent 0 804 = some (.ireturn, 0, 0, 0) := by decide +kernel
def laL (u v : Int32) : Int64 := (u.toInt64 <<< ((vz 32).toInt64 &&& 63)) ||| (v.toInt64 &&& Int64.ofNat 4294967295)
abbrev lwA (x : Int) : vq_A := [some (.ref 0), some (.ref 1), some (.ref 238), some (.ref 263), some (.int (vz x)), none, none, none]
/-- what a turn comes to: the end; the next turn; the call of pseudo -/
def lwQ (L : Nat) (xs : Nat → Int32) (x : Int) : vq_Q := fun pc ls st v1 => pc = 23 ∧ st = [] ∧ vq_ag (lwA (x + 5)) ls ∧ (x + 5 ≤ (L : Int)) ∧ ∃ (n p t : Int) (g : Int64), lI L xs v1 n p n p t g
def lwP (L : Nat) (xs : Nat → Int32) (x : Int) : vq_Q := fun pc ls st v1 => (pc = 804 ∧ st = [.int (vz 1)]) ∨ lwQ L xs x pc ls st v1 ∨ (pc = 712 ∧ st = [.ref 263, .long (laL (xs (x + 3).toNat) (xs (x + 4).toNat)), .long (laL (xs (x + 1).toNat) (xs (x + 2).toNat)), .ref 1] ∧ vq_ag (lwA x) ls ∧ (x + 5 ≤ (L : Int)) ∧ ∃ (n p t : Int) (g : Int64), lI L xs v1 n p n p t g)

set_option maxRecDepth 100000 in
set_option maxHeartbeats 8000000 in
theorem lw_turn {L : Nat} {xs : Nat → Int32} {vh : vm_H} {n p t : Int} {g : Int64} {x4 : Int} (hL : lI L xs vh n p n p t g) (h0 : 0 ≤ x4) (hx : x4 ≤ (L : Int)) (hl : L ≤ 2560) : vm_Wp 9 400 0 23 (lwA x4) [] vh (lwP L xs x4) := by
  refine w_ldI e0_23 (fun _ => rfl) rfl ?_
  refine w_ldA e0_25 (fun _ => rfl) rfl ?_
  refine w_len e0_26 (lI_0 hL) (by decide) ?_
  refine w_kI e0_27 ?_
  refine w_isub e0_28 ?_
  refine w_ic e0_29 (by omega) (by omega) (fun (h1 : ((L : Int)) - 5 < x4) => ?_) (fun (h1 : x4 ≤ ((L : Int)) - 5) => ?_)
  ·
    refine w_kI e0_803 ?_
    exact w_end (fun ls hl => Or.inl ⟨rfl, rfl⟩)
  ·
    refine w_ldA e0_32 (fun _ => rfl) rfl ?_
    refine w_ldI e0_33 (fun _ => rfl) rfl ?_
    refine w_aldO e0_35 (lI_0 hL) (by omega) (by omega) (by omega) (fun q2 h3 hx4 => ?_)
    refine w_kB e0_36 rfl ?_
    refine w_iand e0_38 h3 (by omega) (fun q5 (h6 : 0 ≤ q5 ∧ q5 ≤ 15) => ?_)
    by_cases h7 : q5 < 0 ∨ 14 < q5
    ·
      refine w_swO (t := 797) e0_39 (by omega) h7 rfl ?_
      refine w_iinc (A1 := [some (.ref 0), some (.ref 1), some (.ref 238), some (.ref 263), some (.int (vz (x4 + 5))), none, none, none]) e0_797 rfl (by decide) rfl ?_
      refine w_x e0_800 (fun _ => rfl) ?_
      have hnp8 : n = n ∧ p = p := by omega
      exact w_sub (A1 := [some (.ref 0), some (.ref 1), some (.ref 238), some (.ref 263), some (.int (vz (x4 + 5))), none, none, none]) (And.intro rfl (And.intro rfl (And.intro rfl (And.intro rfl (And.intro rfl trivial))))) (w_end (fun ls hl => Or.inr (Or.inl ⟨rfl, rfl, hl, by omega, _, _, _, _, hL⟩)))
    ·
      have h9 : q5 = 0 ∨ q5 = 1 ∨ q5 = 2 ∨ q5 = 3 ∨ q5 = 4 ∨ q5 = 5 ∨ q5 = 6 ∨ q5 = 7 ∨ q5 = 8 ∨ q5 = 9 ∨ q5 = 10 ∨ q5 = 11 ∨ q5 = 12 ∨ q5 = 13 ∨ q5 = 14 := by omega
      rcases h9 with h9 | h9 | h9 | h9 | h9 | h9 | h9 | h9 | h9 | h9 | h9 | h9 | h9 | h9 | h9
      ·
        refine w_swI (t := 112) e0_39 (by omega) h7 (by rw [h9]; rfl) rfl ?_
        refine w_ldA e0_112 (fun _ => rfl) rfl ?_
        refine w_ldA e0_113 (fun _ => rfl) rfl ?_
        refine w_ldI e0_114 (fun _ => rfl) rfl ?_
        refine w_kI e0_116 ?_
        refine w_iadd e0_117 ?_
        refine w_aldO e0_118 (lI_0 hL) (by omega) (by omega) (by omega) (fun q10 h11 hx12 => ?_)
        refine w_if e0_119 h11 (fun (h13 : q10 = 0) => ?_) (fun (h13 : q10 ≠ 0) => ?_)
        ·
          refine w_kI e0_126 ?_
          obtain ⟨fs14, e15⟩ := lI_1 hL
          refine w_cv e0_127 (by decide) rfl e15 rfl (Nat.le_of_ble_eq_true rfl) (Nat.le_of_ble_eq_true rfl) (Nat.le_of_ble_eq_true rfl) (by decide) (by decide) (x44 hL (by omega)) (fun o16 v17 hq18 => ?_)
          obtain ⟨⟨n19, p20, hr22, hL23⟩, q24, h25, rfl⟩ := hq18
          refine w_x e0_130 (fun _ => rfl) ?_
          refine w_ldA e0_131 (fun _ => rfl) rfl ?_
          refine w_ldA e0_132 (fun _ => rfl) rfl ?_
          refine w_ldI e0_133 (fun _ => rfl) rfl ?_
          refine w_kI e0_135 ?_
          refine w_iadd e0_136 ?_
          refine w_aldO e0_137 (lI_0 hL23) (by omega) (by omega) (by omega) (fun q26 h27 hx28 => ?_)
          refine w_if e0_138 h27 (fun (h29 : q26 = 0) => ?_) (fun (h29 : q26 ≠ 0) => ?_)
          ·
            refine w_kI e0_145 ?_
            obtain ⟨fs30, e31⟩ := lI_238 hL23
            refine w_cv e0_146 (by decide) rfl e31 rfl (Nat.le_of_ble_eq_true rfl) (Nat.le_of_ble_eq_true rfl) (Nat.le_of_ble_eq_true rfl) (by decide) (by decide) (y105 hL23 (by omega)) (fun o32 v33 hq34 => ?_)
            obtain ⟨⟨n35, p36, t37, hr38, hL39⟩, q40, h41, rfl⟩ := hq34
            refine w_x e0_149 (fun _ => rfl) ?_
            refine w_x e0_150 (fun _ => rfl) ?_
            refine w_iinc (A1 := [some (.ref 0), some (.ref 1), some (.ref 238), some (.ref 263), some (.int (vz (x4 + 5))), none, none, none]) e0_797 rfl (by decide) rfl ?_
            refine w_x e0_800 (fun _ => rfl) ?_
            have hnp42 : n35 = n19 ∧ p36 = p20 := by omega
            rw [hnp42.1, hnp42.2] at hL39
            exact w_sub (A1 := [some (.ref 0), some (.ref 1), some (.ref 238), some (.ref 263), some (.int (vz (x4 + 5))), none, none, none]) (And.intro rfl (And.intro rfl (And.intro rfl (And.intro rfl (And.intro rfl trivial))))) (w_end (fun ls hl => Or.inr (Or.inl ⟨rfl, rfl, hl, by omega, _, _, _, _, hL39⟩)))
          ·
            refine w_kI e0_141 ?_
            refine w_x e0_142 (fun _ => rfl) ?_
            obtain ⟨fs43, e44⟩ := lI_238 hL23
            refine w_cv e0_146 (by decide) rfl e44 rfl (Nat.le_of_ble_eq_true rfl) (Nat.le_of_ble_eq_true rfl) (Nat.le_of_ble_eq_true rfl) (by decide) (by decide) (y105 hL23 (by omega)) (fun o45 v46 hq47 => ?_)
            obtain ⟨⟨n48, p49, t50, hr51, hL52⟩, q53, h54, rfl⟩ := hq47
            refine w_x e0_149 (fun _ => rfl) ?_
            refine w_x e0_150 (fun _ => rfl) ?_
            refine w_iinc (A1 := [some (.ref 0), some (.ref 1), some (.ref 238), some (.ref 263), some (.int (vz (x4 + 5))), none, none, none]) e0_797 rfl (by decide) rfl ?_
            refine w_x e0_800 (fun _ => rfl) ?_
            have hnp55 : n48 = n19 ∧ p49 = p20 := by omega
            rw [hnp55.1, hnp55.2] at hL52
            exact w_sub (A1 := [some (.ref 0), some (.ref 1), some (.ref 238), some (.ref 263), some (.int (vz (x4 + 5))), none, none, none]) (And.intro rfl (And.intro rfl (And.intro rfl (And.intro rfl (And.intro rfl trivial))))) (w_end (fun ls hl => Or.inr (Or.inl ⟨rfl, rfl, hl, by omega, _, _, _, _, hL52⟩)))
        ·
          refine w_kI e0_122 ?_
          refine w_x e0_123 (fun _ => rfl) ?_
          obtain ⟨fs56, e57⟩ := lI_1 hL
          refine w_cv e0_127 (by decide) rfl e57 rfl (Nat.le_of_ble_eq_true rfl) (Nat.le_of_ble_eq_true rfl) (Nat.le_of_ble_eq_true rfl) (by decide) (by decide) (x44 hL (by omega)) (fun o58 v59 hq60 => ?_)
          obtain ⟨⟨n61, p62, hr64, hL65⟩, q66, h67, rfl⟩ := hq60
          refine w_x e0_130 (fun _ => rfl) ?_
          refine w_ldA e0_131 (fun _ => rfl) rfl ?_
          refine w_ldA e0_132 (fun _ => rfl) rfl ?_
          refine w_ldI e0_133 (fun _ => rfl) rfl ?_
          refine w_kI e0_135 ?_
          refine w_iadd e0_136 ?_
          refine w_aldO e0_137 (lI_0 hL65) (by omega) (by omega) (by omega) (fun q68 h69 hx70 => ?_)
          refine w_if e0_138 h69 (fun (h71 : q68 = 0) => ?_) (fun (h71 : q68 ≠ 0) => ?_)
          ·
            refine w_kI e0_145 ?_
            obtain ⟨fs72, e73⟩ := lI_238 hL65
            refine w_cv e0_146 (by decide) rfl e73 rfl (Nat.le_of_ble_eq_true rfl) (Nat.le_of_ble_eq_true rfl) (Nat.le_of_ble_eq_true rfl) (by decide) (by decide) (y105 hL65 (by omega)) (fun o74 v75 hq76 => ?_)
            obtain ⟨⟨n77, p78, t79, hr80, hL81⟩, q82, h83, rfl⟩ := hq76
            refine w_x e0_149 (fun _ => rfl) ?_
            refine w_x e0_150 (fun _ => rfl) ?_
            refine w_iinc (A1 := [some (.ref 0), some (.ref 1), some (.ref 238), some (.ref 263), some (.int (vz (x4 + 5))), none, none, none]) e0_797 rfl (by decide) rfl ?_
            refine w_x e0_800 (fun _ => rfl) ?_
            have hnp84 : n77 = n61 ∧ p78 = p62 := by omega
            rw [hnp84.1, hnp84.2] at hL81
            exact w_sub (A1 := [some (.ref 0), some (.ref 1), some (.ref 238), some (.ref 263), some (.int (vz (x4 + 5))), none, none, none]) (And.intro rfl (And.intro rfl (And.intro rfl (And.intro rfl (And.intro rfl trivial))))) (w_end (fun ls hl => Or.inr (Or.inl ⟨rfl, rfl, hl, by omega, _, _, _, _, hL81⟩)))
          ·
            refine w_kI e0_141 ?_
            refine w_x e0_142 (fun _ => rfl) ?_
            obtain ⟨fs85, e86⟩ := lI_238 hL65
            refine w_cv e0_146 (by decide) rfl e86 rfl (Nat.le_of_ble_eq_true rfl) (Nat.le_of_ble_eq_true rfl) (Nat.le_of_ble_eq_true rfl) (by decide) (by decide) (y105 hL65 (by omega)) (fun o87 v88 hq89 => ?_)
            obtain ⟨⟨n90, p91, t92, hr93, hL94⟩, q95, h96, rfl⟩ := hq89
            refine w_x e0_149 (fun _ => rfl) ?_
            refine w_x e0_150 (fun _ => rfl) ?_
            refine w_iinc (A1 := [some (.ref 0), some (.ref 1), some (.ref 238), some (.ref 263), some (.int (vz (x4 + 5))), none, none, none]) e0_797 rfl (by decide) rfl ?_
            refine w_x e0_800 (fun _ => rfl) ?_
            have hnp97 : n90 = n61 ∧ p91 = p62 := by omega
            rw [hnp97.1, hnp97.2] at hL94
            exact w_sub (A1 := [some (.ref 0), some (.ref 1), some (.ref 238), some (.ref 263), some (.int (vz (x4 + 5))), none, none, none]) (And.intro rfl (And.intro rfl (And.intro rfl (And.intro rfl (And.intro rfl trivial))))) (w_end (fun ls hl => Or.inr (Or.inl ⟨rfl, rfl, hl, by omega, _, _, _, _, hL94⟩)))
      ·
        refine w_swI (t := 153) e0_39 (by omega) h7 (by rw [h9]; rfl) rfl ?_
        refine w_ldA e0_153 (fun _ => rfl) rfl ?_
        refine w_ldA e0_154 (fun _ => rfl) rfl ?_
        refine w_ldI e0_155 (fun _ => rfl) rfl ?_
        refine w_kI e0_157 ?_
        refine w_iadd e0_158 ?_
        refine w_aldO e0_159 (lI_0 hL) (by omega) (by omega) (by omega) (fun q98 h99 hx100 => ?_)
        refine w_ldA e0_160 (fun _ => rfl) rfl ?_
        refine w_ldI e0_161 (fun _ => rfl) rfl ?_
        refine w_kI e0_163 ?_
        refine w_iadd e0_164 ?_
        refine w_aldO e0_165 (lI_0 hL) (by omega) (by omega) (by omega) (fun q101 h102 hx103 => ?_)
        obtain ⟨fs104, e105⟩ := lI_1 hL
        refine w_cv e0_166 (by decide) rfl e105 rfl (Nat.le_of_ble_eq_true rfl) (Nat.le_of_ble_eq_true rfl) (Nat.le_of_ble_eq_true rfl) (by decide) (by decide) (x45 hL h99 h102) (fun o106 v107 hq108 => ?_)
        obtain ⟨⟨n109, p110, hr112, hL113⟩, q114, h115, rfl⟩ := hq108
        refine w_x e0_169 (fun _ => rfl) ?_
        refine w_ldA e0_170 (fun _ => rfl) rfl ?_
        refine w_ldA e0_171 (fun _ => rfl) rfl ?_
        refine w_ldI e0_172 (fun _ => rfl) rfl ?_
        refine w_kI e0_174 ?_
        refine w_iadd e0_175 ?_
        refine w_aldO e0_176 (lI_0 hL113) (by omega) (by omega) (by omega) (fun q116 h117 hx118 => ?_)
        refine w_ldA e0_177 (fun _ => rfl) rfl ?_
        refine w_ldI e0_178 (fun _ => rfl) rfl ?_
        refine w_kI e0_180 ?_
        refine w_iadd e0_181 ?_
        refine w_aldO e0_182 (lI_0 hL113) (by omega) (by omega) (by omega) (fun q119 h120 hx121 => ?_)
        obtain ⟨fs122, e123⟩ := lI_238 hL113
        refine w_cv e0_183 (by decide) rfl e123 rfl (Nat.le_of_ble_eq_true rfl) (Nat.le_of_ble_eq_true rfl) (Nat.le_of_ble_eq_true rfl) (by decide) (by decide) (y106 hL113 h117 h120) (fun o124 v125 hq126 => ?_)
        obtain ⟨⟨n127, p128, t129, hr130, hL131⟩, q132, h133, rfl⟩ := hq126
        refine w_x e0_186 (fun _ => rfl) ?_
        refine w_x e0_187 (fun _ => rfl) ?_
        refine w_iinc (A1 := [some (.ref 0), some (.ref 1), some (.ref 238), some (.ref 263), some (.int (vz (x4 + 5))), none, none, none]) e0_797 rfl (by decide) rfl ?_
        refine w_x e0_800 (fun _ => rfl) ?_
        have hnp134 : n127 = n109 ∧ p128 = p110 := by omega
        rw [hnp134.1, hnp134.2] at hL131
        exact w_sub (A1 := [some (.ref 0), some (.ref 1), some (.ref 238), some (.ref 263), some (.int (vz (x4 + 5))), none, none, none]) (And.intro rfl (And.intro rfl (And.intro rfl (And.intro rfl (And.intro rfl trivial))))) (w_end (fun ls hl => Or.inr (Or.inl ⟨rfl, rfl, hl, by omega, _, _, _, _, hL131⟩)))
      ·
        refine w_swI (t := 190) e0_39 (by omega) h7 (by rw [h9]; rfl) rfl ?_
        refine w_ldA e0_190 (fun _ => rfl) rfl ?_
        obtain ⟨fs135, e136⟩ := lI_1 hL
        refine w_cv e0_191 (by decide) rfl e136 rfl (Nat.le_of_ble_eq_true rfl) (Nat.le_of_ble_eq_true rfl) (Nat.le_of_ble_eq_true rfl) (by decide) (by decide) (x46 hL) (fun o137 v138 hq139 => ?_)
        obtain ⟨⟨n140, p141, hr143, hL144⟩, q145, h146, rfl⟩ := hq139
        refine w_x e0_194 (fun _ => rfl) ?_
        refine w_ldA e0_195 (fun _ => rfl) rfl ?_
        obtain ⟨fs147, e148⟩ := lI_238 hL144
        refine w_cv e0_196 (by decide) rfl e148 rfl (Nat.le_of_ble_eq_true rfl) (Nat.le_of_ble_eq_true rfl) (Nat.le_of_ble_eq_true rfl) (by decide) (by decide) (y107 hL144) (fun o149 v150 hq151 => ?_)
        obtain ⟨⟨n152, p153, t154, hr155, hL156⟩, q157, h158, rfl⟩ := hq151
        refine w_x e0_199 (fun _ => rfl) ?_
        refine w_x e0_200 (fun _ => rfl) ?_
        refine w_iinc (A1 := [some (.ref 0), some (.ref 1), some (.ref 238), some (.ref 263), some (.int (vz (x4 + 5))), none, none, none]) e0_797 rfl (by decide) rfl ?_
        refine w_x e0_800 (fun _ => rfl) ?_
        have hnp159 : n152 = n140 ∧ p153 = p141 := by omega
        rw [hnp159.1, hnp159.2] at hL156
        exact w_sub (A1 := [some (.ref 0), some (.ref 1), some (.ref 238), some (.ref 263), some (.int (vz (x4 + 5))), none, none, none]) (And.intro rfl (And.intro rfl (And.intro rfl (And.intro rfl (And.intro rfl trivial))))) (w_end (fun ls hl => Or.inr (Or.inl ⟨rfl, rfl, hl, by omega, _, _, _, _, hL156⟩)))
      ·
        refine w_swI (t := 203) e0_39 (by omega) h7 (by rw [h9]; rfl) rfl ?_
        refine w_ldA e0_203 (fun _ => rfl) rfl ?_
        refine w_ldA e0_204 (fun _ => rfl) rfl ?_
        refine w_ldI e0_205 (fun _ => rfl) rfl ?_
        refine w_kI e0_207 ?_
        refine w_iadd e0_208 ?_
        refine w_aldO e0_209 (lI_0 hL) (by omega) (by omega) (by omega) (fun q160 h161 hx162 => ?_)
        refine w_ldA e0_210 (fun _ => rfl) rfl ?_
        refine w_ldI e0_211 (fun _ => rfl) rfl ?_
        refine w_kI e0_213 ?_
        refine w_iadd e0_214 ?_
        refine w_aldO e0_215 (lI_0 hL) (by omega) (by omega) (by omega) (fun q163 h164 hx165 => ?_)
        refine w_oL e0_216 (fun _ => rfl) (fun l166 => ?_)
        refine w_kB e0_217 rfl ?_
        refine w_oL e0_219 (fun _ => rfl) (fun l167 => ?_)
        refine w_ldA e0_220 (fun _ => rfl) rfl ?_
        refine w_ldI e0_221 (fun _ => rfl) rfl ?_
        refine w_kI e0_223 ?_
        refine w_iadd e0_224 ?_
        refine w_aldO e0_225 (lI_0 hL) (by omega) (by omega) (by omega) (fun q168 h169 hx170 => ?_)
        refine w_oL e0_226 (fun _ => rfl) (fun l171 => ?_)
        refine w_oL e0_227 (fun _ => rfl) (fun l172 => ?_)
        refine w_oL e0_230 (fun _ => rfl) (fun l173 => ?_)
        refine w_oL e0_231 (fun _ => rfl) (fun l174 => ?_)
        refine w_ldA e0_232 (fun _ => rfl) rfl ?_
        refine w_ldI e0_233 (fun _ => rfl) rfl ?_
        refine w_kI e0_235 ?_
        refine w_iadd e0_236 ?_
        refine w_aldO e0_237 (lI_0 hL) (by omega) (by omega) (by omega) (fun q175 h176 hx177 => ?_)
        obtain ⟨fs178, e179⟩ := lI_1 hL
        refine w_cv e0_238 (by decide) rfl e179 rfl (Nat.le_of_ble_eq_true rfl) (Nat.le_of_ble_eq_true rfl) (Nat.le_of_ble_eq_true rfl) (by decide) (by decide) (x47 hL h161 h176) (fun o180 v181 hq182 => ?_)
        obtain ⟨⟨n183, p184, hr186, hL187⟩, q188, h189, rfl⟩ := hq182
        refine w_x e0_241 (fun _ => rfl) ?_
        refine w_ldA e0_242 (fun _ => rfl) rfl ?_
        refine w_ldA e0_243 (fun _ => rfl) rfl ?_
        refine w_ldI e0_244 (fun _ => rfl) rfl ?_
        refine w_kI e0_246 ?_
        refine w_iadd e0_247 ?_
        refine w_aldO e0_248 (lI_0 hL187) (by omega) (by omega) (by omega) (fun q190 h191 hx192 => ?_)
        refine w_ldA e0_249 (fun _ => rfl) rfl ?_
        refine w_ldI e0_250 (fun _ => rfl) rfl ?_
        refine w_kI e0_252 ?_
        refine w_iadd e0_253 ?_
        refine w_aldO e0_254 (lI_0 hL187) (by omega) (by omega) (by omega) (fun q193 h194 hx195 => ?_)
        refine w_oL e0_255 (fun _ => rfl) (fun l196 => ?_)
        refine w_kB e0_256 rfl ?_
        refine w_oL e0_258 (fun _ => rfl) (fun l197 => ?_)
        refine w_ldA e0_259 (fun _ => rfl) rfl ?_
        refine w_ldI e0_260 (fun _ => rfl) rfl ?_
        refine w_kI e0_262 ?_
        refine w_iadd e0_263 ?_
        refine w_aldO e0_264 (lI_0 hL187) (by omega) (by omega) (by omega) (fun q198 h199 hx200 => ?_)
        refine w_oL e0_265 (fun _ => rfl) (fun l201 => ?_)
        refine w_oL e0_266 (fun _ => rfl) (fun l202 => ?_)
        refine w_oL e0_269 (fun _ => rfl) (fun l203 => ?_)
        refine w_oL e0_270 (fun _ => rfl) (fun l204 => ?_)
        refine w_ldA e0_271 (fun _ => rfl) rfl ?_
        refine w_ldI e0_272 (fun _ => rfl) rfl ?_
        refine w_kI e0_274 ?_
        refine w_iadd e0_275 ?_
        refine w_aldO e0_276 (lI_0 hL187) (by omega) (by omega) (by omega) (fun q205 h206 hx207 => ?_)
        obtain ⟨fs208, e209⟩ := lI_238 hL187
        refine w_cv e0_277 (by decide) rfl e209 rfl (Nat.le_of_ble_eq_true rfl) (Nat.le_of_ble_eq_true rfl) (Nat.le_of_ble_eq_true rfl) (by decide) (by decide) (y108 hL187 h191 h206) (fun o210 v211 hq212 => ?_)
        obtain ⟨⟨n213, p214, t215, hr216, hL217⟩, q218, h219, rfl⟩ := hq212
        refine w_x e0_280 (fun _ => rfl) ?_
        refine w_x e0_281 (fun _ => rfl) ?_
        refine w_iinc (A1 := [some (.ref 0), some (.ref 1), some (.ref 238), some (.ref 263), some (.int (vz (x4 + 5))), none, none, none]) e0_797 rfl (by decide) rfl ?_
        refine w_x e0_800 (fun _ => rfl) ?_
        have hnp220 : n213 = n183 ∧ p214 = p184 := by omega
        rw [hnp220.1, hnp220.2] at hL217
        exact w_sub (A1 := [some (.ref 0), some (.ref 1), some (.ref 238), some (.ref 263), some (.int (vz (x4 + 5))), none, none, none]) (And.intro rfl (And.intro rfl (And.intro rfl (And.intro rfl (And.intro rfl trivial))))) (w_end (fun ls hl => Or.inr (Or.inl ⟨rfl, rfl, hl, by omega, _, _, _, _, hL217⟩)))
      ·
        refine w_swI (t := 284) e0_39 (by omega) h7 (by rw [h9]; rfl) rfl ?_
        refine w_ldA e0_284 (fun _ => rfl) rfl ?_
        refine w_ldA e0_285 (fun _ => rfl) rfl ?_
        refine w_ldI e0_286 (fun _ => rfl) rfl ?_
        refine w_kI e0_288 ?_
        refine w_iadd e0_289 ?_
        refine w_aldO e0_290 (lI_0 hL) (by omega) (by omega) (by omega) (fun q221 h222 hx223 => ?_)
        refine w_ldA e0_291 (fun _ => rfl) rfl ?_
        refine w_ldI e0_292 (fun _ => rfl) rfl ?_
        refine w_kI e0_294 ?_
        refine w_iadd e0_295 ?_
        refine w_aldO e0_296 (lI_0 hL) (by omega) (by omega) (by omega) (fun q224 h225 hx226 => ?_)
        refine w_if e0_297 h225 (fun (h227 : q224 = 0) => ?_) (fun (h227 : q224 ≠ 0) => ?_)
        ·
          refine w_kI e0_304 ?_
          obtain ⟨fs228, e229⟩ := lI_1 hL
          refine w_cv e0_305 (by decide) rfl e229 rfl (Nat.le_of_ble_eq_true rfl) (Nat.le_of_ble_eq_true rfl) (Nat.le_of_ble_eq_true rfl) (by decide) (by decide) (x48 hL h222 (by omega)) (fun o230 v231 hq232 => ?_)
          obtain ⟨⟨n233, p234, hr236, hL237⟩, q238, h239, rfl⟩ := hq232
          refine w_x e0_308 (fun _ => rfl) ?_
          refine w_ldA e0_309 (fun _ => rfl) rfl ?_
          refine w_ldA e0_310 (fun _ => rfl) rfl ?_
          refine w_ldI e0_311 (fun _ => rfl) rfl ?_
          refine w_kI e0_313 ?_
          refine w_iadd e0_314 ?_
          refine w_aldO e0_315 (lI_0 hL237) (by omega) (by omega) (by omega) (fun q240 h241 hx242 => ?_)
          refine w_ldA e0_316 (fun _ => rfl) rfl ?_
          refine w_ldI e0_317 (fun _ => rfl) rfl ?_
          refine w_kI e0_319 ?_
          refine w_iadd e0_320 ?_
          refine w_aldO e0_321 (lI_0 hL237) (by omega) (by omega) (by omega) (fun q243 h244 hx245 => ?_)
          refine w_if e0_322 h244 (fun (h246 : q243 = 0) => ?_) (fun (h246 : q243 ≠ 0) => ?_)
          ·
            refine w_kI e0_329 ?_
            obtain ⟨fs247, e248⟩ := lI_238 hL237
            refine w_cv e0_330 (by decide) rfl e248 rfl (Nat.le_of_ble_eq_true rfl) (Nat.le_of_ble_eq_true rfl) (Nat.le_of_ble_eq_true rfl) (by decide) (by decide) (y109 hL237 h241 (by omega)) (fun o249 v250 hq251 => ?_)
            obtain ⟨⟨n252, p253, t254, hr255, hL256⟩, q257, h258, rfl⟩ := hq251
            refine w_x e0_333 (fun _ => rfl) ?_
            refine w_x e0_334 (fun _ => rfl) ?_
            refine w_iinc (A1 := [some (.ref 0), some (.ref 1), some (.ref 238), some (.ref 263), some (.int (vz (x4 + 5))), none, none, none]) e0_797 rfl (by decide) rfl ?_
            refine w_x e0_800 (fun _ => rfl) ?_
            have hnp259 : n252 = n233 ∧ p253 = p234 := by omega
            rw [hnp259.1, hnp259.2] at hL256
            exact w_sub (A1 := [some (.ref 0), some (.ref 1), some (.ref 238), some (.ref 263), some (.int (vz (x4 + 5))), none, none, none]) (And.intro rfl (And.intro rfl (And.intro rfl (And.intro rfl (And.intro rfl trivial))))) (w_end (fun ls hl => Or.inr (Or.inl ⟨rfl, rfl, hl, by omega, _, _, _, _, hL256⟩)))
          ·
            refine w_kI e0_325 ?_
            refine w_x e0_326 (fun _ => rfl) ?_
            obtain ⟨fs260, e261⟩ := lI_238 hL237
            refine w_cv e0_330 (by decide) rfl e261 rfl (Nat.le_of_ble_eq_true rfl) (Nat.le_of_ble_eq_true rfl) (Nat.le_of_ble_eq_true rfl) (by decide) (by decide) (y109 hL237 h241 (by omega)) (fun o262 v263 hq264 => ?_)
            obtain ⟨⟨n265, p266, t267, hr268, hL269⟩, q270, h271, rfl⟩ := hq264
            refine w_x e0_333 (fun _ => rfl) ?_
            refine w_x e0_334 (fun _ => rfl) ?_
            refine w_iinc (A1 := [some (.ref 0), some (.ref 1), some (.ref 238), some (.ref 263), some (.int (vz (x4 + 5))), none, none, none]) e0_797 rfl (by decide) rfl ?_
            refine w_x e0_800 (fun _ => rfl) ?_
            have hnp272 : n265 = n233 ∧ p266 = p234 := by omega
            rw [hnp272.1, hnp272.2] at hL269
            exact w_sub (A1 := [some (.ref 0), some (.ref 1), some (.ref 238), some (.ref 263), some (.int (vz (x4 + 5))), none, none, none]) (And.intro rfl (And.intro rfl (And.intro rfl (And.intro rfl (And.intro rfl trivial))))) (w_end (fun ls hl => Or.inr (Or.inl ⟨rfl, rfl, hl, by omega, _, _, _, _, hL269⟩)))
        ·
          refine w_kI e0_300 ?_
          refine w_x e0_301 (fun _ => rfl) ?_
          obtain ⟨fs273, e274⟩ := lI_1 hL
          refine w_cv e0_305 (by decide) rfl e274 rfl (Nat.le_of_ble_eq_true rfl) (Nat.le_of_ble_eq_true rfl) (Nat.le_of_ble_eq_true rfl) (by decide) (by decide) (x48 hL h222 (by omega)) (fun o275 v276 hq277 => ?_)
          obtain ⟨⟨n278, p279, hr281, hL282⟩, q283, h284, rfl⟩ := hq277
          refine w_x e0_308 (fun _ => rfl) ?_
          refine w_ldA e0_309 (fun _ => rfl) rfl ?_
          refine w_ldA e0_310 (fun _ => rfl) rfl ?_
          refine w_ldI e0_311 (fun _ => rfl) rfl ?_
          refine w_kI e0_313 ?_
          refine w_iadd e0_314 ?_
          refine w_aldO e0_315 (lI_0 hL282) (by omega) (by omega) (by omega) (fun q285 h286 hx287 => ?_)
          refine w_ldA e0_316 (fun _ => rfl) rfl ?_
          refine w_ldI e0_317 (fun _ => rfl) rfl ?_
          refine w_kI e0_319 ?_
          refine w_iadd e0_320 ?_
          refine w_aldO e0_321 (lI_0 hL282) (by omega) (by omega) (by omega) (fun q288 h289 hx290 => ?_)
          refine w_if e0_322 h289 (fun (h291 : q288 = 0) => ?_) (fun (h291 : q288 ≠ 0) => ?_)
          ·
            refine w_kI e0_329 ?_
            obtain ⟨fs292, e293⟩ := lI_238 hL282
            refine w_cv e0_330 (by decide) rfl e293 rfl (Nat.le_of_ble_eq_true rfl) (Nat.le_of_ble_eq_true rfl) (Nat.le_of_ble_eq_true rfl) (by decide) (by decide) (y109 hL282 h286 (by omega)) (fun o294 v295 hq296 => ?_)
            obtain ⟨⟨n297, p298, t299, hr300, hL301⟩, q302, h303, rfl⟩ := hq296
            refine w_x e0_333 (fun _ => rfl) ?_
            refine w_x e0_334 (fun _ => rfl) ?_
            refine w_iinc (A1 := [some (.ref 0), some (.ref 1), some (.ref 238), some (.ref 263), some (.int (vz (x4 + 5))), none, none, none]) e0_797 rfl (by decide) rfl ?_
            refine w_x e0_800 (fun _ => rfl) ?_
            have hnp304 : n297 = n278 ∧ p298 = p279 := by omega
            rw [hnp304.1, hnp304.2] at hL301
            exact w_sub (A1 := [some (.ref 0), some (.ref 1), some (.ref 238), some (.ref 263), some (.int (vz (x4 + 5))), none, none, none]) (And.intro rfl (And.intro rfl (And.intro rfl (And.intro rfl (And.intro rfl trivial))))) (w_end (fun ls hl => Or.inr (Or.inl ⟨rfl, rfl, hl, by omega, _, _, _, _, hL301⟩)))
          ·
            refine w_kI e0_325 ?_
            refine w_x e0_326 (fun _ => rfl) ?_
            obtain ⟨fs305, e306⟩ := lI_238 hL282
            refine w_cv e0_330 (by decide) rfl e306 rfl (Nat.le_of_ble_eq_true rfl) (Nat.le_of_ble_eq_true rfl) (Nat.le_of_ble_eq_true rfl) (by decide) (by decide) (y109 hL282 h286 (by omega)) (fun o307 v308 hq309 => ?_)
            obtain ⟨⟨n310, p311, t312, hr313, hL314⟩, q315, h316, rfl⟩ := hq309
            refine w_x e0_333 (fun _ => rfl) ?_
            refine w_x e0_334 (fun _ => rfl) ?_
            refine w_iinc (A1 := [some (.ref 0), some (.ref 1), some (.ref 238), some (.ref 263), some (.int (vz (x4 + 5))), none, none, none]) e0_797 rfl (by decide) rfl ?_
            refine w_x e0_800 (fun _ => rfl) ?_
            have hnp317 : n310 = n278 ∧ p311 = p279 := by omega
            rw [hnp317.1, hnp317.2] at hL314
            exact w_sub (A1 := [some (.ref 0), some (.ref 1), some (.ref 238), some (.ref 263), some (.int (vz (x4 + 5))), none, none, none]) (And.intro rfl (And.intro rfl (And.intro rfl (And.intro rfl (And.intro rfl trivial))))) (w_end (fun ls hl => Or.inr (Or.inl ⟨rfl, rfl, hl, by omega, _, _, _, _, hL314⟩)))
      ·
        refine w_swI (t := 337) e0_39 (by omega) h7 (by rw [h9]; rfl) rfl ?_
        refine w_ldA e0_337 (fun _ => rfl) rfl ?_
        obtain ⟨fs318, e319⟩ := lI_1 hL
        refine w_cv e0_338 (by decide) rfl e319 rfl (Nat.le_of_ble_eq_true rfl) (Nat.le_of_ble_eq_true rfl) (Nat.le_of_ble_eq_true rfl) (by decide) (by decide) (x49 hL) (fun o320 v321 hq322 => ?_)
        obtain ⟨⟨n323, p324, hr326, hL327⟩, q328, h329, rfl⟩ := hq322
        refine w_x e0_341 (fun _ => rfl) ?_
        refine w_ldA e0_342 (fun _ => rfl) rfl ?_
        obtain ⟨fs330, e331⟩ := lI_238 hL327
        refine w_cv e0_343 (by decide) rfl e331 rfl (Nat.le_of_ble_eq_true rfl) (Nat.le_of_ble_eq_true rfl) (Nat.le_of_ble_eq_true rfl) (by decide) (by decide) (y102 hL327) (fun o332 v333 hq334 => ?_)
        obtain ⟨⟨n335, p336, t337, hr338, hL339⟩, q340, h341, rfl⟩ := hq334
        refine w_x e0_346 (fun _ => rfl) ?_
        refine w_x e0_347 (fun _ => rfl) ?_
        refine w_iinc (A1 := [some (.ref 0), some (.ref 1), some (.ref 238), some (.ref 263), some (.int (vz (x4 + 5))), none, none, none]) e0_797 rfl (by decide) rfl ?_
        refine w_x e0_800 (fun _ => rfl) ?_
        have hnp342 : n335 = n323 ∧ p336 = p324 := by omega
        rw [hnp342.1, hnp342.2] at hL339
        exact w_sub (A1 := [some (.ref 0), some (.ref 1), some (.ref 238), some (.ref 263), some (.int (vz (x4 + 5))), none, none, none]) (And.intro rfl (And.intro rfl (And.intro rfl (And.intro rfl (And.intro rfl trivial))))) (w_end (fun ls hl => Or.inr (Or.inl ⟨rfl, rfl, hl, by omega, _, _, _, _, hL339⟩)))
      ·
        refine w_swI (t := 350) e0_39 (by omega) h7 (by rw [h9]; rfl) rfl ?_
        refine w_ldA e0_350 (fun _ => rfl) rfl ?_
        refine w_ldA e0_351 (fun _ => rfl) rfl ?_
        refine w_ldI e0_352 (fun _ => rfl) rfl ?_
        refine w_kI e0_354 ?_
        refine w_iadd e0_355 ?_
        refine w_aldO e0_356 (lI_0 hL) (by omega) (by omega) (by omega) (fun q343 h344 hx345 => ?_)
        obtain ⟨fs346, e347⟩ := lI_1 hL
        refine w_cv e0_357 (by decide) rfl e347 rfl (Nat.le_of_ble_eq_true rfl) (Nat.le_of_ble_eq_true rfl) (Nat.le_of_ble_eq_true rfl) (by decide) (by decide) (x50 hL h344) (fun o348 v349 hq350 => ?_)
        obtain ⟨⟨n351, p352, hr354, hL355⟩, q356, h357, rfl⟩ := hq350
        refine w_x e0_360 (fun _ => rfl) ?_
        refine w_ldA e0_361 (fun _ => rfl) rfl ?_
        refine w_ldA e0_362 (fun _ => rfl) rfl ?_
        refine w_ldI e0_363 (fun _ => rfl) rfl ?_
        refine w_kI e0_365 ?_
        refine w_iadd e0_366 ?_
        refine w_aldO e0_367 (lI_0 hL355) (by omega) (by omega) (by omega) (fun q358 h359 hx360 => ?_)
        obtain ⟨fs361, e362⟩ := lI_238 hL355
        refine w_cv e0_368 (by decide) rfl e362 rfl (Nat.le_of_ble_eq_true rfl) (Nat.le_of_ble_eq_true rfl) (Nat.le_of_ble_eq_true rfl) (by decide) (by decide) (y104 hL355 h359) (fun o363 v364 hq365 => ?_)
        obtain ⟨⟨n366, p367, t368, hr369, hL370⟩, q371, h372, rfl⟩ := hq365
        refine w_x e0_371 (fun _ => rfl) ?_
        refine w_x e0_372 (fun _ => rfl) ?_
        refine w_iinc (A1 := [some (.ref 0), some (.ref 1), some (.ref 238), some (.ref 263), some (.int (vz (x4 + 5))), none, none, none]) e0_797 rfl (by decide) rfl ?_
        refine w_x e0_800 (fun _ => rfl) ?_
        have hnp373 : n366 = n351 ∧ p367 = p352 := by omega
        rw [hnp373.1, hnp373.2] at hL370
        exact w_sub (A1 := [some (.ref 0), some (.ref 1), some (.ref 238), some (.ref 263), some (.int (vz (x4 + 5))), none, none, none]) (And.intro rfl (And.intro rfl (And.intro rfl (And.intro rfl (And.intro rfl trivial))))) (w_end (fun ls hl => Or.inr (Or.inl ⟨rfl, rfl, hl, by omega, _, _, _, _, hL370⟩)))
      ·
        refine w_swI (t := 375) e0_39 (by omega) h7 (by rw [h9]; rfl) rfl ?_
        refine w_ldA e0_375 (fun _ => rfl) rfl ?_
        refine w_ldA e0_376 (fun _ => rfl) rfl ?_
        refine w_ldI e0_377 (fun _ => rfl) rfl ?_
        refine w_kI e0_379 ?_
        refine w_iadd e0_380 ?_
        refine w_aldO e0_381 (lI_0 hL) (by omega) (by omega) (by omega) (fun q374 h375 hx376 => ?_)
        refine w_ldA e0_382 (fun _ => rfl) rfl ?_
        refine w_ldI e0_383 (fun _ => rfl) rfl ?_
        refine w_kI e0_385 ?_
        refine w_iadd e0_386 ?_
        refine w_aldO e0_387 (lI_0 hL) (by omega) (by omega) (by omega) (fun q377 h378 hx379 => ?_)
        obtain ⟨fs380, e381⟩ := lI_1 hL
        refine w_cv e0_388 (by decide) rfl e381 rfl (Nat.le_of_ble_eq_true rfl) (Nat.le_of_ble_eq_true rfl) (Nat.le_of_ble_eq_true rfl) (by decide) (by decide) (x51 hL h375 h378) (fun o382 v383 hq384 => ?_)
        obtain ⟨⟨n385, p386, hr388, hL389⟩, q390, h391, rfl⟩ := hq384
        refine w_x e0_391 (fun _ => rfl) ?_
        refine w_ldA e0_392 (fun _ => rfl) rfl ?_
        refine w_ldA e0_393 (fun _ => rfl) rfl ?_
        refine w_ldI e0_394 (fun _ => rfl) rfl ?_
        refine w_kI e0_396 ?_
        refine w_iadd e0_397 ?_
        refine w_aldO e0_398 (lI_0 hL389) (by omega) (by omega) (by omega) (fun q392 h393 hx394 => ?_)
        refine w_ldA e0_399 (fun _ => rfl) rfl ?_
        refine w_ldI e0_400 (fun _ => rfl) rfl ?_
        refine w_kI e0_402 ?_
        refine w_iadd e0_403 ?_
        refine w_aldO e0_404 (lI_0 hL389) (by omega) (by omega) (by omega) (fun q395 h396 hx397 => ?_)
        obtain ⟨fs398, e399⟩ := lI_238 hL389
        refine w_cv e0_405 (by decide) rfl e399 rfl (Nat.le_of_ble_eq_true rfl) (Nat.le_of_ble_eq_true rfl) (Nat.le_of_ble_eq_true rfl) (by decide) (by decide) (y112 hL389 h393 h396) (fun o400 v401 hq402 => ?_)
        obtain ⟨⟨n403, p404, t405, hr406, hL407⟩, q408, h409, rfl⟩ := hq402
        refine w_x e0_408 (fun _ => rfl) ?_
        refine w_x e0_409 (fun _ => rfl) ?_
        refine w_iinc (A1 := [some (.ref 0), some (.ref 1), some (.ref 238), some (.ref 263), some (.int (vz (x4 + 5))), none, none, none]) e0_797 rfl (by decide) rfl ?_
        refine w_x e0_800 (fun _ => rfl) ?_
        have hnp410 : n403 = n385 ∧ p404 = p386 := by omega
        rw [hnp410.1, hnp410.2] at hL407
        exact w_sub (A1 := [some (.ref 0), some (.ref 1), some (.ref 238), some (.ref 263), some (.int (vz (x4 + 5))), none, none, none]) (And.intro rfl (And.intro rfl (And.intro rfl (And.intro rfl (And.intro rfl trivial))))) (w_end (fun ls hl => Or.inr (Or.inl ⟨rfl, rfl, hl, by omega, _, _, _, _, hL407⟩)))
      ·
        refine w_swI (t := 412) e0_39 (by omega) h7 (by rw [h9]; rfl) rfl ?_
        refine w_ldA e0_412 (fun _ => rfl) rfl ?_
        refine w_ldA e0_413 (fun _ => rfl) rfl ?_
        refine w_ldI e0_414 (fun _ => rfl) rfl ?_
        refine w_kI e0_416 ?_
        refine w_iadd e0_417 ?_
        refine w_aldO e0_418 (lI_0 hL) (by omega) (by omega) (by omega) (fun q411 h412 hx413 => ?_)
        obtain ⟨fs414, e415⟩ := lI_1 hL
        refine w_cv e0_419 (by decide) rfl e415 rfl (Nat.le_of_ble_eq_true rfl) (Nat.le_of_ble_eq_true rfl) (Nat.le_of_ble_eq_true rfl) (by decide) (by decide) (x52 hL h412) (fun o416 v417 hq418 => ?_)
        obtain ⟨⟨n419, p420, hr422, hL423⟩, q424, h425, rfl⟩ := hq418
        refine w_x e0_422 (fun _ => rfl) ?_
        refine w_ldA e0_423 (fun _ => rfl) rfl ?_
        refine w_ldA e0_424 (fun _ => rfl) rfl ?_
        refine w_ldI e0_425 (fun _ => rfl) rfl ?_
        refine w_kI e0_427 ?_
        refine w_iadd e0_428 ?_
        refine w_aldO e0_429 (lI_0 hL423) (by omega) (by omega) (by omega) (fun q426 h427 hx428 => ?_)
        obtain ⟨fs429, e430⟩ := lI_238 hL423
        refine w_cv e0_430 (by decide) rfl e430 rfl (Nat.le_of_ble_eq_true rfl) (Nat.le_of_ble_eq_true rfl) (Nat.le_of_ble_eq_true rfl) (by decide) (by decide) (y113 hL423 h427) (fun o431 v432 hq433 => ?_)
        obtain ⟨⟨n434, p435, t436, hr437, hL438⟩, q439, h440, rfl⟩ := hq433
        refine w_x e0_433 (fun _ => rfl) ?_
        refine w_x e0_434 (fun _ => rfl) ?_
        refine w_iinc (A1 := [some (.ref 0), some (.ref 1), some (.ref 238), some (.ref 263), some (.int (vz (x4 + 5))), none, none, none]) e0_797 rfl (by decide) rfl ?_
        refine w_x e0_800 (fun _ => rfl) ?_
        have hnp441 : n434 = n419 ∧ p435 = p420 := by omega
        rw [hnp441.1, hnp441.2] at hL438
        exact w_sub (A1 := [some (.ref 0), some (.ref 1), some (.ref 238), some (.ref 263), some (.int (vz (x4 + 5))), none, none, none]) (And.intro rfl (And.intro rfl (And.intro rfl (And.intro rfl (And.intro rfl trivial))))) (w_end (fun ls hl => Or.inr (Or.inl ⟨rfl, rfl, hl, by omega, _, _, _, _, hL438⟩)))
      ·
        refine w_swI (t := 437) e0_39 (by omega) h7 (by rw [h9]; rfl) rfl ?_
        refine w_ldA e0_437 (fun _ => rfl) rfl ?_
        refine w_ldA e0_438 (fun _ => rfl) rfl ?_
        refine w_ldI e0_439 (fun _ => rfl) rfl ?_
        refine w_kI e0_441 ?_
        refine w_iadd e0_442 ?_
        refine w_aldO e0_443 (lI_0 hL) (by omega) (by omega) (by omega) (fun q442 h443 hx444 => ?_)
        refine w_ldA e0_444 (fun _ => rfl) rfl ?_
        refine w_ldI e0_445 (fun _ => rfl) rfl ?_
        refine w_kI e0_447 ?_
        refine w_iadd e0_448 ?_
        refine w_aldO e0_449 (lI_0 hL) (by omega) (by omega) (by omega) (fun q445 h446 hx447 => ?_)
        refine w_ldA e0_450 (fun _ => rfl) rfl ?_
        refine w_ldI e0_451 (fun _ => rfl) rfl ?_
        refine w_kI e0_453 ?_
        refine w_iadd e0_454 ?_
        refine w_aldO e0_455 (lI_0 hL) (by omega) (by omega) (by omega) (fun q448 h449 hx450 => ?_)
        obtain ⟨fs451, e452⟩ := lI_1 hL
        refine w_cv e0_456 (by decide) rfl e452 rfl (Nat.le_of_ble_eq_true rfl) (Nat.le_of_ble_eq_true rfl) (Nat.le_of_ble_eq_true rfl) (by decide) (by decide) (x53 hL h443 h446 h449) (fun o453 v454 hq455 => ?_)
        obtain ⟨⟨n456, p457, hr459, hL460⟩, q461, rfl⟩ := hq455
        refine w_x e0_459 (fun _ => rfl) ?_
        refine w_ldA e0_460 (fun _ => rfl) rfl ?_
        refine w_ldA e0_461 (fun _ => rfl) rfl ?_
        refine w_ldI e0_462 (fun _ => rfl) rfl ?_
        refine w_kI e0_464 ?_
        refine w_iadd e0_465 ?_
        refine w_aldO e0_466 (lI_0 hL460) (by omega) (by omega) (by omega) (fun q463 h464 hx465 => ?_)
        refine w_ldA e0_467 (fun _ => rfl) rfl ?_
        refine w_ldI e0_468 (fun _ => rfl) rfl ?_
        refine w_kI e0_470 ?_
        refine w_iadd e0_471 ?_
        refine w_aldO e0_472 (lI_0 hL460) (by omega) (by omega) (by omega) (fun q466 h467 hx468 => ?_)
        refine w_ldA e0_473 (fun _ => rfl) rfl ?_
        refine w_ldI e0_474 (fun _ => rfl) rfl ?_
        refine w_kI e0_476 ?_
        refine w_iadd e0_477 ?_
        refine w_aldO e0_478 (lI_0 hL460) (by omega) (by omega) (by omega) (fun q469 h470 hx471 => ?_)
        obtain ⟨fs472, e473⟩ := lI_238 hL460
        refine w_cv e0_479 (by decide) rfl e473 rfl (Nat.le_of_ble_eq_true rfl) (Nat.le_of_ble_eq_true rfl) (Nat.le_of_ble_eq_true rfl) (by decide) (by decide) (y115 hL460 h464 h467 h470) (fun o474 v475 hq476 => ?_)
        obtain ⟨⟨n477, p478, t479, hr480, hL481⟩, q482, rfl⟩ := hq476
        refine w_x e0_482 (fun _ => rfl) ?_
        refine w_x e0_483 (fun _ => rfl) ?_
        refine w_iinc (A1 := [some (.ref 0), some (.ref 1), some (.ref 238), some (.ref 263), some (.int (vz (x4 + 5))), none, none, none]) e0_797 rfl (by decide) rfl ?_
        refine w_x e0_800 (fun _ => rfl) ?_
        have hnp484 : n477 = n456 ∧ p478 = p457 := by omega
        rw [hnp484.1, hnp484.2] at hL481
        exact w_sub (A1 := [some (.ref 0), some (.ref 1), some (.ref 238), some (.ref 263), some (.int (vz (x4 + 5))), none, none, none]) (And.intro rfl (And.intro rfl (And.intro rfl (And.intro rfl (And.intro rfl trivial))))) (w_end (fun ls hl => Or.inr (Or.inl ⟨rfl, rfl, hl, by omega, _, _, _, _, hL481⟩)))
      ·
        refine w_swI (t := 486) e0_39 (by omega) h7 (by rw [h9]; rfl) rfl ?_
        refine w_ldA e0_486 (fun _ => rfl) rfl ?_
        refine w_ldA e0_487 (fun _ => rfl) rfl ?_
        refine w_ldI e0_488 (fun _ => rfl) rfl ?_
        refine w_kI e0_490 ?_
        refine w_iadd e0_491 ?_
        refine w_aldO e0_492 (lI_0 hL) (by omega) (by omega) (by omega) (fun q485 h486 hx487 => ?_)
        refine w_ldA e0_493 (fun _ => rfl) rfl ?_
        refine w_ldI e0_494 (fun _ => rfl) rfl ?_
        refine w_kI e0_496 ?_
        refine w_iadd e0_497 ?_
        refine w_aldO e0_498 (lI_0 hL) (by omega) (by omega) (by omega) (fun q488 h489 hx490 => ?_)
        refine w_ldA e0_499 (fun _ => rfl) rfl ?_
        refine w_ldI e0_500 (fun _ => rfl) rfl ?_
        refine w_kI e0_502 ?_
        refine w_iadd e0_503 ?_
        refine w_aldO e0_504 (lI_0 hL) (by omega) (by omega) (by omega) (fun q491 h492 hx493 => ?_)
        obtain ⟨fs494, e495⟩ := lI_1 hL
        refine w_cv e0_505 (by decide) rfl e495 rfl (Nat.le_of_ble_eq_true rfl) (Nat.le_of_ble_eq_true rfl) (Nat.le_of_ble_eq_true rfl) (by decide) (by decide) (x54 hL h486 h489 h492) (fun o496 v497 hq498 => ?_)
        obtain ⟨⟨n499, p500, hr502, hL503⟩, q504, h505, rfl⟩ := hq498
        refine w_x e0_508 (fun _ => rfl) ?_
        refine w_ldA e0_509 (fun _ => rfl) rfl ?_
        refine w_ldA e0_510 (fun _ => rfl) rfl ?_
        refine w_ldI e0_511 (fun _ => rfl) rfl ?_
        refine w_kI e0_513 ?_
        refine w_iadd e0_514 ?_
        refine w_aldO e0_515 (lI_0 hL503) (by omega) (by omega) (by omega) (fun q506 h507 hx508 => ?_)
        refine w_ldA e0_516 (fun _ => rfl) rfl ?_
        refine w_ldI e0_517 (fun _ => rfl) rfl ?_
        refine w_kI e0_519 ?_
        refine w_iadd e0_520 ?_
        refine w_aldO e0_521 (lI_0 hL503) (by omega) (by omega) (by omega) (fun q509 h510 hx511 => ?_)
        refine w_ldA e0_522 (fun _ => rfl) rfl ?_
        refine w_ldI e0_523 (fun _ => rfl) rfl ?_
        refine w_kI e0_525 ?_
        refine w_iadd e0_526 ?_
        refine w_aldO e0_527 (lI_0 hL503) (by omega) (by omega) (by omega) (fun q512 h513 hx514 => ?_)
        obtain ⟨fs515, e516⟩ := lI_238 hL503
        refine w_cv e0_528 (by decide) rfl e516 rfl (Nat.le_of_ble_eq_true rfl) (Nat.le_of_ble_eq_true rfl) (Nat.le_of_ble_eq_true rfl) (by decide) (by decide) (y116 hL503 h507 h510 h513) (fun o517 v518 hq519 => ?_)
        obtain ⟨⟨n520, p521, t522, hr523, hL524⟩, q525, h526, rfl⟩ := hq519
        refine w_x e0_531 (fun _ => rfl) ?_
        refine w_x e0_532 (fun _ => rfl) ?_
        refine w_iinc (A1 := [some (.ref 0), some (.ref 1), some (.ref 238), some (.ref 263), some (.int (vz (x4 + 5))), none, none, none]) e0_797 rfl (by decide) rfl ?_
        refine w_x e0_800 (fun _ => rfl) ?_
        have hnp527 : n520 = n499 ∧ p521 = p500 := by omega
        rw [hnp527.1, hnp527.2] at hL524
        exact w_sub (A1 := [some (.ref 0), some (.ref 1), some (.ref 238), some (.ref 263), some (.int (vz (x4 + 5))), none, none, none]) (And.intro rfl (And.intro rfl (And.intro rfl (And.intro rfl (And.intro rfl trivial))))) (w_end (fun ls hl => Or.inr (Or.inl ⟨rfl, rfl, hl, by omega, _, _, _, _, hL524⟩)))
      ·
        refine w_swI (t := 535) e0_39 (by omega) h7 (by rw [h9]; rfl) rfl ?_
        refine w_ldA e0_535 (fun _ => rfl) rfl ?_
        refine w_ldA e0_536 (fun _ => rfl) rfl ?_
        refine w_ldI e0_537 (fun _ => rfl) rfl ?_
        refine w_kI e0_539 ?_
        refine w_iadd e0_540 ?_
        refine w_aldO e0_541 (lI_0 hL) (by omega) (by omega) (by omega) (fun q528 h529 hx530 => ?_)
        refine w_ldA e0_542 (fun _ => rfl) rfl ?_
        refine w_ldI e0_543 (fun _ => rfl) rfl ?_
        refine w_kI e0_545 ?_
        refine w_iadd e0_546 ?_
        refine w_aldO e0_547 (lI_0 hL) (by omega) (by omega) (by omega) (fun q531 h532 hx533 => ?_)
        refine w_oL e0_548 (fun _ => rfl) (fun l534 => ?_)
        refine w_kB e0_549 rfl ?_
        refine w_oL e0_551 (fun _ => rfl) (fun l535 => ?_)
        refine w_ldA e0_552 (fun _ => rfl) rfl ?_
        refine w_ldI e0_553 (fun _ => rfl) rfl ?_
        refine w_kI e0_555 ?_
        refine w_iadd e0_556 ?_
        refine w_aldO e0_557 (lI_0 hL) (by omega) (by omega) (by omega) (fun q536 h537 hx538 => ?_)
        refine w_oL e0_558 (fun _ => rfl) (fun l539 => ?_)
        refine w_oL e0_559 (fun _ => rfl) (fun l540 => ?_)
        refine w_oL e0_562 (fun _ => rfl) (fun l541 => ?_)
        refine w_oL e0_563 (fun _ => rfl) (fun l542 => ?_)
        obtain ⟨fs543, e544⟩ := lI_1 hL
        refine w_cv e0_564 (by decide) rfl e544 rfl (Nat.le_of_ble_eq_true rfl) (Nat.le_of_ble_eq_true rfl) (Nat.le_of_ble_eq_true rfl) (by decide) (by decide) (x55 hL h529) (fun o545 v546 hq547 => ?_)
        obtain ⟨⟨n548, p549, hr551, hL552⟩, q553, h554, rfl⟩ := hq547
        refine w_x e0_567 (fun _ => rfl) ?_
        refine w_ldA e0_568 (fun _ => rfl) rfl ?_
        refine w_ldA e0_569 (fun _ => rfl) rfl ?_
        refine w_ldI e0_570 (fun _ => rfl) rfl ?_
        refine w_kI e0_572 ?_
        refine w_iadd e0_573 ?_
        refine w_aldO e0_574 (lI_0 hL552) (by omega) (by omega) (by omega) (fun q555 h556 hx557 => ?_)
        refine w_ldA e0_575 (fun _ => rfl) rfl ?_
        refine w_ldI e0_576 (fun _ => rfl) rfl ?_
        refine w_kI e0_578 ?_
        refine w_iadd e0_579 ?_
        refine w_aldO e0_580 (lI_0 hL552) (by omega) (by omega) (by omega) (fun q558 h559 hx560 => ?_)
        refine w_oL e0_581 (fun _ => rfl) (fun l561 => ?_)
        refine w_kB e0_582 rfl ?_
        refine w_oL e0_584 (fun _ => rfl) (fun l562 => ?_)
        refine w_ldA e0_585 (fun _ => rfl) rfl ?_
        refine w_ldI e0_586 (fun _ => rfl) rfl ?_
        refine w_kI e0_588 ?_
        refine w_iadd e0_589 ?_
        refine w_aldO e0_590 (lI_0 hL552) (by omega) (by omega) (by omega) (fun q563 h564 hx565 => ?_)
        refine w_oL e0_591 (fun _ => rfl) (fun l566 => ?_)
        refine w_oL e0_592 (fun _ => rfl) (fun l567 => ?_)
        refine w_oL e0_595 (fun _ => rfl) (fun l568 => ?_)
        refine w_oL e0_596 (fun _ => rfl) (fun l569 => ?_)
        obtain ⟨fs570, e571⟩ := lI_238 hL552
        refine w_cv e0_597 (by decide) rfl e571 rfl (Nat.le_of_ble_eq_true rfl) (Nat.le_of_ble_eq_true rfl) (Nat.le_of_ble_eq_true rfl) (by decide) (by decide) (y117 hL552 h556) (fun o572 v573 hq574 => ?_)
        obtain ⟨⟨n575, p576, t577, hr578, hL579⟩, q580, h581, rfl⟩ := hq574
        refine w_x e0_600 (fun _ => rfl) ?_
        refine w_x e0_601 (fun _ => rfl) ?_
        refine w_iinc (A1 := [some (.ref 0), some (.ref 1), some (.ref 238), some (.ref 263), some (.int (vz (x4 + 5))), none, none, none]) e0_797 rfl (by decide) rfl ?_
        refine w_x e0_800 (fun _ => rfl) ?_
        have hnp582 : n575 = n548 ∧ p576 = p549 := by omega
        rw [hnp582.1, hnp582.2] at hL579
        exact w_sub (A1 := [some (.ref 0), some (.ref 1), some (.ref 238), some (.ref 263), some (.int (vz (x4 + 5))), none, none, none]) (And.intro rfl (And.intro rfl (And.intro rfl (And.intro rfl (And.intro rfl trivial))))) (w_end (fun ls hl => Or.inr (Or.inl ⟨rfl, rfl, hl, by omega, _, _, _, _, hL579⟩)))
      ·
        refine w_swI (t := 604) e0_39 (by omega) h7 (by rw [h9]; rfl) rfl ?_
        refine w_ldA e0_604 (fun _ => rfl) rfl ?_
        refine w_ldA e0_605 (fun _ => rfl) rfl ?_
        refine w_ldI e0_606 (fun _ => rfl) rfl ?_
        refine w_kI e0_608 ?_
        refine w_iadd e0_609 ?_
        refine w_aldO e0_610 (lI_0 hL) (by omega) (by omega) (by omega) (fun q583 h584 hx585 => ?_)
        refine w_ldA e0_611 (fun _ => rfl) rfl ?_
        refine w_ldI e0_612 (fun _ => rfl) rfl ?_
        refine w_kI e0_614 ?_
        refine w_iadd e0_615 ?_
        refine w_aldO e0_616 (lI_0 hL) (by omega) (by omega) (by omega) (fun q586 h587 hx588 => ?_)
        obtain ⟨fs589, e590⟩ := lI_1 hL
        refine w_cv e0_617 (by decide) rfl e590 rfl (Nat.le_of_ble_eq_true rfl) (Nat.le_of_ble_eq_true rfl) (Nat.le_of_ble_eq_true rfl) (by decide) (by decide) (x56 hL h584 h587) (fun o591 v592 hq593 => ?_)
        obtain ⟨⟨n594, p595, hr597, hL598⟩, q599, rfl⟩ := hq593
        refine w_x e0_620 (fun _ => rfl) ?_
        refine w_ldA e0_621 (fun _ => rfl) rfl ?_
        refine w_ldA e0_622 (fun _ => rfl) rfl ?_
        refine w_ldI e0_623 (fun _ => rfl) rfl ?_
        refine w_kI e0_625 ?_
        refine w_iadd e0_626 ?_
        refine w_aldO e0_627 (lI_0 hL598) (by omega) (by omega) (by omega) (fun q601 h602 hx603 => ?_)
        refine w_ldA e0_628 (fun _ => rfl) rfl ?_
        refine w_ldI e0_629 (fun _ => rfl) rfl ?_
        refine w_kI e0_631 ?_
        refine w_iadd e0_632 ?_
        refine w_aldO e0_633 (lI_0 hL598) (by omega) (by omega) (by omega) (fun q604 h605 hx606 => ?_)
        obtain ⟨fs607, e608⟩ := lI_238 hL598
        refine w_cv e0_634 (by decide) rfl e608 rfl (Nat.le_of_ble_eq_true rfl) (Nat.le_of_ble_eq_true rfl) (Nat.le_of_ble_eq_true rfl) (by decide) (by decide) (y120 hL598 h602 h605) (fun o609 v610 hq611 => ?_)
        obtain ⟨⟨n612, p613, t614, hr615, hL616⟩, q617, rfl⟩ := hq611
        refine w_x e0_637 (fun _ => rfl) ?_
        refine w_x e0_638 (fun _ => rfl) ?_
        refine w_iinc (A1 := [some (.ref 0), some (.ref 1), some (.ref 238), some (.ref 263), some (.int (vz (x4 + 5))), none, none, none]) e0_797 rfl (by decide) rfl ?_
        refine w_x e0_800 (fun _ => rfl) ?_
        have hnp619 : n612 = n594 ∧ p613 = p595 := by omega
        rw [hnp619.1, hnp619.2] at hL616
        exact w_sub (A1 := [some (.ref 0), some (.ref 1), some (.ref 238), some (.ref 263), some (.int (vz (x4 + 5))), none, none, none]) (And.intro rfl (And.intro rfl (And.intro rfl (And.intro rfl (And.intro rfl trivial))))) (w_end (fun ls hl => Or.inr (Or.inl ⟨rfl, rfl, hl, by omega, _, _, _, _, hL616⟩)))
      ·
        refine w_swI (t := 641) e0_39 (by omega) h7 (by rw [h9]; rfl) rfl ?_
        refine w_ldA e0_641 (fun _ => rfl) rfl ?_
        refine w_ldA e0_642 (fun _ => rfl) rfl ?_
        refine w_ldI e0_643 (fun _ => rfl) rfl ?_
        refine w_kI e0_645 ?_
        refine w_iadd e0_646 ?_
        refine w_aldO e0_647 (lI_0 hL) (by omega) (by omega) (by omega) (fun q620 h621 hx622 => ?_)
        obtain ⟨fs623, e624⟩ := lI_1 hL
        refine w_cv e0_648 (by decide) rfl e624 rfl (Nat.le_of_ble_eq_true rfl) (Nat.le_of_ble_eq_true rfl) (Nat.le_of_ble_eq_true rfl) (by decide) (by decide) (x57 hL h621) (fun o625 v626 hq627 => ?_)
        obtain ⟨⟨n628, p629, hr631, hL632⟩, q633, rfl⟩ := hq627
        refine w_x e0_651 (fun _ => rfl) ?_
        refine w_ldA e0_652 (fun _ => rfl) rfl ?_
        refine w_ldA e0_653 (fun _ => rfl) rfl ?_
        refine w_ldI e0_654 (fun _ => rfl) rfl ?_
        refine w_kI e0_656 ?_
        refine w_iadd e0_657 ?_
        refine w_aldO e0_658 (lI_0 hL632) (by omega) (by omega) (by omega) (fun q635 h636 hx637 => ?_)
        obtain ⟨fs638, e639⟩ := lI_238 hL632
        refine w_cv e0_659 (by decide) rfl e639 rfl (Nat.le_of_ble_eq_true rfl) (Nat.le_of_ble_eq_true rfl) (Nat.le_of_ble_eq_true rfl) (by decide) (by decide) (y121 hL632 h636) (fun o640 v641 hq642 => ?_)
        obtain ⟨⟨n643, p644, t645, hr646, hL647⟩, q648, rfl⟩ := hq642
        refine w_x e0_662 (fun _ => rfl) ?_
        refine w_x e0_663 (fun _ => rfl) ?_
        refine w_iinc (A1 := [some (.ref 0), some (.ref 1), some (.ref 238), some (.ref 263), some (.int (vz (x4 + 5))), none, none, none]) e0_797 rfl (by decide) rfl ?_
        refine w_x e0_800 (fun _ => rfl) ?_
        have hnp650 : n643 = n628 ∧ p644 = p629 := by omega
        rw [hnp650.1, hnp650.2] at hL647
        exact w_sub (A1 := [some (.ref 0), some (.ref 1), some (.ref 238), some (.ref 263), some (.int (vz (x4 + 5))), none, none, none]) (And.intro rfl (And.intro rfl (And.intro rfl (And.intro rfl (And.intro rfl trivial))))) (w_end (fun ls hl => Or.inr (Or.inl ⟨rfl, rfl, hl, by omega, _, _, _, _, hL647⟩)))
      ·
        refine w_swI (t := 666) e0_39 (by omega) h7 (by rw [h9]; rfl) rfl ?_
        refine w_ldA e0_666 (fun _ => rfl) rfl ?_
        refine w_ldA e0_667 (fun _ => rfl) rfl ?_
        refine w_ldI e0_668 (fun _ => rfl) rfl ?_
        refine w_kI e0_670 ?_
        refine w_iadd e0_671 ?_
        refine w_ald e0_672 (lI_0 hL) (by omega) (by omega) (by omega) ?_
        refine w_x e0_673 (fun _ => rfl) ?_
        refine w_kB e0_674 rfl ?_
        refine w_x e0_676 (fun _ => rfl) ?_
        refine w_ldA e0_677 (fun _ => rfl) rfl ?_
        refine w_ldI e0_678 (fun _ => rfl) rfl ?_
        refine w_kI e0_680 ?_
        refine w_iadd e0_681 ?_
        refine w_ald e0_682 (lI_0 hL) (by omega) (by omega) (by omega) ?_
        refine w_x e0_683 (fun _ => rfl) ?_
        refine w_x e0_684 (fun _ => rfl) ?_
        refine w_x e0_687 (fun _ => rfl) ?_
        refine w_x e0_688 (fun _ => rfl) ?_
        refine w_ldA e0_689 (fun _ => rfl) rfl ?_
        refine w_ldI e0_690 (fun _ => rfl) rfl ?_
        refine w_kI e0_692 ?_
        refine w_iadd e0_693 ?_
        refine w_ald e0_694 (lI_0 hL) (by omega) (by omega) (by omega) ?_
        refine w_x e0_695 (fun _ => rfl) ?_
        refine w_kB e0_696 rfl ?_
        refine w_x e0_698 (fun _ => rfl) ?_
        refine w_ldA e0_699 (fun _ => rfl) rfl ?_
        refine w_ldI e0_700 (fun _ => rfl) rfl ?_
        refine w_kI e0_702 ?_
        refine w_iadd e0_703 ?_
        refine w_ald e0_704 (lI_0 hL) (by omega) (by omega) (by omega) ?_
        refine w_x e0_705 (fun _ => rfl) ?_
        refine w_x e0_706 (fun _ => rfl) ?_
        refine w_x e0_709 (fun _ => rfl) ?_
        refine w_x e0_710 (fun _ => rfl) ?_
        refine w_ldA e0_711 (fun _ => rfl) rfl ?_
        show vm_Wp _ _ _ 712 _ [.ref 263, .long (laL (xs (x4 + 3).toNat) (xs (x4 + 4).toNat)), .long (laL (xs (x4 + 1).toNat) (xs (x4 + 2).toNat)), .ref 1] _ _
        exact w_end (fun ls hl => Or.inr (Or.inr ⟨rfl, rfl, hl, by omega, _, _, _, _, hL⟩))
set_option maxRecDepth 100000 in
set_option maxHeartbeats 8000000 in
theorem lw_psez {L : Nat} {xs : Nat → Int32} {vh : vm_H} {n p t : Int} {g : Int64} {x4 : Int} (hL : lI L xs vh n p n p t g) (h0 : 0 ≤ x4) (hx : x4 + 5 ≤ (L : Int)) (hl : L ≤ 2560) (hb : (laL (xs (x4 + 3).toNat) (xs (x4 + 4).toNat)) = 0) : vm_Wp 9 400 0 715 (lwA x4) [.int (vz 1)] vh (lwQ L xs x4) := by
  refine w_stI (j := 5) (A1 := [some (.ref 0), some (.ref 1), some (.ref 238), some (.ref 263), some (.int (vz x4)), some (.int (vz 1)), none, none]) e0_715 (fun _ => rfl) (by decide) rfl ?_
  refine w_ldA e0_717 (fun _ => rfl) rfl ?_
  refine w_ldA e0_718 (fun _ => rfl) rfl ?_
  refine w_ldI e0_719 (fun _ => rfl) rfl ?_
  refine w_kI e0_721 ?_
  refine w_iadd e0_722 ?_
  refine w_ald e0_723 (lI_0 hL) (by omega) (by omega) (by omega) ?_
  refine w_x e0_724 (fun _ => rfl) ?_
  refine w_kB e0_725 rfl ?_
  refine w_x e0_727 (fun _ => rfl) ?_
  refine w_ldA e0_728 (fun _ => rfl) rfl ?_
  refine w_ldI e0_729 (fun _ => rfl) rfl ?_
  refine w_kI e0_731 ?_
  refine w_iadd e0_732 ?_
  refine w_ald e0_733 (lI_0 hL) (by omega) (by omega) (by omega) ?_
  refine w_x e0_734 (fun _ => rfl) ?_
  refine w_x e0_735 (fun _ => rfl) ?_
  refine w_x e0_738 (fun _ => rfl) ?_
  refine w_x e0_739 (fun _ => rfl) ?_
  refine w_ldA e0_740 (fun _ => rfl) rfl ?_
  refine w_ldI e0_741 (fun _ => rfl) rfl ?_
  refine w_kI e0_743 ?_
  refine w_iadd e0_744 ?_
  refine w_ald e0_745 (lI_0 hL) (by omega) (by omega) (by omega) ?_
  refine w_x e0_746 (fun _ => rfl) ?_
  refine w_kB e0_747 rfl ?_
  refine w_x e0_749 (fun _ => rfl) ?_
  refine w_ldA e0_750 (fun _ => rfl) rfl ?_
  refine w_ldI e0_751 (fun _ => rfl) rfl ?_
  refine w_kI e0_753 ?_
  refine w_iadd e0_754 ?_
  refine w_ald e0_755 (lI_0 hL) (by omega) (by omega) (by omega) ?_
  refine w_x e0_756 (fun _ => rfl) ?_
  refine w_x e0_757 (fun _ => rfl) ?_
  refine w_x e0_760 (fun _ => rfl) ?_
  refine w_x e0_761 (fun _ => rfl) ?_
  obtain ⟨fs1, e2⟩ := lI_238 hL
  show vm_Wp _ _ _ 762 _ [.long (laL (xs (x4 + 3).toNat) (xs (x4 + 4).toNat)), .long (laL (xs (x4 + 1).toNat) (xs (x4 + 2).toNat)), .ref 238] _ _
  refine w_cv e0_762 (by decide) rfl e2 rfl (Nat.le_of_ble_eq_true rfl) (Nat.le_of_ble_eq_true rfl) (Nat.le_of_ble_eq_true rfl) (by decide) (by decide) (y122z hL _ _ hb) (fun o3 v4 hq5 => ?_)
  obtain ⟨hL6, l7, rfl⟩ := hq5
  refine w_stL (j := 6) (A1 := [some (.ref 0), some (.ref 1), some (.ref 238), some (.ref 263), some (.int (vz x4)), some (.int (vz 1)), some (.long l7), none]) e0_765 (fun _ => rfl) (by decide) rfl ?_
  refine w_ldA e0_767 (fun _ => rfl) rfl ?_
  obtain ⟨fs8, e9⟩ := lI_238 hL6
  refine w_cv e0_768 (by decide) rfl e9 rfl (Nat.le_of_ble_eq_true rfl) (Nat.le_of_ble_eq_true rfl) (Nat.le_of_ble_eq_true rfl) (by decide) (by decide) (y77 hL6) (fun o10 v11 hq12 => ?_)
  obtain ⟨rfl, rfl⟩ := hq12
  refine w_ldI e0_771 (fun _ => rfl) rfl ?_
  refine w_ic e0_773 (by omega) (by omega) (fun (h13 : 1 = 1) => ?_) (fun (h13 : 1 ≠ 1) => ?_)
  ·
    refine w_ldI e0_778 (fun _ => rfl) rfl ?_
    refine w_if e0_780 (by omega) (fun (h14 : 1 ≠ 0) => ?_) (fun (h14 : 1 = 0) => ?_)
    ·
      refine w_x e0_794 (fun _ => rfl) ?_
      refine w_iinc (A1 := [some (.ref 0), some (.ref 1), some (.ref 238), some (.ref 263), some (.int (vz (x4 + 5))), some (.int (vz 1)), some (.long l7), none]) e0_797 rfl (by decide) rfl ?_
      refine w_x e0_800 (fun _ => rfl) ?_
      have hnp15 : n = n ∧ p = p := by omega
      exact w_sub (A1 := [some (.ref 0), some (.ref 1), some (.ref 238), some (.ref 263), some (.int (vz (x4 + 5))), none, none, none]) (And.intro rfl (And.intro rfl (And.intro rfl (And.intro rfl (And.intro rfl trivial))))) (w_end (fun ls hl => ⟨rfl, rfl, hl, by omega, _, _, _, _, hL6⟩))
    ·
      refine w_ldA e0_783 (fun _ => rfl) rfl ?_
      refine w_kI e0_784 ?_
      obtain ⟨f16, e17, e18⟩ := lI_263 hL6
      refine w_lld e0_785 e17 (by omega) (by omega) (by decide) ?_
      refine w_ldL e0_786 (fun _ => rfl) rfl ?_
      refine w_lcmp e0_788 (fun q19 (h20 : -1 ≤ q19 ∧ q19 ≤ 1) h21 h22 => ?_)
      refine w_if e0_789 (by omega) (fun (h23 : q19 = 0) => ?_) (fun (h23 : q19 ≠ 0) => ?_)
      ·
        refine w_x e0_794 (fun _ => rfl) ?_
        refine w_iinc (A1 := [some (.ref 0), some (.ref 1), some (.ref 238), some (.ref 263), some (.int (vz (x4 + 5))), some (.int (vz 1)), some (.long l7), none]) e0_797 rfl (by decide) rfl ?_
        refine w_x e0_800 (fun _ => rfl) ?_
        have hnp24 : n = n ∧ p = p := by omega
        exact w_sub (A1 := [some (.ref 0), some (.ref 1), some (.ref 238), some (.ref 263), some (.int (vz (x4 + 5))), none, none, none]) (And.intro rfl (And.intro rfl (And.intro rfl (And.intro rfl (And.intro rfl trivial))))) (w_end (fun ls hl => ⟨rfl, rfl, hl, by omega, _, _, _, _, hL6⟩))
      ·
        refine w_kI e0_792 ?_
        exfalso; omega
  ·
    refine w_kI e0_776 ?_
    exfalso; omega
set_option maxRecDepth 100000 in
set_option maxHeartbeats 8000000 in
theorem lw_psen {L : Nat} {xs : Nat → Int32} {vh : vm_H} {n p t : Int} {g : Int64} {x4 : Int} (hL : lI L xs vh n p n p t g) (h0 : 0 ≤ x4) (hx : x4 + 5 ≤ (L : Int)) (hl : L ≤ 2560) (hb : ¬ (laL (xs (x4 + 3).toNat) (xs (x4 + 4).toNat)) = 0) (hg : g = (laL (xs (x4 + 1).toNat) (xs (x4 + 2).toNat)) <<< (Int32.toInt64 (Int8.ofInt 32).toInt32 &&& 63) / (laL (xs (x4 + 3).toNat) (xs (x4 + 4).toNat))) : vm_Wp 9 400 0 715 (lwA x4) [.int (vz 0)] vh (lwQ L xs x4) := by
  refine w_stI (j := 5) (A1 := [some (.ref 0), some (.ref 1), some (.ref 238), some (.ref 263), some (.int (vz x4)), some (.int (vz 0)), none, none]) e0_715 (fun _ => rfl) (by decide) rfl ?_
  refine w_ldA e0_717 (fun _ => rfl) rfl ?_
  refine w_ldA e0_718 (fun _ => rfl) rfl ?_
  refine w_ldI e0_719 (fun _ => rfl) rfl ?_
  refine w_kI e0_721 ?_
  refine w_iadd e0_722 ?_
  refine w_ald e0_723 (lI_0 hL) (by omega) (by omega) (by omega) ?_
  refine w_x e0_724 (fun _ => rfl) ?_
  refine w_kB e0_725 rfl ?_
  refine w_x e0_727 (fun _ => rfl) ?_
  refine w_ldA e0_728 (fun _ => rfl) rfl ?_
  refine w_ldI e0_729 (fun _ => rfl) rfl ?_
  refine w_kI e0_731 ?_
  refine w_iadd e0_732 ?_
  refine w_ald e0_733 (lI_0 hL) (by omega) (by omega) (by omega) ?_
  refine w_x e0_734 (fun _ => rfl) ?_
  refine w_x e0_735 (fun _ => rfl) ?_
  refine w_x e0_738 (fun _ => rfl) ?_
  refine w_x e0_739 (fun _ => rfl) ?_
  refine w_ldA e0_740 (fun _ => rfl) rfl ?_
  refine w_ldI e0_741 (fun _ => rfl) rfl ?_
  refine w_kI e0_743 ?_
  refine w_iadd e0_744 ?_
  refine w_ald e0_745 (lI_0 hL) (by omega) (by omega) (by omega) ?_
  refine w_x e0_746 (fun _ => rfl) ?_
  refine w_kB e0_747 rfl ?_
  refine w_x e0_749 (fun _ => rfl) ?_
  refine w_ldA e0_750 (fun _ => rfl) rfl ?_
  refine w_ldI e0_751 (fun _ => rfl) rfl ?_
  refine w_kI e0_753 ?_
  refine w_iadd e0_754 ?_
  refine w_ald e0_755 (lI_0 hL) (by omega) (by omega) (by omega) ?_
  refine w_x e0_756 (fun _ => rfl) ?_
  refine w_x e0_757 (fun _ => rfl) ?_
  refine w_x e0_760 (fun _ => rfl) ?_
  refine w_x e0_761 (fun _ => rfl) ?_
  obtain ⟨fs1, e2⟩ := lI_238 hL
  show vm_Wp _ _ _ 762 _ [.long (laL (xs (x4 + 3).toNat) (xs (x4 + 4).toNat)), .long (laL (xs (x4 + 1).toNat) (xs (x4 + 2).toNat)), .ref 238] _ _
  refine w_cv e0_762 (by decide) rfl e2 rfl (Nat.le_of_ble_eq_true rfl) (Nat.le_of_ble_eq_true rfl) (Nat.le_of_ble_eq_true rfl) (by decide) (by decide) (y122n hL _ _ hb) (fun o3 v4 hq5 => ?_)
  obtain ⟨hL6, rfl⟩ := hq5
  refine w_stL (j := 6) (A1 := [some (.ref 0), some (.ref 1), some (.ref 238), some (.ref 263), some (.int (vz x4)), some (.int (vz 0)), some (.long ((laL (xs (x4 + 1).toNat) (xs (x4 + 2).toNat)) <<< (Int32.toInt64 (Int8.ofInt 32).toInt32 &&& 63) / (laL (xs (x4 + 3).toNat) (xs (x4 + 4).toNat)))), none]) e0_765 (fun _ => rfl) (by decide) rfl ?_
  refine w_ldA e0_767 (fun _ => rfl) rfl ?_
  obtain ⟨fs7, e8⟩ := lI_238 hL6
  refine w_cv e0_768 (by decide) rfl e8 rfl (Nat.le_of_ble_eq_true rfl) (Nat.le_of_ble_eq_true rfl) (Nat.le_of_ble_eq_true rfl) (by decide) (by decide) (y77 hL6) (fun o9 v10 hq11 => ?_)
  obtain ⟨rfl, rfl⟩ := hq11
  refine w_ldI e0_771 (fun _ => rfl) rfl ?_
  refine w_ic e0_773 (by omega) (by omega) (fun (h12 : 0 = 0) => ?_) (fun (h12 : 0 ≠ 0) => ?_)
  ·
    refine w_ldI e0_778 (fun _ => rfl) rfl ?_
    refine w_if e0_780 (by omega) (fun (h13 : 0 ≠ 0) => ?_) (fun (h13 : 0 = 0) => ?_)
    ·
      refine w_x e0_794 (fun _ => rfl) ?_
      refine w_iinc (A1 := [some (.ref 0), some (.ref 1), some (.ref 238), some (.ref 263), some (.int (vz (x4 + 5))), some (.int (vz 0)), some (.long ((laL (xs (x4 + 1).toNat) (xs (x4 + 2).toNat)) <<< (Int32.toInt64 (Int8.ofInt 32).toInt32 &&& 63) / (laL (xs (x4 + 3).toNat) (xs (x4 + 4).toNat)))), none]) e0_797 rfl (by decide) rfl ?_
      refine w_x e0_800 (fun _ => rfl) ?_
      have hnp14 : n = n ∧ p = p := by omega
      exact w_sub (A1 := [some (.ref 0), some (.ref 1), some (.ref 238), some (.ref 263), some (.int (vz (x4 + 5))), none, none, none]) (And.intro rfl (And.intro rfl (And.intro rfl (And.intro rfl (And.intro rfl trivial))))) (w_end (fun ls hl => ⟨rfl, rfl, hl, by omega, _, _, _, _, hL6⟩))
    ·
      refine w_ldA e0_783 (fun _ => rfl) rfl ?_
      refine w_kI e0_784 ?_
      obtain ⟨f15, e16, e17⟩ := lI_263 hL6
      refine w_lld e0_785 e16 (by omega) (by omega) (by decide) ?_
      refine w_ldL e0_786 (fun _ => rfl) rfl ?_
      refine w_lcmp e0_788 (fun q18 (h19 : -1 ≤ q18 ∧ q18 ≤ 1) h20 h21 => ?_)
      refine w_if e0_789 (by omega) (fun (h22 : q18 = 0) => ?_) (fun (h22 : q18 ≠ 0) => ?_)
      ·
        have hz23 := h20.mpr (e17.trans hg)
        refine w_x e0_794 (fun _ => rfl) ?_
        refine w_iinc (A1 := [some (.ref 0), some (.ref 1), some (.ref 238), some (.ref 263), some (.int (vz (x4 + 5))), some (.int (vz 0)), some (.long ((laL (xs (x4 + 1).toNat) (xs (x4 + 2).toNat)) <<< (Int32.toInt64 (Int8.ofInt 32).toInt32 &&& 63) / (laL (xs (x4 + 3).toNat) (xs (x4 + 4).toNat)))), none]) e0_797 rfl (by decide) rfl ?_
        refine w_x e0_800 (fun _ => rfl) ?_
        have hnp24 : n = n ∧ p = p := by omega
        exact w_sub (A1 := [some (.ref 0), some (.ref 1), some (.ref 238), some (.ref 263), some (.int (vz (x4 + 5))), none, none, none]) (And.intro rfl (And.intro rfl (And.intro rfl (And.intro rfl (And.intro rfl trivial))))) (w_end (fun ls hl => ⟨rfl, rfl, hl, by omega, _, _, _, _, hL6⟩))
      ·
        have hz25 := h20.mpr (e17.trans hg)
        refine w_kI e0_792 ?_
        exfalso; omega
  ·
    refine w_kI e0_776 ?_
    exfalso; omega
