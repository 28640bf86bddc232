/-! the law's own code -/
theorem d_Lw_law_0 : decode code 0 = .ok (.new 8, 3) := by decide +kernel
theorem d_Lw_law_3 : decode code 3 = .ok (.dup, 1) := by decide +kernel
theorem d_Lw_law_4 : decode code 4 = .ok (.aload_n 0, 1) := by decide +kernel
theorem d_Lw_law_5 : decode code 5 = .ok (.iconst 0, 1) := by decide +kernel
theorem d_Lw_law_6 : decode code 6 = .ok (.invokestatic 29, 3) := by decide +kernel
theorem d_Lw_law_9 : decode code 9 = .ok (.invokespecial 35, 3) := by decide +kernel
theorem d_Lw_law_12 : decode code 12 = .ok (.astore_n 1, 1) := by decide +kernel
theorem d_Lw_law_13 : decode code 13 = .ok (.new 38, 3) := by decide +kernel
theorem d_Lw_law_16 : decode code 16 = .ok (.dup, 1) := by decide +kernel
theorem d_Lw_law_17 : decode code 17 = .ok (.aload_n 0, 1) := by decide +kernel
theorem d_Lw_law_18 : decode code 18 = .ok (.iconst 0, 1) := by decide +kernel
theorem d_Lw_law_19 : decode code 19 = .ok (.invokestatic 29, 3) := by decide +kernel
theorem d_Lw_law_22 : decode code 22 = .ok (.invokespecial 40, 3) := by decide +kernel
theorem d_Lw_law_25 : decode code 25 = .ok (.astore_n 2, 1) := by decide +kernel
theorem d_Lw_law_26 : decode code 26 = .ok (.iconst 1, 1) := by decide +kernel
theorem d_Lw_law_27 : decode code 27 = .ok (.newarray .long, 2) := by decide +kernel
theorem d_Lw_law_29 : decode code 29 = .ok (.astore_n 3, 1) := by decide +kernel
theorem d_Lw_law_30 : decode code 30 = .ok (.iconst 1, 1) := by decide +kernel
theorem d_Lw_law_31 : decode code 31 = .ok (.istore 4, 2) := by decide +kernel
theorem d_Lw_law_33 : decode code 33 = .ok (.iload 4, 2) := by decide +kernel
theorem d_Lw_law_35 : decode code 35 = .ok (.aload_n 0, 1) := by decide +kernel
theorem d_Lw_law_36 : decode code 36 = .ok (.arraylength, 1) := by decide +kernel
theorem d_Lw_law_37 : decode code 37 = .ok (.bipush 9, 2) := by decide +kernel
theorem d_Lw_law_39 : decode code 39 = .ok (.isub, 1) := by decide +kernel
theorem d_Lw_law_40 : decode code 40 = .ok (.if_icmp .gt 924, 3) := by decide +kernel
theorem d_Lw_law_43 : decode code 43 = .ok (.aload_n 0, 1) := by decide +kernel
theorem d_Lw_law_44 : decode code 44 = .ok (.iload 4, 2) := by decide +kernel
theorem d_Lw_law_46 : decode code 46 = .ok (.iaload, 1) := by decide +kernel
theorem d_Lw_law_47 : decode code 47 = .ok (.bipush 31, 2) := by decide +kernel
theorem d_Lw_law_49 : decode code 49 = .ok (.iand, 1) := by decide +kernel
theorem d_Lw_law_50 : decode code 50 = .ok (.tableswitch 908 0 17 #[86, 201, 305, 364, 439, 464, 513, 526, 539, 576, 625, 674, 794, 819, 844, 857, 882, 895], 86) := by decide +kernel
theorem d_Lw_law_136 : decode code 136 = .ok (.aload_n 1, 1) := by decide +kernel
theorem d_Lw_law_137 : decode code 137 = .ok (.aload_n 0, 1) := by decide +kernel
theorem d_Lw_law_138 : decode code 138 = .ok (.iload 4, 2) := by decide +kernel
theorem d_Lw_law_140 : decode code 140 = .ok (.iconst 1, 1) := by decide +kernel
theorem d_Lw_law_141 : decode code 141 = .ok (.iadd, 1) := by decide +kernel
theorem d_Lw_law_142 : decode code 142 = .ok (.iaload, 1) := by decide +kernel
theorem d_Lw_law_143 : decode code 143 = .ok (.aload_n 0, 1) := by decide +kernel
theorem d_Lw_law_144 : decode code 144 = .ok (.iload 4, 2) := by decide +kernel
theorem d_Lw_law_146 : decode code 146 = .ok (.iconst 2, 1) := by decide +kernel
theorem d_Lw_law_147 : decode code 147 = .ok (.iadd, 1) := by decide +kernel
theorem d_Lw_law_148 : decode code 148 = .ok (.iaload, 1) := by decide +kernel
theorem d_Lw_law_149 : decode code 149 = .ok (.aload_n 0, 1) := by decide +kernel
theorem d_Lw_law_150 : decode code 150 = .ok (.iload 4, 2) := by decide +kernel
theorem d_Lw_law_152 : decode code 152 = .ok (.iconst 3, 1) := by decide +kernel
theorem d_Lw_law_153 : decode code 153 = .ok (.iadd, 1) := by decide +kernel
theorem d_Lw_law_154 : decode code 154 = .ok (.iaload, 1) := by decide +kernel
theorem d_Lw_law_155 : decode code 155 = .ok (.aload_n 0, 1) := by decide +kernel
theorem d_Lw_law_156 : decode code 156 = .ok (.iload 4, 2) := by decide +kernel
theorem d_Lw_law_158 : decode code 158 = .ok (.iconst 4, 1) := by decide +kernel
theorem d_Lw_law_159 : decode code 159 = .ok (.iadd, 1) := by decide +kernel
theorem d_Lw_law_160 : decode code 160 = .ok (.iaload, 1) := by decide +kernel
theorem d_Lw_law_161 : decode code 161 = .ok (.aload_n 0, 1) := by decide +kernel
theorem d_Lw_law_162 : decode code 162 = .ok (.iload 4, 2) := by decide +kernel
theorem d_Lw_law_164 : decode code 164 = .ok (.iconst 5, 1) := by decide +kernel
theorem d_Lw_law_165 : decode code 165 = .ok (.iadd, 1) := by decide +kernel
theorem d_Lw_law_166 : decode code 166 = .ok (.iaload, 1) := by decide +kernel
theorem d_Lw_law_167 : decode code 167 = .ok (.aload_n 0, 1) := by decide +kernel
theorem d_Lw_law_168 : decode code 168 = .ok (.iload 4, 2) := by decide +kernel
theorem d_Lw_law_170 : decode code 170 = .ok (.bipush 6, 2) := by decide +kernel
theorem d_Lw_law_172 : decode code 172 = .ok (.iadd, 1) := by decide +kernel
theorem d_Lw_law_173 : decode code 173 = .ok (.iaload, 1) := by decide +kernel
theorem d_Lw_law_174 : decode code 174 = .ok (.aload_n 0, 1) := by decide +kernel
theorem d_Lw_law_175 : decode code 175 = .ok (.iload 4, 2) := by decide +kernel
theorem d_Lw_law_177 : decode code 177 = .ok (.bipush 7, 2) := by decide +kernel
theorem d_Lw_law_179 : decode code 179 = .ok (.iadd, 1) := by decide +kernel
theorem d_Lw_law_180 : decode code 180 = .ok (.iaload, 1) := by decide +kernel
theorem d_Lw_law_181 : decode code 181 = .ok (.aload_n 0, 1) := by decide +kernel
theorem d_Lw_law_182 : decode code 182 = .ok (.iload 4, 2) := by decide +kernel
theorem d_Lw_law_184 : decode code 184 = .ok (.bipush 8, 2) := by decide +kernel
theorem d_Lw_law_186 : decode code 186 = .ok (.iadd, 1) := by decide +kernel
theorem d_Lw_law_187 : decode code 187 = .ok (.iaload, 1) := by decide +kernel
theorem d_Lw_law_188 : decode code 188 = .ok (.invokevirtual 41, 3) := by decide +kernel
theorem d_Lw_law_191 : decode code 191 = .ok (.aload_n 2, 1) := by decide +kernel
theorem d_Lw_law_192 : decode code 192 = .ok (.aload_n 0, 1) := by decide +kernel
theorem d_Lw_law_193 : decode code 193 = .ok (.iload 4, 2) := by decide +kernel
theorem d_Lw_law_195 : decode code 195 = .ok (.iconst 1, 1) := by decide +kernel
theorem d_Lw_law_196 : decode code 196 = .ok (.iadd, 1) := by decide +kernel
theorem d_Lw_law_197 : decode code 197 = .ok (.iaload, 1) := by decide +kernel
theorem d_Lw_law_198 : decode code 198 = .ok (.aload_n 0, 1) := by decide +kernel
theorem d_Lw_law_199 : decode code 199 = .ok (.iload 4, 2) := by decide +kernel
theorem d_Lw_law_201 : decode code 201 = .ok (.iconst 2, 1) := by decide +kernel
theorem d_Lw_law_202 : decode code 202 = .ok (.iadd, 1) := by decide +kernel
theorem d_Lw_law_203 : decode code 203 = .ok (.iaload, 1) := by decide +kernel
theorem d_Lw_law_204 : decode code 204 = .ok (.aload_n 0, 1) := by decide +kernel
theorem d_Lw_law_205 : decode code 205 = .ok (.iload 4, 2) := by decide +kernel
theorem d_Lw_law_207 : decode code 207 = .ok (.iconst 3, 1) := by decide +kernel
theorem d_Lw_law_208 : decode code 208 = .ok (.iadd, 1) := by decide +kernel
theorem d_Lw_law_209 : decode code 209 = .ok (.iaload, 1) := by decide +kernel
theorem d_Lw_law_210 : decode code 210 = .ok (.aload_n 0, 1) := by decide +kernel
theorem d_Lw_law_211 : decode code 211 = .ok (.iload 4, 2) := by decide +kernel
theorem d_Lw_law_213 : decode code 213 = .ok (.iconst 4, 1) := by decide +kernel
theorem d_Lw_law_214 : decode code 214 = .ok (.iadd, 1) := by decide +kernel
theorem d_Lw_law_215 : decode code 215 = .ok (.iaload, 1) := by decide +kernel
theorem d_Lw_law_216 : decode code 216 = .ok (.aload_n 0, 1) := by decide +kernel
theorem d_Lw_law_217 : decode code 217 = .ok (.iload 4, 2) := by decide +kernel
theorem d_Lw_law_219 : decode code 219 = .ok (.iconst 5, 1) := by decide +kernel
theorem d_Lw_law_220 : decode code 220 = .ok (.iadd, 1) := by decide +kernel
theorem d_Lw_law_221 : decode code 221 = .ok (.iaload, 1) := by decide +kernel
theorem d_Lw_law_222 : decode code 222 = .ok (.aload_n 0, 1) := by decide +kernel
theorem d_Lw_law_223 : decode code 223 = .ok (.iload 4, 2) := by decide +kernel
theorem d_Lw_law_225 : decode code 225 = .ok (.bipush 6, 2) := by decide +kernel
theorem d_Lw_law_227 : decode code 227 = .ok (.iadd, 1) := by decide +kernel
theorem d_Lw_law_228 : decode code 228 = .ok (.iaload, 1) := by decide +kernel
theorem d_Lw_law_229 : decode code 229 = .ok (.aload_n 0, 1) := by decide +kernel
theorem d_Lw_law_230 : decode code 230 = .ok (.iload 4, 2) := by decide +kernel
theorem d_Lw_law_232 : decode code 232 = .ok (.bipush 7, 2) := by decide +kernel
theorem d_Lw_law_234 : decode code 234 = .ok (.iadd, 1) := by decide +kernel
theorem d_Lw_law_235 : decode code 235 = .ok (.iaload, 1) := by decide +kernel
theorem d_Lw_law_236 : decode code 236 = .ok (.aload_n 0, 1) := by decide +kernel
theorem d_Lw_law_237 : decode code 237 = .ok (.iload 4, 2) := by decide +kernel
theorem d_Lw_law_239 : decode code 239 = .ok (.bipush 8, 2) := by decide +kernel
theorem d_Lw_law_241 : decode code 241 = .ok (.iadd, 1) := by decide +kernel
theorem d_Lw_law_242 : decode code 242 = .ok (.iaload, 1) := by decide +kernel
theorem d_Lw_law_243 : decode code 243 = .ok (.invokevirtual 45, 3) := by decide +kernel
theorem d_Lw_law_246 : decode code 246 = .ok (.if_icmp .eq 712, 3) := by decide +kernel
theorem d_Lw_law_249 : decode code 249 = .ok (.iconst 0, 1) := by decide +kernel
theorem d_Lw_law_250 : decode code 250 = .ok (.ireturn, 1) := by decide +kernel
theorem d_Lw_law_251 : decode code 251 = .ok (.aload_n 1, 1) := by decide +kernel
theorem d_Lw_law_252 : decode code 252 = .ok (.aload_n 0, 1) := by decide +kernel
theorem d_Lw_law_253 : decode code 253 = .ok (.iload 4, 2) := by decide +kernel
theorem d_Lw_law_255 : decode code 255 = .ok (.iconst 1, 1) := by decide +kernel
theorem d_Lw_law_256 : decode code 256 = .ok (.iadd, 1) := by decide +kernel
theorem d_Lw_law_257 : decode code 257 = .ok (.iaload, 1) := by decide +kernel
theorem d_Lw_law_258 : decode code 258 = .ok (.aload_n 0, 1) := by decide +kernel
theorem d_Lw_law_259 : decode code 259 = .ok (.iload 4, 2) := by decide +kernel
theorem d_Lw_law_261 : decode code 261 = .ok (.iconst 2, 1) := by decide +kernel
theorem d_Lw_law_262 : decode code 262 = .ok (.iadd, 1) := by decide +kernel
theorem d_Lw_law_263 : decode code 263 = .ok (.iaload, 1) := by decide +kernel
theorem d_Lw_law_264 : decode code 264 = .ok (.aload_n 0, 1) := by decide +kernel
theorem d_Lw_law_265 : decode code 265 = .ok (.iload 4, 2) := by decide +kernel
theorem d_Lw_law_267 : decode code 267 = .ok (.iconst 3, 1) := by decide +kernel
theorem d_Lw_law_268 : decode code 268 = .ok (.iadd, 1) := by decide +kernel
theorem d_Lw_law_269 : decode code 269 = .ok (.iaload, 1) := by decide +kernel
theorem d_Lw_law_270 : decode code 270 = .ok (.aload_n 0, 1) := by decide +kernel
theorem d_Lw_law_271 : decode code 271 = .ok (.iload 4, 2) := by decide +kernel
theorem d_Lw_law_273 : decode code 273 = .ok (.iconst 4, 1) := by decide +kernel
theorem d_Lw_law_274 : decode code 274 = .ok (.iadd, 1) := by decide +kernel
theorem d_Lw_law_275 : decode code 275 = .ok (.iaload, 1) := by decide +kernel
theorem d_Lw_law_276 : decode code 276 = .ok (.aload_n 0, 1) := by decide +kernel
theorem d_Lw_law_277 : decode code 277 = .ok (.iload 4, 2) := by decide +kernel
theorem d_Lw_law_279 : decode code 279 = .ok (.iconst 5, 1) := by decide +kernel
theorem d_Lw_law_280 : decode code 280 = .ok (.iadd, 1) := by decide +kernel
theorem d_Lw_law_281 : decode code 281 = .ok (.iaload, 1) := by decide +kernel
theorem d_Lw_law_282 : decode code 282 = .ok (.aload_n 3, 1) := by decide +kernel
theorem d_Lw_law_283 : decode code 283 = .ok (.invokestatic 46, 3) := by decide +kernel
theorem d_Lw_law_286 : decode code 286 = .ok (.istore 5, 2) := by decide +kernel
theorem d_Lw_law_288 : decode code 288 = .ok (.aload_n 2, 1) := by decide +kernel
theorem d_Lw_law_289 : decode code 289 = .ok (.aload_n 0, 1) := by decide +kernel
theorem d_Lw_law_290 : decode code 290 = .ok (.iload 4, 2) := by decide +kernel
theorem d_Lw_law_292 : decode code 292 = .ok (.iconst 1, 1) := by decide +kernel
theorem d_Lw_law_293 : decode code 293 = .ok (.iadd, 1) := by decide +kernel
theorem d_Lw_law_294 : decode code 294 = .ok (.iaload, 1) := by decide +kernel
theorem d_Lw_law_295 : decode code 295 = .ok (.aload_n 0, 1) := by decide +kernel
theorem d_Lw_law_296 : decode code 296 = .ok (.iload 4, 2) := by decide +kernel
theorem d_Lw_law_298 : decode code 298 = .ok (.iconst 2, 1) := by decide +kernel
theorem d_Lw_law_299 : decode code 299 = .ok (.iadd, 1) := by decide +kernel
theorem d_Lw_law_300 : decode code 300 = .ok (.iaload, 1) := by decide +kernel
theorem d_Lw_law_301 : decode code 301 = .ok (.aload_n 0, 1) := by decide +kernel
theorem d_Lw_law_302 : decode code 302 = .ok (.iload 4, 2) := by decide +kernel
theorem d_Lw_law_304 : decode code 304 = .ok (.iconst 3, 1) := by decide +kernel
theorem d_Lw_law_305 : decode code 305 = .ok (.iadd, 1) := by decide +kernel
theorem d_Lw_law_306 : decode code 306 = .ok (.iaload, 1) := by decide +kernel
theorem d_Lw_law_307 : decode code 307 = .ok (.aload_n 0, 1) := by decide +kernel
theorem d_Lw_law_308 : decode code 308 = .ok (.iload 4, 2) := by decide +kernel
theorem d_Lw_law_310 : decode code 310 = .ok (.iconst 4, 1) := by decide +kernel
theorem d_Lw_law_311 : decode code 311 = .ok (.iadd, 1) := by decide +kernel
theorem d_Lw_law_312 : decode code 312 = .ok (.iaload, 1) := by decide +kernel
theorem d_Lw_law_313 : decode code 313 = .ok (.aload_n 0, 1) := by decide +kernel
theorem d_Lw_law_314 : decode code 314 = .ok (.iload 4, 2) := by decide +kernel
theorem d_Lw_law_316 : decode code 316 = .ok (.iconst 5, 1) := by decide +kernel
theorem d_Lw_law_317 : decode code 317 = .ok (.iadd, 1) := by decide +kernel
theorem d_Lw_law_318 : decode code 318 = .ok (.iaload, 1) := by decide +kernel
theorem d_Lw_law_319 : decode code 319 = .ok (.invokevirtual 49, 3) := by decide +kernel
theorem d_Lw_law_322 : decode code 322 = .ok (.istore 6, 2) := by decide +kernel
theorem d_Lw_law_324 : decode code 324 = .ok (.aload_n 2, 1) := by decide +kernel
theorem d_Lw_law_325 : decode code 325 = .ok (.invokevirtual 50, 3) := by decide +kernel
theorem d_Lw_law_328 : decode code 328 = .ok (.iload 5, 2) := by decide +kernel
theorem d_Lw_law_330 : decode code 330 = .ok (.if_icmp .eq 5, 3) := by decide +kernel
theorem d_Lw_law_333 : decode code 333 = .ok (.iconst 0, 1) := by decide +kernel
theorem d_Lw_law_334 : decode code 334 = .ok (.ireturn, 1) := by decide +kernel
theorem d_Lw_law_335 : decode code 335 = .ok (.iload 5, 2) := by decide +kernel
theorem d_Lw_law_337 : decode code 337 = .ok (.ifCond .ne 15, 3) := by decide +kernel
theorem d_Lw_law_340 : decode code 340 = .ok (.aload_n 3, 1) := by decide +kernel
theorem d_Lw_law_341 : decode code 341 = .ok (.iconst 0, 1) := by decide +kernel
theorem d_Lw_law_342 : decode code 342 = .ok (.laload, 1) := by decide +kernel
theorem d_Lw_law_343 : decode code 343 = .ok (.iload 6, 2) := by decide +kernel
theorem d_Lw_law_345 : decode code 345 = .ok (.i2l, 1) := by decide +kernel
theorem d_Lw_law_346 : decode code 346 = .ok (.lcmp, 1) := by decide +kernel
theorem d_Lw_law_347 : decode code 347 = .ok (.ifCond .eq 5, 3) := by decide +kernel
theorem d_Lw_law_350 : decode code 350 = .ok (.iconst 0, 1) := by decide +kernel
theorem d_Lw_law_351 : decode code 351 = .ok (.ireturn, 1) := by decide +kernel
theorem d_Lw_law_352 : decode code 352 = .ok (.goto 606, 3) := by decide +kernel
theorem d_Lw_law_355 : decode code 355 = .ok (.aload_n 1, 1) := by decide +kernel
theorem d_Lw_law_356 : decode code 356 = .ok (.aload_n 0, 1) := by decide +kernel
theorem d_Lw_law_357 : decode code 357 = .ok (.iload 4, 2) := by decide +kernel
theorem d_Lw_law_359 : decode code 359 = .ok (.iconst 1, 1) := by decide +kernel
theorem d_Lw_law_360 : decode code 360 = .ok (.iadd, 1) := by decide +kernel
theorem d_Lw_law_361 : decode code 361 = .ok (.iaload, 1) := by decide +kernel
theorem d_Lw_law_362 : decode code 362 = .ok (.aload_n 0, 1) := by decide +kernel
theorem d_Lw_law_363 : decode code 363 = .ok (.iload 4, 2) := by decide +kernel
theorem d_Lw_law_365 : decode code 365 = .ok (.iconst 2, 1) := by decide +kernel
theorem d_Lw_law_366 : decode code 366 = .ok (.iadd, 1) := by decide +kernel
theorem d_Lw_law_367 : decode code 367 = .ok (.iaload, 1) := by decide +kernel
theorem d_Lw_law_368 : decode code 368 = .ok (.aload_n 0, 1) := by decide +kernel
theorem d_Lw_law_369 : decode code 369 = .ok (.iload 4, 2) := by decide +kernel
theorem d_Lw_law_371 : decode code 371 = .ok (.iconst 3, 1) := by decide +kernel
theorem d_Lw_law_372 : decode code 372 = .ok (.iadd, 1) := by decide +kernel
theorem d_Lw_law_373 : decode code 373 = .ok (.iaload, 1) := by decide +kernel
theorem d_Lw_law_374 : decode code 374 = .ok (.aload_n 0, 1) := by decide +kernel
theorem d_Lw_law_375 : decode code 375 = .ok (.iload 4, 2) := by decide +kernel
theorem d_Lw_law_377 : decode code 377 = .ok (.iconst 4, 1) := by decide +kernel
theorem d_Lw_law_378 : decode code 378 = .ok (.iadd, 1) := by decide +kernel
theorem d_Lw_law_379 : decode code 379 = .ok (.iaload, 1) := by decide +kernel
theorem d_Lw_law_380 : decode code 380 = .ok (.invokevirtual 54, 3) := by decide +kernel
theorem d_Lw_law_383 : decode code 383 = .ok (.aload_n 2, 1) := by decide +kernel
theorem d_Lw_law_384 : decode code 384 = .ok (.aload_n 0, 1) := by decide +kernel
theorem d_Lw_law_385 : decode code 385 = .ok (.iload 4, 2) := by decide +kernel
theorem d_Lw_law_387 : decode code 387 = .ok (.iconst 1, 1) := by decide +kernel
theorem d_Lw_law_388 : decode code 388 = .ok (.iadd, 1) := by decide +kernel
theorem d_Lw_law_389 : decode code 389 = .ok (.iaload, 1) := by decide +kernel
theorem d_Lw_law_390 : decode code 390 = .ok (.aload_n 0, 1) := by decide +kernel
theorem d_Lw_law_391 : decode code 391 = .ok (.iload 4, 2) := by decide +kernel
theorem d_Lw_law_393 : decode code 393 = .ok (.iconst 2, 1) := by decide +kernel
theorem d_Lw_law_394 : decode code 394 = .ok (.iadd, 1) := by decide +kernel
theorem d_Lw_law_395 : decode code 395 = .ok (.iaload, 1) := by decide +kernel
theorem d_Lw_law_396 : decode code 396 = .ok (.aload_n 0, 1) := by decide +kernel
theorem d_Lw_law_397 : decode code 397 = .ok (.iload 4, 2) := by decide +kernel
theorem d_Lw_law_399 : decode code 399 = .ok (.iconst 3, 1) := by decide +kernel
theorem d_Lw_law_400 : decode code 400 = .ok (.iadd, 1) := by decide +kernel
theorem d_Lw_law_401 : decode code 401 = .ok (.iaload, 1) := by decide +kernel
theorem d_Lw_law_402 : decode code 402 = .ok (.aload_n 0, 1) := by decide +kernel
theorem d_Lw_law_403 : decode code 403 = .ok (.iload 4, 2) := by decide +kernel
theorem d_Lw_law_405 : decode code 405 = .ok (.iconst 4, 1) := by decide +kernel
theorem d_Lw_law_406 : decode code 406 = .ok (.iadd, 1) := by decide +kernel
theorem d_Lw_law_407 : decode code 407 = .ok (.iaload, 1) := by decide +kernel
theorem d_Lw_law_408 : decode code 408 = .ok (.invokevirtual 58, 3) := by decide +kernel
theorem d_Lw_law_411 : decode code 411 = .ok (.goto 547, 3) := by decide +kernel
theorem d_Lw_law_414 : decode code 414 = .ok (.aload_n 1, 1) := by decide +kernel
theorem d_Lw_law_415 : decode code 415 = .ok (.aload_n 0, 1) := by decide +kernel
theorem d_Lw_law_416 : decode code 416 = .ok (.iload 4, 2) := by decide +kernel
theorem d_Lw_law_418 : decode code 418 = .ok (.iconst 1, 1) := by decide +kernel
theorem d_Lw_law_419 : decode code 419 = .ok (.iadd, 1) := by decide +kernel
theorem d_Lw_law_420 : decode code 420 = .ok (.iaload, 1) := by decide +kernel
theorem d_Lw_law_421 : decode code 421 = .ok (.aload_n 0, 1) := by decide +kernel
theorem d_Lw_law_422 : decode code 422 = .ok (.iload 4, 2) := by decide +kernel
theorem d_Lw_law_424 : decode code 424 = .ok (.iconst 2, 1) := by decide +kernel
theorem d_Lw_law_425 : decode code 425 = .ok (.iadd, 1) := by decide +kernel
theorem d_Lw_law_426 : decode code 426 = .ok (.iaload, 1) := by decide +kernel
theorem d_Lw_law_427 : decode code 427 = .ok (.aload_n 3, 1) := by decide +kernel
theorem d_Lw_law_428 : decode code 428 = .ok (.invokestatic 59, 3) := by decide +kernel
theorem d_Lw_law_431 : decode code 431 = .ok (.istore 5, 2) := by decide +kernel
theorem d_Lw_law_433 : decode code 433 = .ok (.aload_n 2, 1) := by decide +kernel
theorem d_Lw_law_434 : decode code 434 = .ok (.aload_n 0, 1) := by decide +kernel
theorem d_Lw_law_435 : decode code 435 = .ok (.iload 4, 2) := by decide +kernel
theorem d_Lw_law_437 : decode code 437 = .ok (.iconst 1, 1) := by decide +kernel
theorem d_Lw_law_438 : decode code 438 = .ok (.iadd, 1) := by decide +kernel
theorem d_Lw_law_439 : decode code 439 = .ok (.iaload, 1) := by decide +kernel
theorem d_Lw_law_440 : decode code 440 = .ok (.aload_n 0, 1) := by decide +kernel
theorem d_Lw_law_441 : decode code 441 = .ok (.iload 4, 2) := by decide +kernel
theorem d_Lw_law_443 : decode code 443 = .ok (.iconst 2, 1) := by decide +kernel
theorem d_Lw_law_444 : decode code 444 = .ok (.iadd, 1) := by decide +kernel
theorem d_Lw_law_445 : decode code 445 = .ok (.iaload, 1) := by decide +kernel
theorem d_Lw_law_446 : decode code 446 = .ok (.invokevirtual 62, 3) := by decide +kernel
theorem d_Lw_law_449 : decode code 449 = .ok (.istore 6, 2) := by decide +kernel
theorem d_Lw_law_451 : decode code 451 = .ok (.aload_n 2, 1) := by decide +kernel
theorem d_Lw_law_452 : decode code 452 = .ok (.invokevirtual 50, 3) := by decide +kernel
theorem d_Lw_law_455 : decode code 455 = .ok (.iload 5, 2) := by decide +kernel
theorem d_Lw_law_457 : decode code 457 = .ok (.if_icmp .eq 5, 3) := by decide +kernel
theorem d_Lw_law_460 : decode code 460 = .ok (.iconst 0, 1) := by decide +kernel
theorem d_Lw_law_461 : decode code 461 = .ok (.ireturn, 1) := by decide +kernel
theorem d_Lw_law_462 : decode code 462 = .ok (.iload 5, 2) := by decide +kernel
theorem d_Lw_law_464 : decode code 464 = .ok (.ifCond .ne 22, 3) := by decide +kernel
theorem d_Lw_law_467 : decode code 467 = .ok (.aload_n 3, 1) := by decide +kernel
theorem d_Lw_law_468 : decode code 468 = .ok (.iconst 0, 1) := by decide +kernel
theorem d_Lw_law_469 : decode code 469 = .ok (.laload, 1) := by decide +kernel
theorem d_Lw_law_470 : decode code 470 = .ok (.iload 6, 2) := by decide +kernel
theorem d_Lw_law_472 : decode code 472 = .ok (.ifCond .eq 7, 3) := by decide +kernel
theorem d_Lw_law_475 : decode code 475 = .ok (.lconst 1, 1) := by decide +kernel
theorem d_Lw_law_476 : decode code 476 = .ok (.goto 4, 3) := by decide +kernel
theorem d_Lw_law_479 : decode code 479 = .ok (.lconst 0, 1) := by decide +kernel
theorem d_Lw_law_480 : decode code 480 = .ok (.lcmp, 1) := by decide +kernel
theorem d_Lw_law_481 : decode code 481 = .ok (.ifCond .eq 5, 3) := by decide +kernel
theorem d_Lw_law_484 : decode code 484 = .ok (.iconst 0, 1) := by decide +kernel
theorem d_Lw_law_485 : decode code 485 = .ok (.ireturn, 1) := by decide +kernel
theorem d_Lw_law_486 : decode code 486 = .ok (.goto 472, 3) := by decide +kernel
theorem d_Lw_law_489 : decode code 489 = .ok (.aload_n 1, 1) := by decide +kernel
theorem d_Lw_law_490 : decode code 490 = .ok (.aload_n 0, 1) := by decide +kernel
theorem d_Lw_law_491 : decode code 491 = .ok (.iload 4, 2) := by decide +kernel
theorem d_Lw_law_493 : decode code 493 = .ok (.iconst 1, 1) := by decide +kernel
theorem d_Lw_law_494 : decode code 494 = .ok (.iadd, 1) := by decide +kernel
theorem d_Lw_law_495 : decode code 495 = .ok (.iaload, 1) := by decide +kernel
theorem d_Lw_law_496 : decode code 496 = .ok (.invokevirtual 63, 3) := by decide +kernel
theorem d_Lw_law_499 : decode code 499 = .ok (.aload_n 2, 1) := by decide +kernel
theorem d_Lw_law_500 : decode code 500 = .ok (.aload_n 0, 1) := by decide +kernel
theorem d_Lw_law_501 : decode code 501 = .ok (.iload 4, 2) := by decide +kernel
theorem d_Lw_law_503 : decode code 503 = .ok (.iconst 1, 1) := by decide +kernel
theorem d_Lw_law_504 : decode code 504 = .ok (.iadd, 1) := by decide +kernel
theorem d_Lw_law_505 : decode code 505 = .ok (.iaload, 1) := by decide +kernel
theorem d_Lw_law_506 : decode code 506 = .ok (.invokevirtual 67, 3) := by decide +kernel
theorem d_Lw_law_509 : decode code 509 = .ok (.if_icmp .eq 449, 3) := by decide +kernel
theorem d_Lw_law_512 : decode code 512 = .ok (.iconst 0, 1) := by decide +kernel
theorem d_Lw_law_513 : decode code 513 = .ok (.ireturn, 1) := by decide +kernel
theorem d_Lw_law_514 : decode code 514 = .ok (.aload_n 1, 1) := by decide +kernel
theorem d_Lw_law_515 : decode code 515 = .ok (.aload_n 0, 1) := by decide +kernel
theorem d_Lw_law_516 : decode code 516 = .ok (.iload 4, 2) := by decide +kernel
theorem d_Lw_law_518 : decode code 518 = .ok (.iconst 1, 1) := by decide +kernel
theorem d_Lw_law_519 : decode code 519 = .ok (.iadd, 1) := by decide +kernel
theorem d_Lw_law_520 : decode code 520 = .ok (.iaload, 1) := by decide +kernel
theorem d_Lw_law_521 : decode code 521 = .ok (.aload_n 0, 1) := by decide +kernel
theorem d_Lw_law_522 : decode code 522 = .ok (.iload 4, 2) := by decide +kernel
theorem d_Lw_law_524 : decode code 524 = .ok (.iconst 2, 1) := by decide +kernel
theorem d_Lw_law_525 : decode code 525 = .ok (.iadd, 1) := by decide +kernel
theorem d_Lw_law_526 : decode code 526 = .ok (.iaload, 1) := by decide +kernel
theorem d_Lw_law_527 : decode code 527 = .ok (.aload_n 0, 1) := by decide +kernel
theorem d_Lw_law_528 : decode code 528 = .ok (.iload 4, 2) := by decide +kernel
theorem d_Lw_law_530 : decode code 530 = .ok (.iconst 3, 1) := by decide +kernel
theorem d_Lw_law_531 : decode code 531 = .ok (.iadd, 1) := by decide +kernel
theorem d_Lw_law_532 : decode code 532 = .ok (.iaload, 1) := by decide +kernel
theorem d_Lw_law_533 : decode code 533 = .ok (.invokevirtual 68, 3) := by decide +kernel
theorem d_Lw_law_536 : decode code 536 = .ok (.aload_n 2, 1) := by decide +kernel
theorem d_Lw_law_537 : decode code 537 = .ok (.aload_n 0, 1) := by decide +kernel
theorem d_Lw_law_538 : decode code 538 = .ok (.iload 4, 2) := by decide +kernel
theorem d_Lw_law_540 : decode code 540 = .ok (.iconst 1, 1) := by decide +kernel
theorem d_Lw_law_541 : decode code 541 = .ok (.iadd, 1) := by decide +kernel
theorem d_Lw_law_542 : decode code 542 = .ok (.iaload, 1) := by decide +kernel
theorem d_Lw_law_543 : decode code 543 = .ok (.aload_n 0, 1) := by decide +kernel
theorem d_Lw_law_544 : decode code 544 = .ok (.iload 4, 2) := by decide +kernel
theorem d_Lw_law_546 : decode code 546 = .ok (.iconst 2, 1) := by decide +kernel
theorem d_Lw_law_547 : decode code 547 = .ok (.iadd, 1) := by decide +kernel
theorem d_Lw_law_548 : decode code 548 = .ok (.iaload, 1) := by decide +kernel
theorem d_Lw_law_549 : decode code 549 = .ok (.aload_n 0, 1) := by decide +kernel
theorem d_Lw_law_550 : decode code 550 = .ok (.iload 4, 2) := by decide +kernel
theorem d_Lw_law_552 : decode code 552 = .ok (.iconst 3, 1) := by decide +kernel
theorem d_Lw_law_553 : decode code 553 = .ok (.iadd, 1) := by decide +kernel
theorem d_Lw_law_554 : decode code 554 = .ok (.iaload, 1) := by decide +kernel
theorem d_Lw_law_555 : decode code 555 = .ok (.invokevirtual 72, 3) := by decide +kernel
theorem d_Lw_law_558 : decode code 558 = .ok (.if_icmp .eq 400, 3) := by decide +kernel
theorem d_Lw_law_561 : decode code 561 = .ok (.iconst 0, 1) := by decide +kernel
theorem d_Lw_law_562 : decode code 562 = .ok (.ireturn, 1) := by decide +kernel
theorem d_Lw_law_563 : decode code 563 = .ok (.aload_n 1, 1) := by decide +kernel
theorem d_Lw_law_564 : decode code 564 = .ok (.invokevirtual 73, 3) := by decide +kernel
theorem d_Lw_law_567 : decode code 567 = .ok (.aload_n 2, 1) := by decide +kernel
theorem d_Lw_law_568 : decode code 568 = .ok (.invokevirtual 76, 3) := by decide +kernel
theorem d_Lw_law_571 : decode code 571 = .ok (.if_icmp .eq 387, 3) := by decide +kernel
theorem d_Lw_law_574 : decode code 574 = .ok (.iconst 0, 1) := by decide +kernel
theorem d_Lw_law_575 : decode code 575 = .ok (.ireturn, 1) := by decide +kernel
theorem d_Lw_law_576 : decode code 576 = .ok (.aload_n 1, 1) := by decide +kernel
theorem d_Lw_law_577 : decode code 577 = .ok (.invokevirtual 77, 3) := by decide +kernel
theorem d_Lw_law_580 : decode code 580 = .ok (.aload_n 2, 1) := by decide +kernel
theorem d_Lw_law_581 : decode code 581 = .ok (.invokevirtual 80, 3) := by decide +kernel
theorem d_Lw_law_584 : decode code 584 = .ok (.if_icmp .eq 374, 3) := by decide +kernel
theorem d_Lw_law_587 : decode code 587 = .ok (.iconst 0, 1) := by decide +kernel
theorem d_Lw_law_588 : decode code 588 = .ok (.ireturn, 1) := by decide +kernel
theorem d_Lw_law_589 : decode code 589 = .ok (.aload_n 1, 1) := by decide +kernel
theorem d_Lw_law_590 : decode code 590 = .ok (.aload_n 0, 1) := by decide +kernel
theorem d_Lw_law_591 : decode code 591 = .ok (.iload 4, 2) := by decide +kernel
theorem d_Lw_law_593 : decode code 593 = .ok (.iconst 1, 1) := by decide +kernel
theorem d_Lw_law_594 : decode code 594 = .ok (.iadd, 1) := by decide +kernel
theorem d_Lw_law_595 : decode code 595 = .ok (.iaload, 1) := by decide +kernel
theorem d_Lw_law_596 : decode code 596 = .ok (.aload_n 0, 1) := by decide +kernel
theorem d_Lw_law_597 : decode code 597 = .ok (.iload 4, 2) := by decide +kernel
theorem d_Lw_law_599 : decode code 599 = .ok (.iconst 2, 1) := by decide +kernel
theorem d_Lw_law_600 : decode code 600 = .ok (.iadd, 1) := by decide +kernel
theorem d_Lw_law_601 : decode code 601 = .ok (.iaload, 1) := by decide +kernel
theorem d_Lw_law_602 : decode code 602 = .ok (.invokevirtual 81, 3) := by decide +kernel
theorem d_Lw_law_605 : decode code 605 = .ok (.aload_n 2, 1) := by decide +kernel
theorem d_Lw_law_606 : decode code 606 = .ok (.aload_n 0, 1) := by decide +kernel
theorem d_Lw_law_607 : decode code 607 = .ok (.iload 4, 2) := by decide +kernel
theorem d_Lw_law_609 : decode code 609 = .ok (.iconst 1, 1) := by decide +kernel
theorem d_Lw_law_610 : decode code 610 = .ok (.iadd, 1) := by decide +kernel
theorem d_Lw_law_611 : decode code 611 = .ok (.iaload, 1) := by decide +kernel
theorem d_Lw_law_612 : decode code 612 = .ok (.aload_n 0, 1) := by decide +kernel
theorem d_Lw_law_613 : decode code 613 = .ok (.iload 4, 2) := by decide +kernel
theorem d_Lw_law_615 : decode code 615 = .ok (.iconst 2, 1) := by decide +kernel
theorem d_Lw_law_616 : decode code 616 = .ok (.iadd, 1) := by decide +kernel
theorem d_Lw_law_617 : decode code 617 = .ok (.iaload, 1) := by decide +kernel
theorem d_Lw_law_618 : decode code 618 = .ok (.invokevirtual 85, 3) := by decide +kernel
theorem d_Lw_law_621 : decode code 621 = .ok (.if_icmp .eq 337, 3) := by decide +kernel
theorem d_Lw_law_624 : decode code 624 = .ok (.iconst 0, 1) := by decide +kernel
theorem d_Lw_law_625 : decode code 625 = .ok (.ireturn, 1) := by decide +kernel
theorem d_Lw_law_626 : decode code 626 = .ok (.aload_n 1, 1) := by decide +kernel
theorem d_Lw_law_627 : decode code 627 = .ok (.aload_n 0, 1) := by decide +kernel
theorem d_Lw_law_628 : decode code 628 = .ok (.iload 4, 2) := by decide +kernel
theorem d_Lw_law_630 : decode code 630 = .ok (.iconst 1, 1) := by decide +kernel
theorem d_Lw_law_631 : decode code 631 = .ok (.iadd, 1) := by decide +kernel
theorem d_Lw_law_632 : decode code 632 = .ok (.iaload, 1) := by decide +kernel
theorem d_Lw_law_633 : decode code 633 = .ok (.aload_n 0, 1) := by decide +kernel
theorem d_Lw_law_634 : decode code 634 = .ok (.iload 4, 2) := by decide +kernel
theorem d_Lw_law_636 : decode code 636 = .ok (.iconst 2, 1) := by decide +kernel
theorem d_Lw_law_637 : decode code 637 = .ok (.iadd, 1) := by decide +kernel
theorem d_Lw_law_638 : decode code 638 = .ok (.iaload, 1) := by decide +kernel
theorem d_Lw_law_639 : decode code 639 = .ok (.aload_n 0, 1) := by decide +kernel
theorem d_Lw_law_640 : decode code 640 = .ok (.iload 4, 2) := by decide +kernel
theorem d_Lw_law_642 : decode code 642 = .ok (.iconst 3, 1) := by decide +kernel
theorem d_Lw_law_643 : decode code 643 = .ok (.iadd, 1) := by decide +kernel
theorem d_Lw_law_644 : decode code 644 = .ok (.iaload, 1) := by decide +kernel
theorem d_Lw_law_645 : decode code 645 = .ok (.invokevirtual 86, 3) := by decide +kernel
theorem d_Lw_law_648 : decode code 648 = .ok (.aload_n 2, 1) := by decide +kernel
theorem d_Lw_law_649 : decode code 649 = .ok (.aload_n 0, 1) := by decide +kernel
theorem d_Lw_law_650 : decode code 650 = .ok (.iload 4, 2) := by decide +kernel
theorem d_Lw_law_652 : decode code 652 = .ok (.iconst 1, 1) := by decide +kernel
theorem d_Lw_law_653 : decode code 653 = .ok (.iadd, 1) := by decide +kernel
theorem d_Lw_law_654 : decode code 654 = .ok (.iaload, 1) := by decide +kernel
theorem d_Lw_law_655 : decode code 655 = .ok (.aload_n 0, 1) := by decide +kernel
theorem d_Lw_law_656 : decode code 656 = .ok (.iload 4, 2) := by decide +kernel
theorem d_Lw_law_658 : decode code 658 = .ok (.iconst 2, 1) := by decide +kernel
theorem d_Lw_law_659 : decode code 659 = .ok (.iadd, 1) := by decide +kernel
theorem d_Lw_law_660 : decode code 660 = .ok (.iaload, 1) := by decide +kernel
theorem d_Lw_law_661 : decode code 661 = .ok (.aload_n 0, 1) := by decide +kernel
theorem d_Lw_law_662 : decode code 662 = .ok (.iload 4, 2) := by decide +kernel
theorem d_Lw_law_664 : decode code 664 = .ok (.iconst 3, 1) := by decide +kernel
theorem d_Lw_law_665 : decode code 665 = .ok (.iadd, 1) := by decide +kernel
theorem d_Lw_law_666 : decode code 666 = .ok (.iaload, 1) := by decide +kernel
theorem d_Lw_law_667 : decode code 667 = .ok (.invokevirtual 89, 3) := by decide +kernel
theorem d_Lw_law_670 : decode code 670 = .ok (.if_icmp .eq 288, 3) := by decide +kernel
theorem d_Lw_law_673 : decode code 673 = .ok (.iconst 0, 1) := by decide +kernel
theorem d_Lw_law_674 : decode code 674 = .ok (.ireturn, 1) := by decide +kernel
theorem d_Lw_law_675 : decode code 675 = .ok (.aload_n 1, 1) := by decide +kernel
theorem d_Lw_law_676 : decode code 676 = .ok (.aload_n 0, 1) := by decide +kernel
theorem d_Lw_law_677 : decode code 677 = .ok (.iload 4, 2) := by decide +kernel
theorem d_Lw_law_679 : decode code 679 = .ok (.iconst 1, 1) := by decide +kernel
theorem d_Lw_law_680 : decode code 680 = .ok (.iadd, 1) := by decide +kernel
theorem d_Lw_law_681 : decode code 681 = .ok (.iaload, 1) := by decide +kernel
theorem d_Lw_law_682 : decode code 682 = .ok (.aload_n 0, 1) := by decide +kernel
theorem d_Lw_law_683 : decode code 683 = .ok (.iload 4, 2) := by decide +kernel
theorem d_Lw_law_685 : decode code 685 = .ok (.iconst 2, 1) := by decide +kernel
theorem d_Lw_law_686 : decode code 686 = .ok (.iadd, 1) := by decide +kernel
theorem d_Lw_law_687 : decode code 687 = .ok (.iaload, 1) := by decide +kernel
theorem d_Lw_law_688 : decode code 688 = .ok (.aload_n 0, 1) := by decide +kernel
theorem d_Lw_law_689 : decode code 689 = .ok (.iload 4, 2) := by decide +kernel
theorem d_Lw_law_691 : decode code 691 = .ok (.iconst 3, 1) := by decide +kernel
theorem d_Lw_law_692 : decode code 692 = .ok (.iadd, 1) := by decide +kernel
theorem d_Lw_law_693 : decode code 693 = .ok (.iaload, 1) := by decide +kernel
theorem d_Lw_law_694 : decode code 694 = .ok (.invokevirtual 90, 3) := by decide +kernel
theorem d_Lw_law_697 : decode code 697 = .ok (.aload_n 2, 1) := by decide +kernel
theorem d_Lw_law_698 : decode code 698 = .ok (.aload_n 0, 1) := by decide +kernel
theorem d_Lw_law_699 : decode code 699 = .ok (.iload 4, 2) := by decide +kernel
theorem d_Lw_law_701 : decode code 701 = .ok (.iconst 1, 1) := by decide +kernel
theorem d_Lw_law_702 : decode code 702 = .ok (.iadd, 1) := by decide +kernel
theorem d_Lw_law_703 : decode code 703 = .ok (.iaload, 1) := by decide +kernel
theorem d_Lw_law_704 : decode code 704 = .ok (.aload_n 0, 1) := by decide +kernel
theorem d_Lw_law_705 : decode code 705 = .ok (.iload 4, 2) := by decide +kernel
theorem d_Lw_law_707 : decode code 707 = .ok (.iconst 2, 1) := by decide +kernel
theorem d_Lw_law_708 : decode code 708 = .ok (.iadd, 1) := by decide +kernel
theorem d_Lw_law_709 : decode code 709 = .ok (.iaload, 1) := by decide +kernel
theorem d_Lw_law_710 : decode code 710 = .ok (.aload_n 0, 1) := by decide +kernel
theorem d_Lw_law_711 : decode code 711 = .ok (.iload 4, 2) := by decide +kernel
theorem d_Lw_law_713 : decode code 713 = .ok (.iconst 3, 1) := by decide +kernel
theorem d_Lw_law_714 : decode code 714 = .ok (.iadd, 1) := by decide +kernel
theorem d_Lw_law_715 : decode code 715 = .ok (.iaload, 1) := by decide +kernel
theorem d_Lw_law_716 : decode code 716 = .ok (.invokevirtual 94, 3) := by decide +kernel
theorem d_Lw_law_719 : decode code 719 = .ok (.if_icmp .eq 239, 3) := by decide +kernel
theorem d_Lw_law_722 : decode code 722 = .ok (.iconst 0, 1) := by decide +kernel
theorem d_Lw_law_723 : decode code 723 = .ok (.ireturn, 1) := by decide +kernel
theorem d_Lw_law_724 : decode code 724 = .ok (.aload_n 1, 1) := by decide +kernel
theorem d_Lw_law_725 : decode code 725 = .ok (.aload_n 0, 1) := by decide +kernel
theorem d_Lw_law_726 : decode code 726 = .ok (.iload 4, 2) := by decide +kernel
theorem d_Lw_law_728 : decode code 728 = .ok (.iconst 1, 1) := by decide +kernel
theorem d_Lw_law_729 : decode code 729 = .ok (.iadd, 1) := by decide +kernel
theorem d_Lw_law_730 : decode code 730 = .ok (.iaload, 1) := by decide +kernel
theorem d_Lw_law_731 : decode code 731 = .ok (.aload_n 0, 1) := by decide +kernel
theorem d_Lw_law_732 : decode code 732 = .ok (.iload 4, 2) := by decide +kernel
theorem d_Lw_law_734 : decode code 734 = .ok (.iconst 2, 1) := by decide +kernel
theorem d_Lw_law_735 : decode code 735 = .ok (.iadd, 1) := by decide +kernel
theorem d_Lw_law_736 : decode code 736 = .ok (.iaload, 1) := by decide +kernel
theorem d_Lw_law_737 : decode code 737 = .ok (.aload_n 0, 1) := by decide +kernel
theorem d_Lw_law_738 : decode code 738 = .ok (.iload 4, 2) := by decide +kernel
theorem d_Lw_law_740 : decode code 740 = .ok (.iconst 3, 1) := by decide +kernel
theorem d_Lw_law_741 : decode code 741 = .ok (.iadd, 1) := by decide +kernel
theorem d_Lw_law_742 : decode code 742 = .ok (.iaload, 1) := by decide +kernel
theorem d_Lw_law_743 : decode code 743 = .ok (.aload_n 0, 1) := by decide +kernel
theorem d_Lw_law_744 : decode code 744 = .ok (.iload 4, 2) := by decide +kernel
theorem d_Lw_law_746 : decode code 746 = .ok (.iconst 4, 1) := by decide +kernel
theorem d_Lw_law_747 : decode code 747 = .ok (.iadd, 1) := by decide +kernel
theorem d_Lw_law_748 : decode code 748 = .ok (.iaload, 1) := by decide +kernel
theorem d_Lw_law_749 : decode code 749 = .ok (.aload_n 0, 1) := by decide +kernel
theorem d_Lw_law_750 : decode code 750 = .ok (.iload 4, 2) := by decide +kernel
theorem d_Lw_law_752 : decode code 752 = .ok (.iconst 5, 1) := by decide +kernel
theorem d_Lw_law_753 : decode code 753 = .ok (.iadd, 1) := by decide +kernel
theorem d_Lw_law_754 : decode code 754 = .ok (.iaload, 1) := by decide +kernel
theorem d_Lw_law_755 : decode code 755 = .ok (.ifCond .eq 7, 3) := by decide +kernel
theorem d_Lw_law_758 : decode code 758 = .ok (.iconst 1, 1) := by decide +kernel
theorem d_Lw_law_759 : decode code 759 = .ok (.goto 4, 3) := by decide +kernel
theorem d_Lw_law_762 : decode code 762 = .ok (.iconst 0, 1) := by decide +kernel
theorem d_Lw_law_763 : decode code 763 = .ok (.aload_n 3, 1) := by decide +kernel
theorem d_Lw_law_764 : decode code 764 = .ok (.invokestatic 95, 3) := by decide +kernel
theorem d_Lw_law_767 : decode code 767 = .ok (.istore 5, 2) := by decide +kernel
theorem d_Lw_law_769 : decode code 769 = .ok (.aload_n 2, 1) := by decide +kernel
theorem d_Lw_law_770 : decode code 770 = .ok (.aload_n 0, 1) := by decide +kernel
theorem d_Lw_law_771 : decode code 771 = .ok (.iload 4, 2) := by decide +kernel
theorem d_Lw_law_773 : decode code 773 = .ok (.iconst 1, 1) := by decide +kernel
theorem d_Lw_law_774 : decode code 774 = .ok (.iadd, 1) := by decide +kernel
theorem d_Lw_law_775 : decode code 775 = .ok (.iaload, 1) := by decide +kernel
theorem d_Lw_law_776 : decode code 776 = .ok (.aload_n 0, 1) := by decide +kernel
theorem d_Lw_law_777 : decode code 777 = .ok (.iload 4, 2) := by decide +kernel
theorem d_Lw_law_779 : decode code 779 = .ok (.iconst 2, 1) := by decide +kernel
theorem d_Lw_law_780 : decode code 780 = .ok (.iadd, 1) := by decide +kernel
theorem d_Lw_law_781 : decode code 781 = .ok (.iaload, 1) := by decide +kernel
theorem d_Lw_law_782 : decode code 782 = .ok (.aload_n 0, 1) := by decide +kernel
theorem d_Lw_law_783 : decode code 783 = .ok (.iload 4, 2) := by decide +kernel
theorem d_Lw_law_785 : decode code 785 = .ok (.iconst 3, 1) := by decide +kernel
theorem d_Lw_law_786 : decode code 786 = .ok (.iadd, 1) := by decide +kernel
theorem d_Lw_law_787 : decode code 787 = .ok (.iaload, 1) := by decide +kernel
theorem d_Lw_law_788 : decode code 788 = .ok (.aload_n 0, 1) := by decide +kernel
theorem d_Lw_law_789 : decode code 789 = .ok (.iload 4, 2) := by decide +kernel
theorem d_Lw_law_791 : decode code 791 = .ok (.iconst 4, 1) := by decide +kernel
theorem d_Lw_law_792 : decode code 792 = .ok (.iadd, 1) := by decide +kernel
theorem d_Lw_law_793 : decode code 793 = .ok (.iaload, 1) := by decide +kernel
theorem d_Lw_law_794 : decode code 794 = .ok (.aload_n 0, 1) := by decide +kernel
theorem d_Lw_law_795 : decode code 795 = .ok (.iload 4, 2) := by decide +kernel
theorem d_Lw_law_797 : decode code 797 = .ok (.iconst 5, 1) := by decide +kernel
theorem d_Lw_law_798 : decode code 798 = .ok (.iadd, 1) := by decide +kernel
theorem d_Lw_law_799 : decode code 799 = .ok (.iaload, 1) := by decide +kernel
theorem d_Lw_law_800 : decode code 800 = .ok (.ifCond .eq 7, 3) := by decide +kernel
theorem d_Lw_law_803 : decode code 803 = .ok (.iconst 1, 1) := by decide +kernel
theorem d_Lw_law_804 : decode code 804 = .ok (.goto 4, 3) := by decide +kernel
theorem d_Lw_law_807 : decode code 807 = .ok (.iconst 0, 1) := by decide +kernel
theorem d_Lw_law_808 : decode code 808 = .ok (.invokevirtual 98, 3) := by decide +kernel
theorem d_Lw_law_811 : decode code 811 = .ok (.istore 6, 2) := by decide +kernel
theorem d_Lw_law_813 : decode code 813 = .ok (.aload_n 2, 1) := by decide +kernel
theorem d_Lw_law_814 : decode code 814 = .ok (.invokevirtual 50, 3) := by decide +kernel
theorem d_Lw_law_817 : decode code 817 = .ok (.iload 5, 2) := by decide +kernel
theorem d_Lw_law_819 : decode code 819 = .ok (.if_icmp .eq 5, 3) := by decide +kernel
theorem d_Lw_law_822 : decode code 822 = .ok (.iconst 0, 1) := by decide +kernel
theorem d_Lw_law_823 : decode code 823 = .ok (.ireturn, 1) := by decide +kernel
theorem d_Lw_law_824 : decode code 824 = .ok (.iload 5, 2) := by decide +kernel
theorem d_Lw_law_826 : decode code 826 = .ok (.ifCond .ne 15, 3) := by decide +kernel
theorem d_Lw_law_829 : decode code 829 = .ok (.aload_n 3, 1) := by decide +kernel
theorem d_Lw_law_830 : decode code 830 = .ok (.iconst 0, 1) := by decide +kernel
theorem d_Lw_law_831 : decode code 831 = .ok (.laload, 1) := by decide +kernel
theorem d_Lw_law_832 : decode code 832 = .ok (.iload 6, 2) := by decide +kernel
theorem d_Lw_law_834 : decode code 834 = .ok (.i2l, 1) := by decide +kernel
theorem d_Lw_law_835 : decode code 835 = .ok (.lcmp, 1) := by decide +kernel
theorem d_Lw_law_836 : decode code 836 = .ok (.ifCond .eq 5, 3) := by decide +kernel
theorem d_Lw_law_839 : decode code 839 = .ok (.iconst 0, 1) := by decide +kernel
theorem d_Lw_law_840 : decode code 840 = .ok (.ireturn, 1) := by decide +kernel
theorem d_Lw_law_841 : decode code 841 = .ok (.goto 117, 3) := by decide +kernel
theorem d_Lw_law_844 : decode code 844 = .ok (.aload_n 1, 1) := by decide +kernel
theorem d_Lw_law_845 : decode code 845 = .ok (.aload_n 0, 1) := by decide +kernel
theorem d_Lw_law_846 : decode code 846 = .ok (.iload 4, 2) := by decide +kernel
theorem d_Lw_law_848 : decode code 848 = .ok (.iconst 1, 1) := by decide +kernel
theorem d_Lw_law_849 : decode code 849 = .ok (.iadd, 1) := by decide +kernel
theorem d_Lw_law_850 : decode code 850 = .ok (.iaload, 1) := by decide +kernel
theorem d_Lw_law_851 : decode code 851 = .ok (.invokevirtual 99, 3) := by decide +kernel
theorem d_Lw_law_854 : decode code 854 = .ok (.aload_n 2, 1) := by decide +kernel
theorem d_Lw_law_855 : decode code 855 = .ok (.aload_n 0, 1) := by decide +kernel
theorem d_Lw_law_856 : decode code 856 = .ok (.iload 4, 2) := by decide +kernel
theorem d_Lw_law_858 : decode code 858 = .ok (.iconst 1, 1) := by decide +kernel
theorem d_Lw_law_859 : decode code 859 = .ok (.iadd, 1) := by decide +kernel
theorem d_Lw_law_860 : decode code 860 = .ok (.iaload, 1) := by decide +kernel
theorem d_Lw_law_861 : decode code 861 = .ok (.invokevirtual 103, 3) := by decide +kernel
theorem d_Lw_law_864 : decode code 864 = .ok (.if_icmp .eq 94, 3) := by decide +kernel
theorem d_Lw_law_867 : decode code 867 = .ok (.iconst 0, 1) := by decide +kernel
theorem d_Lw_law_868 : decode code 868 = .ok (.ireturn, 1) := by decide +kernel
theorem d_Lw_law_869 : decode code 869 = .ok (.aload_n 1, 1) := by decide +kernel
theorem d_Lw_law_870 : decode code 870 = .ok (.aload_n 0, 1) := by decide +kernel
theorem d_Lw_law_871 : decode code 871 = .ok (.iload 4, 2) := by decide +kernel
theorem d_Lw_law_873 : decode code 873 = .ok (.iconst 1, 1) := by decide +kernel
theorem d_Lw_law_874 : decode code 874 = .ok (.iadd, 1) := by decide +kernel
theorem d_Lw_law_875 : decode code 875 = .ok (.iaload, 1) := by decide +kernel
theorem d_Lw_law_876 : decode code 876 = .ok (.invokevirtual 104, 3) := by decide +kernel
theorem d_Lw_law_879 : decode code 879 = .ok (.aload_n 2, 1) := by decide +kernel
theorem d_Lw_law_880 : decode code 880 = .ok (.aload_n 0, 1) := by decide +kernel
theorem d_Lw_law_881 : decode code 881 = .ok (.iload 4, 2) := by decide +kernel
theorem d_Lw_law_883 : decode code 883 = .ok (.iconst 1, 1) := by decide +kernel
theorem d_Lw_law_884 : decode code 884 = .ok (.iadd, 1) := by decide +kernel
theorem d_Lw_law_885 : decode code 885 = .ok (.iaload, 1) := by decide +kernel
theorem d_Lw_law_886 : decode code 886 = .ok (.invokevirtual 107, 3) := by decide +kernel
theorem d_Lw_law_889 : decode code 889 = .ok (.if_icmp .eq 69, 3) := by decide +kernel
theorem d_Lw_law_892 : decode code 892 = .ok (.iconst 0, 1) := by decide +kernel
theorem d_Lw_law_893 : decode code 893 = .ok (.ireturn, 1) := by decide +kernel
theorem d_Lw_law_894 : decode code 894 = .ok (.aload_n 1, 1) := by decide +kernel
theorem d_Lw_law_895 : decode code 895 = .ok (.invokevirtual 108, 3) := by decide +kernel
theorem d_Lw_law_898 : decode code 898 = .ok (.aload_n 2, 1) := by decide +kernel
theorem d_Lw_law_899 : decode code 899 = .ok (.invokevirtual 111, 3) := by decide +kernel
theorem d_Lw_law_902 : decode code 902 = .ok (.if_icmp .eq 56, 3) := by decide +kernel
theorem d_Lw_law_905 : decode code 905 = .ok (.iconst 0, 1) := by decide +kernel
theorem d_Lw_law_906 : decode code 906 = .ok (.ireturn, 1) := by decide +kernel
theorem d_Lw_law_907 : decode code 907 = .ok (.aload_n 1, 1) := by decide +kernel
theorem d_Lw_law_908 : decode code 908 = .ok (.aload_n 0, 1) := by decide +kernel
theorem d_Lw_law_909 : decode code 909 = .ok (.iload 4, 2) := by decide +kernel
theorem d_Lw_law_911 : decode code 911 = .ok (.iconst 1, 1) := by decide +kernel
theorem d_Lw_law_912 : decode code 912 = .ok (.iadd, 1) := by decide +kernel
theorem d_Lw_law_913 : decode code 913 = .ok (.iaload, 1) := by decide +kernel
theorem d_Lw_law_914 : decode code 914 = .ok (.invokevirtual 112, 3) := by decide +kernel
theorem d_Lw_law_917 : decode code 917 = .ok (.aload_n 2, 1) := by decide +kernel
theorem d_Lw_law_918 : decode code 918 = .ok (.aload_n 0, 1) := by decide +kernel
theorem d_Lw_law_919 : decode code 919 = .ok (.iload 4, 2) := by decide +kernel
theorem d_Lw_law_921 : decode code 921 = .ok (.iconst 1, 1) := by decide +kernel
theorem d_Lw_law_922 : decode code 922 = .ok (.iadd, 1) := by decide +kernel
theorem d_Lw_law_923 : decode code 923 = .ok (.iaload, 1) := by decide +kernel
theorem d_Lw_law_924 : decode code 924 = .ok (.invokevirtual 115, 3) := by decide +kernel
theorem d_Lw_law_927 : decode code 927 = .ok (.if_icmp .eq 31, 3) := by decide +kernel
theorem d_Lw_law_930 : decode code 930 = .ok (.iconst 0, 1) := by decide +kernel
theorem d_Lw_law_931 : decode code 931 = .ok (.ireturn, 1) := by decide +kernel
theorem d_Lw_law_932 : decode code 932 = .ok (.aload_n 1, 1) := by decide +kernel
theorem d_Lw_law_933 : decode code 933 = .ok (.invokevirtual 116, 3) := by decide +kernel
theorem d_Lw_law_936 : decode code 936 = .ok (.aload_n 2, 1) := by decide +kernel
theorem d_Lw_law_937 : decode code 937 = .ok (.invokevirtual 119, 3) := by decide +kernel
theorem d_Lw_law_940 : decode code 940 = .ok (.if_icmp .eq 18, 3) := by decide +kernel
theorem d_Lw_law_943 : decode code 943 = .ok (.iconst 0, 1) := by decide +kernel
theorem d_Lw_law_944 : decode code 944 = .ok (.ireturn, 1) := by decide +kernel
theorem d_Lw_law_945 : decode code 945 = .ok (.aload_n 1, 1) := by decide +kernel
theorem d_Lw_law_946 : decode code 946 = .ok (.invokevirtual 120, 3) := by decide +kernel
theorem d_Lw_law_949 : decode code 949 = .ok (.aload_n 2, 1) := by decide +kernel
theorem d_Lw_law_950 : decode code 950 = .ok (.invokevirtual 123, 3) := by decide +kernel
theorem d_Lw_law_953 : decode code 953 = .ok (.if_icmp .eq 5, 3) := by decide +kernel
theorem d_Lw_law_956 : decode code 956 = .ok (.iconst 0, 1) := by decide +kernel
theorem d_Lw_law_957 : decode code 957 = .ok (.ireturn, 1) := by decide +kernel
theorem d_Lw_law_958 : decode code 958 = .ok (.iinc 4 9, 3) := by decide +kernel
theorem d_Lw_law_961 : decode code 961 = .ok (.goto (-928), 3) := by decide +kernel
theorem d_Lw_law_964 : decode code 964 = .ok (.iconst 1, 1) := by decide +kernel
theorem d_Lw_law_965 : decode code 965 = .ok (.ireturn, 1) := by decide +kernel
