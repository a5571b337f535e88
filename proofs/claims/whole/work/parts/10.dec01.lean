/-! decode rows (written by program) -/
theorem dL_cell_0 : decode cL_cell 0 = .ok (.iload_n 1, 1) := by decide +kernel
theorem dL_cell_1 : decode cL_cell 1 = .ok (.aload_n 0, 1) := by decide +kernel
theorem dL_cell_2 : decode cL_cell 2 = .ok (.arraylength, 1) := by decide +kernel
theorem dL_cell_3 : decode cL_cell 3 = .ok (.if_icmp .ge 9, 3) := by decide +kernel
theorem dL_cell_6 : decode cL_cell 6 = .ok (.aload_n 0, 1) := by decide +kernel
theorem dL_cell_7 : decode cL_cell 7 = .ok (.iload_n 1, 1) := by decide +kernel
theorem dL_cell_8 : decode cL_cell 8 = .ok (.iaload, 1) := by decide +kernel
theorem dL_cell_9 : decode cL_cell 9 = .ok (.goto 4, 3) := by decide +kernel
theorem dL_cell_12 : decode cL_cell 12 = .ok (.iconst 0, 1) := by decide +kernel
theorem dL_cell_13 : decode cL_cell 13 = .ok (.ireturn, 1) := by decide +kernel
theorem dL_law_0 : decode code 0 = .ok (.new 7, 3) := by decide +kernel
theorem dL_law_3 : decode code 3 = .ok (.dup, 1) := by decide +kernel
theorem dL_law_4 : decode code 4 = .ok (.aload_n 0, 1) := by decide +kernel
theorem dL_law_5 : decode code 5 = .ok (.iconst 0, 1) := by decide +kernel
theorem dL_law_6 : decode code 6 = .ok (.invokestatic 9, 3) := by decide +kernel
theorem dL_law_9 : decode code 9 = .ok (.aload_n 0, 1) := by decide +kernel
theorem dL_law_10 : decode code 10 = .ok (.iconst 1, 1) := by decide +kernel
theorem dL_law_11 : decode code 11 = .ok (.invokestatic 9, 3) := by decide +kernel
theorem dL_law_14 : decode code 14 = .ok (.invokespecial 15, 3) := by decide +kernel
theorem dL_law_17 : decode code 17 = .ok (.astore_n 1, 1) := by decide +kernel
theorem dL_law_18 : decode code 18 = .ok (.new 18, 3) := by decide +kernel
theorem dL_law_21 : decode code 21 = .ok (.dup, 1) := by decide +kernel
theorem dL_law_22 : decode code 22 = .ok (.aload_n 0, 1) := by decide +kernel
theorem dL_law_23 : decode code 23 = .ok (.iconst 0, 1) := by decide +kernel
theorem dL_law_24 : decode code 24 = .ok (.invokestatic 9, 3) := by decide +kernel
theorem dL_law_27 : decode code 27 = .ok (.aload_n 0, 1) := by decide +kernel
theorem dL_law_28 : decode code 28 = .ok (.iconst 1, 1) := by decide +kernel
theorem dL_law_29 : decode code 29 = .ok (.invokestatic 9, 3) := by decide +kernel
theorem dL_law_32 : decode code 32 = .ok (.invokespecial 20, 3) := by decide +kernel
theorem dL_law_35 : decode code 35 = .ok (.astore_n 2, 1) := by decide +kernel
theorem dL_law_36 : decode code 36 = .ok (.iconst 2, 1) := by decide +kernel
theorem dL_law_37 : decode code 37 = .ok (.istore_n 3, 1) := by decide +kernel
theorem dL_law_38 : decode code 38 = .ok (.iload_n 3, 1) := by decide +kernel
theorem dL_law_39 : decode code 39 = .ok (.aload_n 0, 1) := by decide +kernel
theorem dL_law_40 : decode code 40 = .ok (.arraylength, 1) := by decide +kernel
theorem dL_law_41 : decode code 41 = .ok (.iconst 3, 1) := by decide +kernel
theorem dL_law_42 : decode code 42 = .ok (.isub, 1) := by decide +kernel
theorem dL_law_43 : decode code 43 = .ok (.if_icmp .gt 463, 3) := by decide +kernel
theorem dL_law_46 : decode code 46 = .ok (.aload_n 0, 1) := by decide +kernel
theorem dL_law_47 : decode code 47 = .ok (.iload_n 3, 1) := by decide +kernel
theorem dL_law_48 : decode code 48 = .ok (.iaload, 1) := by decide +kernel
theorem dL_law_49 : decode code 49 = .ok (.bipush 15, 2) := by decide +kernel
theorem dL_law_51 : decode code 51 = .ok (.iand, 1) := by decide +kernel
theorem dL_law_52 : decode code 52 = .ok (.tableswitch 448 0 15 #[80, 113, 136, 149, 172, 195, 218, 241, 264, 287, 300, 333, 366, 399, 412, 425], 80) := by decide +kernel
theorem dL_law_132 : decode code 132 = .ok (.aload_n 1, 1) := by decide +kernel
theorem dL_law_133 : decode code 133 = .ok (.aload_n 0, 1) := by decide +kernel
theorem dL_law_134 : decode code 134 = .ok (.iload_n 3, 1) := by decide +kernel
theorem dL_law_135 : decode code 135 = .ok (.iconst 1, 1) := by decide +kernel
theorem dL_law_136 : decode code 136 = .ok (.iadd, 1) := by decide +kernel
theorem dL_law_137 : decode code 137 = .ok (.iaload, 1) := by decide +kernel
theorem dL_law_138 : decode code 138 = .ok (.aload_n 0, 1) := by decide +kernel
theorem dL_law_139 : decode code 139 = .ok (.iload_n 3, 1) := by decide +kernel
theorem dL_law_140 : decode code 140 = .ok (.iconst 2, 1) := by decide +kernel
theorem dL_law_141 : decode code 141 = .ok (.iadd, 1) := by decide +kernel
theorem dL_law_142 : decode code 142 = .ok (.iaload, 1) := by decide +kernel
theorem dL_law_143 : decode code 143 = .ok (.invokevirtual 21, 3) := by decide +kernel
theorem dL_law_146 : decode code 146 = .ok (.aload_n 2, 1) := by decide +kernel
theorem dL_law_147 : decode code 147 = .ok (.aload_n 0, 1) := by decide +kernel
theorem dL_law_148 : decode code 148 = .ok (.iload_n 3, 1) := by decide +kernel
theorem dL_law_149 : decode code 149 = .ok (.iconst 1, 1) := by decide +kernel
theorem dL_law_150 : decode code 150 = .ok (.iadd, 1) := by decide +kernel
theorem dL_law_151 : decode code 151 = .ok (.iaload, 1) := by decide +kernel
theorem dL_law_152 : decode code 152 = .ok (.aload_n 0, 1) := by decide +kernel
theorem dL_law_153 : decode code 153 = .ok (.iload_n 3, 1) := by decide +kernel
theorem dL_law_154 : decode code 154 = .ok (.iconst 2, 1) := by decide +kernel
theorem dL_law_155 : decode code 155 = .ok (.iadd, 1) := by decide +kernel
theorem dL_law_156 : decode code 156 = .ok (.iaload, 1) := by decide +kernel
theorem dL_law_157 : decode code 157 = .ok (.invokevirtual 25, 3) := by decide +kernel
theorem dL_law_160 : decode code 160 = .ok (.if_icmp .eq 340, 3) := by decide +kernel
theorem dL_law_163 : decode code 163 = .ok (.iconst 0, 1) := by decide +kernel
theorem dL_law_164 : decode code 164 = .ok (.ireturn, 1) := by decide +kernel
theorem dL_law_165 : decode code 165 = .ok (.aload_n 1, 1) := by decide +kernel
theorem dL_law_166 : decode code 166 = .ok (.aload_n 0, 1) := by decide +kernel
theorem dL_law_167 : decode code 167 = .ok (.iload_n 3, 1) := by decide +kernel
theorem dL_law_168 : decode code 168 = .ok (.iconst 1, 1) := by decide +kernel
theorem dL_law_169 : decode code 169 = .ok (.iadd, 1) := by decide +kernel
theorem dL_law_170 : decode code 170 = .ok (.iaload, 1) := by decide +kernel
theorem dL_law_171 : decode code 171 = .ok (.invokevirtual 26, 3) := by decide +kernel
theorem dL_law_174 : decode code 174 = .ok (.aload_n 2, 1) := by decide +kernel
theorem dL_law_175 : decode code 175 = .ok (.aload_n 0, 1) := by decide +kernel
theorem dL_law_176 : decode code 176 = .ok (.iload_n 3, 1) := by decide +kernel
theorem dL_law_177 : decode code 177 = .ok (.iconst 1, 1) := by decide +kernel
theorem dL_law_178 : decode code 178 = .ok (.iadd, 1) := by decide +kernel
theorem dL_law_179 : decode code 179 = .ok (.iaload, 1) := by decide +kernel
theorem dL_law_180 : decode code 180 = .ok (.invokevirtual 30, 3) := by decide +kernel
theorem dL_law_183 : decode code 183 = .ok (.if_icmp .eq 317, 3) := by decide +kernel
theorem dL_law_186 : decode code 186 = .ok (.iconst 0, 1) := by decide +kernel
theorem dL_law_187 : decode code 187 = .ok (.ireturn, 1) := by decide +kernel
theorem dL_law_188 : decode code 188 = .ok (.aload_n 1, 1) := by decide +kernel
theorem dL_law_189 : decode code 189 = .ok (.invokevirtual 31, 3) := by decide +kernel
theorem dL_law_192 : decode code 192 = .ok (.aload_n 2, 1) := by decide +kernel
theorem dL_law_193 : decode code 193 = .ok (.invokevirtual 35, 3) := by decide +kernel
theorem dL_law_196 : decode code 196 = .ok (.if_icmp .eq 304, 3) := by decide +kernel
theorem dL_law_199 : decode code 199 = .ok (.iconst 0, 1) := by decide +kernel
theorem dL_law_200 : decode code 200 = .ok (.ireturn, 1) := by decide +kernel
theorem dL_law_201 : decode code 201 = .ok (.aload_n 1, 1) := by decide +kernel
theorem dL_law_202 : decode code 202 = .ok (.aload_n 0, 1) := by decide +kernel
theorem dL_law_203 : decode code 203 = .ok (.iload_n 3, 1) := by decide +kernel
theorem dL_law_204 : decode code 204 = .ok (.iconst 1, 1) := by decide +kernel
theorem dL_law_205 : decode code 205 = .ok (.iadd, 1) := by decide +kernel
theorem dL_law_206 : decode code 206 = .ok (.iaload, 1) := by decide +kernel
theorem dL_law_207 : decode code 207 = .ok (.invokevirtual 36, 3) := by decide +kernel
theorem dL_law_210 : decode code 210 = .ok (.aload_n 2, 1) := by decide +kernel
theorem dL_law_211 : decode code 211 = .ok (.aload_n 0, 1) := by decide +kernel
theorem dL_law_212 : decode code 212 = .ok (.iload_n 3, 1) := by decide +kernel
theorem dL_law_213 : decode code 213 = .ok (.iconst 1, 1) := by decide +kernel
theorem dL_law_214 : decode code 214 = .ok (.iadd, 1) := by decide +kernel
theorem dL_law_215 : decode code 215 = .ok (.iaload, 1) := by decide +kernel
theorem dL_law_216 : decode code 216 = .ok (.invokevirtual 39, 3) := by decide +kernel
theorem dL_law_219 : decode code 219 = .ok (.if_icmp .eq 281, 3) := by decide +kernel
theorem dL_law_222 : decode code 222 = .ok (.iconst 0, 1) := by decide +kernel
theorem dL_law_223 : decode code 223 = .ok (.ireturn, 1) := by decide +kernel
theorem dL_law_224 : decode code 224 = .ok (.aload_n 1, 1) := by decide +kernel
theorem dL_law_225 : decode code 225 = .ok (.aload_n 0, 1) := by decide +kernel
theorem dL_law_226 : decode code 226 = .ok (.iload_n 3, 1) := by decide +kernel
theorem dL_law_227 : decode code 227 = .ok (.iconst 1, 1) := by decide +kernel
theorem dL_law_228 : decode code 228 = .ok (.iadd, 1) := by decide +kernel
theorem dL_law_229 : decode code 229 = .ok (.iaload, 1) := by decide +kernel
theorem dL_law_230 : decode code 230 = .ok (.invokevirtual 40, 3) := by decide +kernel
theorem dL_law_233 : decode code 233 = .ok (.aload_n 2, 1) := by decide +kernel
theorem dL_law_234 : decode code 234 = .ok (.aload_n 0, 1) := by decide +kernel
theorem dL_law_235 : decode code 235 = .ok (.iload_n 3, 1) := by decide +kernel
theorem dL_law_236 : decode code 236 = .ok (.iconst 1, 1) := by decide +kernel
theorem dL_law_237 : decode code 237 = .ok (.iadd, 1) := by decide +kernel
theorem dL_law_238 : decode code 238 = .ok (.iaload, 1) := by decide +kernel
theorem dL_law_239 : decode code 239 = .ok (.invokevirtual 44, 3) := by decide +kernel
theorem dL_law_242 : decode code 242 = .ok (.if_icmp .eq 258, 3) := by decide +kernel
theorem dL_law_245 : decode code 245 = .ok (.iconst 0, 1) := by decide +kernel
theorem dL_law_246 : decode code 246 = .ok (.ireturn, 1) := by decide +kernel
theorem dL_law_247 : decode code 247 = .ok (.aload_n 1, 1) := by decide +kernel
theorem dL_law_248 : decode code 248 = .ok (.aload_n 0, 1) := by decide +kernel
theorem dL_law_249 : decode code 249 = .ok (.iload_n 3, 1) := by decide +kernel
theorem dL_law_250 : decode code 250 = .ok (.iconst 1, 1) := by decide +kernel
theorem dL_law_251 : decode code 251 = .ok (.iadd, 1) := by decide +kernel
theorem dL_law_252 : decode code 252 = .ok (.iaload, 1) := by decide +kernel
theorem dL_law_253 : decode code 253 = .ok (.invokevirtual 45, 3) := by decide +kernel
theorem dL_law_256 : decode code 256 = .ok (.aload_n 2, 1) := by decide +kernel
theorem dL_law_257 : decode code 257 = .ok (.aload_n 0, 1) := by decide +kernel
theorem dL_law_258 : decode code 258 = .ok (.iload_n 3, 1) := by decide +kernel
theorem dL_law_259 : decode code 259 = .ok (.iconst 1, 1) := by decide +kernel
theorem dL_law_260 : decode code 260 = .ok (.iadd, 1) := by decide +kernel
theorem dL_law_261 : decode code 261 = .ok (.iaload, 1) := by decide +kernel
theorem dL_law_262 : decode code 262 = .ok (.invokevirtual 48, 3) := by decide +kernel
theorem dL_law_265 : decode code 265 = .ok (.if_icmp .eq 235, 3) := by decide +kernel
theorem dL_law_268 : decode code 268 = .ok (.iconst 0, 1) := by decide +kernel
theorem dL_law_269 : decode code 269 = .ok (.ireturn, 1) := by decide +kernel
theorem dL_law_270 : decode code 270 = .ok (.aload_n 1, 1) := by decide +kernel
theorem dL_law_271 : decode code 271 = .ok (.aload_n 0, 1) := by decide +kernel
theorem dL_law_272 : decode code 272 = .ok (.iload_n 3, 1) := by decide +kernel
theorem dL_law_273 : decode code 273 = .ok (.iconst 1, 1) := by decide +kernel
theorem dL_law_274 : decode code 274 = .ok (.iadd, 1) := by decide +kernel
theorem dL_law_275 : decode code 275 = .ok (.iaload, 1) := by decide +kernel
theorem dL_law_276 : decode code 276 = .ok (.invokevirtual 49, 3) := by decide +kernel
theorem dL_law_279 : decode code 279 = .ok (.aload_n 2, 1) := by decide +kernel
theorem dL_law_280 : decode code 280 = .ok (.aload_n 0, 1) := by decide +kernel
theorem dL_law_281 : decode code 281 = .ok (.iload_n 3, 1) := by decide +kernel
theorem dL_law_282 : decode code 282 = .ok (.iconst 1, 1) := by decide +kernel
theorem dL_law_283 : decode code 283 = .ok (.iadd, 1) := by decide +kernel
theorem dL_law_284 : decode code 284 = .ok (.iaload, 1) := by decide +kernel
theorem dL_law_285 : decode code 285 = .ok (.invokevirtual 52, 3) := by decide +kernel
theorem dL_law_288 : decode code 288 = .ok (.if_icmp .eq 212, 3) := by decide +kernel
theorem dL_law_291 : decode code 291 = .ok (.iconst 0, 1) := by decide +kernel
theorem dL_law_292 : decode code 292 = .ok (.ireturn, 1) := by decide +kernel
theorem dL_law_293 : decode code 293 = .ok (.aload_n 1, 1) := by decide +kernel
theorem dL_law_294 : decode code 294 = .ok (.aload_n 0, 1) := by decide +kernel
theorem dL_law_295 : decode code 295 = .ok (.iload_n 3, 1) := by decide +kernel
theorem dL_law_296 : decode code 296 = .ok (.iconst 1, 1) := by decide +kernel
theorem dL_law_297 : decode code 297 = .ok (.iadd, 1) := by decide +kernel
theorem dL_law_298 : decode code 298 = .ok (.iaload, 1) := by decide +kernel
theorem dL_law_299 : decode code 299 = .ok (.invokevirtual 53, 3) := by decide +kernel
theorem dL_law_302 : decode code 302 = .ok (.aload_n 2, 1) := by decide +kernel
theorem dL_law_303 : decode code 303 = .ok (.aload_n 0, 1) := by decide +kernel
theorem dL_law_304 : decode code 304 = .ok (.iload_n 3, 1) := by decide +kernel
theorem dL_law_305 : decode code 305 = .ok (.iconst 1, 1) := by decide +kernel
theorem dL_law_306 : decode code 306 = .ok (.iadd, 1) := by decide +kernel
theorem dL_law_307 : decode code 307 = .ok (.iaload, 1) := by decide +kernel
theorem dL_law_308 : decode code 308 = .ok (.invokevirtual 56, 3) := by decide +kernel
theorem dL_law_311 : decode code 311 = .ok (.if_icmp .eq 189, 3) := by decide +kernel
theorem dL_law_314 : decode code 314 = .ok (.iconst 0, 1) := by decide +kernel
theorem dL_law_315 : decode code 315 = .ok (.ireturn, 1) := by decide +kernel
theorem dL_law_316 : decode code 316 = .ok (.aload_n 1, 1) := by decide +kernel
theorem dL_law_317 : decode code 317 = .ok (.aload_n 0, 1) := by decide +kernel
theorem dL_law_318 : decode code 318 = .ok (.iload_n 3, 1) := by decide +kernel
theorem dL_law_319 : decode code 319 = .ok (.iconst 1, 1) := by decide +kernel
theorem dL_law_320 : decode code 320 = .ok (.iadd, 1) := by decide +kernel
theorem dL_law_321 : decode code 321 = .ok (.iaload, 1) := by decide +kernel
theorem dL_law_322 : decode code 322 = .ok (.invokevirtual 57, 3) := by decide +kernel
theorem dL_law_325 : decode code 325 = .ok (.aload_n 2, 1) := by decide +kernel
theorem dL_law_326 : decode code 326 = .ok (.aload_n 0, 1) := by decide +kernel
theorem dL_law_327 : decode code 327 = .ok (.iload_n 3, 1) := by decide +kernel
theorem dL_law_328 : decode code 328 = .ok (.iconst 1, 1) := by decide +kernel
theorem dL_law_329 : decode code 329 = .ok (.iadd, 1) := by decide +kernel
theorem dL_law_330 : decode code 330 = .ok (.iaload, 1) := by decide +kernel
theorem dL_law_331 : decode code 331 = .ok (.invokevirtual 60, 3) := by decide +kernel
theorem dL_law_334 : decode code 334 = .ok (.if_icmp .eq 166, 3) := by decide +kernel
theorem dL_law_337 : decode code 337 = .ok (.iconst 0, 1) := by decide +kernel
theorem dL_law_338 : decode code 338 = .ok (.ireturn, 1) := by decide +kernel
theorem dL_law_339 : decode code 339 = .ok (.aload_n 1, 1) := by decide +kernel
theorem dL_law_340 : decode code 340 = .ok (.invokevirtual 61, 3) := by decide +kernel
theorem dL_law_343 : decode code 343 = .ok (.aload_n 2, 1) := by decide +kernel
theorem dL_law_344 : decode code 344 = .ok (.invokevirtual 64, 3) := by decide +kernel
theorem dL_law_347 : decode code 347 = .ok (.if_icmp .eq 153, 3) := by decide +kernel
theorem dL_law_350 : decode code 350 = .ok (.iconst 0, 1) := by decide +kernel
theorem dL_law_351 : decode code 351 = .ok (.ireturn, 1) := by decide +kernel
theorem dL_law_352 : decode code 352 = .ok (.aload_n 1, 1) := by decide +kernel
theorem dL_law_353 : decode code 353 = .ok (.aload_n 0, 1) := by decide +kernel
theorem dL_law_354 : decode code 354 = .ok (.iload_n 3, 1) := by decide +kernel
theorem dL_law_355 : decode code 355 = .ok (.iconst 1, 1) := by decide +kernel
theorem dL_law_356 : decode code 356 = .ok (.iadd, 1) := by decide +kernel
theorem dL_law_357 : decode code 357 = .ok (.iaload, 1) := by decide +kernel
theorem dL_law_358 : decode code 358 = .ok (.aload_n 0, 1) := by decide +kernel
theorem dL_law_359 : decode code 359 = .ok (.iload_n 3, 1) := by decide +kernel
theorem dL_law_360 : decode code 360 = .ok (.iconst 2, 1) := by decide +kernel
theorem dL_law_361 : decode code 361 = .ok (.iadd, 1) := by decide +kernel
theorem dL_law_362 : decode code 362 = .ok (.iaload, 1) := by decide +kernel
theorem dL_law_363 : decode code 363 = .ok (.invokevirtual 65, 3) := by decide +kernel
theorem dL_law_366 : decode code 366 = .ok (.aload_n 2, 1) := by decide +kernel
theorem dL_law_367 : decode code 367 = .ok (.aload_n 0, 1) := by decide +kernel
theorem dL_law_368 : decode code 368 = .ok (.iload_n 3, 1) := by decide +kernel
theorem dL_law_369 : decode code 369 = .ok (.iconst 1, 1) := by decide +kernel
theorem dL_law_370 : decode code 370 = .ok (.iadd, 1) := by decide +kernel
theorem dL_law_371 : decode code 371 = .ok (.iaload, 1) := by decide +kernel
theorem dL_law_372 : decode code 372 = .ok (.aload_n 0, 1) := by decide +kernel
theorem dL_law_373 : decode code 373 = .ok (.iload_n 3, 1) := by decide +kernel
theorem dL_law_374 : decode code 374 = .ok (.iconst 2, 1) := by decide +kernel
theorem dL_law_375 : decode code 375 = .ok (.iadd, 1) := by decide +kernel
theorem dL_law_376 : decode code 376 = .ok (.iaload, 1) := by decide +kernel
theorem dL_law_377 : decode code 377 = .ok (.invokevirtual 69, 3) := by decide +kernel
theorem dL_law_380 : decode code 380 = .ok (.if_icmp .eq 120, 3) := by decide +kernel
theorem dL_law_383 : decode code 383 = .ok (.iconst 0, 1) := by decide +kernel
theorem dL_law_384 : decode code 384 = .ok (.ireturn, 1) := by decide +kernel
theorem dL_law_385 : decode code 385 = .ok (.aload_n 1, 1) := by decide +kernel
theorem dL_law_386 : decode code 386 = .ok (.aload_n 0, 1) := by decide +kernel
theorem dL_law_387 : decode code 387 = .ok (.iload_n 3, 1) := by decide +kernel
theorem dL_law_388 : decode code 388 = .ok (.iconst 1, 1) := by decide +kernel
theorem dL_law_389 : decode code 389 = .ok (.iadd, 1) := by decide +kernel
theorem dL_law_390 : decode code 390 = .ok (.iaload, 1) := by decide +kernel
theorem dL_law_391 : decode code 391 = .ok (.aload_n 0, 1) := by decide +kernel
theorem dL_law_392 : decode code 392 = .ok (.iload_n 3, 1) := by decide +kernel
theorem dL_law_393 : decode code 393 = .ok (.iconst 2, 1) := by decide +kernel
theorem dL_law_394 : decode code 394 = .ok (.iadd, 1) := by decide +kernel
theorem dL_law_395 : decode code 395 = .ok (.iaload, 1) := by decide +kernel
theorem dL_law_396 : decode code 396 = .ok (.invokevirtual 70, 3) := by decide +kernel
theorem dL_law_399 : decode code 399 = .ok (.aload_n 2, 1) := by decide +kernel
theorem dL_law_400 : decode code 400 = .ok (.aload_n 0, 1) := by decide +kernel
theorem dL_law_401 : decode code 401 = .ok (.iload_n 3, 1) := by decide +kernel
theorem dL_law_402 : decode code 402 = .ok (.iconst 1, 1) := by decide +kernel
theorem dL_law_403 : decode code 403 = .ok (.iadd, 1) := by decide +kernel
theorem dL_law_404 : decode code 404 = .ok (.iaload, 1) := by decide +kernel
theorem dL_law_405 : decode code 405 = .ok (.aload_n 0, 1) := by decide +kernel
theorem dL_law_406 : decode code 406 = .ok (.iload_n 3, 1) := by decide +kernel
theorem dL_law_407 : decode code 407 = .ok (.iconst 2, 1) := by decide +kernel
theorem dL_law_408 : decode code 408 = .ok (.iadd, 1) := by decide +kernel
theorem dL_law_409 : decode code 409 = .ok (.iaload, 1) := by decide +kernel
theorem dL_law_410 : decode code 410 = .ok (.invokevirtual 73, 3) := by decide +kernel
theorem dL_law_413 : decode code 413 = .ok (.if_icmp .eq 87, 3) := by decide +kernel
theorem dL_law_416 : decode code 416 = .ok (.iconst 0, 1) := by decide +kernel
theorem dL_law_417 : decode code 417 = .ok (.ireturn, 1) := by decide +kernel
theorem dL_law_418 : decode code 418 = .ok (.aload_n 1, 1) := by decide +kernel
theorem dL_law_419 : decode code 419 = .ok (.aload_n 0, 1) := by decide +kernel
theorem dL_law_420 : decode code 420 = .ok (.iload_n 3, 1) := by decide +kernel
theorem dL_law_421 : decode code 421 = .ok (.iconst 1, 1) := by decide +kernel
theorem dL_law_422 : decode code 422 = .ok (.iadd, 1) := by decide +kernel
theorem dL_law_423 : decode code 423 = .ok (.iaload, 1) := by decide +kernel
theorem dL_law_424 : decode code 424 = .ok (.aload_n 0, 1) := by decide +kernel
theorem dL_law_425 : decode code 425 = .ok (.iload_n 3, 1) := by decide +kernel
theorem dL_law_426 : decode code 426 = .ok (.iconst 2, 1) := by decide +kernel
theorem dL_law_427 : decode code 427 = .ok (.iadd, 1) := by decide +kernel
theorem dL_law_428 : decode code 428 = .ok (.iaload, 1) := by decide +kernel
theorem dL_law_429 : decode code 429 = .ok (.invokevirtual 74, 3) := by decide +kernel
theorem dL_law_432 : decode code 432 = .ok (.aload_n 2, 1) := by decide +kernel
theorem dL_law_433 : decode code 433 = .ok (.aload_n 0, 1) := by decide +kernel
theorem dL_law_434 : decode code 434 = .ok (.iload_n 3, 1) := by decide +kernel
theorem dL_law_435 : decode code 435 = .ok (.iconst 1, 1) := by decide +kernel
theorem dL_law_436 : decode code 436 = .ok (.iadd, 1) := by decide +kernel
theorem dL_law_437 : decode code 437 = .ok (.iaload, 1) := by decide +kernel
theorem dL_law_438 : decode code 438 = .ok (.aload_n 0, 1) := by decide +kernel
theorem dL_law_439 : decode code 439 = .ok (.iload_n 3, 1) := by decide +kernel
theorem dL_law_440 : decode code 440 = .ok (.iconst 2, 1) := by decide +kernel
theorem dL_law_441 : decode code 441 = .ok (.iadd, 1) := by decide +kernel
theorem dL_law_442 : decode code 442 = .ok (.iaload, 1) := by decide +kernel
theorem dL_law_443 : decode code 443 = .ok (.invokevirtual 77, 3) := by decide +kernel
theorem dL_law_446 : decode code 446 = .ok (.if_icmp .eq 54, 3) := by decide +kernel
theorem dL_law_449 : decode code 449 = .ok (.iconst 0, 1) := by decide +kernel
theorem dL_law_450 : decode code 450 = .ok (.ireturn, 1) := by decide +kernel
theorem dL_law_451 : decode code 451 = .ok (.aload_n 1, 1) := by decide +kernel
theorem dL_law_452 : decode code 452 = .ok (.invokevirtual 78, 3) := by decide +kernel
theorem dL_law_455 : decode code 455 = .ok (.aload_n 2, 1) := by decide +kernel
theorem dL_law_456 : decode code 456 = .ok (.invokevirtual 81, 3) := by decide +kernel
theorem dL_law_459 : decode code 459 = .ok (.if_icmp .eq 41, 3) := by decide +kernel
theorem dL_law_462 : decode code 462 = .ok (.iconst 0, 1) := by decide +kernel
theorem dL_law_463 : decode code 463 = .ok (.ireturn, 1) := by decide +kernel
theorem dL_law_464 : decode code 464 = .ok (.aload_n 1, 1) := by decide +kernel
theorem dL_law_465 : decode code 465 = .ok (.invokevirtual 82, 3) := by decide +kernel
theorem dL_law_468 : decode code 468 = .ok (.aload_n 2, 1) := by decide +kernel
theorem dL_law_469 : decode code 469 = .ok (.invokevirtual 85, 3) := by decide +kernel
theorem dL_law_472 : decode code 472 = .ok (.if_icmp .eq 28, 3) := by decide +kernel
theorem dL_law_475 : decode code 475 = .ok (.iconst 0, 1) := by decide +kernel
theorem dL_law_476 : decode code 476 = .ok (.ireturn, 1) := by decide +kernel
theorem dL_law_477 : decode code 477 = .ok (.aload_n 1, 1) := by decide +kernel
theorem dL_law_478 : decode code 478 = .ok (.aload_n 0, 1) := by decide +kernel
theorem dL_law_479 : decode code 479 = .ok (.iload_n 3, 1) := by decide +kernel
theorem dL_law_480 : decode code 480 = .ok (.iconst 1, 1) := by decide +kernel
theorem dL_law_481 : decode code 481 = .ok (.iadd, 1) := by decide +kernel
theorem dL_law_482 : decode code 482 = .ok (.iaload, 1) := by decide +kernel
theorem dL_law_483 : decode code 483 = .ok (.invokevirtual 86, 3) := by decide +kernel
theorem dL_law_486 : decode code 486 = .ok (.aload_n 2, 1) := by decide +kernel
theorem dL_law_487 : decode code 487 = .ok (.aload_n 0, 1) := by decide +kernel
theorem dL_law_488 : decode code 488 = .ok (.iload_n 3, 1) := by decide +kernel
theorem dL_law_489 : decode code 489 = .ok (.iconst 1, 1) := by decide +kernel
theorem dL_law_490 : decode code 490 = .ok (.iadd, 1) := by decide +kernel
theorem dL_law_491 : decode code 491 = .ok (.iaload, 1) := by decide +kernel
theorem dL_law_492 : decode code 492 = .ok (.invokevirtual 89, 3) := by decide +kernel
theorem dL_law_495 : decode code 495 = .ok (.if_icmp .eq 5, 3) := by decide +kernel
theorem dL_law_498 : decode code 498 = .ok (.iconst 0, 1) := by decide +kernel
theorem dL_law_499 : decode code 499 = .ok (.ireturn, 1) := by decide +kernel
theorem dL_law_500 : decode code 500 = .ok (.iinc 3 3, 3) := by decide +kernel
theorem dL_law_503 : decode code 503 = .ok (.goto (-465), 3) := by decide +kernel
theorem dL_law_506 : decode code 506 = .ok (.iconst 1, 1) := by decide +kernel
theorem dL_law_507 : decode code 507 = .ok (.ireturn, 1) := by decide +kernel
theorem dX0_copyWords_0 : decode cX0_copyWords 0 = .ok (.iconst 0, 1) := by decide +kernel
theorem dX0_copyWords_1 : decode cX0_copyWords 1 = .ok (.istore_n 3, 1) := by decide +kernel
theorem dX0_copyWords_2 : decode cX0_copyWords 2 = .ok (.iload_n 3, 1) := by decide +kernel
theorem dX0_copyWords_3 : decode cX0_copyWords 3 = .ok (.bipush 8, 2) := by decide +kernel
theorem dX0_copyWords_5 : decode cX0_copyWords 5 = .ok (.if_icmp .ge 31, 3) := by decide +kernel
theorem dX0_copyWords_8 : decode cX0_copyWords 8 = .ok (.aload_n 0, 1) := by decide +kernel
theorem dX0_copyWords_9 : decode cX0_copyWords 9 = .ok (.getfield 18, 3) := by decide +kernel
theorem dX0_copyWords_12 : decode cX0_copyWords 12 = .ok (.iload_n 2, 1) := by decide +kernel
theorem dX0_copyWords_13 : decode cX0_copyWords 13 = .ok (.bipush 8, 2) := by decide +kernel
theorem dX0_copyWords_15 : decode cX0_copyWords 15 = .ok (.imul, 1) := by decide +kernel
theorem dX0_copyWords_16 : decode cX0_copyWords 16 = .ok (.iload_n 3, 1) := by decide +kernel
theorem dX0_copyWords_17 : decode cX0_copyWords 17 = .ok (.iadd, 1) := by decide +kernel
theorem dX0_copyWords_18 : decode cX0_copyWords 18 = .ok (.aload_n 0, 1) := by decide +kernel
theorem dX0_copyWords_19 : decode cX0_copyWords 19 = .ok (.getfield 18, 3) := by decide +kernel
theorem dX0_copyWords_22 : decode cX0_copyWords 22 = .ok (.iload_n 1, 1) := by decide +kernel
theorem dX0_copyWords_23 : decode cX0_copyWords 23 = .ok (.bipush 8, 2) := by decide +kernel
theorem dX0_copyWords_25 : decode cX0_copyWords 25 = .ok (.imul, 1) := by decide +kernel
theorem dX0_copyWords_26 : decode cX0_copyWords 26 = .ok (.iload_n 3, 1) := by decide +kernel
theorem dX0_copyWords_27 : decode cX0_copyWords 27 = .ok (.iadd, 1) := by decide +kernel
theorem dX0_copyWords_28 : decode cX0_copyWords 28 = .ok (.iaload, 1) := by decide +kernel
theorem dX0_copyWords_29 : decode cX0_copyWords 29 = .ok (.iastore, 1) := by decide +kernel
theorem dX0_copyWords_30 : decode cX0_copyWords 30 = .ok (.iinc 3 1, 3) := by decide +kernel
theorem dX0_copyWords_33 : decode cX0_copyWords 33 = .ok (.goto (-31), 3) := by decide +kernel
theorem dX0_copyWords_36 : decode cX0_copyWords 36 = .ok (.return_, 1) := by decide +kernel
theorem dX0_init_0 : decode cX0_init 0 = .ok (.aload_n 0, 1) := by decide +kernel
theorem dX0_init_1 : decode cX0_init 1 = .ok (.invokespecial 3, 3) := by decide +kernel
theorem dX0_init_4 : decode cX0_init 4 = .ok (.aload_n 0, 1) := by decide +kernel
theorem dX0_init_5 : decode cX0_init 5 = .ok (.iconst 0, 1) := by decide +kernel
theorem dX0_init_6 : decode cX0_init 6 = .ok (.putfield 9, 3) := by decide +kernel
theorem dX0_init_9 : decode cX0_init 9 = .ok (.aload_n 0, 1) := by decide +kernel
theorem dX0_init_10 : decode cX0_init 10 = .ok (.iload_n 1, 1) := by decide +kernel
theorem dX0_init_11 : decode cX0_init 11 = .ok (.putfield 15, 3) := by decide +kernel
theorem dX0_init_14 : decode cX0_init 14 = .ok (.aload_n 0, 1) := by decide +kernel
theorem dX0_init_15 : decode cX0_init 15 = .ok (.iload_n 1, 1) := by decide +kernel
theorem dX0_init_16 : decode cX0_init 16 = .ok (.bipush 8, 2) := by decide +kernel
theorem dX0_init_18 : decode cX0_init 18 = .ok (.imul, 1) := by decide +kernel
theorem dX0_init_19 : decode cX0_init 19 = .ok (.newarray .int, 2) := by decide +kernel
theorem dX0_init_21 : decode cX0_init 21 = .ok (.putfield 18, 3) := by decide +kernel
theorem dX0_init_24 : decode cX0_init 24 = .ok (.aload_n 0, 1) := by decide +kernel
theorem dX0_init_25 : decode cX0_init 25 = .ok (.iload_n 1, 1) := by decide +kernel
theorem dX0_init_26 : decode cX0_init 26 = .ok (.newarray .int, 2) := by decide +kernel
theorem dX0_init_28 : decode cX0_init 28 = .ok (.putfield 22, 3) := by decide +kernel
theorem dX0_init_31 : decode cX0_init 31 = .ok (.return_, 1) := by decide +kernel
theorem dX0_join_0 : decode cX0_join 0 = .ok (.iload_n 1, 1) := by decide +kernel
theorem dX0_join_1 : decode cX0_join 1 = .ok (.iconst (-1), 1) := by decide +kernel
theorem dX0_join_2 : decode cX0_join 2 = .ok (.if_icmp .eq 13, 3) := by decide +kernel
theorem dX0_join_5 : decode cX0_join 5 = .ok (.aload_n 0, 1) := by decide +kernel
theorem dX0_join_6 : decode cX0_join 6 = .ok (.getfield 22, 3) := by decide +kernel
theorem dX0_join_9 : decode cX0_join 9 = .ok (.iload_n 1, 1) := by decide +kernel
theorem dX0_join_10 : decode cX0_join 10 = .ok (.dup2, 1) := by decide +kernel
theorem dX0_join_11 : decode cX0_join 11 = .ok (.iaload, 1) := by decide +kernel
theorem dX0_join_12 : decode cX0_join 12 = .ok (.iconst 1, 1) := by decide +kernel
theorem dX0_join_13 : decode cX0_join 13 = .ok (.iadd, 1) := by decide +kernel
theorem dX0_join_14 : decode cX0_join 14 = .ok (.iastore, 1) := by decide +kernel
theorem dX0_join_15 : decode cX0_join 15 = .ok (.return_, 1) := by decide +kernel
theorem dX0_leave_0 : decode cX0_leave 0 = .ok (.iload_n 1, 1) := by decide +kernel
theorem dX0_leave_1 : decode cX0_leave 1 = .ok (.iconst (-1), 1) := by decide +kernel
theorem dX0_leave_2 : decode cX0_leave 2 = .ok (.if_icmp .ne 4, 3) := by decide +kernel
theorem dX0_leave_5 : decode cX0_leave 5 = .ok (.return_, 1) := by decide +kernel
theorem dX0_leave_6 : decode cX0_leave 6 = .ok (.aload_n 0, 1) := by decide +kernel
theorem dX0_leave_7 : decode cX0_leave 7 = .ok (.getfield 22, 3) := by decide +kernel
theorem dX0_leave_10 : decode cX0_leave 10 = .ok (.iload_n 1, 1) := by decide +kernel
theorem dX0_leave_11 : decode cX0_leave 11 = .ok (.dup2, 1) := by decide +kernel
theorem dX0_leave_12 : decode cX0_leave 12 = .ok (.iaload, 1) := by decide +kernel
theorem dX0_leave_13 : decode cX0_leave 13 = .ok (.iconst 1, 1) := by decide +kernel
theorem dX0_leave_14 : decode cX0_leave 14 = .ok (.isub, 1) := by decide +kernel
theorem dX0_leave_15 : decode cX0_leave 15 = .ok (.iastore, 1) := by decide +kernel
theorem dX0_leave_16 : decode cX0_leave 16 = .ok (.aload_n 0, 1) := by decide +kernel
theorem dX0_leave_17 : decode cX0_leave 17 = .ok (.getfield 22, 3) := by decide +kernel
theorem dX0_leave_20 : decode cX0_leave 20 = .ok (.iload_n 1, 1) := by decide +kernel
theorem dX0_leave_21 : decode cX0_leave 21 = .ok (.iaload, 1) := by decide +kernel
theorem dX0_leave_22 : decode cX0_leave 22 = .ok (.ifCond .ne 13, 3) := by decide +kernel
theorem dX0_leave_25 : decode cX0_leave 25 = .ok (.aload_n 0, 1) := by decide +kernel
theorem dX0_leave_26 : decode cX0_leave 26 = .ok (.dup, 1) := by decide +kernel
theorem dX0_leave_27 : decode cX0_leave 27 = .ok (.getfield 9, 3) := by decide +kernel
theorem dX0_leave_30 : decode cX0_leave 30 = .ok (.iconst 1, 1) := by decide +kernel
theorem dX0_leave_31 : decode cX0_leave 31 = .ok (.isub, 1) := by decide +kernel
theorem dX0_leave_32 : decode cX0_leave 32 = .ok (.putfield 9, 3) := by decide +kernel
theorem dX0_leave_35 : decode cX0_leave 35 = .ok (.return_, 1) := by decide +kernel
