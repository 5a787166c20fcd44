theorem dL_cell_0 : decode cL_cell 0 = .ok (.iload_n 1, 1) := by decide +kernel
theorem dL_cell_1 : decode cL_cell 1 = .ok (.aload_n 0, 1) := by decide +kernel
theorem dL_cell_2 : decode cL_cell 2 = .ok (.arraylength, 1) := by decide +kernel
theorem dL_cell_3 : decode cL_cell 3 = .ok (.if_icmp .ge 9, 3) := by decide +kernel
theorem dL_cell_6 : decode cL_cell 6 = .ok (.aload_n 0, 1) := by decide +kernel
theorem dL_cell_7 : decode cL_cell 7 = .ok (.iload_n 1, 1) := by decide +kernel
theorem dL_cell_8 : decode cL_cell 8 = .ok (.iaload, 1) := by decide +kernel
theorem dL_cell_9 : decode cL_cell 9 = .ok (.goto 13, 3) := by decide +kernel
theorem dL_cell_12 : decode cL_cell 12 = .ok (.ldc 7, 2) := by decide +kernel
theorem dL_cell_14 : decode cL_cell 14 = .ok (.iload_n 1, 1) := by decide +kernel
theorem dL_cell_15 : decode cL_cell 15 = .ok (.bipush 59, 2) := by decide +kernel
theorem dL_cell_17 : decode cL_cell 17 = .ok (.iadd, 1) := by decide +kernel
theorem dL_cell_18 : decode cL_cell 18 = .ok (.imul, 1) := by decide +kernel
theorem dL_cell_19 : decode cL_cell 19 = .ok (.bipush 97, 2) := by decide +kernel
theorem dL_cell_21 : decode cL_cell 21 = .ok (.iadd, 1) := by decide +kernel
theorem dL_cell_22 : decode cL_cell 22 = .ok (.ldc 8, 2) := by decide +kernel
theorem dL_cell_24 : decode cL_cell 24 = .ok (.iand, 1) := by decide +kernel
theorem dL_cell_25 : decode cL_cell 25 = .ok (.ireturn, 1) := by decide +kernel
theorem dL_acts_0 : decode cL_acts 0 = .ok (.iload_n 1, 1) := by decide +kernel
theorem dL_acts_1 : decode cL_acts 1 = .ok (.bipush 32, 2) := by decide +kernel
theorem dL_acts_3 : decode cL_acts 3 = .ok (.idiv, 1) := by decide +kernel
theorem dL_acts_4 : decode cL_acts 4 = .ok (.istore_n 2, 1) := by decide +kernel
theorem dL_acts_5 : decode cL_acts 5 = .ok (.iload_n 1, 1) := by decide +kernel
theorem dL_acts_6 : decode cL_acts 6 = .ok (.bipush 32, 2) := by decide +kernel
theorem dL_acts_8 : decode cL_acts 8 = .ok (.irem, 1) := by decide +kernel
theorem dL_acts_9 : decode cL_acts 9 = .ok (.tableswitch 576 0 22 #[107, 107, 107, 107, 107, 116, 116, 116, 152, 152, 152, 152, 152, 178, 178, 191, 200, 200, 205, 210, 215, 215, 215], 107) := by decide +kernel
theorem dL_acts_116 : decode cL_acts 116 = .ok (.aload_n 0, 1) := by decide +kernel
theorem dL_acts_117 : decode cL_acts 117 = .ok (.iload_n 2, 1) := by decide +kernel
theorem dL_acts_118 : decode cL_acts 118 = .ok (.bipush 100, 2) := by decide +kernel
theorem dL_acts_120 : decode cL_acts 120 = .ok (.irem, 1) := by decide +kernel
theorem dL_acts_121 : decode cL_acts 121 = .ok (.invokevirtual 9, 3) := by decide +kernel
theorem dL_acts_124 : decode cL_acts 124 = .ok (.ireturn, 1) := by decide +kernel
theorem dL_acts_125 : decode cL_acts 125 = .ok (.aload_n 0, 1) := by decide +kernel
theorem dL_acts_126 : decode cL_acts 126 = .ok (.iload_n 2, 1) := by decide +kernel
theorem dL_acts_127 : decode cL_acts 127 = .ok (.iconst 4, 1) := by decide +kernel
theorem dL_acts_128 : decode cL_acts 128 = .ok (.irem, 1) := by decide +kernel
theorem dL_acts_129 : decode cL_acts 129 = .ok (.iload_n 2, 1) := by decide +kernel
theorem dL_acts_130 : decode cL_acts 130 = .ok (.iconst 4, 1) := by decide +kernel
theorem dL_acts_131 : decode cL_acts 131 = .ok (.idiv, 1) := by decide +kernel
theorem dL_acts_132 : decode cL_acts 132 = .ok (.iconst 4, 1) := by decide +kernel
theorem dL_acts_133 : decode cL_acts 133 = .ok (.irem, 1) := by decide +kernel
theorem dL_acts_134 : decode cL_acts 134 = .ok (.iconst 1, 1) := by decide +kernel
theorem dL_acts_135 : decode cL_acts 135 = .ok (.iload_n 2, 1) := by decide +kernel
theorem dL_acts_136 : decode cL_acts 136 = .ok (.bipush 16, 2) := by decide +kernel
theorem dL_acts_138 : decode cL_acts 138 = .ok (.idiv, 1) := by decide +kernel
theorem dL_acts_139 : decode cL_acts 139 = .ok (.iload_n 2, 1) := by decide +kernel
theorem dL_acts_140 : decode cL_acts 140 = .ok (.iconst 4, 1) := by decide +kernel
theorem dL_acts_141 : decode cL_acts 141 = .ok (.idiv, 1) := by decide +kernel
theorem dL_acts_142 : decode cL_acts 142 = .ok (.iconst 4, 1) := by decide +kernel
theorem dL_acts_143 : decode cL_acts 143 = .ok (.irem, 1) := by decide +kernel
theorem dL_acts_144 : decode cL_acts 144 = .ok (.iconst 3, 1) := by decide +kernel
theorem dL_acts_145 : decode cL_acts 145 = .ok (.if_icmp .ne 9, 3) := by decide +kernel
theorem dL_acts_148 : decode cL_acts 148 = .ok (.sipush 255, 3) := by decide +kernel
theorem dL_acts_151 : decode cL_acts 151 = .ok (.goto 4, 3) := by decide +kernel
theorem dL_acts_154 : decode cL_acts 154 = .ok (.iconst 3, 1) := by decide +kernel
theorem dL_acts_155 : decode cL_acts 155 = .ok (.irem, 1) := by decide +kernel
theorem dL_acts_156 : decode cL_acts 156 = .ok (.iadd, 1) := by decide +kernel
theorem dL_acts_157 : decode cL_acts 157 = .ok (.invokevirtual 15, 3) := by decide +kernel
theorem dL_acts_160 : decode cL_acts 160 = .ok (.ireturn, 1) := by decide +kernel
theorem dL_acts_161 : decode cL_acts 161 = .ok (.aload_n 0, 1) := by decide +kernel
theorem dL_acts_162 : decode cL_acts 162 = .ok (.iconst 1, 1) := by decide +kernel
theorem dL_acts_163 : decode cL_acts 163 = .ok (.iload_n 2, 1) := by decide +kernel
theorem dL_acts_164 : decode cL_acts 164 = .ok (.sipush 10000, 3) := by decide +kernel
theorem dL_acts_167 : decode cL_acts 167 = .ok (.idiv, 1) := by decide +kernel
theorem dL_acts_168 : decode cL_acts 168 = .ok (.bipush 99, 2) := by decide +kernel
theorem dL_acts_170 : decode cL_acts 170 = .ok (.irem, 1) := by decide +kernel
theorem dL_acts_171 : decode cL_acts 171 = .ok (.iadd, 1) := by decide +kernel
theorem dL_acts_172 : decode cL_acts 172 = .ok (.iload_n 2, 1) := by decide +kernel
theorem dL_acts_173 : decode cL_acts 173 = .ok (.bipush 100, 2) := by decide +kernel
theorem dL_acts_175 : decode cL_acts 175 = .ok (.irem, 1) := by decide +kernel
theorem dL_acts_176 : decode cL_acts 176 = .ok (.iload_n 2, 1) := by decide +kernel
theorem dL_acts_177 : decode cL_acts 177 = .ok (.bipush 100, 2) := by decide +kernel
theorem dL_acts_179 : decode cL_acts 179 = .ok (.idiv, 1) := by decide +kernel
theorem dL_acts_180 : decode cL_acts 180 = .ok (.bipush 100, 2) := by decide +kernel
theorem dL_acts_182 : decode cL_acts 182 = .ok (.irem, 1) := by decide +kernel
theorem dL_acts_183 : decode cL_acts 183 = .ok (.invokevirtual 19, 3) := by decide +kernel
theorem dL_acts_186 : decode cL_acts 186 = .ok (.ireturn, 1) := by decide +kernel
theorem dL_acts_187 : decode cL_acts 187 = .ok (.aload_n 0, 1) := by decide +kernel
theorem dL_acts_188 : decode cL_acts 188 = .ok (.iload_n 2, 1) := by decide +kernel
theorem dL_acts_189 : decode cL_acts 189 = .ok (.iconst 4, 1) := by decide +kernel
theorem dL_acts_190 : decode cL_acts 190 = .ok (.irem, 1) := by decide +kernel
theorem dL_acts_191 : decode cL_acts 191 = .ok (.iload_n 2, 1) := by decide +kernel
theorem dL_acts_192 : decode cL_acts 192 = .ok (.iconst 4, 1) := by decide +kernel
theorem dL_acts_193 : decode cL_acts 193 = .ok (.idiv, 1) := by decide +kernel
theorem dL_acts_194 : decode cL_acts 194 = .ok (.iconst 4, 1) := by decide +kernel
theorem dL_acts_195 : decode cL_acts 195 = .ok (.irem, 1) := by decide +kernel
theorem dL_acts_196 : decode cL_acts 196 = .ok (.invokevirtual 22, 3) := by decide +kernel
theorem dL_acts_199 : decode cL_acts 199 = .ok (.ireturn, 1) := by decide +kernel
theorem dL_acts_200 : decode cL_acts 200 = .ok (.aload_n 0, 1) := by decide +kernel
theorem dL_acts_201 : decode cL_acts 201 = .ok (.iload_n 2, 1) := by decide +kernel
theorem dL_acts_202 : decode cL_acts 202 = .ok (.bipush 10, 2) := by decide +kernel
theorem dL_acts_204 : decode cL_acts 204 = .ok (.irem, 1) := by decide +kernel
theorem dL_acts_205 : decode cL_acts 205 = .ok (.invokevirtual 26, 3) := by decide +kernel
theorem dL_acts_208 : decode cL_acts 208 = .ok (.ireturn, 1) := by decide +kernel
theorem dL_acts_209 : decode cL_acts 209 = .ok (.aload_n 0, 1) := by decide +kernel
theorem dL_acts_210 : decode cL_acts 210 = .ok (.invokevirtual 29, 3) := by decide +kernel
theorem dL_acts_213 : decode cL_acts 213 = .ok (.ireturn, 1) := by decide +kernel
theorem dL_acts_214 : decode cL_acts 214 = .ok (.aload_n 0, 1) := by decide +kernel
theorem dL_acts_215 : decode cL_acts 215 = .ok (.invokevirtual 33, 3) := by decide +kernel
theorem dL_acts_218 : decode cL_acts 218 = .ok (.ireturn, 1) := by decide +kernel
theorem dL_acts_219 : decode cL_acts 219 = .ok (.aload_n 0, 1) := by decide +kernel
theorem dL_acts_220 : decode cL_acts 220 = .ok (.invokevirtual 36, 3) := by decide +kernel
theorem dL_acts_223 : decode cL_acts 223 = .ok (.ireturn, 1) := by decide +kernel
theorem dL_acts_224 : decode cL_acts 224 = .ok (.aload_n 0, 1) := by decide +kernel
theorem dL_acts_225 : decode cL_acts 225 = .ok (.invokevirtual 39, 3) := by decide +kernel
theorem dL_acts_228 : decode cL_acts 228 = .ok (.istore_n 3, 1) := by decide +kernel
theorem dL_acts_229 : decode cL_acts 229 = .ok (.iconst 0, 1) := by decide +kernel
theorem dL_acts_230 : decode cL_acts 230 = .ok (.istore 4, 2) := by decide +kernel
theorem dL_acts_232 : decode cL_acts 232 = .ok (.iload 4, 2) := by decide +kernel
theorem dL_acts_234 : decode cL_acts 234 = .ok (.iconst 1, 1) := by decide +kernel
theorem dL_acts_235 : decode cL_acts 235 = .ok (.iload_n 2, 1) := by decide +kernel
theorem dL_acts_236 : decode cL_acts 236 = .ok (.iconst 4, 1) := by decide +kernel
theorem dL_acts_237 : decode cL_acts 237 = .ok (.irem, 1) := by decide +kernel
theorem dL_acts_238 : decode cL_acts 238 = .ok (.iadd, 1) := by decide +kernel
theorem dL_acts_239 : decode cL_acts 239 = .ok (.if_icmp .ge 321, 3) := by decide +kernel
theorem dL_acts_242 : decode cL_acts 242 = .ok (.iload_n 2, 1) := by decide +kernel
theorem dL_acts_243 : decode cL_acts 243 = .ok (.iconst 4, 1) := by decide +kernel
theorem dL_acts_244 : decode cL_acts 244 = .ok (.idiv, 1) := by decide +kernel
theorem dL_acts_245 : decode cL_acts 245 = .ok (.bipush 6, 2) := by decide +kernel
theorem dL_acts_247 : decode cL_acts 247 = .ok (.iload 4, 2) := by decide +kernel
theorem dL_acts_249 : decode cL_acts 249 = .ok (.imul, 1) := by decide +kernel
theorem dL_acts_250 : decode cL_acts 250 = .ok (.ishr, 1) := by decide +kernel
theorem dL_acts_251 : decode cL_acts 251 = .ok (.istore 5, 2) := by decide +kernel
theorem dL_acts_253 : decode cL_acts 253 = .ok (.iload 4, 2) := by decide +kernel
theorem dL_acts_255 : decode cL_acts 255 = .ok (.ifCond .le 12, 3) := by decide +kernel
theorem dL_acts_258 : decode cL_acts 258 = .ok (.aload_n 0, 1) := by decide +kernel
theorem dL_acts_259 : decode cL_acts 259 = .ok (.bipush 59, 2) := by decide +kernel
theorem dL_acts_261 : decode cL_acts 261 = .ok (.invokevirtual 42, 3) := by decide +kernel
theorem dL_acts_264 : decode cL_acts 264 = .ok (.goto 4, 3) := by decide +kernel
theorem dL_acts_267 : decode cL_acts 267 = .ok (.iconst 0, 1) := by decide +kernel
theorem dL_acts_268 : decode cL_acts 268 = .ok (.istore_n 3, 1) := by decide +kernel
theorem dL_acts_269 : decode cL_acts 269 = .ok (.aload_n 0, 1) := by decide +kernel
theorem dL_acts_270 : decode cL_acts 270 = .ok (.iload 5, 2) := by decide +kernel
theorem dL_acts_272 : decode cL_acts 272 = .ok (.iconst 4, 1) := by decide +kernel
theorem dL_acts_273 : decode cL_acts 273 = .ok (.irem, 1) := by decide +kernel
theorem dL_acts_274 : decode cL_acts 274 = .ok (.ifCond .ne 8, 3) := by decide +kernel
theorem dL_acts_277 : decode cL_acts 277 = .ok (.bipush 114, 2) := by decide +kernel
theorem dL_acts_279 : decode cL_acts 279 = .ok (.goto 31, 3) := by decide +kernel
theorem dL_acts_282 : decode cL_acts 282 = .ok (.iload 5, 2) := by decide +kernel
theorem dL_acts_284 : decode cL_acts 284 = .ok (.iconst 4, 1) := by decide +kernel
theorem dL_acts_285 : decode cL_acts 285 = .ok (.irem, 1) := by decide +kernel
theorem dL_acts_286 : decode cL_acts 286 = .ok (.iconst 1, 1) := by decide +kernel
theorem dL_acts_287 : decode cL_acts 287 = .ok (.if_icmp .ne 8, 3) := by decide +kernel
theorem dL_acts_290 : decode cL_acts 290 = .ok (.bipush 115, 2) := by decide +kernel
theorem dL_acts_292 : decode cL_acts 292 = .ok (.goto 18, 3) := by decide +kernel
theorem dL_acts_295 : decode cL_acts 295 = .ok (.iload 5, 2) := by decide +kernel
theorem dL_acts_297 : decode cL_acts 297 = .ok (.iconst 4, 1) := by decide +kernel
theorem dL_acts_298 : decode cL_acts 298 = .ok (.irem, 1) := by decide +kernel
theorem dL_acts_299 : decode cL_acts 299 = .ok (.iconst 2, 1) := by decide +kernel
theorem dL_acts_300 : decode cL_acts 300 = .ok (.if_icmp .ne 8, 3) := by decide +kernel
theorem dL_acts_303 : decode cL_acts 303 = .ok (.bipush 100, 2) := by decide +kernel
theorem dL_acts_305 : decode cL_acts 305 = .ok (.goto 5, 3) := by decide +kernel
theorem dL_acts_308 : decode cL_acts 308 = .ok (.bipush 104, 2) := by decide +kernel
theorem dL_acts_310 : decode cL_acts 310 = .ok (.invokevirtual 42, 3) := by decide +kernel
theorem dL_acts_313 : decode cL_acts 313 = .ok (.istore_n 3, 1) := by decide +kernel
theorem dL_acts_314 : decode cL_acts 314 = .ok (.iload 5, 2) := by decide +kernel
theorem dL_acts_316 : decode cL_acts 316 = .ok (.iconst 4, 1) := by decide +kernel
theorem dL_acts_317 : decode cL_acts 317 = .ok (.irem, 1) := by decide +kernel
theorem dL_acts_318 : decode cL_acts 318 = .ok (.iconst 1, 1) := by decide +kernel
theorem dL_acts_319 : decode cL_acts 319 = .ok (.if_icmp .ne 21, 3) := by decide +kernel
theorem dL_acts_322 : decode cL_acts 322 = .ok (.aload_n 0, 1) := by decide +kernel
theorem dL_acts_323 : decode cL_acts 323 = .ok (.bipush 49, 2) := by decide +kernel
theorem dL_acts_325 : decode cL_acts 325 = .ok (.iload 5, 2) := by decide +kernel
theorem dL_acts_327 : decode cL_acts 327 = .ok (.iconst 4, 1) := by decide +kernel
theorem dL_acts_328 : decode cL_acts 328 = .ok (.idiv, 1) := by decide +kernel
theorem dL_acts_329 : decode cL_acts 329 = .ok (.bipush 9, 2) := by decide +kernel
theorem dL_acts_331 : decode cL_acts 331 = .ok (.irem, 1) := by decide +kernel
theorem dL_acts_332 : decode cL_acts 332 = .ok (.iadd, 1) := by decide +kernel
theorem dL_acts_333 : decode cL_acts 333 = .ok (.i2c, 1) := by decide +kernel
theorem dL_acts_334 : decode cL_acts 334 = .ok (.invokevirtual 42, 3) := by decide +kernel
theorem dL_acts_337 : decode cL_acts 337 = .ok (.goto 4, 3) := by decide +kernel
theorem dL_acts_340 : decode cL_acts 340 = .ok (.iload_n 3, 1) := by decide +kernel
theorem dL_acts_341 : decode cL_acts 341 = .ok (.istore_n 3, 1) := by decide +kernel
theorem dL_acts_342 : decode cL_acts 342 = .ok (.iload 5, 2) := by decide +kernel
theorem dL_acts_344 : decode cL_acts 344 = .ok (.iconst 4, 1) := by decide +kernel
theorem dL_acts_345 : decode cL_acts 345 = .ok (.irem, 1) := by decide +kernel
theorem dL_acts_346 : decode cL_acts 346 = .ok (.iconst 1, 1) := by decide +kernel
theorem dL_acts_347 : decode cL_acts 347 = .ok (.if_icmp .ne 12, 3) := by decide +kernel
theorem dL_acts_350 : decode cL_acts 350 = .ok (.aload_n 0, 1) := by decide +kernel
theorem dL_acts_351 : decode cL_acts 351 = .ok (.bipush 58, 2) := by decide +kernel
theorem dL_acts_353 : decode cL_acts 353 = .ok (.invokevirtual 42, 3) := by decide +kernel
theorem dL_acts_356 : decode cL_acts 356 = .ok (.goto 4, 3) := by decide +kernel
theorem dL_acts_359 : decode cL_acts 359 = .ok (.iload_n 3, 1) := by decide +kernel
theorem dL_acts_360 : decode cL_acts 360 = .ok (.istore_n 3, 1) := by decide +kernel
theorem dL_acts_361 : decode cL_acts 361 = .ok (.aload_n 0, 1) := by decide +kernel
theorem dL_acts_362 : decode cL_acts 362 = .ok (.iload 5, 2) := by decide +kernel
theorem dL_acts_364 : decode cL_acts 364 = .ok (.iconst 4, 1) := by decide +kernel
theorem dL_acts_365 : decode cL_acts 365 = .ok (.irem, 1) := by decide +kernel
theorem dL_acts_366 : decode cL_acts 366 = .ok (.iconst 2, 1) := by decide +kernel
theorem dL_acts_367 : decode cL_acts 367 = .ok (.if_icmp .ne 16, 3) := by decide +kernel
theorem dL_acts_370 : decode cL_acts 370 = .ok (.bipush 48, 2) := by decide +kernel
theorem dL_acts_372 : decode cL_acts 372 = .ok (.iload 5, 2) := by decide +kernel
theorem dL_acts_374 : decode cL_acts 374 = .ok (.bipush 8, 2) := by decide +kernel
theorem dL_acts_376 : decode cL_acts 376 = .ok (.idiv, 1) := by decide +kernel
theorem dL_acts_377 : decode cL_acts 377 = .ok (.iconst 4, 1) := by decide +kernel
theorem dL_acts_378 : decode cL_acts 378 = .ok (.irem, 1) := by decide +kernel
theorem dL_acts_379 : decode cL_acts 379 = .ok (.iadd, 1) := by decide +kernel
theorem dL_acts_380 : decode cL_acts 380 = .ok (.goto 36, 3) := by decide +kernel
theorem dL_acts_383 : decode cL_acts 383 = .ok (.iload 5, 2) := by decide +kernel
theorem dL_acts_385 : decode cL_acts 385 = .ok (.iconst 4, 1) := by decide +kernel
theorem dL_acts_386 : decode cL_acts 386 = .ok (.irem, 1) := by decide +kernel
theorem dL_acts_387 : decode cL_acts 387 = .ok (.iconst 3, 1) := by decide +kernel
theorem dL_acts_388 : decode cL_acts 388 = .ok (.if_icmp .ne 17, 3) := by decide +kernel
theorem dL_acts_391 : decode cL_acts 391 = .ok (.bipush 49, 2) := by decide +kernel
theorem dL_acts_393 : decode cL_acts 393 = .ok (.iload 5, 2) := by decide +kernel
theorem dL_acts_395 : decode cL_acts 395 = .ok (.bipush 8, 2) := by decide +kernel
theorem dL_acts_397 : decode cL_acts 397 = .ok (.idiv, 1) := by decide +kernel
theorem dL_acts_398 : decode cL_acts 398 = .ok (.bipush 9, 2) := by decide +kernel
theorem dL_acts_400 : decode cL_acts 400 = .ok (.irem, 1) := by decide +kernel
theorem dL_acts_401 : decode cL_acts 401 = .ok (.iadd, 1) := by decide +kernel
theorem dL_acts_402 : decode cL_acts 402 = .ok (.goto 14, 3) := by decide +kernel
theorem dL_acts_405 : decode cL_acts 405 = .ok (.bipush 48, 2) := by decide +kernel
theorem dL_acts_407 : decode cL_acts 407 = .ok (.iload 5, 2) := by decide +kernel
theorem dL_acts_409 : decode cL_acts 409 = .ok (.bipush 8, 2) := by decide +kernel
theorem dL_acts_411 : decode cL_acts 411 = .ok (.idiv, 1) := by decide +kernel
theorem dL_acts_412 : decode cL_acts 412 = .ok (.bipush 10, 2) := by decide +kernel
theorem dL_acts_414 : decode cL_acts 414 = .ok (.irem, 1) := by decide +kernel
theorem dL_acts_415 : decode cL_acts 415 = .ok (.iadd, 1) := by decide +kernel
theorem dL_acts_416 : decode cL_acts 416 = .ok (.i2c, 1) := by decide +kernel
theorem dL_acts_417 : decode cL_acts 417 = .ok (.invokevirtual 42, 3) := by decide +kernel
theorem dL_acts_420 : decode cL_acts 420 = .ok (.istore_n 3, 1) := by decide +kernel
theorem dL_acts_421 : decode cL_acts 421 = .ok (.iload 5, 2) := by decide +kernel
theorem dL_acts_423 : decode cL_acts 423 = .ok (.iconst 4, 1) := by decide +kernel
theorem dL_acts_424 : decode cL_acts 424 = .ok (.irem, 1) := by decide +kernel
theorem dL_acts_425 : decode cL_acts 425 = .ok (.iconst 2, 1) := by decide +kernel
theorem dL_acts_426 : decode cL_acts 426 = .ok (.if_icmp .ge 22, 3) := by decide +kernel
theorem dL_acts_429 : decode cL_acts 429 = .ok (.aload_n 0, 1) := by decide +kernel
theorem dL_acts_430 : decode cL_acts 430 = .ok (.bipush 48, 2) := by decide +kernel
theorem dL_acts_432 : decode cL_acts 432 = .ok (.iload 5, 2) := by decide +kernel
theorem dL_acts_434 : decode cL_acts 434 = .ok (.bipush 64, 2) := by decide +kernel
theorem dL_acts_436 : decode cL_acts 436 = .ok (.idiv, 1) := by decide +kernel
theorem dL_acts_437 : decode cL_acts 437 = .ok (.bipush 10, 2) := by decide +kernel
theorem dL_acts_439 : decode cL_acts 439 = .ok (.irem, 1) := by decide +kernel
theorem dL_acts_440 : decode cL_acts 440 = .ok (.iadd, 1) := by decide +kernel
theorem dL_acts_441 : decode cL_acts 441 = .ok (.i2c, 1) := by decide +kernel
theorem dL_acts_442 : decode cL_acts 442 = .ok (.invokevirtual 42, 3) := by decide +kernel
theorem dL_acts_445 : decode cL_acts 445 = .ok (.goto 31, 3) := by decide +kernel
theorem dL_acts_448 : decode cL_acts 448 = .ok (.iload 5, 2) := by decide +kernel
theorem dL_acts_450 : decode cL_acts 450 = .ok (.iconst 4, 1) := by decide +kernel
theorem dL_acts_451 : decode cL_acts 451 = .ok (.irem, 1) := by decide +kernel
theorem dL_acts_452 : decode cL_acts 452 = .ok (.iconst 2, 1) := by decide +kernel
theorem dL_acts_453 : decode cL_acts 453 = .ok (.if_icmp .ne 22, 3) := by decide +kernel
theorem dL_acts_456 : decode cL_acts 456 = .ok (.aload_n 0, 1) := by decide +kernel
theorem dL_acts_457 : decode cL_acts 457 = .ok (.bipush 48, 2) := by decide +kernel
theorem dL_acts_459 : decode cL_acts 459 = .ok (.iload 5, 2) := by decide +kernel
theorem dL_acts_461 : decode cL_acts 461 = .ok (.bipush 64, 2) := by decide +kernel
theorem dL_acts_463 : decode cL_acts 463 = .ok (.idiv, 1) := by decide +kernel
theorem dL_acts_464 : decode cL_acts 464 = .ok (.bipush 8, 2) := by decide +kernel
theorem dL_acts_466 : decode cL_acts 466 = .ok (.irem, 1) := by decide +kernel
theorem dL_acts_467 : decode cL_acts 467 = .ok (.iadd, 1) := by decide +kernel
theorem dL_acts_468 : decode cL_acts 468 = .ok (.i2c, 1) := by decide +kernel
theorem dL_acts_469 : decode cL_acts 469 = .ok (.invokevirtual 42, 3) := by decide +kernel
theorem dL_acts_472 : decode cL_acts 472 = .ok (.goto 4, 3) := by decide +kernel
theorem dL_acts_475 : decode cL_acts 475 = .ok (.iload_n 3, 1) := by decide +kernel
theorem dL_acts_476 : decode cL_acts 476 = .ok (.istore_n 3, 1) := by decide +kernel
theorem dL_acts_477 : decode cL_acts 477 = .ok (.iload 5, 2) := by decide +kernel
theorem dL_acts_479 : decode cL_acts 479 = .ok (.iconst 4, 1) := by decide +kernel
theorem dL_acts_480 : decode cL_acts 480 = .ok (.irem, 1) := by decide +kernel
theorem dL_acts_481 : decode cL_acts 481 = .ok (.iconst 1, 1) := by decide +kernel
theorem dL_acts_482 : decode cL_acts 482 = .ok (.if_icmp .ne 12, 3) := by decide +kernel
theorem dL_acts_485 : decode cL_acts 485 = .ok (.aload_n 0, 1) := by decide +kernel
theorem dL_acts_486 : decode cL_acts 486 = .ok (.bipush 62, 2) := by decide +kernel
theorem dL_acts_488 : decode cL_acts 488 = .ok (.invokevirtual 42, 3) := by decide +kernel
theorem dL_acts_491 : decode cL_acts 491 = .ok (.goto 4, 3) := by decide +kernel
theorem dL_acts_494 : decode cL_acts 494 = .ok (.iload_n 3, 1) := by decide +kernel
theorem dL_acts_495 : decode cL_acts 495 = .ok (.istore_n 3, 1) := by decide +kernel
theorem dL_acts_496 : decode cL_acts 496 = .ok (.iload 5, 2) := by decide +kernel
theorem dL_acts_498 : decode cL_acts 498 = .ok (.iconst 4, 1) := by decide +kernel
theorem dL_acts_499 : decode cL_acts 499 = .ok (.irem, 1) := by decide +kernel
theorem dL_acts_500 : decode cL_acts 500 = .ok (.iconst 1, 1) := by decide +kernel
theorem dL_acts_501 : decode cL_acts 501 = .ok (.if_icmp .ne 22, 3) := by decide +kernel
theorem dL_acts_504 : decode cL_acts 504 = .ok (.aload_n 0, 1) := by decide +kernel
theorem dL_acts_505 : decode cL_acts 505 = .ok (.bipush 48, 2) := by decide +kernel
theorem dL_acts_507 : decode cL_acts 507 = .ok (.iload 5, 2) := by decide +kernel
theorem dL_acts_509 : decode cL_acts 509 = .ok (.bipush 16, 2) := by decide +kernel
theorem dL_acts_511 : decode cL_acts 511 = .ok (.idiv, 1) := by decide +kernel
theorem dL_acts_512 : decode cL_acts 512 = .ok (.bipush 10, 2) := by decide +kernel
theorem dL_acts_514 : decode cL_acts 514 = .ok (.irem, 1) := by decide +kernel
theorem dL_acts_515 : decode cL_acts 515 = .ok (.iadd, 1) := by decide +kernel
theorem dL_acts_516 : decode cL_acts 516 = .ok (.i2c, 1) := by decide +kernel
theorem dL_acts_517 : decode cL_acts 517 = .ok (.invokevirtual 42, 3) := by decide +kernel
theorem dL_acts_520 : decode cL_acts 520 = .ok (.goto 4, 3) := by decide +kernel
theorem dL_acts_523 : decode cL_acts 523 = .ok (.iload_n 3, 1) := by decide +kernel
theorem dL_acts_524 : decode cL_acts 524 = .ok (.istore_n 3, 1) := by decide +kernel
theorem dL_acts_525 : decode cL_acts 525 = .ok (.iload 5, 2) := by decide +kernel
theorem dL_acts_527 : decode cL_acts 527 = .ok (.iconst 4, 1) := by decide +kernel
theorem dL_acts_528 : decode cL_acts 528 = .ok (.irem, 1) := by decide +kernel
theorem dL_acts_529 : decode cL_acts 529 = .ok (.iconst 1, 1) := by decide +kernel
theorem dL_acts_530 : decode cL_acts 530 = .ok (.if_icmp .ne 22, 3) := by decide +kernel
theorem dL_acts_533 : decode cL_acts 533 = .ok (.aload_n 0, 1) := by decide +kernel
theorem dL_acts_534 : decode cL_acts 534 = .ok (.bipush 48, 2) := by decide +kernel
theorem dL_acts_536 : decode cL_acts 536 = .ok (.iload 5, 2) := by decide +kernel
theorem dL_acts_538 : decode cL_acts 538 = .ok (.bipush 32, 2) := by decide +kernel
theorem dL_acts_540 : decode cL_acts 540 = .ok (.idiv, 1) := by decide +kernel
theorem dL_acts_541 : decode cL_acts 541 = .ok (.bipush 10, 2) := by decide +kernel
theorem dL_acts_543 : decode cL_acts 543 = .ok (.irem, 1) := by decide +kernel
theorem dL_acts_544 : decode cL_acts 544 = .ok (.iadd, 1) := by decide +kernel
theorem dL_acts_545 : decode cL_acts 545 = .ok (.i2c, 1) := by decide +kernel
theorem dL_acts_546 : decode cL_acts 546 = .ok (.invokevirtual 42, 3) := by decide +kernel
theorem dL_acts_549 : decode cL_acts 549 = .ok (.goto 4, 3) := by decide +kernel
theorem dL_acts_552 : decode cL_acts 552 = .ok (.iload_n 3, 1) := by decide +kernel
theorem dL_acts_553 : decode cL_acts 553 = .ok (.istore_n 3, 1) := by decide +kernel
theorem dL_acts_554 : decode cL_acts 554 = .ok (.iinc 4 1, 3) := by decide +kernel
theorem dL_acts_557 : decode cL_acts 557 = .ok (.goto (-325), 3) := by decide +kernel
theorem dL_acts_560 : decode cL_acts 560 = .ok (.iload_n 3, 1) := by decide +kernel
theorem dL_acts_561 : decode cL_acts 561 = .ok (.iconst 1, 1) := by decide +kernel
theorem dL_acts_562 : decode cL_acts 562 = .ok (.if_icmp .lt 12, 3) := by decide +kernel
theorem dL_acts_565 : decode cL_acts 565 = .ok (.aload_n 0, 1) := by decide +kernel
theorem dL_acts_566 : decode cL_acts 566 = .ok (.invokevirtual 46, 3) := by decide +kernel
theorem dL_acts_569 : decode cL_acts 569 = .ok (.bipush (-5), 2) := by decide +kernel
theorem dL_acts_571 : decode cL_acts 571 = .ok (.if_icmp .eq 9, 3) := by decide +kernel
theorem dL_acts_574 : decode cL_acts 574 = .ok (.sipush (-999), 3) := by decide +kernel
theorem dL_acts_577 : decode cL_acts 577 = .ok (.goto 7, 3) := by decide +kernel
theorem dL_acts_580 : decode cL_acts 580 = .ok (.aload_n 0, 1) := by decide +kernel
theorem dL_acts_581 : decode cL_acts 581 = .ok (.invokevirtual 49, 3) := by decide +kernel
theorem dL_acts_584 : decode cL_acts 584 = .ok (.ireturn, 1) := by decide +kernel
theorem dL_acts_585 : decode cL_acts 585 = .ok (.aload_n 0, 1) := by decide +kernel
theorem dL_acts_586 : decode cL_acts 586 = .ok (.iconst 1, 1) := by decide +kernel
theorem dL_acts_587 : decode cL_acts 587 = .ok (.iload_n 2, 1) := by decide +kernel
theorem dL_acts_588 : decode cL_acts 588 = .ok (.iconst 4, 1) := by decide +kernel
theorem dL_acts_589 : decode cL_acts 589 = .ok (.irem, 1) := by decide +kernel
theorem dL_acts_590 : decode cL_acts 590 = .ok (.iadd, 1) := by decide +kernel
theorem dL_acts_591 : decode cL_acts 591 = .ok (.invokevirtual 52, 3) := by decide +kernel
theorem dL_acts_594 : decode cL_acts 594 = .ok (.ireturn, 1) := by decide +kernel
theorem dL_hangs_0 : decode cL_hangs 0 = .ok (.iconst 0, 1) := by decide +kernel
theorem dL_hangs_1 : decode cL_hangs 1 = .ok (.istore_n 1, 1) := by decide +kernel
theorem dL_hangs_2 : decode cL_hangs 2 = .ok (.iconst 0, 1) := by decide +kernel
theorem dL_hangs_3 : decode cL_hangs 3 = .ok (.istore_n 2, 1) := by decide +kernel
theorem dL_hangs_4 : decode cL_hangs 4 = .ok (.iconst 0, 1) := by decide +kernel
theorem dL_hangs_5 : decode cL_hangs 5 = .ok (.istore_n 3, 1) := by decide +kernel
theorem dL_hangs_6 : decode cL_hangs 6 = .ok (.iconst 0, 1) := by decide +kernel
theorem dL_hangs_7 : decode cL_hangs 7 = .ok (.istore 4, 2) := by decide +kernel
theorem dL_hangs_9 : decode cL_hangs 9 = .ok (.iconst 4, 1) := by decide +kernel
theorem dL_hangs_10 : decode cL_hangs 10 = .ok (.newarray .int, 2) := by decide +kernel
theorem dL_hangs_12 : decode cL_hangs 12 = .ok (.astore 5, 2) := by decide +kernel
theorem dL_hangs_14 : decode cL_hangs 14 = .ok (.iconst 1, 1) := by decide +kernel
theorem dL_hangs_15 : decode cL_hangs 15 = .ok (.istore 6, 2) := by decide +kernel
theorem dL_hangs_17 : decode cL_hangs 17 = .ok (.iconst 0, 1) := by decide +kernel
theorem dL_hangs_18 : decode cL_hangs 18 = .ok (.istore 7, 2) := by decide +kernel
theorem dL_hangs_20 : decode cL_hangs 20 = .ok (.iload 7, 2) := by decide +kernel
theorem dL_hangs_22 : decode cL_hangs 22 = .ok (.bipush 100, 2) := by decide +kernel
theorem dL_hangs_24 : decode cL_hangs 24 = .ok (.if_icmp .ge 270, 3) := by decide +kernel
theorem dL_hangs_27 : decode cL_hangs 27 = .ok (.iload 6, 2) := by decide +kernel
theorem dL_hangs_29 : decode cL_hangs 29 = .ok (.ifCond .eq 265, 3) := by decide +kernel
theorem dL_hangs_32 : decode cL_hangs 32 = .ok (.aload_n 0, 1) := by decide +kernel
theorem dL_hangs_33 : decode cL_hangs 33 = .ok (.iload 7, 2) := by decide +kernel
theorem dL_hangs_35 : decode cL_hangs 35 = .ok (.iconst 2, 1) := by decide +kernel
theorem dL_hangs_36 : decode cL_hangs 36 = .ok (.invokevirtual 55, 3) := by decide +kernel
theorem dL_hangs_39 : decode cL_hangs 39 = .ok (.istore 8, 2) := by decide +kernel
theorem dL_hangs_41 : decode cL_hangs 41 = .ok (.aload_n 0, 1) := by decide +kernel
theorem dL_hangs_42 : decode cL_hangs 42 = .ok (.iload 7, 2) := by decide +kernel
theorem dL_hangs_44 : decode cL_hangs 44 = .ok (.iconst 0, 1) := by decide +kernel
theorem dL_hangs_45 : decode cL_hangs 45 = .ok (.invokevirtual 55, 3) := by decide +kernel
theorem dL_hangs_48 : decode cL_hangs 48 = .ok (.istore 9, 2) := by decide +kernel
theorem dL_hangs_50 : decode cL_hangs 50 = .ok (.aload_n 0, 1) := by decide +kernel
theorem dL_hangs_51 : decode cL_hangs 51 = .ok (.iload 7, 2) := by decide +kernel
theorem dL_hangs_53 : decode cL_hangs 53 = .ok (.iconst 1, 1) := by decide +kernel
theorem dL_hangs_54 : decode cL_hangs 54 = .ok (.invokevirtual 55, 3) := by decide +kernel
theorem dL_hangs_57 : decode cL_hangs 57 = .ok (.istore 10, 2) := by decide +kernel
theorem dL_hangs_59 : decode cL_hangs 59 = .ok (.iload 8, 2) := by decide +kernel
theorem dL_hangs_61 : decode cL_hangs 61 = .ok (.ifCond .lt 140, 3) := by decide +kernel
theorem dL_hangs_64 : decode cL_hangs 64 = .ok (.iload 8, 2) := by decide +kernel
theorem dL_hangs_66 : decode cL_hangs 66 = .ok (.bipush 16, 2) := by decide +kernel
theorem dL_hangs_68 : decode cL_hangs 68 = .ok (.if_icmp .ge 133, 3) := by decide +kernel
theorem dL_hangs_71 : decode cL_hangs 71 = .ok (.iload 9, 2) := by decide +kernel
theorem dL_hangs_73 : decode cL_hangs 73 = .ok (.ifCond .eq 9, 3) := by decide +kernel
theorem dL_hangs_76 : decode cL_hangs 76 = .ok (.iload 9, 2) := by decide +kernel
theorem dL_hangs_78 : decode cL_hangs 78 = .ok (.iconst 1, 1) := by decide +kernel
theorem dL_hangs_79 : decode cL_hangs 79 = .ok (.if_icmp .ne 122, 3) := by decide +kernel
theorem dL_hangs_82 : decode cL_hangs 82 = .ok (.iload 10, 2) := by decide +kernel
theorem dL_hangs_84 : decode cL_hangs 84 = .ok (.bipush (-5), 2) := by decide +kernel
theorem dL_hangs_86 : decode cL_hangs 86 = .ok (.if_icmp .eq 25, 3) := by decide +kernel
theorem dL_hangs_89 : decode cL_hangs 89 = .ok (.aload_n 0, 1) := by decide +kernel
theorem dL_hangs_90 : decode cL_hangs 90 = .ok (.iload 10, 2) := by decide +kernel
theorem dL_hangs_92 : decode cL_hangs 92 = .ok (.iconst 1, 1) := by decide +kernel
theorem dL_hangs_93 : decode cL_hangs 93 = .ok (.invokevirtual 58, 3) := by decide +kernel
theorem dL_hangs_96 : decode cL_hangs 96 = .ok (.iload 7, 2) := by decide +kernel
theorem dL_hangs_98 : decode cL_hangs 98 = .ok (.if_icmp .ne 103, 3) := by decide +kernel
theorem dL_hangs_101 : decode cL_hangs 101 = .ok (.aload_n 0, 1) := by decide +kernel
theorem dL_hangs_102 : decode cL_hangs 102 = .ok (.iload 10, 2) := by decide +kernel
theorem dL_hangs_104 : decode cL_hangs 104 = .ok (.iconst 3, 1) := by decide +kernel
theorem dL_hangs_105 : decode cL_hangs 105 = .ok (.invokevirtual 58, 3) := by decide +kernel
theorem dL_hangs_108 : decode cL_hangs 108 = .ok (.ifCond .ne 93, 3) := by decide +kernel
theorem dL_hangs_111 : decode cL_hangs 111 = .ok (.aload_n 0, 1) := by decide +kernel
theorem dL_hangs_112 : decode cL_hangs 112 = .ok (.iload 7, 2) := by decide +kernel
theorem dL_hangs_114 : decode cL_hangs 114 = .ok (.iconst 3, 1) := by decide +kernel
theorem dL_hangs_115 : decode cL_hangs 115 = .ok (.invokevirtual 55, 3) := by decide +kernel
theorem dL_hangs_118 : decode cL_hangs 118 = .ok (.ifCond .lt 83, 3) := by decide +kernel
theorem dL_hangs_121 : decode cL_hangs 121 = .ok (.aload_n 0, 1) := by decide +kernel
theorem dL_hangs_122 : decode cL_hangs 122 = .ok (.iload 7, 2) := by decide +kernel
theorem dL_hangs_124 : decode cL_hangs 124 = .ok (.iconst 3, 1) := by decide +kernel
theorem dL_hangs_125 : decode cL_hangs 125 = .ok (.invokevirtual 55, 3) := by decide +kernel
theorem dL_hangs_128 : decode cL_hangs 128 = .ok (.iconst 4, 1) := by decide +kernel
theorem dL_hangs_129 : decode cL_hangs 129 = .ok (.if_icmp .ge 72, 3) := by decide +kernel
theorem dL_hangs_132 : decode cL_hangs 132 = .ok (.aload_n 0, 1) := by decide +kernel
theorem dL_hangs_133 : decode cL_hangs 133 = .ok (.iload 7, 2) := by decide +kernel
theorem dL_hangs_135 : decode cL_hangs 135 = .ok (.invokevirtual 61, 3) := by decide +kernel
theorem dL_hangs_138 : decode cL_hangs 138 = .ok (.ifCond .ne 7, 3) := by decide +kernel
theorem dL_hangs_141 : decode cL_hangs 141 = .ok (.iconst 1, 1) := by decide +kernel
theorem dL_hangs_142 : decode cL_hangs 142 = .ok (.goto 4, 3) := by decide +kernel
theorem dL_hangs_145 : decode cL_hangs 145 = .ok (.iconst 0, 1) := by decide +kernel
theorem dL_hangs_146 : decode cL_hangs 146 = .ok (.iload 8, 2) := by decide +kernel
theorem dL_hangs_148 : decode cL_hangs 148 = .ok (.ifCond .le 7, 3) := by decide +kernel
theorem dL_hangs_151 : decode cL_hangs 151 = .ok (.iconst 1, 1) := by decide +kernel
theorem dL_hangs_152 : decode cL_hangs 152 = .ok (.goto 4, 3) := by decide +kernel
theorem dL_hangs_155 : decode cL_hangs 155 = .ok (.iconst 0, 1) := by decide +kernel
theorem dL_hangs_156 : decode cL_hangs 156 = .ok (.if_icmp .ne 45, 3) := by decide +kernel
theorem dL_hangs_159 : decode cL_hangs 159 = .ok (.aload_n 0, 1) := by decide +kernel
theorem dL_hangs_160 : decode cL_hangs 160 = .ok (.iload 7, 2) := by decide +kernel
theorem dL_hangs_162 : decode cL_hangs 162 = .ok (.invokevirtual 64, 3) := by decide +kernel
theorem dL_hangs_165 : decode cL_hangs 165 = .ok (.fconst 0, 1) := by decide +kernel
theorem dL_hangs_166 : decode cL_hangs 166 = .ok (.fcmp .l, 1) := by decide +kernel
theorem dL_hangs_167 : decode cL_hangs 167 = .ok (.ifCond .lt 34, 3) := by decide +kernel
theorem dL_hangs_170 : decode cL_hangs 170 = .ok (.aload_n 0, 1) := by decide +kernel
theorem dL_hangs_171 : decode cL_hangs 171 = .ok (.iload 7, 2) := by decide +kernel
theorem dL_hangs_173 : decode cL_hangs 173 = .ok (.invokevirtual 64, 3) := by decide +kernel
theorem dL_hangs_176 : decode cL_hangs 176 = .ok (.fconst 1, 1) := by decide +kernel
theorem dL_hangs_177 : decode cL_hangs 177 = .ok (.fcmp .g, 1) := by decide +kernel
theorem dL_hangs_178 : decode cL_hangs 178 = .ok (.ifCond .gt 23, 3) := by decide +kernel
theorem dL_hangs_181 : decode cL_hangs 181 = .ok (.iload 8, 2) := by decide +kernel
theorem dL_hangs_183 : decode cL_hangs 183 = .ok (.ifCond .eq 14, 3) := by decide +kernel
theorem dL_hangs_186 : decode cL_hangs 186 = .ok (.aload_n 0, 1) := by decide +kernel
theorem dL_hangs_187 : decode cL_hangs 187 = .ok (.iload 7, 2) := by decide +kernel
theorem dL_hangs_189 : decode cL_hangs 189 = .ok (.invokevirtual 64, 3) := by decide +kernel
theorem dL_hangs_192 : decode cL_hangs 192 = .ok (.fconst 0, 1) := by decide +kernel
theorem dL_hangs_193 : decode cL_hangs 193 = .ok (.fcmp .l, 1) := by decide +kernel
theorem dL_hangs_194 : decode cL_hangs 194 = .ok (.ifCond .le 7, 3) := by decide +kernel
theorem dL_hangs_197 : decode cL_hangs 197 = .ok (.iconst 1, 1) := by decide +kernel
theorem dL_hangs_198 : decode cL_hangs 198 = .ok (.goto 4, 3) := by decide +kernel
theorem dL_hangs_201 : decode cL_hangs 201 = .ok (.iconst 0, 1) := by decide +kernel
theorem dL_hangs_202 : decode cL_hangs 202 = .ok (.istore 6, 2) := by decide +kernel
theorem dL_hangs_204 : decode cL_hangs 204 = .ok (.iload_n 1, 1) := by decide +kernel
theorem dL_hangs_205 : decode cL_hangs 205 = .ok (.iload 9, 2) := by decide +kernel
theorem dL_hangs_207 : decode cL_hangs 207 = .ok (.iadd, 1) := by decide +kernel
theorem dL_hangs_208 : decode cL_hangs 208 = .ok (.istore_n 1, 1) := by decide +kernel
theorem dL_hangs_209 : decode cL_hangs 209 = .ok (.iload_n 3, 1) := by decide +kernel
theorem dL_hangs_210 : decode cL_hangs 210 = .ok (.iload 8, 2) := by decide +kernel
theorem dL_hangs_212 : decode cL_hangs 212 = .ok (.ifCond .le 7, 3) := by decide +kernel
theorem dL_hangs_215 : decode cL_hangs 215 = .ok (.iconst 1, 1) := by decide +kernel
theorem dL_hangs_216 : decode cL_hangs 216 = .ok (.goto 4, 3) := by decide +kernel
theorem dL_hangs_219 : decode cL_hangs 219 = .ok (.iconst 0, 1) := by decide +kernel
theorem dL_hangs_220 : decode cL_hangs 220 = .ok (.iadd, 1) := by decide +kernel
theorem dL_hangs_221 : decode cL_hangs 221 = .ok (.istore_n 3, 1) := by decide +kernel
theorem dL_hangs_222 : decode cL_hangs 222 = .ok (.iload_n 2, 1) := by decide +kernel
theorem dL_hangs_223 : decode cL_hangs 223 = .ok (.iload 9, 2) := by decide +kernel
theorem dL_hangs_225 : decode cL_hangs 225 = .ok (.iconst 1, 1) := by decide +kernel
theorem dL_hangs_226 : decode cL_hangs 226 = .ok (.if_icmp .ne 12, 3) := by decide +kernel
theorem dL_hangs_229 : decode cL_hangs 229 = .ok (.iload 8, 2) := by decide +kernel
theorem dL_hangs_231 : decode cL_hangs 231 = .ok (.ifCond .le 7, 3) := by decide +kernel
theorem dL_hangs_234 : decode cL_hangs 234 = .ok (.iconst 1, 1) := by decide +kernel
theorem dL_hangs_235 : decode cL_hangs 235 = .ok (.goto 4, 3) := by decide +kernel
theorem dL_hangs_238 : decode cL_hangs 238 = .ok (.iconst 0, 1) := by decide +kernel
theorem dL_hangs_239 : decode cL_hangs 239 = .ok (.iadd, 1) := by decide +kernel
theorem dL_hangs_240 : decode cL_hangs 240 = .ok (.istore_n 2, 1) := by decide +kernel
theorem dL_hangs_241 : decode cL_hangs 241 = .ok (.iload 4, 2) := by decide +kernel
theorem dL_hangs_243 : decode cL_hangs 243 = .ok (.iload 10, 2) := by decide +kernel
theorem dL_hangs_245 : decode cL_hangs 245 = .ok (.bipush (-5), 2) := by decide +kernel
theorem dL_hangs_247 : decode cL_hangs 247 = .ok (.if_icmp .ne 7, 3) := by decide +kernel
theorem dL_hangs_250 : decode cL_hangs 250 = .ok (.iconst 0, 1) := by decide +kernel
theorem dL_hangs_251 : decode cL_hangs 251 = .ok (.goto 4, 3) := by decide +kernel
theorem dL_hangs_254 : decode cL_hangs 254 = .ok (.iconst 1, 1) := by decide +kernel
theorem dL_hangs_255 : decode cL_hangs 255 = .ok (.iadd, 1) := by decide +kernel
theorem dL_hangs_256 : decode cL_hangs 256 = .ok (.istore 4, 2) := by decide +kernel
theorem dL_hangs_258 : decode cL_hangs 258 = .ok (.iconst 0, 1) := by decide +kernel
theorem dL_hangs_259 : decode cL_hangs 259 = .ok (.istore 11, 2) := by decide +kernel
theorem dL_hangs_261 : decode cL_hangs 261 = .ok (.iload 11, 2) := by decide +kernel
theorem dL_hangs_263 : decode cL_hangs 263 = .ok (.iconst 4, 1) := by decide +kernel
theorem dL_hangs_264 : decode cL_hangs 264 = .ok (.if_icmp .ge 24, 3) := by decide +kernel
theorem dL_hangs_267 : decode cL_hangs 267 = .ok (.aload 5, 2) := by decide +kernel
theorem dL_hangs_269 : decode cL_hangs 269 = .ok (.iload 11, 2) := by decide +kernel
theorem dL_hangs_271 : decode cL_hangs 271 = .ok (.dup2, 1) := by decide +kernel
theorem dL_hangs_272 : decode cL_hangs 272 = .ok (.iaload, 1) := by decide +kernel
theorem dL_hangs_273 : decode cL_hangs 273 = .ok (.iload 8, 2) := by decide +kernel
theorem dL_hangs_275 : decode cL_hangs 275 = .ok (.iload 11, 2) := by decide +kernel
theorem dL_hangs_277 : decode cL_hangs 277 = .ok (.ishr, 1) := by decide +kernel
theorem dL_hangs_278 : decode cL_hangs 278 = .ok (.iconst 1, 1) := by decide +kernel
theorem dL_hangs_279 : decode cL_hangs 279 = .ok (.iand, 1) := by decide +kernel
theorem dL_hangs_280 : decode cL_hangs 280 = .ok (.iadd, 1) := by decide +kernel
theorem dL_hangs_281 : decode cL_hangs 281 = .ok (.iastore, 1) := by decide +kernel
theorem dL_hangs_282 : decode cL_hangs 282 = .ok (.iinc 11 1, 3) := by decide +kernel
theorem dL_hangs_285 : decode cL_hangs 285 = .ok (.goto (-24), 3) := by decide +kernel
theorem dL_hangs_288 : decode cL_hangs 288 = .ok (.iinc 7 1, 3) := by decide +kernel
theorem dL_hangs_291 : decode cL_hangs 291 = .ok (.goto (-271), 3) := by decide +kernel
theorem dL_hangs_294 : decode cL_hangs 294 = .ok (.iconst 0, 1) := by decide +kernel
theorem dL_hangs_295 : decode cL_hangs 295 = .ok (.istore 7, 2) := by decide +kernel
theorem dL_hangs_297 : decode cL_hangs 297 = .ok (.iconst 0, 1) := by decide +kernel
theorem dL_hangs_298 : decode cL_hangs 298 = .ok (.istore 8, 2) := by decide +kernel
theorem dL_hangs_300 : decode cL_hangs 300 = .ok (.iconst 0, 1) := by decide +kernel
theorem dL_hangs_301 : decode cL_hangs 301 = .ok (.istore 9, 2) := by decide +kernel
theorem dL_hangs_303 : decode cL_hangs 303 = .ok (.iconst 0, 1) := by decide +kernel
theorem dL_hangs_304 : decode cL_hangs 304 = .ok (.istore 10, 2) := by decide +kernel
theorem dL_hangs_306 : decode cL_hangs 306 = .ok (.iload 10, 2) := by decide +kernel
theorem dL_hangs_308 : decode cL_hangs 308 = .ok (.iconst 4, 1) := by decide +kernel
theorem dL_hangs_309 : decode cL_hangs 309 = .ok (.if_icmp .ge 307, 3) := by decide +kernel
theorem dL_hangs_312 : decode cL_hangs 312 = .ok (.iload 6, 2) := by decide +kernel
theorem dL_hangs_314 : decode cL_hangs 314 = .ok (.ifCond .eq 302, 3) := by decide +kernel
theorem dL_hangs_317 : decode cL_hangs 317 = .ok (.bipush 22, 2) := by decide +kernel
theorem dL_hangs_319 : decode cL_hangs 319 = .ok (.iconst 5, 1) := by decide +kernel
theorem dL_hangs_320 : decode cL_hangs 320 = .ok (.iload 10, 2) := by decide +kernel
theorem dL_hangs_322 : decode cL_hangs 322 = .ok (.iconst 2, 1) := by decide +kernel
theorem dL_hangs_323 : decode cL_hangs 323 = .ok (.irem, 1) := by decide +kernel
theorem dL_hangs_324 : decode cL_hangs 324 = .ok (.imul, 1) := by decide +kernel
theorem dL_hangs_325 : decode cL_hangs 325 = .ok (.iadd, 1) := by decide +kernel
theorem dL_hangs_326 : decode cL_hangs 326 = .ok (.bipush 50, 2) := by decide +kernel
theorem dL_hangs_328 : decode cL_hangs 328 = .ok (.iload 10, 2) := by decide +kernel
theorem dL_hangs_330 : decode cL_hangs 330 = .ok (.iconst 2, 1) := by decide +kernel
theorem dL_hangs_331 : decode cL_hangs 331 = .ok (.idiv, 1) := by decide +kernel
theorem dL_hangs_332 : decode cL_hangs 332 = .ok (.imul, 1) := by decide +kernel
theorem dL_hangs_333 : decode cL_hangs 333 = .ok (.iadd, 1) := by decide +kernel
theorem dL_hangs_334 : decode cL_hangs 334 = .ok (.istore 11, 2) := by decide +kernel
theorem dL_hangs_336 : decode cL_hangs 336 = .ok (.aload_n 0, 1) := by decide +kernel
theorem dL_hangs_337 : decode cL_hangs 337 = .ok (.iload 11, 2) := by decide +kernel
theorem dL_hangs_339 : decode cL_hangs 339 = .ok (.iconst 0, 1) := by decide +kernel
theorem dL_hangs_340 : decode cL_hangs 340 = .ok (.invokevirtual 55, 3) := by decide +kernel
theorem dL_hangs_343 : decode cL_hangs 343 = .ok (.ifCond .ne 228, 3) := by decide +kernel
theorem dL_hangs_346 : decode cL_hangs 346 = .ok (.aload_n 0, 1) := by decide +kernel
theorem dL_hangs_347 : decode cL_hangs 347 = .ok (.iload 11, 2) := by decide +kernel
theorem dL_hangs_349 : decode cL_hangs 349 = .ok (.iconst 2, 1) := by decide +kernel
theorem dL_hangs_350 : decode cL_hangs 350 = .ok (.invokevirtual 55, 3) := by decide +kernel
theorem dL_hangs_353 : decode cL_hangs 353 = .ok (.iload 10, 2) := by decide +kernel
theorem dL_hangs_355 : decode cL_hangs 355 = .ok (.ishr, 1) := by decide +kernel
theorem dL_hangs_356 : decode cL_hangs 356 = .ok (.iconst 1, 1) := by decide +kernel
theorem dL_hangs_357 : decode cL_hangs 357 = .ok (.iand, 1) := by decide +kernel
theorem dL_hangs_358 : decode cL_hangs 358 = .ok (.iconst 1, 1) := by decide +kernel
theorem dL_hangs_359 : decode cL_hangs 359 = .ok (.if_icmp .ne 212, 3) := by decide +kernel
theorem dL_hangs_362 : decode cL_hangs 362 = .ok (.aload_n 0, 1) := by decide +kernel
theorem dL_hangs_363 : decode cL_hangs 363 = .ok (.iload 11, 2) := by decide +kernel
theorem dL_hangs_365 : decode cL_hangs 365 = .ok (.iconst 3, 1) := by decide +kernel
theorem dL_hangs_366 : decode cL_hangs 366 = .ok (.invokevirtual 55, 3) := by decide +kernel
theorem dL_hangs_369 : decode cL_hangs 369 = .ok (.iload 10, 2) := by decide +kernel
theorem dL_hangs_371 : decode cL_hangs 371 = .ok (.if_icmp .ne 200, 3) := by decide +kernel
theorem dL_hangs_374 : decode cL_hangs 374 = .ok (.aload_n 0, 1) := by decide +kernel
theorem dL_hangs_375 : decode cL_hangs 375 = .ok (.iload 10, 2) := by decide +kernel
theorem dL_hangs_377 : decode cL_hangs 377 = .ok (.iload 11, 2) := by decide +kernel
theorem dL_hangs_379 : decode cL_hangs 379 = .ok (.invokevirtual 68, 3) := by decide +kernel
theorem dL_hangs_382 : decode cL_hangs 382 = .ok (.ifCond .ne 189, 3) := by decide +kernel
theorem dL_hangs_385 : decode cL_hangs 385 = .ok (.aload 5, 2) := by decide +kernel
theorem dL_hangs_387 : decode cL_hangs 387 = .ok (.iload 10, 2) := by decide +kernel
theorem dL_hangs_389 : decode cL_hangs 389 = .ok (.iaload, 1) := by decide +kernel
theorem dL_hangs_390 : decode cL_hangs 390 = .ok (.aload_n 0, 1) := by decide +kernel
theorem dL_hangs_391 : decode cL_hangs 391 = .ok (.iload 10, 2) := by decide +kernel
theorem dL_hangs_393 : decode cL_hangs 393 = .ok (.bipush 6, 2) := by decide +kernel
theorem dL_hangs_395 : decode cL_hangs 395 = .ok (.invokevirtual 71, 3) := by decide +kernel
theorem dL_hangs_398 : decode cL_hangs 398 = .ok (.if_icmp .ne 173, 3) := by decide +kernel
theorem dL_hangs_401 : decode cL_hangs 401 = .ok (.aload_n 0, 1) := by decide +kernel
theorem dL_hangs_402 : decode cL_hangs 402 = .ok (.iload 10, 2) := by decide +kernel
theorem dL_hangs_404 : decode cL_hangs 404 = .ok (.iconst 4, 1) := by decide +kernel
theorem dL_hangs_405 : decode cL_hangs 405 = .ok (.invokevirtual 71, 3) := by decide +kernel
theorem dL_hangs_408 : decode cL_hangs 408 = .ok (.ifCond .lt 163, 3) := by decide +kernel
theorem dL_hangs_411 : decode cL_hangs 411 = .ok (.aload_n 0, 1) := by decide +kernel
theorem dL_hangs_412 : decode cL_hangs 412 = .ok (.iload 10, 2) := by decide +kernel
theorem dL_hangs_414 : decode cL_hangs 414 = .ok (.iconst 4, 1) := by decide +kernel
theorem dL_hangs_415 : decode cL_hangs 415 = .ok (.invokevirtual 71, 3) := by decide +kernel
theorem dL_hangs_418 : decode cL_hangs 418 = .ok (.bipush 10, 2) := by decide +kernel
theorem dL_hangs_420 : decode cL_hangs 420 = .ok (.if_icmp .ge 151, 3) := by decide +kernel
theorem dL_hangs_423 : decode cL_hangs 423 = .ok (.aload_n 0, 1) := by decide +kernel
theorem dL_hangs_424 : decode cL_hangs 424 = .ok (.iload 10, 2) := by decide +kernel
theorem dL_hangs_426 : decode cL_hangs 426 = .ok (.iconst 5, 1) := by decide +kernel
theorem dL_hangs_427 : decode cL_hangs 427 = .ok (.invokevirtual 71, 3) := by decide +kernel
theorem dL_hangs_430 : decode cL_hangs 430 = .ok (.ifCond .lt 141, 3) := by decide +kernel
theorem dL_hangs_433 : decode cL_hangs 433 = .ok (.aload_n 0, 1) := by decide +kernel
theorem dL_hangs_434 : decode cL_hangs 434 = .ok (.iload 10, 2) := by decide +kernel
theorem dL_hangs_436 : decode cL_hangs 436 = .ok (.iconst 5, 1) := by decide +kernel
theorem dL_hangs_437 : decode cL_hangs 437 = .ok (.invokevirtual 71, 3) := by decide +kernel
theorem dL_hangs_440 : decode cL_hangs 440 = .ok (.bipush 8, 2) := by decide +kernel
theorem dL_hangs_442 : decode cL_hangs 442 = .ok (.if_icmp .ge 129, 3) := by decide +kernel
theorem dL_hangs_445 : decode cL_hangs 445 = .ok (.aload_n 0, 1) := by decide +kernel
theorem dL_hangs_446 : decode cL_hangs 446 = .ok (.iload 10, 2) := by decide +kernel
theorem dL_hangs_448 : decode cL_hangs 448 = .ok (.iconst 0, 1) := by decide +kernel
theorem dL_hangs_449 : decode cL_hangs 449 = .ok (.invokevirtual 74, 3) := by decide +kernel
theorem dL_hangs_452 : decode cL_hangs 452 = .ok (.ifCond .lt 119, 3) := by decide +kernel
theorem dL_hangs_455 : decode cL_hangs 455 = .ok (.aload_n 0, 1) := by decide +kernel
theorem dL_hangs_456 : decode cL_hangs 456 = .ok (.iload 10, 2) := by decide +kernel
theorem dL_hangs_458 : decode cL_hangs 458 = .ok (.iconst 1, 1) := by decide +kernel
theorem dL_hangs_459 : decode cL_hangs 459 = .ok (.invokevirtual 74, 3) := by decide +kernel
theorem dL_hangs_462 : decode cL_hangs 462 = .ok (.ifCond .lt 109, 3) := by decide +kernel
theorem dL_hangs_465 : decode cL_hangs 465 = .ok (.aload_n 0, 1) := by decide +kernel
theorem dL_hangs_466 : decode cL_hangs 466 = .ok (.iload 10, 2) := by decide +kernel
theorem dL_hangs_468 : decode cL_hangs 468 = .ok (.iconst 0, 1) := by decide +kernel
theorem dL_hangs_469 : decode cL_hangs 469 = .ok (.invokevirtual 74, 3) := by decide +kernel
theorem dL_hangs_472 : decode cL_hangs 472 = .ok (.ifCond .eq 13, 3) := by decide +kernel
theorem dL_hangs_475 : decode cL_hangs 475 = .ok (.aload_n 0, 1) := by decide +kernel
theorem dL_hangs_476 : decode cL_hangs 476 = .ok (.iload 10, 2) := by decide +kernel
theorem dL_hangs_478 : decode cL_hangs 478 = .ok (.iconst 1, 1) := by decide +kernel
theorem dL_hangs_479 : decode cL_hangs 479 = .ok (.invokevirtual 74, 3) := by decide +kernel
theorem dL_hangs_482 : decode cL_hangs 482 = .ok (.ifCond .ne 89, 3) := by decide +kernel
theorem dL_hangs_485 : decode cL_hangs 485 = .ok (.aload_n 0, 1) := by decide +kernel
theorem dL_hangs_486 : decode cL_hangs 486 = .ok (.iload 10, 2) := by decide +kernel
theorem dL_hangs_488 : decode cL_hangs 488 = .ok (.iconst 2, 1) := by decide +kernel
theorem dL_hangs_489 : decode cL_hangs 489 = .ok (.invokevirtual 74, 3) := by decide +kernel
theorem dL_hangs_492 : decode cL_hangs 492 = .ok (.ifCond .lt 79, 3) := by decide +kernel
theorem dL_hangs_495 : decode cL_hangs 495 = .ok (.aload_n 0, 1) := by decide +kernel
theorem dL_hangs_496 : decode cL_hangs 496 = .ok (.iload 10, 2) := by decide +kernel
theorem dL_hangs_498 : decode cL_hangs 498 = .ok (.iconst 2, 1) := by decide +kernel
theorem dL_hangs_499 : decode cL_hangs 499 = .ok (.invokevirtual 74, 3) := by decide +kernel
theorem dL_hangs_502 : decode cL_hangs 502 = .ok (.iconst 4, 1) := by decide +kernel
theorem dL_hangs_503 : decode cL_hangs 503 = .ok (.if_icmp .ge 68, 3) := by decide +kernel
theorem dL_hangs_506 : decode cL_hangs 506 = .ok (.aload_n 0, 1) := by decide +kernel
theorem dL_hangs_507 : decode cL_hangs 507 = .ok (.iload 10, 2) := by decide +kernel
theorem dL_hangs_509 : decode cL_hangs 509 = .ok (.iconst 4, 1) := by decide +kernel
theorem dL_hangs_510 : decode cL_hangs 510 = .ok (.invokevirtual 71, 3) := by decide +kernel
theorem dL_hangs_513 : decode cL_hangs 513 = .ok (.aload_n 0, 1) := by decide +kernel
theorem dL_hangs_514 : decode cL_hangs 514 = .ok (.iload 10, 2) := by decide +kernel
theorem dL_hangs_516 : decode cL_hangs 516 = .ok (.iconst 2, 1) := by decide +kernel
theorem dL_hangs_517 : decode cL_hangs 517 = .ok (.invokevirtual 71, 3) := by decide +kernel
theorem dL_hangs_520 : decode cL_hangs 520 = .ok (.if_icmp .lt 15, 3) := by decide +kernel
theorem dL_hangs_523 : decode cL_hangs 523 = .ok (.aload_n 0, 1) := by decide +kernel
theorem dL_hangs_524 : decode cL_hangs 524 = .ok (.iload 10, 2) := by decide +kernel
theorem dL_hangs_526 : decode cL_hangs 526 = .ok (.bipush 6, 2) := by decide +kernel
theorem dL_hangs_528 : decode cL_hangs 528 = .ok (.invokevirtual 71, 3) := by decide +kernel
theorem dL_hangs_531 : decode cL_hangs 531 = .ok (.iconst 1, 1) := by decide +kernel
theorem dL_hangs_532 : decode cL_hangs 532 = .ok (.if_icmp .ne 39, 3) := by decide +kernel
theorem dL_hangs_535 : decode cL_hangs 535 = .ok (.aload_n 0, 1) := by decide +kernel
theorem dL_hangs_536 : decode cL_hangs 536 = .ok (.iload 10, 2) := by decide +kernel
theorem dL_hangs_538 : decode cL_hangs 538 = .ok (.invokevirtual 77, 3) := by decide +kernel
theorem dL_hangs_541 : decode cL_hangs 541 = .ok (.iload 10, 2) := by decide +kernel
theorem dL_hangs_543 : decode cL_hangs 543 = .ok (.if_icmp .eq 28, 3) := by decide +kernel
theorem dL_hangs_546 : decode cL_hangs 546 = .ok (.aload_n 0, 1) := by decide +kernel
theorem dL_hangs_547 : decode cL_hangs 547 = .ok (.iload 10, 2) := by decide +kernel
theorem dL_hangs_549 : decode cL_hangs 549 = .ok (.iconst 2, 1) := by decide +kernel
theorem dL_hangs_550 : decode cL_hangs 550 = .ok (.invokevirtual 74, 3) := by decide +kernel
theorem dL_hangs_553 : decode cL_hangs 553 = .ok (.ifCond .gt 14, 3) := by decide +kernel
theorem dL_hangs_556 : decode cL_hangs 556 = .ok (.aload_n 0, 1) := by decide +kernel
theorem dL_hangs_557 : decode cL_hangs 557 = .ok (.iload 10, 2) := by decide +kernel
theorem dL_hangs_559 : decode cL_hangs 559 = .ok (.invokevirtual 77, 3) := by decide +kernel
theorem dL_hangs_562 : decode cL_hangs 562 = .ok (.bipush (-5), 2) := by decide +kernel
theorem dL_hangs_564 : decode cL_hangs 564 = .ok (.if_icmp .ne 7, 3) := by decide +kernel
theorem dL_hangs_567 : decode cL_hangs 567 = .ok (.iconst 1, 1) := by decide +kernel
theorem dL_hangs_568 : decode cL_hangs 568 = .ok (.goto 4, 3) := by decide +kernel
theorem dL_hangs_571 : decode cL_hangs 571 = .ok (.iconst 0, 1) := by decide +kernel
theorem dL_hangs_572 : decode cL_hangs 572 = .ok (.istore 6, 2) := by decide +kernel
theorem dL_hangs_574 : decode cL_hangs 574 = .ok (.iload 7, 2) := by decide +kernel
theorem dL_hangs_576 : decode cL_hangs 576 = .ok (.aload_n 0, 1) := by decide +kernel
theorem dL_hangs_577 : decode cL_hangs 577 = .ok (.iload 10, 2) := by decide +kernel
theorem dL_hangs_579 : decode cL_hangs 579 = .ok (.iconst 1, 1) := by decide +kernel
theorem dL_hangs_580 : decode cL_hangs 580 = .ok (.invokevirtual 74, 3) := by decide +kernel
theorem dL_hangs_583 : decode cL_hangs 583 = .ok (.iadd, 1) := by decide +kernel
theorem dL_hangs_584 : decode cL_hangs 584 = .ok (.istore 7, 2) := by decide +kernel
theorem dL_hangs_586 : decode cL_hangs 586 = .ok (.iload 8, 2) := by decide +kernel
theorem dL_hangs_588 : decode cL_hangs 588 = .ok (.aload_n 0, 1) := by decide +kernel
theorem dL_hangs_589 : decode cL_hangs 589 = .ok (.iload 10, 2) := by decide +kernel
theorem dL_hangs_591 : decode cL_hangs 591 = .ok (.iconst 4, 1) := by decide +kernel
theorem dL_hangs_592 : decode cL_hangs 592 = .ok (.invokevirtual 74, 3) := by decide +kernel
theorem dL_hangs_595 : decode cL_hangs 595 = .ok (.iadd, 1) := by decide +kernel
theorem dL_hangs_596 : decode cL_hangs 596 = .ok (.istore 8, 2) := by decide +kernel
theorem dL_hangs_598 : decode cL_hangs 598 = .ok (.iload 9, 2) := by decide +kernel
theorem dL_hangs_600 : decode cL_hangs 600 = .ok (.aload_n 0, 1) := by decide +kernel
theorem dL_hangs_601 : decode cL_hangs 601 = .ok (.iload 10, 2) := by decide +kernel
theorem dL_hangs_603 : decode cL_hangs 603 = .ok (.iconst 3, 1) := by decide +kernel
theorem dL_hangs_604 : decode cL_hangs 604 = .ok (.invokevirtual 74, 3) := by decide +kernel
theorem dL_hangs_607 : decode cL_hangs 607 = .ok (.iadd, 1) := by decide +kernel
theorem dL_hangs_608 : decode cL_hangs 608 = .ok (.istore 9, 2) := by decide +kernel
theorem dL_hangs_610 : decode cL_hangs 610 = .ok (.iinc 10 1, 3) := by decide +kernel
theorem dL_hangs_613 : decode cL_hangs 613 = .ok (.goto (-307), 3) := by decide +kernel
theorem dL_hangs_616 : decode cL_hangs 616 = .ok (.aload_n 0, 1) := by decide +kernel
theorem dL_hangs_617 : decode cL_hangs 617 = .ok (.iconst 2, 1) := by decide +kernel
theorem dL_hangs_618 : decode cL_hangs 618 = .ok (.invokevirtual 80, 3) := by decide +kernel
theorem dL_hangs_621 : decode cL_hangs 621 = .ok (.istore 10, 2) := by decide +kernel
theorem dL_hangs_623 : decode cL_hangs 623 = .ok (.iconst 0, 1) := by decide +kernel
theorem dL_hangs_624 : decode cL_hangs 624 = .ok (.istore 11, 2) := by decide +kernel
theorem dL_hangs_626 : decode cL_hangs 626 = .ok (.iconst 0, 1) := by decide +kernel
theorem dL_hangs_627 : decode cL_hangs 627 = .ok (.istore 12, 2) := by decide +kernel
theorem dL_hangs_629 : decode cL_hangs 629 = .ok (.iconst 0, 1) := by decide +kernel
theorem dL_hangs_630 : decode cL_hangs 630 = .ok (.istore 13, 2) := by decide +kernel
theorem dL_hangs_632 : decode cL_hangs 632 = .ok (.iconst 0, 1) := by decide +kernel
theorem dL_hangs_633 : decode cL_hangs 633 = .ok (.istore 14, 2) := by decide +kernel
theorem dL_hangs_635 : decode cL_hangs 635 = .ok (.iconst 0, 1) := by decide +kernel
theorem dL_hangs_636 : decode cL_hangs 636 = .ok (.istore 15, 2) := by decide +kernel
theorem dL_hangs_638 : decode cL_hangs 638 = .ok (.iconst 0, 1) := by decide +kernel
theorem dL_hangs_639 : decode cL_hangs 639 = .ok (.istore 16, 2) := by decide +kernel
theorem dL_hangs_641 : decode cL_hangs 641 = .ok (.iload 16, 2) := by decide +kernel
theorem dL_hangs_643 : decode cL_hangs 643 = .ok (.iload 10, 2) := by decide +kernel
theorem dL_hangs_645 : decode cL_hangs 645 = .ok (.if_icmp .ge 288, 3) := by decide +kernel
theorem dL_hangs_648 : decode cL_hangs 648 = .ok (.iload 16, 2) := by decide +kernel
theorem dL_hangs_650 : decode cL_hangs 650 = .ok (.bipush 8, 2) := by decide +kernel
theorem dL_hangs_652 : decode cL_hangs 652 = .ok (.if_icmp .ge 281, 3) := by decide +kernel
theorem dL_hangs_655 : decode cL_hangs 655 = .ok (.iload 6, 2) := by decide +kernel
theorem dL_hangs_657 : decode cL_hangs 657 = .ok (.ifCond .eq 276, 3) := by decide +kernel
theorem dL_hangs_660 : decode cL_hangs 660 = .ok (.aload_n 0, 1) := by decide +kernel
theorem dL_hangs_661 : decode cL_hangs 661 = .ok (.iload 16, 2) := by decide +kernel
theorem dL_hangs_663 : decode cL_hangs 663 = .ok (.iconst 3, 1) := by decide +kernel
theorem dL_hangs_664 : decode cL_hangs 664 = .ok (.invokevirtual 58, 3) := by decide +kernel
theorem dL_hangs_667 : decode cL_hangs 667 = .ok (.istore 17, 2) := by decide +kernel
theorem dL_hangs_669 : decode cL_hangs 669 = .ok (.aload_n 0, 1) := by decide +kernel
theorem dL_hangs_670 : decode cL_hangs 670 = .ok (.iload 16, 2) := by decide +kernel
theorem dL_hangs_672 : decode cL_hangs 672 = .ok (.bipush 6, 2) := by decide +kernel
theorem dL_hangs_674 : decode cL_hangs 674 = .ok (.invokevirtual 58, 3) := by decide +kernel
theorem dL_hangs_677 : decode cL_hangs 677 = .ok (.istore 18, 2) := by decide +kernel
theorem dL_hangs_679 : decode cL_hangs 679 = .ok (.aload_n 0, 1) := by decide +kernel
theorem dL_hangs_680 : decode cL_hangs 680 = .ok (.iload 16, 2) := by decide +kernel
theorem dL_hangs_682 : decode cL_hangs 682 = .ok (.iconst 1, 1) := by decide +kernel
theorem dL_hangs_683 : decode cL_hangs 683 = .ok (.invokevirtual 58, 3) := by decide +kernel
theorem dL_hangs_686 : decode cL_hangs 686 = .ok (.istore 19, 2) := by decide +kernel
theorem dL_hangs_688 : decode cL_hangs 688 = .ok (.iload 17, 2) := by decide +kernel
theorem dL_hangs_690 : decode cL_hangs 690 = .ok (.ifCond .lt 141, 3) := by decide +kernel
theorem dL_hangs_693 : decode cL_hangs 693 = .ok (.iload 17, 2) := by decide +kernel
theorem dL_hangs_695 : decode cL_hangs 695 = .ok (.iconst 3, 1) := by decide +kernel
theorem dL_hangs_696 : decode cL_hangs 696 = .ok (.if_icmp .ge 135, 3) := by decide +kernel
theorem dL_hangs_699 : decode cL_hangs 699 = .ok (.iload 17, 2) := by decide +kernel
theorem dL_hangs_701 : decode cL_hangs 701 = .ok (.ifCond .ne 7, 3) := by decide +kernel
