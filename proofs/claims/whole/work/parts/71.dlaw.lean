theorem d_L_0 : decode code 0 = .ok (.new 7, 3) := by decide +kernel
theorem d_L_3 : decode code 3 = .ok (.dup, 1) := by decide +kernel
theorem d_L_4 : decode code 4 = .ok (.invokespecial 9, 3) := by decide +kernel
theorem d_L_7 : decode code 7 = .ok (.astore_n 1, 1) := by decide +kernel
theorem d_L_8 : decode code 8 = .ok (.new 10, 3) := by decide +kernel
theorem d_L_11 : decode code 11 = .ok (.dup, 1) := by decide +kernel
theorem d_L_12 : decode code 12 = .ok (.invokespecial 12, 3) := by decide +kernel
theorem d_L_15 : decode code 15 = .ok (.astore_n 2, 1) := by decide +kernel
theorem d_L_16 : decode code 16 = .ok (.iconst 0, 1) := by decide +kernel
theorem d_L_17 : decode code 17 = .ok (.istore_n 3, 1) := by decide +kernel
theorem d_L_18 : decode code 18 = .ok (.iload_n 3, 1) := by decide +kernel
theorem d_L_19 : decode code 19 = .ok (.aload_n 0, 1) := by decide +kernel
theorem d_L_20 : decode code 20 = .ok (.arraylength, 1) := by decide +kernel
theorem d_L_21 : decode code 21 = .ok (.iconst 5, 1) := by decide +kernel
theorem d_L_22 : decode code 22 = .ok (.isub, 1) := by decide +kernel
theorem d_L_23 : decode code 23 = .ok (.if_icmp .gt 617, 3) := by decide +kernel
theorem d_L_26 : decode code 26 = .ok (.aload_n 0, 1) := by decide +kernel
theorem d_L_27 : decode code 27 = .ok (.iload_n 3, 1) := by decide +kernel
theorem d_L_28 : decode code 28 = .ok (.iaload, 1) := by decide +kernel
theorem d_L_29 : decode code 29 = .ok (.bipush 31, 2) := by decide +kernel
theorem d_L_31 : decode code 31 = .ok (.iand, 1) := by decide +kernel
theorem d_L_32 : decode code 32 = .ok (.tableswitch 602 0 17 #[88, 131, 154, 207, 250, 273, 306, 319, 342, 375, 418, 441, 464, 477, 500, 543, 566, 579], 88) := by decide +kernel
theorem d_L_120 : decode code 120 = .ok (.aload_n 1, 1) := by decide +kernel
theorem d_L_121 : decode code 121 = .ok (.aload_n 0, 1) := by decide +kernel
theorem d_L_122 : decode code 122 = .ok (.iload_n 3, 1) := by decide +kernel
theorem d_L_123 : decode code 123 = .ok (.iconst 1, 1) := by decide +kernel
theorem d_L_124 : decode code 124 = .ok (.iadd, 1) := by decide +kernel
theorem d_L_125 : decode code 125 = .ok (.iaload, 1) := by decide +kernel
theorem d_L_126 : decode code 126 = .ok (.aload_n 0, 1) := by decide +kernel
theorem d_L_127 : decode code 127 = .ok (.iload_n 3, 1) := by decide +kernel
theorem d_L_128 : decode code 128 = .ok (.iconst 2, 1) := by decide +kernel
theorem d_L_129 : decode code 129 = .ok (.iadd, 1) := by decide +kernel
theorem d_L_130 : decode code 130 = .ok (.iaload, 1) := by decide +kernel
theorem d_L_131 : decode code 131 = .ok (.aload_n 0, 1) := by decide +kernel
theorem d_L_132 : decode code 132 = .ok (.iload_n 3, 1) := by decide +kernel
theorem d_L_133 : decode code 133 = .ok (.iconst 3, 1) := by decide +kernel
theorem d_L_134 : decode code 134 = .ok (.iadd, 1) := by decide +kernel
theorem d_L_135 : decode code 135 = .ok (.iaload, 1) := by decide +kernel
theorem d_L_136 : decode code 136 = .ok (.invokevirtual 13, 3) := by decide +kernel
theorem d_L_139 : decode code 139 = .ok (.aload_n 2, 1) := by decide +kernel
theorem d_L_140 : decode code 140 = .ok (.aload_n 0, 1) := by decide +kernel
theorem d_L_141 : decode code 141 = .ok (.iload_n 3, 1) := by decide +kernel
theorem d_L_142 : decode code 142 = .ok (.iconst 1, 1) := by decide +kernel
theorem d_L_143 : decode code 143 = .ok (.iadd, 1) := by decide +kernel
theorem d_L_144 : decode code 144 = .ok (.iaload, 1) := by decide +kernel
theorem d_L_145 : decode code 145 = .ok (.aload_n 0, 1) := by decide +kernel
theorem d_L_146 : decode code 146 = .ok (.iload_n 3, 1) := by decide +kernel
theorem d_L_147 : decode code 147 = .ok (.iconst 2, 1) := by decide +kernel
theorem d_L_148 : decode code 148 = .ok (.iadd, 1) := by decide +kernel
theorem d_L_149 : decode code 149 = .ok (.iaload, 1) := by decide +kernel
theorem d_L_150 : decode code 150 = .ok (.aload_n 0, 1) := by decide +kernel
theorem d_L_151 : decode code 151 = .ok (.iload_n 3, 1) := by decide +kernel
theorem d_L_152 : decode code 152 = .ok (.iconst 3, 1) := by decide +kernel
theorem d_L_153 : decode code 153 = .ok (.iadd, 1) := by decide +kernel
theorem d_L_154 : decode code 154 = .ok (.iaload, 1) := by decide +kernel
theorem d_L_155 : decode code 155 = .ok (.invokevirtual 17, 3) := by decide +kernel
theorem d_L_158 : decode code 158 = .ok (.if_icmp .eq 476, 3) := by decide +kernel
theorem d_L_161 : decode code 161 = .ok (.iconst 0, 1) := by decide +kernel
theorem d_L_162 : decode code 162 = .ok (.ireturn, 1) := by decide +kernel
theorem d_L_163 : decode code 163 = .ok (.aload_n 1, 1) := by decide +kernel
theorem d_L_164 : decode code 164 = .ok (.aload_n 0, 1) := by decide +kernel
theorem d_L_165 : decode code 165 = .ok (.iload_n 3, 1) := by decide +kernel
theorem d_L_166 : decode code 166 = .ok (.iconst 1, 1) := by decide +kernel
theorem d_L_167 : decode code 167 = .ok (.iadd, 1) := by decide +kernel
theorem d_L_168 : decode code 168 = .ok (.iaload, 1) := by decide +kernel
theorem d_L_169 : decode code 169 = .ok (.invokevirtual 18, 3) := by decide +kernel
theorem d_L_172 : decode code 172 = .ok (.aload_n 2, 1) := by decide +kernel
theorem d_L_173 : decode code 173 = .ok (.aload_n 0, 1) := by decide +kernel
theorem d_L_174 : decode code 174 = .ok (.iload_n 3, 1) := by decide +kernel
theorem d_L_175 : decode code 175 = .ok (.iconst 1, 1) := by decide +kernel
theorem d_L_176 : decode code 176 = .ok (.iadd, 1) := by decide +kernel
theorem d_L_177 : decode code 177 = .ok (.iaload, 1) := by decide +kernel
theorem d_L_178 : decode code 178 = .ok (.invokevirtual 22, 3) := by decide +kernel
theorem d_L_181 : decode code 181 = .ok (.if_icmp .eq 453, 3) := by decide +kernel
theorem d_L_184 : decode code 184 = .ok (.iconst 0, 1) := by decide +kernel
theorem d_L_185 : decode code 185 = .ok (.ireturn, 1) := by decide +kernel
theorem d_L_186 : decode code 186 = .ok (.aload_n 1, 1) := by decide +kernel
theorem d_L_187 : decode code 187 = .ok (.aload_n 0, 1) := by decide +kernel
theorem d_L_188 : decode code 188 = .ok (.iload_n 3, 1) := by decide +kernel
theorem d_L_189 : decode code 189 = .ok (.iconst 1, 1) := by decide +kernel
theorem d_L_190 : decode code 190 = .ok (.iadd, 1) := by decide +kernel
theorem d_L_191 : decode code 191 = .ok (.iaload, 1) := by decide +kernel
theorem d_L_192 : decode code 192 = .ok (.aload_n 0, 1) := by decide +kernel
theorem d_L_193 : decode code 193 = .ok (.iload_n 3, 1) := by decide +kernel
theorem d_L_194 : decode code 194 = .ok (.iconst 2, 1) := by decide +kernel
theorem d_L_195 : decode code 195 = .ok (.iadd, 1) := by decide +kernel
theorem d_L_196 : decode code 196 = .ok (.iaload, 1) := by decide +kernel
theorem d_L_197 : decode code 197 = .ok (.aload_n 0, 1) := by decide +kernel
theorem d_L_198 : decode code 198 = .ok (.iload_n 3, 1) := by decide +kernel
theorem d_L_199 : decode code 199 = .ok (.iconst 3, 1) := by decide +kernel
theorem d_L_200 : decode code 200 = .ok (.iadd, 1) := by decide +kernel
theorem d_L_201 : decode code 201 = .ok (.iaload, 1) := by decide +kernel
theorem d_L_202 : decode code 202 = .ok (.aload_n 0, 1) := by decide +kernel
theorem d_L_203 : decode code 203 = .ok (.iload_n 3, 1) := by decide +kernel
theorem d_L_204 : decode code 204 = .ok (.iconst 4, 1) := by decide +kernel
theorem d_L_205 : decode code 205 = .ok (.iadd, 1) := by decide +kernel
theorem d_L_206 : decode code 206 = .ok (.iaload, 1) := by decide +kernel
theorem d_L_207 : decode code 207 = .ok (.invokevirtual 23, 3) := by decide +kernel
theorem d_L_210 : decode code 210 = .ok (.aload_n 2, 1) := by decide +kernel
theorem d_L_211 : decode code 211 = .ok (.aload_n 0, 1) := by decide +kernel
theorem d_L_212 : decode code 212 = .ok (.iload_n 3, 1) := by decide +kernel
theorem d_L_213 : decode code 213 = .ok (.iconst 1, 1) := by decide +kernel
theorem d_L_214 : decode code 214 = .ok (.iadd, 1) := by decide +kernel
theorem d_L_215 : decode code 215 = .ok (.iaload, 1) := by decide +kernel
theorem d_L_216 : decode code 216 = .ok (.aload_n 0, 1) := by decide +kernel
theorem d_L_217 : decode code 217 = .ok (.iload_n 3, 1) := by decide +kernel
theorem d_L_218 : decode code 218 = .ok (.iconst 2, 1) := by decide +kernel
theorem d_L_219 : decode code 219 = .ok (.iadd, 1) := by decide +kernel
theorem d_L_220 : decode code 220 = .ok (.iaload, 1) := by decide +kernel
theorem d_L_221 : decode code 221 = .ok (.aload_n 0, 1) := by decide +kernel
theorem d_L_222 : decode code 222 = .ok (.iload_n 3, 1) := by decide +kernel
theorem d_L_223 : decode code 223 = .ok (.iconst 3, 1) := by decide +kernel
theorem d_L_224 : decode code 224 = .ok (.iadd, 1) := by decide +kernel
theorem d_L_225 : decode code 225 = .ok (.iaload, 1) := by decide +kernel
theorem d_L_226 : decode code 226 = .ok (.aload_n 0, 1) := by decide +kernel
theorem d_L_227 : decode code 227 = .ok (.iload_n 3, 1) := by decide +kernel
theorem d_L_228 : decode code 228 = .ok (.iconst 4, 1) := by decide +kernel
theorem d_L_229 : decode code 229 = .ok (.iadd, 1) := by decide +kernel
theorem d_L_230 : decode code 230 = .ok (.iaload, 1) := by decide +kernel
theorem d_L_231 : decode code 231 = .ok (.invokevirtual 27, 3) := by decide +kernel
theorem d_L_234 : decode code 234 = .ok (.if_icmp .eq 400, 3) := by decide +kernel
theorem d_L_237 : decode code 237 = .ok (.iconst 0, 1) := by decide +kernel
theorem d_L_238 : decode code 238 = .ok (.ireturn, 1) := by decide +kernel
theorem d_L_239 : decode code 239 = .ok (.aload_n 1, 1) := by decide +kernel
theorem d_L_240 : decode code 240 = .ok (.aload_n 0, 1) := by decide +kernel
theorem d_L_241 : decode code 241 = .ok (.iload_n 3, 1) := by decide +kernel
theorem d_L_242 : decode code 242 = .ok (.iconst 1, 1) := by decide +kernel
theorem d_L_243 : decode code 243 = .ok (.iadd, 1) := by decide +kernel
theorem d_L_244 : decode code 244 = .ok (.iaload, 1) := by decide +kernel
theorem d_L_245 : decode code 245 = .ok (.aload_n 0, 1) := by decide +kernel
theorem d_L_246 : decode code 246 = .ok (.iload_n 3, 1) := by decide +kernel
theorem d_L_247 : decode code 247 = .ok (.iconst 2, 1) := by decide +kernel
theorem d_L_248 : decode code 248 = .ok (.iadd, 1) := by decide +kernel
theorem d_L_249 : decode code 249 = .ok (.iaload, 1) := by decide +kernel
theorem d_L_250 : decode code 250 = .ok (.aload_n 0, 1) := by decide +kernel
theorem d_L_251 : decode code 251 = .ok (.iload_n 3, 1) := by decide +kernel
theorem d_L_252 : decode code 252 = .ok (.iconst 3, 1) := by decide +kernel
theorem d_L_253 : decode code 253 = .ok (.iadd, 1) := by decide +kernel
theorem d_L_254 : decode code 254 = .ok (.iaload, 1) := by decide +kernel
theorem d_L_255 : decode code 255 = .ok (.invokevirtual 28, 3) := by decide +kernel
theorem d_L_258 : decode code 258 = .ok (.aload_n 2, 1) := by decide +kernel
theorem d_L_259 : decode code 259 = .ok (.aload_n 0, 1) := by decide +kernel
theorem d_L_260 : decode code 260 = .ok (.iload_n 3, 1) := by decide +kernel
theorem d_L_261 : decode code 261 = .ok (.iconst 1, 1) := by decide +kernel
theorem d_L_262 : decode code 262 = .ok (.iadd, 1) := by decide +kernel
theorem d_L_263 : decode code 263 = .ok (.iaload, 1) := by decide +kernel
theorem d_L_264 : decode code 264 = .ok (.aload_n 0, 1) := by decide +kernel
theorem d_L_265 : decode code 265 = .ok (.iload_n 3, 1) := by decide +kernel
theorem d_L_266 : decode code 266 = .ok (.iconst 2, 1) := by decide +kernel
theorem d_L_267 : decode code 267 = .ok (.iadd, 1) := by decide +kernel
theorem d_L_268 : decode code 268 = .ok (.iaload, 1) := by decide +kernel
theorem d_L_269 : decode code 269 = .ok (.aload_n 0, 1) := by decide +kernel
theorem d_L_270 : decode code 270 = .ok (.iload_n 3, 1) := by decide +kernel
theorem d_L_271 : decode code 271 = .ok (.iconst 3, 1) := by decide +kernel
theorem d_L_272 : decode code 272 = .ok (.iadd, 1) := by decide +kernel
theorem d_L_273 : decode code 273 = .ok (.iaload, 1) := by decide +kernel
theorem d_L_274 : decode code 274 = .ok (.invokevirtual 31, 3) := by decide +kernel
theorem d_L_277 : decode code 277 = .ok (.if_icmp .eq 357, 3) := by decide +kernel
theorem d_L_280 : decode code 280 = .ok (.iconst 0, 1) := by decide +kernel
theorem d_L_281 : decode code 281 = .ok (.ireturn, 1) := by decide +kernel
theorem d_L_282 : decode code 282 = .ok (.aload_n 1, 1) := by decide +kernel
theorem d_L_283 : decode code 283 = .ok (.aload_n 0, 1) := by decide +kernel
theorem d_L_284 : decode code 284 = .ok (.iload_n 3, 1) := by decide +kernel
theorem d_L_285 : decode code 285 = .ok (.iconst 1, 1) := by decide +kernel
theorem d_L_286 : decode code 286 = .ok (.iadd, 1) := by decide +kernel
theorem d_L_287 : decode code 287 = .ok (.iaload, 1) := by decide +kernel
theorem d_L_288 : decode code 288 = .ok (.invokevirtual 32, 3) := by decide +kernel
theorem d_L_291 : decode code 291 = .ok (.aload_n 2, 1) := by decide +kernel
theorem d_L_292 : decode code 292 = .ok (.aload_n 0, 1) := by decide +kernel
theorem d_L_293 : decode code 293 = .ok (.iload_n 3, 1) := by decide +kernel
theorem d_L_294 : decode code 294 = .ok (.iconst 1, 1) := by decide +kernel
theorem d_L_295 : decode code 295 = .ok (.iadd, 1) := by decide +kernel
theorem d_L_296 : decode code 296 = .ok (.iaload, 1) := by decide +kernel
theorem d_L_297 : decode code 297 = .ok (.invokevirtual 35, 3) := by decide +kernel
theorem d_L_300 : decode code 300 = .ok (.if_icmp .eq 334, 3) := by decide +kernel
theorem d_L_303 : decode code 303 = .ok (.iconst 0, 1) := by decide +kernel
theorem d_L_304 : decode code 304 = .ok (.ireturn, 1) := by decide +kernel
theorem d_L_305 : decode code 305 = .ok (.aload_n 1, 1) := by decide +kernel
theorem d_L_306 : decode code 306 = .ok (.aload_n 0, 1) := by decide +kernel
theorem d_L_307 : decode code 307 = .ok (.iload_n 3, 1) := by decide +kernel
theorem d_L_308 : decode code 308 = .ok (.iconst 1, 1) := by decide +kernel
theorem d_L_309 : decode code 309 = .ok (.iadd, 1) := by decide +kernel
theorem d_L_310 : decode code 310 = .ok (.iaload, 1) := by decide +kernel
theorem d_L_311 : decode code 311 = .ok (.aload_n 0, 1) := by decide +kernel
theorem d_L_312 : decode code 312 = .ok (.iload_n 3, 1) := by decide +kernel
theorem d_L_313 : decode code 313 = .ok (.iconst 2, 1) := by decide +kernel
theorem d_L_314 : decode code 314 = .ok (.iadd, 1) := by decide +kernel
theorem d_L_315 : decode code 315 = .ok (.iaload, 1) := by decide +kernel
theorem d_L_316 : decode code 316 = .ok (.invokevirtual 36, 3) := by decide +kernel
theorem d_L_319 : decode code 319 = .ok (.aload_n 2, 1) := by decide +kernel
theorem d_L_320 : decode code 320 = .ok (.aload_n 0, 1) := by decide +kernel
theorem d_L_321 : decode code 321 = .ok (.iload_n 3, 1) := by decide +kernel
theorem d_L_322 : decode code 322 = .ok (.iconst 1, 1) := by decide +kernel
theorem d_L_323 : decode code 323 = .ok (.iadd, 1) := by decide +kernel
theorem d_L_324 : decode code 324 = .ok (.iaload, 1) := by decide +kernel
theorem d_L_325 : decode code 325 = .ok (.aload_n 0, 1) := by decide +kernel
theorem d_L_326 : decode code 326 = .ok (.iload_n 3, 1) := by decide +kernel
theorem d_L_327 : decode code 327 = .ok (.iconst 2, 1) := by decide +kernel
theorem d_L_328 : decode code 328 = .ok (.iadd, 1) := by decide +kernel
theorem d_L_329 : decode code 329 = .ok (.iaload, 1) := by decide +kernel
theorem d_L_330 : decode code 330 = .ok (.invokevirtual 40, 3) := by decide +kernel
theorem d_L_333 : decode code 333 = .ok (.if_icmp .eq 301, 3) := by decide +kernel
theorem d_L_336 : decode code 336 = .ok (.iconst 0, 1) := by decide +kernel
theorem d_L_337 : decode code 337 = .ok (.ireturn, 1) := by decide +kernel
theorem d_L_338 : decode code 338 = .ok (.aload_n 1, 1) := by decide +kernel
theorem d_L_339 : decode code 339 = .ok (.invokevirtual 41, 3) := by decide +kernel
theorem d_L_342 : decode code 342 = .ok (.aload_n 2, 1) := by decide +kernel
theorem d_L_343 : decode code 343 = .ok (.invokevirtual 45, 3) := by decide +kernel
theorem d_L_346 : decode code 346 = .ok (.if_icmp .eq 288, 3) := by decide +kernel
theorem d_L_349 : decode code 349 = .ok (.iconst 0, 1) := by decide +kernel
theorem d_L_350 : decode code 350 = .ok (.ireturn, 1) := by decide +kernel
theorem d_L_351 : decode code 351 = .ok (.aload_n 1, 1) := by decide +kernel
theorem d_L_352 : decode code 352 = .ok (.aload_n 0, 1) := by decide +kernel
theorem d_L_353 : decode code 353 = .ok (.iload_n 3, 1) := by decide +kernel
theorem d_L_354 : decode code 354 = .ok (.iconst 1, 1) := by decide +kernel
theorem d_L_355 : decode code 355 = .ok (.iadd, 1) := by decide +kernel
theorem d_L_356 : decode code 356 = .ok (.iaload, 1) := by decide +kernel
theorem d_L_357 : decode code 357 = .ok (.invokevirtual 46, 3) := by decide +kernel
theorem d_L_360 : decode code 360 = .ok (.aload_n 2, 1) := by decide +kernel
theorem d_L_361 : decode code 361 = .ok (.aload_n 0, 1) := by decide +kernel
theorem d_L_362 : decode code 362 = .ok (.iload_n 3, 1) := by decide +kernel
theorem d_L_363 : decode code 363 = .ok (.iconst 1, 1) := by decide +kernel
theorem d_L_364 : decode code 364 = .ok (.iadd, 1) := by decide +kernel
theorem d_L_365 : decode code 365 = .ok (.iaload, 1) := by decide +kernel
theorem d_L_366 : decode code 366 = .ok (.invokevirtual 49, 3) := by decide +kernel
theorem d_L_369 : decode code 369 = .ok (.if_icmp .eq 265, 3) := by decide +kernel
theorem d_L_372 : decode code 372 = .ok (.iconst 0, 1) := by decide +kernel
theorem d_L_373 : decode code 373 = .ok (.ireturn, 1) := by decide +kernel
theorem d_L_374 : decode code 374 = .ok (.aload_n 1, 1) := by decide +kernel
theorem d_L_375 : decode code 375 = .ok (.aload_n 0, 1) := by decide +kernel
theorem d_L_376 : decode code 376 = .ok (.iload_n 3, 1) := by decide +kernel
theorem d_L_377 : decode code 377 = .ok (.iconst 1, 1) := by decide +kernel
theorem d_L_378 : decode code 378 = .ok (.iadd, 1) := by decide +kernel
theorem d_L_379 : decode code 379 = .ok (.iaload, 1) := by decide +kernel
theorem d_L_380 : decode code 380 = .ok (.aload_n 0, 1) := by decide +kernel
theorem d_L_381 : decode code 381 = .ok (.iload_n 3, 1) := by decide +kernel
theorem d_L_382 : decode code 382 = .ok (.iconst 2, 1) := by decide +kernel
theorem d_L_383 : decode code 383 = .ok (.iadd, 1) := by decide +kernel
theorem d_L_384 : decode code 384 = .ok (.iaload, 1) := by decide +kernel
theorem d_L_385 : decode code 385 = .ok (.invokevirtual 50, 3) := by decide +kernel
theorem d_L_388 : decode code 388 = .ok (.aload_n 2, 1) := by decide +kernel
theorem d_L_389 : decode code 389 = .ok (.aload_n 0, 1) := by decide +kernel
theorem d_L_390 : decode code 390 = .ok (.iload_n 3, 1) := by decide +kernel
theorem d_L_391 : decode code 391 = .ok (.iconst 1, 1) := by decide +kernel
theorem d_L_392 : decode code 392 = .ok (.iadd, 1) := by decide +kernel
theorem d_L_393 : decode code 393 = .ok (.iaload, 1) := by decide +kernel
theorem d_L_394 : decode code 394 = .ok (.aload_n 0, 1) := by decide +kernel
theorem d_L_395 : decode code 395 = .ok (.iload_n 3, 1) := by decide +kernel
theorem d_L_396 : decode code 396 = .ok (.iconst 2, 1) := by decide +kernel
theorem d_L_397 : decode code 397 = .ok (.iadd, 1) := by decide +kernel
theorem d_L_398 : decode code 398 = .ok (.iaload, 1) := by decide +kernel
theorem d_L_399 : decode code 399 = .ok (.invokevirtual 53, 3) := by decide +kernel
theorem d_L_402 : decode code 402 = .ok (.if_icmp .eq 232, 3) := by decide +kernel
theorem d_L_405 : decode code 405 = .ok (.iconst 0, 1) := by decide +kernel
theorem d_L_406 : decode code 406 = .ok (.ireturn, 1) := by decide +kernel
theorem d_L_407 : decode code 407 = .ok (.aload_n 1, 1) := by decide +kernel
theorem d_L_408 : decode code 408 = .ok (.aload_n 0, 1) := by decide +kernel
theorem d_L_409 : decode code 409 = .ok (.iload_n 3, 1) := by decide +kernel
theorem d_L_410 : decode code 410 = .ok (.iconst 1, 1) := by decide +kernel
theorem d_L_411 : decode code 411 = .ok (.iadd, 1) := by decide +kernel
theorem d_L_412 : decode code 412 = .ok (.iaload, 1) := by decide +kernel
theorem d_L_413 : decode code 413 = .ok (.aload_n 0, 1) := by decide +kernel
theorem d_L_414 : decode code 414 = .ok (.iload_n 3, 1) := by decide +kernel
theorem d_L_415 : decode code 415 = .ok (.iconst 2, 1) := by decide +kernel
theorem d_L_416 : decode code 416 = .ok (.iadd, 1) := by decide +kernel
theorem d_L_417 : decode code 417 = .ok (.iaload, 1) := by decide +kernel
theorem d_L_418 : decode code 418 = .ok (.aload_n 0, 1) := by decide +kernel
theorem d_L_419 : decode code 419 = .ok (.iload_n 3, 1) := by decide +kernel
theorem d_L_420 : decode code 420 = .ok (.iconst 3, 1) := by decide +kernel
theorem d_L_421 : decode code 421 = .ok (.iadd, 1) := by decide +kernel
theorem d_L_422 : decode code 422 = .ok (.iaload, 1) := by decide +kernel
theorem d_L_423 : decode code 423 = .ok (.invokevirtual 54, 3) := by decide +kernel
theorem d_L_426 : decode code 426 = .ok (.aload_n 2, 1) := by decide +kernel
theorem d_L_427 : decode code 427 = .ok (.aload_n 0, 1) := by decide +kernel
theorem d_L_428 : decode code 428 = .ok (.iload_n 3, 1) := by decide +kernel
theorem d_L_429 : decode code 429 = .ok (.iconst 1, 1) := by decide +kernel
theorem d_L_430 : decode code 430 = .ok (.iadd, 1) := by decide +kernel
theorem d_L_431 : decode code 431 = .ok (.iaload, 1) := by decide +kernel
theorem d_L_432 : decode code 432 = .ok (.aload_n 0, 1) := by decide +kernel
theorem d_L_433 : decode code 433 = .ok (.iload_n 3, 1) := by decide +kernel
theorem d_L_434 : decode code 434 = .ok (.iconst 2, 1) := by decide +kernel
theorem d_L_435 : decode code 435 = .ok (.iadd, 1) := by decide +kernel
theorem d_L_436 : decode code 436 = .ok (.iaload, 1) := by decide +kernel
theorem d_L_437 : decode code 437 = .ok (.aload_n 0, 1) := by decide +kernel
theorem d_L_438 : decode code 438 = .ok (.iload_n 3, 1) := by decide +kernel
theorem d_L_439 : decode code 439 = .ok (.iconst 3, 1) := by decide +kernel
theorem d_L_440 : decode code 440 = .ok (.iadd, 1) := by decide +kernel
theorem d_L_441 : decode code 441 = .ok (.iaload, 1) := by decide +kernel
theorem d_L_442 : decode code 442 = .ok (.invokevirtual 57, 3) := by decide +kernel
theorem d_L_445 : decode code 445 = .ok (.if_icmp .eq 189, 3) := by decide +kernel
theorem d_L_448 : decode code 448 = .ok (.iconst 0, 1) := by decide +kernel
theorem d_L_449 : decode code 449 = .ok (.ireturn, 1) := by decide +kernel
theorem d_L_450 : decode code 450 = .ok (.aload_n 1, 1) := by decide +kernel
theorem d_L_451 : decode code 451 = .ok (.aload_n 0, 1) := by decide +kernel
theorem d_L_452 : decode code 452 = .ok (.iload_n 3, 1) := by decide +kernel
theorem d_L_453 : decode code 453 = .ok (.iconst 1, 1) := by decide +kernel
theorem d_L_454 : decode code 454 = .ok (.iadd, 1) := by decide +kernel
theorem d_L_455 : decode code 455 = .ok (.iaload, 1) := by decide +kernel
theorem d_L_456 : decode code 456 = .ok (.invokevirtual 58, 3) := by decide +kernel
theorem d_L_459 : decode code 459 = .ok (.aload_n 2, 1) := by decide +kernel
theorem d_L_460 : decode code 460 = .ok (.aload_n 0, 1) := by decide +kernel
theorem d_L_461 : decode code 461 = .ok (.iload_n 3, 1) := by decide +kernel
theorem d_L_462 : decode code 462 = .ok (.iconst 1, 1) := by decide +kernel
theorem d_L_463 : decode code 463 = .ok (.iadd, 1) := by decide +kernel
theorem d_L_464 : decode code 464 = .ok (.iaload, 1) := by decide +kernel
theorem d_L_465 : decode code 465 = .ok (.invokevirtual 61, 3) := by decide +kernel
theorem d_L_468 : decode code 468 = .ok (.if_icmp .eq 166, 3) := by decide +kernel
theorem d_L_471 : decode code 471 = .ok (.iconst 0, 1) := by decide +kernel
theorem d_L_472 : decode code 472 = .ok (.ireturn, 1) := by decide +kernel
theorem d_L_473 : decode code 473 = .ok (.aload_n 1, 1) := by decide +kernel
theorem d_L_474 : decode code 474 = .ok (.aload_n 0, 1) := by decide +kernel
theorem d_L_475 : decode code 475 = .ok (.iload_n 3, 1) := by decide +kernel
theorem d_L_476 : decode code 476 = .ok (.iconst 1, 1) := by decide +kernel
theorem d_L_477 : decode code 477 = .ok (.iadd, 1) := by decide +kernel
theorem d_L_478 : decode code 478 = .ok (.iaload, 1) := by decide +kernel
theorem d_L_479 : decode code 479 = .ok (.invokevirtual 62, 3) := by decide +kernel
theorem d_L_482 : decode code 482 = .ok (.aload_n 2, 1) := by decide +kernel
theorem d_L_483 : decode code 483 = .ok (.aload_n 0, 1) := by decide +kernel
theorem d_L_484 : decode code 484 = .ok (.iload_n 3, 1) := by decide +kernel
theorem d_L_485 : decode code 485 = .ok (.iconst 1, 1) := by decide +kernel
theorem d_L_486 : decode code 486 = .ok (.iadd, 1) := by decide +kernel
theorem d_L_487 : decode code 487 = .ok (.iaload, 1) := by decide +kernel
theorem d_L_488 : decode code 488 = .ok (.invokevirtual 65, 3) := by decide +kernel
theorem d_L_491 : decode code 491 = .ok (.if_icmp .eq 143, 3) := by decide +kernel
theorem d_L_494 : decode code 494 = .ok (.iconst 0, 1) := by decide +kernel
theorem d_L_495 : decode code 495 = .ok (.ireturn, 1) := by decide +kernel
theorem d_L_496 : decode code 496 = .ok (.aload_n 1, 1) := by decide +kernel
theorem d_L_497 : decode code 497 = .ok (.invokevirtual 66, 3) := by decide +kernel
theorem d_L_500 : decode code 500 = .ok (.aload_n 2, 1) := by decide +kernel
theorem d_L_501 : decode code 501 = .ok (.invokevirtual 69, 3) := by decide +kernel
theorem d_L_504 : decode code 504 = .ok (.if_icmp .eq 130, 3) := by decide +kernel
theorem d_L_507 : decode code 507 = .ok (.iconst 0, 1) := by decide +kernel
theorem d_L_508 : decode code 508 = .ok (.ireturn, 1) := by decide +kernel
theorem d_L_509 : decode code 509 = .ok (.aload_n 1, 1) := by decide +kernel
theorem d_L_510 : decode code 510 = .ok (.aload_n 0, 1) := by decide +kernel
theorem d_L_511 : decode code 511 = .ok (.iload_n 3, 1) := by decide +kernel
theorem d_L_512 : decode code 512 = .ok (.iconst 1, 1) := by decide +kernel
theorem d_L_513 : decode code 513 = .ok (.iadd, 1) := by decide +kernel
theorem d_L_514 : decode code 514 = .ok (.iaload, 1) := by decide +kernel
theorem d_L_515 : decode code 515 = .ok (.invokevirtual 70, 3) := by decide +kernel
theorem d_L_518 : decode code 518 = .ok (.aload_n 2, 1) := by decide +kernel
theorem d_L_519 : decode code 519 = .ok (.aload_n 0, 1) := by decide +kernel
theorem d_L_520 : decode code 520 = .ok (.iload_n 3, 1) := by decide +kernel
theorem d_L_521 : decode code 521 = .ok (.iconst 1, 1) := by decide +kernel
theorem d_L_522 : decode code 522 = .ok (.iadd, 1) := by decide +kernel
theorem d_L_523 : decode code 523 = .ok (.iaload, 1) := by decide +kernel
theorem d_L_524 : decode code 524 = .ok (.invokevirtual 74, 3) := by decide +kernel
theorem d_L_527 : decode code 527 = .ok (.if_icmp .eq 107, 3) := by decide +kernel
theorem d_L_530 : decode code 530 = .ok (.iconst 0, 1) := by decide +kernel
theorem d_L_531 : decode code 531 = .ok (.ireturn, 1) := by decide +kernel
theorem d_L_532 : decode code 532 = .ok (.aload_n 1, 1) := by decide +kernel
theorem d_L_533 : decode code 533 = .ok (.aload_n 0, 1) := by decide +kernel
theorem d_L_534 : decode code 534 = .ok (.iload_n 3, 1) := by decide +kernel
theorem d_L_535 : decode code 535 = .ok (.iconst 1, 1) := by decide +kernel
theorem d_L_536 : decode code 536 = .ok (.iadd, 1) := by decide +kernel
theorem d_L_537 : decode code 537 = .ok (.iaload, 1) := by decide +kernel
theorem d_L_538 : decode code 538 = .ok (.aload_n 0, 1) := by decide +kernel
theorem d_L_539 : decode code 539 = .ok (.iload_n 3, 1) := by decide +kernel
theorem d_L_540 : decode code 540 = .ok (.iconst 2, 1) := by decide +kernel
theorem d_L_541 : decode code 541 = .ok (.iadd, 1) := by decide +kernel
theorem d_L_542 : decode code 542 = .ok (.iaload, 1) := by decide +kernel
theorem d_L_543 : decode code 543 = .ok (.aload_n 0, 1) := by decide +kernel
theorem d_L_544 : decode code 544 = .ok (.iload_n 3, 1) := by decide +kernel
theorem d_L_545 : decode code 545 = .ok (.iconst 3, 1) := by decide +kernel
theorem d_L_546 : decode code 546 = .ok (.iadd, 1) := by decide +kernel
theorem d_L_547 : decode code 547 = .ok (.iaload, 1) := by decide +kernel
theorem d_L_548 : decode code 548 = .ok (.invokevirtual 75, 3) := by decide +kernel
theorem d_L_551 : decode code 551 = .ok (.aload_n 2, 1) := by decide +kernel
theorem d_L_552 : decode code 552 = .ok (.aload_n 0, 1) := by decide +kernel
theorem d_L_553 : decode code 553 = .ok (.iload_n 3, 1) := by decide +kernel
theorem d_L_554 : decode code 554 = .ok (.iconst 1, 1) := by decide +kernel
theorem d_L_555 : decode code 555 = .ok (.iadd, 1) := by decide +kernel
theorem d_L_556 : decode code 556 = .ok (.iaload, 1) := by decide +kernel
theorem d_L_557 : decode code 557 = .ok (.aload_n 0, 1) := by decide +kernel
theorem d_L_558 : decode code 558 = .ok (.iload_n 3, 1) := by decide +kernel
theorem d_L_559 : decode code 559 = .ok (.iconst 2, 1) := by decide +kernel
theorem d_L_560 : decode code 560 = .ok (.iadd, 1) := by decide +kernel
theorem d_L_561 : decode code 561 = .ok (.iaload, 1) := by decide +kernel
theorem d_L_562 : decode code 562 = .ok (.aload_n 0, 1) := by decide +kernel
theorem d_L_563 : decode code 563 = .ok (.iload_n 3, 1) := by decide +kernel
theorem d_L_564 : decode code 564 = .ok (.iconst 3, 1) := by decide +kernel
theorem d_L_565 : decode code 565 = .ok (.iadd, 1) := by decide +kernel
theorem d_L_566 : decode code 566 = .ok (.iaload, 1) := by decide +kernel
theorem d_L_567 : decode code 567 = .ok (.invokevirtual 78, 3) := by decide +kernel
theorem d_L_570 : decode code 570 = .ok (.if_icmp .eq 64, 3) := by decide +kernel
theorem d_L_573 : decode code 573 = .ok (.iconst 0, 1) := by decide +kernel
theorem d_L_574 : decode code 574 = .ok (.ireturn, 1) := by decide +kernel
theorem d_L_575 : decode code 575 = .ok (.aload_n 1, 1) := by decide +kernel
theorem d_L_576 : decode code 576 = .ok (.aload_n 0, 1) := by decide +kernel
theorem d_L_577 : decode code 577 = .ok (.iload_n 3, 1) := by decide +kernel
theorem d_L_578 : decode code 578 = .ok (.iconst 1, 1) := by decide +kernel
theorem d_L_579 : decode code 579 = .ok (.iadd, 1) := by decide +kernel
theorem d_L_580 : decode code 580 = .ok (.iaload, 1) := by decide +kernel
theorem d_L_581 : decode code 581 = .ok (.invokevirtual 79, 3) := by decide +kernel
theorem d_L_584 : decode code 584 = .ok (.aload_n 2, 1) := by decide +kernel
theorem d_L_585 : decode code 585 = .ok (.aload_n 0, 1) := by decide +kernel
theorem d_L_586 : decode code 586 = .ok (.iload_n 3, 1) := by decide +kernel
theorem d_L_587 : decode code 587 = .ok (.iconst 1, 1) := by decide +kernel
theorem d_L_588 : decode code 588 = .ok (.iadd, 1) := by decide +kernel
theorem d_L_589 : decode code 589 = .ok (.iaload, 1) := by decide +kernel
theorem d_L_590 : decode code 590 = .ok (.invokevirtual 82, 3) := by decide +kernel
theorem d_L_593 : decode code 593 = .ok (.if_icmp .eq 41, 3) := by decide +kernel
theorem d_L_596 : decode code 596 = .ok (.iconst 0, 1) := by decide +kernel
theorem d_L_597 : decode code 597 = .ok (.ireturn, 1) := by decide +kernel
theorem d_L_598 : decode code 598 = .ok (.aload_n 1, 1) := by decide +kernel
theorem d_L_599 : decode code 599 = .ok (.invokevirtual 83, 3) := by decide +kernel
theorem d_L_602 : decode code 602 = .ok (.aload_n 2, 1) := by decide +kernel
theorem d_L_603 : decode code 603 = .ok (.invokevirtual 86, 3) := by decide +kernel
theorem d_L_606 : decode code 606 = .ok (.if_icmp .eq 28, 3) := by decide +kernel
theorem d_L_609 : decode code 609 = .ok (.iconst 0, 1) := by decide +kernel
theorem d_L_610 : decode code 610 = .ok (.ireturn, 1) := by decide +kernel
theorem d_L_611 : decode code 611 = .ok (.aload_n 1, 1) := by decide +kernel
theorem d_L_612 : decode code 612 = .ok (.aload_n 0, 1) := by decide +kernel
theorem d_L_613 : decode code 613 = .ok (.iload_n 3, 1) := by decide +kernel
theorem d_L_614 : decode code 614 = .ok (.iconst 1, 1) := by decide +kernel
theorem d_L_615 : decode code 615 = .ok (.iadd, 1) := by decide +kernel
theorem d_L_616 : decode code 616 = .ok (.iaload, 1) := by decide +kernel
theorem d_L_617 : decode code 617 = .ok (.invokevirtual 87, 3) := by decide +kernel
theorem d_L_620 : decode code 620 = .ok (.aload_n 2, 1) := by decide +kernel
theorem d_L_621 : decode code 621 = .ok (.aload_n 0, 1) := by decide +kernel
theorem d_L_622 : decode code 622 = .ok (.iload_n 3, 1) := by decide +kernel
theorem d_L_623 : decode code 623 = .ok (.iconst 1, 1) := by decide +kernel
theorem d_L_624 : decode code 624 = .ok (.iadd, 1) := by decide +kernel
theorem d_L_625 : decode code 625 = .ok (.iaload, 1) := by decide +kernel
theorem d_L_626 : decode code 626 = .ok (.invokevirtual 90, 3) := by decide +kernel
theorem d_L_629 : decode code 629 = .ok (.if_icmp .eq 5, 3) := by decide +kernel
theorem d_L_632 : decode code 632 = .ok (.iconst 0, 1) := by decide +kernel
theorem d_L_633 : decode code 633 = .ok (.ireturn, 1) := by decide +kernel
theorem d_L_634 : decode code 634 = .ok (.iinc 3 5, 3) := by decide +kernel
theorem d_L_637 : decode code 637 = .ok (.goto (-619), 3) := by decide +kernel
theorem d_L_640 : decode code 640 = .ok (.iconst 1, 1) := by decide +kernel
theorem d_L_641 : decode code 641 = .ok (.ireturn, 1) := by decide +kernel
