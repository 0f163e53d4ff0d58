theorem dL_0 : decode code 0 = .ok (.new 7, 3) := by decide +kernel
theorem dL_3 : decode code 3 = .ok (.dup, 1) := by decide +kernel
theorem dL_4 : decode code 4 = .ok (.invokespecial 9, 3) := by decide +kernel
theorem dL_7 : decode code 7 = .ok (.astore_n 1, 1) := by decide +kernel
theorem dL_8 : decode code 8 = .ok (.new 10, 3) := by decide +kernel
theorem dL_11 : decode code 11 = .ok (.dup, 1) := by decide +kernel
theorem dL_12 : decode code 12 = .ok (.invokespecial 12, 3) := by decide +kernel
theorem dL_15 : decode code 15 = .ok (.astore_n 2, 1) := by decide +kernel
theorem dL_16 : decode code 16 = .ok (.iconst 0, 1) := by decide +kernel
theorem dL_17 : decode code 17 = .ok (.istore_n 3, 1) := by decide +kernel
theorem dL_18 : decode code 18 = .ok (.iload_n 3, 1) := by decide +kernel
theorem dL_19 : decode code 19 = .ok (.aload_n 0, 1) := by decide +kernel
theorem dL_20 : decode code 20 = .ok (.arraylength, 1) := by decide +kernel
theorem dL_21 : decode code 21 = .ok (.bipush 6, 2) := by decide +kernel
theorem dL_23 : decode code 23 = .ok (.isub, 1) := by decide +kernel
theorem dL_24 : decode code 24 = .ok (.if_icmp .gt 686, 3) := by decide +kernel
theorem dL_27 : decode code 27 = .ok (.aload_n 0, 1) := by decide +kernel
theorem dL_28 : decode code 28 = .ok (.iload_n 3, 1) := by decide +kernel
theorem dL_29 : decode code 29 = .ok (.iaload, 1) := by decide +kernel
theorem dL_30 : decode code 30 = .ok (.bipush 31, 2) := by decide +kernel
theorem dL_32 : decode code 32 = .ok (.iand, 1) := by decide +kernel
theorem dL_33 : decode code 33 = .ok (.tableswitch 671 0 19 #[95, 118, 151, 174, 197, 220, 243, 266, 329, 342, 375, 398, 421, 444, 467, 500, 523, 556, 599, 622], 95) := by decide +kernel
theorem dL_128 : decode code 128 = .ok (.aload_n 1, 1) := by decide +kernel
theorem dL_129 : decode code 129 = .ok (.aload_n 0, 1) := by decide +kernel
theorem dL_130 : decode code 130 = .ok (.iload_n 3, 1) := by decide +kernel
theorem dL_131 : decode code 131 = .ok (.iconst 1, 1) := by decide +kernel
theorem dL_132 : decode code 132 = .ok (.iadd, 1) := by decide +kernel
theorem dL_133 : decode code 133 = .ok (.iaload, 1) := by decide +kernel
theorem dL_134 : decode code 134 = .ok (.invokevirtual 13, 3) := by decide +kernel
theorem dL_137 : decode code 137 = .ok (.aload_n 2, 1) := by decide +kernel
theorem dL_138 : decode code 138 = .ok (.aload_n 0, 1) := by decide +kernel
theorem dL_139 : decode code 139 = .ok (.iload_n 3, 1) := by decide +kernel
theorem dL_140 : decode code 140 = .ok (.iconst 1, 1) := by decide +kernel
theorem dL_141 : decode code 141 = .ok (.iadd, 1) := by decide +kernel
theorem dL_142 : decode code 142 = .ok (.iaload, 1) := by decide +kernel
theorem dL_143 : decode code 143 = .ok (.invokevirtual 17, 3) := by decide +kernel
theorem dL_146 : decode code 146 = .ok (.if_icmp .eq 558, 3) := by decide +kernel
theorem dL_149 : decode code 149 = .ok (.iconst 0, 1) := by decide +kernel
theorem dL_150 : decode code 150 = .ok (.ireturn, 1) := by decide +kernel
theorem dL_151 : decode code 151 = .ok (.aload_n 1, 1) := by decide +kernel
theorem dL_152 : decode code 152 = .ok (.aload_n 0, 1) := by decide +kernel
theorem dL_153 : decode code 153 = .ok (.iload_n 3, 1) := by decide +kernel
theorem dL_154 : decode code 154 = .ok (.iconst 1, 1) := by decide +kernel
theorem dL_155 : decode code 155 = .ok (.iadd, 1) := by decide +kernel
theorem dL_156 : decode code 156 = .ok (.iaload, 1) := by decide +kernel
theorem dL_157 : decode code 157 = .ok (.aload_n 0, 1) := by decide +kernel
theorem dL_158 : decode code 158 = .ok (.iload_n 3, 1) := by decide +kernel
theorem dL_159 : decode code 159 = .ok (.iconst 2, 1) := by decide +kernel
theorem dL_160 : decode code 160 = .ok (.iadd, 1) := by decide +kernel
theorem dL_161 : decode code 161 = .ok (.iaload, 1) := by decide +kernel
theorem dL_162 : decode code 162 = .ok (.invokevirtual 18, 3) := by decide +kernel
theorem dL_165 : decode code 165 = .ok (.aload_n 2, 1) := by decide +kernel
theorem dL_166 : decode code 166 = .ok (.aload_n 0, 1) := by decide +kernel
theorem dL_167 : decode code 167 = .ok (.iload_n 3, 1) := by decide +kernel
theorem dL_168 : decode code 168 = .ok (.iconst 1, 1) := by decide +kernel
theorem dL_169 : decode code 169 = .ok (.iadd, 1) := by decide +kernel
theorem dL_170 : decode code 170 = .ok (.iaload, 1) := by decide +kernel
theorem dL_171 : decode code 171 = .ok (.aload_n 0, 1) := by decide +kernel
theorem dL_172 : decode code 172 = .ok (.iload_n 3, 1) := by decide +kernel
theorem dL_173 : decode code 173 = .ok (.iconst 2, 1) := by decide +kernel
theorem dL_174 : decode code 174 = .ok (.iadd, 1) := by decide +kernel
theorem dL_175 : decode code 175 = .ok (.iaload, 1) := by decide +kernel
theorem dL_176 : decode code 176 = .ok (.invokevirtual 22, 3) := by decide +kernel
theorem dL_179 : decode code 179 = .ok (.if_icmp .eq 525, 3) := by decide +kernel
theorem dL_182 : decode code 182 = .ok (.iconst 0, 1) := by decide +kernel
theorem dL_183 : decode code 183 = .ok (.ireturn, 1) := by decide +kernel
theorem dL_184 : decode code 184 = .ok (.aload_n 1, 1) := by decide +kernel
theorem dL_185 : decode code 185 = .ok (.aload_n 0, 1) := by decide +kernel
theorem dL_186 : decode code 186 = .ok (.iload_n 3, 1) := by decide +kernel
theorem dL_187 : decode code 187 = .ok (.iconst 1, 1) := by decide +kernel
theorem dL_188 : decode code 188 = .ok (.iadd, 1) := by decide +kernel
theorem dL_189 : decode code 189 = .ok (.iaload, 1) := by decide +kernel
theorem dL_190 : decode code 190 = .ok (.invokevirtual 23, 3) := by decide +kernel
theorem dL_193 : decode code 193 = .ok (.aload_n 2, 1) := by decide +kernel
theorem dL_194 : decode code 194 = .ok (.aload_n 0, 1) := by decide +kernel
theorem dL_195 : decode code 195 = .ok (.iload_n 3, 1) := by decide +kernel
theorem dL_196 : decode code 196 = .ok (.iconst 1, 1) := by decide +kernel
theorem dL_197 : decode code 197 = .ok (.iadd, 1) := by decide +kernel
theorem dL_198 : decode code 198 = .ok (.iaload, 1) := by decide +kernel
theorem dL_199 : decode code 199 = .ok (.invokevirtual 26, 3) := by decide +kernel
theorem dL_202 : decode code 202 = .ok (.if_icmp .eq 502, 3) := by decide +kernel
theorem dL_205 : decode code 205 = .ok (.iconst 0, 1) := by decide +kernel
theorem dL_206 : decode code 206 = .ok (.ireturn, 1) := by decide +kernel
theorem dL_207 : decode code 207 = .ok (.aload_n 1, 1) := by decide +kernel
theorem dL_208 : decode code 208 = .ok (.aload_n 0, 1) := by decide +kernel
theorem dL_209 : decode code 209 = .ok (.iload_n 3, 1) := by decide +kernel
theorem dL_210 : decode code 210 = .ok (.iconst 1, 1) := by decide +kernel
theorem dL_211 : decode code 211 = .ok (.iadd, 1) := by decide +kernel
theorem dL_212 : decode code 212 = .ok (.iaload, 1) := by decide +kernel
theorem dL_213 : decode code 213 = .ok (.invokevirtual 27, 3) := by decide +kernel
theorem dL_216 : decode code 216 = .ok (.aload_n 2, 1) := by decide +kernel
theorem dL_217 : decode code 217 = .ok (.aload_n 0, 1) := by decide +kernel
theorem dL_218 : decode code 218 = .ok (.iload_n 3, 1) := by decide +kernel
theorem dL_219 : decode code 219 = .ok (.iconst 1, 1) := by decide +kernel
theorem dL_220 : decode code 220 = .ok (.iadd, 1) := by decide +kernel
theorem dL_221 : decode code 221 = .ok (.iaload, 1) := by decide +kernel
theorem dL_222 : decode code 222 = .ok (.invokevirtual 30, 3) := by decide +kernel
theorem dL_225 : decode code 225 = .ok (.if_icmp .eq 479, 3) := by decide +kernel
theorem dL_228 : decode code 228 = .ok (.iconst 0, 1) := by decide +kernel
theorem dL_229 : decode code 229 = .ok (.ireturn, 1) := by decide +kernel
theorem dL_230 : decode code 230 = .ok (.aload_n 1, 1) := by decide +kernel
theorem dL_231 : decode code 231 = .ok (.aload_n 0, 1) := by decide +kernel
theorem dL_232 : decode code 232 = .ok (.iload_n 3, 1) := by decide +kernel
theorem dL_233 : decode code 233 = .ok (.iconst 1, 1) := by decide +kernel
theorem dL_234 : decode code 234 = .ok (.iadd, 1) := by decide +kernel
theorem dL_235 : decode code 235 = .ok (.iaload, 1) := by decide +kernel
theorem dL_236 : decode code 236 = .ok (.invokevirtual 31, 3) := by decide +kernel
theorem dL_239 : decode code 239 = .ok (.aload_n 2, 1) := by decide +kernel
theorem dL_240 : decode code 240 = .ok (.aload_n 0, 1) := by decide +kernel
theorem dL_241 : decode code 241 = .ok (.iload_n 3, 1) := by decide +kernel
theorem dL_242 : decode code 242 = .ok (.iconst 1, 1) := by decide +kernel
theorem dL_243 : decode code 243 = .ok (.iadd, 1) := by decide +kernel
theorem dL_244 : decode code 244 = .ok (.iaload, 1) := by decide +kernel
theorem dL_245 : decode code 245 = .ok (.invokevirtual 34, 3) := by decide +kernel
theorem dL_248 : decode code 248 = .ok (.if_icmp .eq 456, 3) := by decide +kernel
theorem dL_251 : decode code 251 = .ok (.iconst 0, 1) := by decide +kernel
theorem dL_252 : decode code 252 = .ok (.ireturn, 1) := by decide +kernel
theorem dL_253 : decode code 253 = .ok (.aload_n 1, 1) := by decide +kernel
theorem dL_254 : decode code 254 = .ok (.aload_n 0, 1) := by decide +kernel
theorem dL_255 : decode code 255 = .ok (.iload_n 3, 1) := by decide +kernel
theorem dL_256 : decode code 256 = .ok (.iconst 1, 1) := by decide +kernel
theorem dL_257 : decode code 257 = .ok (.iadd, 1) := by decide +kernel
theorem dL_258 : decode code 258 = .ok (.iaload, 1) := by decide +kernel
theorem dL_259 : decode code 259 = .ok (.invokevirtual 35, 3) := by decide +kernel
theorem dL_262 : decode code 262 = .ok (.aload_n 2, 1) := by decide +kernel
theorem dL_263 : decode code 263 = .ok (.aload_n 0, 1) := by decide +kernel
theorem dL_264 : decode code 264 = .ok (.iload_n 3, 1) := by decide +kernel
theorem dL_265 : decode code 265 = .ok (.iconst 1, 1) := by decide +kernel
theorem dL_266 : decode code 266 = .ok (.iadd, 1) := by decide +kernel
theorem dL_267 : decode code 267 = .ok (.iaload, 1) := by decide +kernel
theorem dL_268 : decode code 268 = .ok (.invokevirtual 39, 3) := by decide +kernel
theorem dL_271 : decode code 271 = .ok (.if_icmp .eq 433, 3) := by decide +kernel
theorem dL_274 : decode code 274 = .ok (.iconst 0, 1) := by decide +kernel
theorem dL_275 : decode code 275 = .ok (.ireturn, 1) := by decide +kernel
theorem dL_276 : decode code 276 = .ok (.aload_n 1, 1) := by decide +kernel
theorem dL_277 : decode code 277 = .ok (.aload_n 0, 1) := by decide +kernel
theorem dL_278 : decode code 278 = .ok (.iload_n 3, 1) := by decide +kernel
theorem dL_279 : decode code 279 = .ok (.iconst 1, 1) := by decide +kernel
theorem dL_280 : decode code 280 = .ok (.iadd, 1) := by decide +kernel
theorem dL_281 : decode code 281 = .ok (.iaload, 1) := by decide +kernel
theorem dL_282 : decode code 282 = .ok (.invokevirtual 40, 3) := by decide +kernel
theorem dL_285 : decode code 285 = .ok (.aload_n 2, 1) := by decide +kernel
theorem dL_286 : decode code 286 = .ok (.aload_n 0, 1) := by decide +kernel
theorem dL_287 : decode code 287 = .ok (.iload_n 3, 1) := by decide +kernel
theorem dL_288 : decode code 288 = .ok (.iconst 1, 1) := by decide +kernel
theorem dL_289 : decode code 289 = .ok (.iadd, 1) := by decide +kernel
theorem dL_290 : decode code 290 = .ok (.iaload, 1) := by decide +kernel
theorem dL_291 : decode code 291 = .ok (.invokevirtual 43, 3) := by decide +kernel
theorem dL_294 : decode code 294 = .ok (.if_icmp .eq 410, 3) := by decide +kernel
theorem dL_297 : decode code 297 = .ok (.iconst 0, 1) := by decide +kernel
theorem dL_298 : decode code 298 = .ok (.ireturn, 1) := by decide +kernel
theorem dL_299 : decode code 299 = .ok (.aload_n 1, 1) := by decide +kernel
theorem dL_300 : decode code 300 = .ok (.aload_n 0, 1) := by decide +kernel
theorem dL_301 : decode code 301 = .ok (.iload_n 3, 1) := by decide +kernel
theorem dL_302 : decode code 302 = .ok (.iconst 1, 1) := by decide +kernel
theorem dL_303 : decode code 303 = .ok (.iadd, 1) := by decide +kernel
theorem dL_304 : decode code 304 = .ok (.iaload, 1) := by decide +kernel
theorem dL_305 : decode code 305 = .ok (.aload_n 0, 1) := by decide +kernel
theorem dL_306 : decode code 306 = .ok (.iload_n 3, 1) := by decide +kernel
theorem dL_307 : decode code 307 = .ok (.iconst 2, 1) := by decide +kernel
theorem dL_308 : decode code 308 = .ok (.iadd, 1) := by decide +kernel
theorem dL_309 : decode code 309 = .ok (.iaload, 1) := by decide +kernel
theorem dL_310 : decode code 310 = .ok (.aload_n 0, 1) := by decide +kernel
theorem dL_311 : decode code 311 = .ok (.iload_n 3, 1) := by decide +kernel
theorem dL_312 : decode code 312 = .ok (.iconst 3, 1) := by decide +kernel
theorem dL_313 : decode code 313 = .ok (.iadd, 1) := by decide +kernel
theorem dL_314 : decode code 314 = .ok (.iaload, 1) := by decide +kernel
theorem dL_315 : decode code 315 = .ok (.aload_n 0, 1) := by decide +kernel
theorem dL_316 : decode code 316 = .ok (.iload_n 3, 1) := by decide +kernel
theorem dL_317 : decode code 317 = .ok (.iconst 4, 1) := by decide +kernel
theorem dL_318 : decode code 318 = .ok (.iadd, 1) := by decide +kernel
theorem dL_319 : decode code 319 = .ok (.iaload, 1) := by decide +kernel
theorem dL_320 : decode code 320 = .ok (.aload_n 0, 1) := by decide +kernel
theorem dL_321 : decode code 321 = .ok (.iload_n 3, 1) := by decide +kernel
theorem dL_322 : decode code 322 = .ok (.iconst 5, 1) := by decide +kernel
theorem dL_323 : decode code 323 = .ok (.iadd, 1) := by decide +kernel
theorem dL_324 : decode code 324 = .ok (.iaload, 1) := by decide +kernel
theorem dL_325 : decode code 325 = .ok (.invokevirtual 44, 3) := by decide +kernel
theorem dL_328 : decode code 328 = .ok (.aload_n 2, 1) := by decide +kernel
theorem dL_329 : decode code 329 = .ok (.aload_n 0, 1) := by decide +kernel
theorem dL_330 : decode code 330 = .ok (.iload_n 3, 1) := by decide +kernel
theorem dL_331 : decode code 331 = .ok (.iconst 1, 1) := by decide +kernel
theorem dL_332 : decode code 332 = .ok (.iadd, 1) := by decide +kernel
theorem dL_333 : decode code 333 = .ok (.iaload, 1) := by decide +kernel
theorem dL_334 : decode code 334 = .ok (.aload_n 0, 1) := by decide +kernel
theorem dL_335 : decode code 335 = .ok (.iload_n 3, 1) := by decide +kernel
theorem dL_336 : decode code 336 = .ok (.iconst 2, 1) := by decide +kernel
theorem dL_337 : decode code 337 = .ok (.iadd, 1) := by decide +kernel
theorem dL_338 : decode code 338 = .ok (.iaload, 1) := by decide +kernel
theorem dL_339 : decode code 339 = .ok (.aload_n 0, 1) := by decide +kernel
theorem dL_340 : decode code 340 = .ok (.iload_n 3, 1) := by decide +kernel
theorem dL_341 : decode code 341 = .ok (.iconst 3, 1) := by decide +kernel
theorem dL_342 : decode code 342 = .ok (.iadd, 1) := by decide +kernel
theorem dL_343 : decode code 343 = .ok (.iaload, 1) := by decide +kernel
theorem dL_344 : decode code 344 = .ok (.aload_n 0, 1) := by decide +kernel
theorem dL_345 : decode code 345 = .ok (.iload_n 3, 1) := by decide +kernel
theorem dL_346 : decode code 346 = .ok (.iconst 4, 1) := by decide +kernel
theorem dL_347 : decode code 347 = .ok (.iadd, 1) := by decide +kernel
theorem dL_348 : decode code 348 = .ok (.iaload, 1) := by decide +kernel
theorem dL_349 : decode code 349 = .ok (.aload_n 0, 1) := by decide +kernel
theorem dL_350 : decode code 350 = .ok (.iload_n 3, 1) := by decide +kernel
theorem dL_351 : decode code 351 = .ok (.iconst 5, 1) := by decide +kernel
theorem dL_352 : decode code 352 = .ok (.iadd, 1) := by decide +kernel
theorem dL_353 : decode code 353 = .ok (.iaload, 1) := by decide +kernel
theorem dL_354 : decode code 354 = .ok (.invokevirtual 48, 3) := by decide +kernel
theorem dL_357 : decode code 357 = .ok (.if_icmp .eq 347, 3) := by decide +kernel
theorem dL_360 : decode code 360 = .ok (.iconst 0, 1) := by decide +kernel
theorem dL_361 : decode code 361 = .ok (.ireturn, 1) := by decide +kernel
theorem dL_362 : decode code 362 = .ok (.aload_n 1, 1) := by decide +kernel
theorem dL_363 : decode code 363 = .ok (.invokevirtual 49, 3) := by decide +kernel
theorem dL_366 : decode code 366 = .ok (.aload_n 2, 1) := by decide +kernel
theorem dL_367 : decode code 367 = .ok (.invokevirtual 53, 3) := by decide +kernel
theorem dL_370 : decode code 370 = .ok (.if_icmp .eq 334, 3) := by decide +kernel
theorem dL_373 : decode code 373 = .ok (.iconst 0, 1) := by decide +kernel
theorem dL_374 : decode code 374 = .ok (.ireturn, 1) := by decide +kernel
theorem dL_375 : decode code 375 = .ok (.aload_n 1, 1) := by decide +kernel
theorem dL_376 : decode code 376 = .ok (.aload_n 0, 1) := by decide +kernel
theorem dL_377 : decode code 377 = .ok (.iload_n 3, 1) := by decide +kernel
theorem dL_378 : decode code 378 = .ok (.iconst 1, 1) := by decide +kernel
theorem dL_379 : decode code 379 = .ok (.iadd, 1) := by decide +kernel
theorem dL_380 : decode code 380 = .ok (.iaload, 1) := by decide +kernel
theorem dL_381 : decode code 381 = .ok (.aload_n 0, 1) := by decide +kernel
theorem dL_382 : decode code 382 = .ok (.iload_n 3, 1) := by decide +kernel
theorem dL_383 : decode code 383 = .ok (.iconst 2, 1) := by decide +kernel
theorem dL_384 : decode code 384 = .ok (.iadd, 1) := by decide +kernel
theorem dL_385 : decode code 385 = .ok (.iaload, 1) := by decide +kernel
theorem dL_386 : decode code 386 = .ok (.invokevirtual 54, 3) := by decide +kernel
theorem dL_389 : decode code 389 = .ok (.aload_n 2, 1) := by decide +kernel
theorem dL_390 : decode code 390 = .ok (.aload_n 0, 1) := by decide +kernel
theorem dL_391 : decode code 391 = .ok (.iload_n 3, 1) := by decide +kernel
theorem dL_392 : decode code 392 = .ok (.iconst 1, 1) := by decide +kernel
theorem dL_393 : decode code 393 = .ok (.iadd, 1) := by decide +kernel
theorem dL_394 : decode code 394 = .ok (.iaload, 1) := by decide +kernel
theorem dL_395 : decode code 395 = .ok (.aload_n 0, 1) := by decide +kernel
theorem dL_396 : decode code 396 = .ok (.iload_n 3, 1) := by decide +kernel
theorem dL_397 : decode code 397 = .ok (.iconst 2, 1) := by decide +kernel
theorem dL_398 : decode code 398 = .ok (.iadd, 1) := by decide +kernel
