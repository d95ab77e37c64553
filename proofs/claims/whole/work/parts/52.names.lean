section NM
variable {X : va_G × List (ClassId × FieldType) × (Nat × Nat × Nat × (Nat → Int32))}
theorem dL_law_0 : decode cL_law 0 = .ok (.new 7, 3) := by decide +kernel
theorem dL_law_3 : decode cL_law 3 = .ok (.dup, 1) := by decide +kernel
theorem dL_law_4 : decode cL_law 4 = .ok (.invokespecial 9, 3) := by decide +kernel
theorem dL_law_7 : decode cL_law 7 = .ok (.astore_n 1, 1) := by decide +kernel
theorem dL_law_8 : decode cL_law 8 = .ok (.new 10, 3) := by decide +kernel
theorem dL_law_11 : decode cL_law 11 = .ok (.dup, 1) := by decide +kernel
theorem dL_law_12 : decode cL_law 12 = .ok (.invokespecial 12, 3) := by decide +kernel
theorem dL_law_15 : decode cL_law 15 = .ok (.astore_n 2, 1) := by decide +kernel
theorem dL_law_16 : decode cL_law 16 = .ok (.iconst 0, 1) := by decide +kernel
theorem dL_law_17 : decode cL_law 17 = .ok (.istore_n 3, 1) := by decide +kernel
theorem dL_law_18 : decode cL_law 18 = .ok (.iload_n 3, 1) := by decide +kernel
theorem dL_law_19 : decode cL_law 19 = .ok (.aload_n 0, 1) := by decide +kernel
theorem dL_law_20 : decode cL_law 20 = .ok (.arraylength, 1) := by decide +kernel
theorem dL_law_21 : decode cL_law 21 = .ok (.bipush 7, 2) := by decide +kernel
theorem dL_law_23 : decode cL_law 23 = .ok (.isub, 1) := by decide +kernel
theorem dL_law_24 : decode cL_law 24 = .ok (.if_icmp .gt 1059, 3) := by decide +kernel
theorem dL_law_27 : decode cL_law 27 = .ok (.aload_n 0, 1) := by decide +kernel
theorem dL_law_28 : decode cL_law 28 = .ok (.iload_n 3, 1) := by decide +kernel
theorem dL_law_29 : decode cL_law 29 = .ok (.iaload, 1) := by decide +kernel
theorem dL_law_30 : decode cL_law 30 = .ok (.bipush 31, 2) := by decide +kernel
theorem dL_law_32 : decode cL_law 32 = .ok (.iand, 1) := by decide +kernel
theorem dL_law_33 : decode cL_law 33 = .ok (.tableswitch 1044 0 21 #[103, 152, 205, 218, 261, 320, 363, 478, 521, 612, 655, 698, 711, 724, 737, 760, 803, 837, 881, 924, 957, 990], 103) := by decide +kernel
theorem dL_law_136 : decode cL_law 136 = .ok (.aload_n 1, 1) := by decide +kernel
theorem dL_law_137 : decode cL_law 137 = .ok (.aload_n 0, 1) := by decide +kernel
theorem dL_law_138 : decode cL_law 138 = .ok (.iload_n 3, 1) := by decide +kernel
theorem dL_law_139 : decode cL_law 139 = .ok (.iconst 1, 1) := by decide +kernel
theorem dL_law_140 : decode cL_law 140 = .ok (.iadd, 1) := by decide +kernel
theorem dL_law_141 : decode cL_law 141 = .ok (.iaload, 1) := by decide +kernel
theorem dL_law_142 : decode cL_law 142 = .ok (.aload_n 0, 1) := by decide +kernel
theorem dL_law_143 : decode cL_law 143 = .ok (.iload_n 3, 1) := by decide +kernel
theorem dL_law_144 : decode cL_law 144 = .ok (.iconst 2, 1) := by decide +kernel
theorem dL_law_145 : decode cL_law 145 = .ok (.iadd, 1) := by decide +kernel
theorem dL_law_146 : decode cL_law 146 = .ok (.iaload, 1) := by decide +kernel
theorem dL_law_147 : decode cL_law 147 = .ok (.ifCond .eq 7, 3) := by decide +kernel
theorem dL_law_150 : decode cL_law 150 = .ok (.iconst 1, 1) := by decide +kernel
theorem dL_law_151 : decode cL_law 151 = .ok (.goto 4, 3) := by decide +kernel
theorem dL_law_154 : decode cL_law 154 = .ok (.iconst 0, 1) := by decide +kernel
theorem dL_law_155 : decode cL_law 155 = .ok (.invokevirtual 13, 3) := by decide +kernel
theorem dL_law_158 : decode cL_law 158 = .ok (.aload_n 2, 1) := by decide +kernel
theorem dL_law_159 : decode cL_law 159 = .ok (.aload_n 0, 1) := by decide +kernel
theorem dL_law_160 : decode cL_law 160 = .ok (.iload_n 3, 1) := by decide +kernel
theorem dL_law_161 : decode cL_law 161 = .ok (.iconst 1, 1) := by decide +kernel
theorem dL_law_162 : decode cL_law 162 = .ok (.iadd, 1) := by decide +kernel
theorem dL_law_163 : decode cL_law 163 = .ok (.iaload, 1) := by decide +kernel
theorem dL_law_164 : decode cL_law 164 = .ok (.aload_n 0, 1) := by decide +kernel
theorem dL_law_165 : decode cL_law 165 = .ok (.iload_n 3, 1) := by decide +kernel
theorem dL_law_166 : decode cL_law 166 = .ok (.iconst 2, 1) := by decide +kernel
theorem dL_law_167 : decode cL_law 167 = .ok (.iadd, 1) := by decide +kernel
theorem dL_law_168 : decode cL_law 168 = .ok (.iaload, 1) := by decide +kernel
theorem dL_law_169 : decode cL_law 169 = .ok (.ifCond .eq 7, 3) := by decide +kernel
theorem dL_law_172 : decode cL_law 172 = .ok (.iconst 1, 1) := by decide +kernel
theorem dL_law_173 : decode cL_law 173 = .ok (.goto 4, 3) := by decide +kernel
theorem dL_law_176 : decode cL_law 176 = .ok (.iconst 0, 1) := by decide +kernel
theorem dL_law_177 : decode cL_law 177 = .ok (.invokevirtual 17, 3) := by decide +kernel
theorem dL_law_180 : decode cL_law 180 = .ok (.if_icmp .eq 897, 3) := by decide +kernel
theorem dL_law_183 : decode cL_law 183 = .ok (.iconst 0, 1) := by decide +kernel
theorem dL_law_184 : decode cL_law 184 = .ok (.ireturn, 1) := by decide +kernel
theorem dL_law_185 : decode cL_law 185 = .ok (.aload_n 1, 1) := by decide +kernel
theorem dL_law_186 : decode cL_law 186 = .ok (.aload_n 0, 1) := by decide +kernel
theorem dL_law_187 : decode cL_law 187 = .ok (.iload_n 3, 1) := by decide +kernel
theorem dL_law_188 : decode cL_law 188 = .ok (.iconst 1, 1) := by decide +kernel
theorem dL_law_189 : decode cL_law 189 = .ok (.iadd, 1) := by decide +kernel
theorem dL_law_190 : decode cL_law 190 = .ok (.iaload, 1) := by decide +kernel
theorem dL_law_191 : decode cL_law 191 = .ok (.aload_n 0, 1) := by decide +kernel
theorem dL_law_192 : decode cL_law 192 = .ok (.iload_n 3, 1) := by decide +kernel
theorem dL_law_193 : decode cL_law 193 = .ok (.iconst 2, 1) := by decide +kernel
theorem dL_law_194 : decode cL_law 194 = .ok (.iadd, 1) := by decide +kernel
theorem dL_law_195 : decode cL_law 195 = .ok (.iaload, 1) := by decide +kernel
theorem dL_law_196 : decode cL_law 196 = .ok (.aload_n 0, 1) := by decide +kernel
theorem dL_law_197 : decode cL_law 197 = .ok (.iload_n 3, 1) := by decide +kernel
theorem dL_law_198 : decode cL_law 198 = .ok (.iconst 3, 1) := by decide +kernel
theorem dL_law_199 : decode cL_law 199 = .ok (.iadd, 1) := by decide +kernel
theorem dL_law_200 : decode cL_law 200 = .ok (.iaload, 1) := by decide +kernel
theorem dL_law_201 : decode cL_law 201 = .ok (.aload_n 0, 1) := by decide +kernel
theorem dL_law_202 : decode cL_law 202 = .ok (.iload_n 3, 1) := by decide +kernel
theorem dL_law_203 : decode cL_law 203 = .ok (.iconst 4, 1) := by decide +kernel
theorem dL_law_204 : decode cL_law 204 = .ok (.iadd, 1) := by decide +kernel
theorem dL_law_205 : decode cL_law 205 = .ok (.iaload, 1) := by decide +kernel
theorem dL_law_206 : decode cL_law 206 = .ok (.invokevirtual 18, 3) := by decide +kernel
theorem dL_law_209 : decode cL_law 209 = .ok (.aload_n 2, 1) := by decide +kernel
theorem dL_law_210 : decode cL_law 210 = .ok (.aload_n 0, 1) := by decide +kernel
theorem dL_law_211 : decode cL_law 211 = .ok (.iload_n 3, 1) := by decide +kernel
theorem dL_law_212 : decode cL_law 212 = .ok (.iconst 1, 1) := by decide +kernel
theorem dL_law_213 : decode cL_law 213 = .ok (.iadd, 1) := by decide +kernel
theorem dL_law_214 : decode cL_law 214 = .ok (.iaload, 1) := by decide +kernel
theorem dL_law_215 : decode cL_law 215 = .ok (.aload_n 0, 1) := by decide +kernel
theorem dL_law_216 : decode cL_law 216 = .ok (.iload_n 3, 1) := by decide +kernel
theorem dL_law_217 : decode cL_law 217 = .ok (.iconst 2, 1) := by decide +kernel
theorem dL_law_218 : decode cL_law 218 = .ok (.iadd, 1) := by decide +kernel
theorem dL_law_219 : decode cL_law 219 = .ok (.iaload, 1) := by decide +kernel
theorem dL_law_220 : decode cL_law 220 = .ok (.aload_n 0, 1) := by decide +kernel
theorem dL_law_221 : decode cL_law 221 = .ok (.iload_n 3, 1) := by decide +kernel
theorem dL_law_222 : decode cL_law 222 = .ok (.iconst 3, 1) := by decide +kernel
theorem dL_law_223 : decode cL_law 223 = .ok (.iadd, 1) := by decide +kernel
theorem dL_law_224 : decode cL_law 224 = .ok (.iaload, 1) := by decide +kernel
theorem dL_law_225 : decode cL_law 225 = .ok (.aload_n 0, 1) := by decide +kernel
theorem dL_law_226 : decode cL_law 226 = .ok (.iload_n 3, 1) := by decide +kernel
theorem dL_law_227 : decode cL_law 227 = .ok (.iconst 4, 1) := by decide +kernel
theorem dL_law_228 : decode cL_law 228 = .ok (.iadd, 1) := by decide +kernel
theorem dL_law_229 : decode cL_law 229 = .ok (.iaload, 1) := by decide +kernel
theorem dL_law_230 : decode cL_law 230 = .ok (.invokevirtual 22, 3) := by decide +kernel
theorem dL_law_233 : decode cL_law 233 = .ok (.if_icmp .eq 844, 3) := by decide +kernel
theorem dL_law_236 : decode cL_law 236 = .ok (.iconst 0, 1) := by decide +kernel
theorem dL_law_237 : decode cL_law 237 = .ok (.ireturn, 1) := by decide +kernel
theorem dL_law_238 : decode cL_law 238 = .ok (.aload_n 1, 1) := by decide +kernel
theorem dL_law_239 : decode cL_law 239 = .ok (.invokevirtual 23, 3) := by decide +kernel
theorem dL_law_242 : decode cL_law 242 = .ok (.aload_n 2, 1) := by decide +kernel
theorem dL_law_243 : decode cL_law 243 = .ok (.invokevirtual 27, 3) := by decide +kernel
theorem dL_law_246 : decode cL_law 246 = .ok (.if_icmp .eq 831, 3) := by decide +kernel
theorem dL_law_249 : decode cL_law 249 = .ok (.iconst 0, 1) := by decide +kernel
theorem dL_law_250 : decode cL_law 250 = .ok (.ireturn, 1) := by decide +kernel
theorem dL_law_251 : decode cL_law 251 = .ok (.aload_n 1, 1) := by decide +kernel
theorem dL_law_252 : decode cL_law 252 = .ok (.aload_n 0, 1) := by decide +kernel
theorem dL_law_253 : decode cL_law 253 = .ok (.iload_n 3, 1) := by decide +kernel
theorem dL_law_254 : decode cL_law 254 = .ok (.iconst 1, 1) := by decide +kernel
theorem dL_law_255 : decode cL_law 255 = .ok (.iadd, 1) := by decide +kernel
theorem dL_law_256 : decode cL_law 256 = .ok (.iaload, 1) := by decide +kernel
theorem dL_law_257 : decode cL_law 257 = .ok (.aload_n 0, 1) := by decide +kernel
theorem dL_law_258 : decode cL_law 258 = .ok (.iload_n 3, 1) := by decide +kernel
theorem dL_law_259 : decode cL_law 259 = .ok (.iconst 2, 1) := by decide +kernel
theorem dL_law_260 : decode cL_law 260 = .ok (.iadd, 1) := by decide +kernel
theorem dL_law_261 : decode cL_law 261 = .ok (.iaload, 1) := by decide +kernel
theorem dL_law_262 : decode cL_law 262 = .ok (.aload_n 0, 1) := by decide +kernel
theorem dL_law_263 : decode cL_law 263 = .ok (.iload_n 3, 1) := by decide +kernel
theorem dL_law_264 : decode cL_law 264 = .ok (.iconst 3, 1) := by decide +kernel
theorem dL_law_265 : decode cL_law 265 = .ok (.iadd, 1) := by decide +kernel
theorem dL_law_266 : decode cL_law 266 = .ok (.iaload, 1) := by decide +kernel
theorem dL_law_267 : decode cL_law 267 = .ok (.invokevirtual 28, 3) := by decide +kernel
theorem dL_law_270 : decode cL_law 270 = .ok (.aload_n 2, 1) := by decide +kernel
theorem dL_law_271 : decode cL_law 271 = .ok (.aload_n 0, 1) := by decide +kernel
theorem dL_law_272 : decode cL_law 272 = .ok (.iload_n 3, 1) := by decide +kernel
theorem dL_law_273 : decode cL_law 273 = .ok (.iconst 1, 1) := by decide +kernel
theorem dL_law_274 : decode cL_law 274 = .ok (.iadd, 1) := by decide +kernel
theorem dL_law_275 : decode cL_law 275 = .ok (.iaload, 1) := by decide +kernel
theorem dL_law_276 : decode cL_law 276 = .ok (.aload_n 0, 1) := by decide +kernel
theorem dL_law_277 : decode cL_law 277 = .ok (.iload_n 3, 1) := by decide +kernel
theorem dL_law_278 : decode cL_law 278 = .ok (.iconst 2, 1) := by decide +kernel
theorem dL_law_279 : decode cL_law 279 = .ok (.iadd, 1) := by decide +kernel
theorem dL_law_280 : decode cL_law 280 = .ok (.iaload, 1) := by decide +kernel
theorem dL_law_281 : decode cL_law 281 = .ok (.aload_n 0, 1) := by decide +kernel
theorem dL_law_282 : decode cL_law 282 = .ok (.iload_n 3, 1) := by decide +kernel
theorem dL_law_283 : decode cL_law 283 = .ok (.iconst 3, 1) := by decide +kernel
theorem dL_law_284 : decode cL_law 284 = .ok (.iadd, 1) := by decide +kernel
theorem dL_law_285 : decode cL_law 285 = .ok (.iaload, 1) := by decide +kernel
theorem dL_law_286 : decode cL_law 286 = .ok (.invokevirtual 32, 3) := by decide +kernel
theorem dL_law_289 : decode cL_law 289 = .ok (.if_icmp .eq 788, 3) := by decide +kernel
theorem dL_law_292 : decode cL_law 292 = .ok (.iconst 0, 1) := by decide +kernel
theorem dL_law_293 : decode cL_law 293 = .ok (.ireturn, 1) := by decide +kernel
theorem dL_law_294 : decode cL_law 294 = .ok (.aload_n 1, 1) := by decide +kernel
theorem dL_law_295 : decode cL_law 295 = .ok (.aload_n 0, 1) := by decide +kernel
theorem dL_law_296 : decode cL_law 296 = .ok (.iload_n 3, 1) := by decide +kernel
theorem dL_law_297 : decode cL_law 297 = .ok (.iconst 1, 1) := by decide +kernel
theorem dL_law_298 : decode cL_law 298 = .ok (.iadd, 1) := by decide +kernel
theorem dL_law_299 : decode cL_law 299 = .ok (.iaload, 1) := by decide +kernel
theorem dL_law_300 : decode cL_law 300 = .ok (.aload_n 0, 1) := by decide +kernel
theorem dL_law_301 : decode cL_law 301 = .ok (.iload_n 3, 1) := by decide +kernel
theorem dL_law_302 : decode cL_law 302 = .ok (.iconst 2, 1) := by decide +kernel
theorem dL_law_303 : decode cL_law 303 = .ok (.iadd, 1) := by decide +kernel
theorem dL_law_304 : decode cL_law 304 = .ok (.iaload, 1) := by decide +kernel
theorem dL_law_305 : decode cL_law 305 = .ok (.aload_n 0, 1) := by decide +kernel
theorem dL_law_306 : decode cL_law 306 = .ok (.iload_n 3, 1) := by decide +kernel
theorem dL_law_307 : decode cL_law 307 = .ok (.iconst 3, 1) := by decide +kernel
theorem dL_law_308 : decode cL_law 308 = .ok (.iadd, 1) := by decide +kernel
theorem dL_law_309 : decode cL_law 309 = .ok (.iaload, 1) := by decide +kernel
theorem dL_law_310 : decode cL_law 310 = .ok (.ifCond .eq 7, 3) := by decide +kernel
theorem dL_law_313 : decode cL_law 313 = .ok (.iconst 1, 1) := by decide +kernel
theorem dL_law_314 : decode cL_law 314 = .ok (.goto 4, 3) := by decide +kernel
theorem dL_law_317 : decode cL_law 317 = .ok (.iconst 0, 1) := by decide +kernel
theorem dL_law_318 : decode cL_law 318 = .ok (.invokevirtual 33, 3) := by decide +kernel
theorem dL_law_321 : decode cL_law 321 = .ok (.aload_n 2, 1) := by decide +kernel
theorem dL_law_322 : decode cL_law 322 = .ok (.aload_n 0, 1) := by decide +kernel
theorem dL_law_323 : decode cL_law 323 = .ok (.iload_n 3, 1) := by decide +kernel
theorem dL_law_324 : decode cL_law 324 = .ok (.iconst 1, 1) := by decide +kernel
theorem dL_law_325 : decode cL_law 325 = .ok (.iadd, 1) := by decide +kernel
theorem dL_law_326 : decode cL_law 326 = .ok (.iaload, 1) := by decide +kernel
theorem dL_law_327 : decode cL_law 327 = .ok (.aload_n 0, 1) := by decide +kernel
theorem dL_law_328 : decode cL_law 328 = .ok (.iload_n 3, 1) := by decide +kernel
theorem dL_law_329 : decode cL_law 329 = .ok (.iconst 2, 1) := by decide +kernel
theorem dL_law_330 : decode cL_law 330 = .ok (.iadd, 1) := by decide +kernel
theorem dL_law_331 : decode cL_law 331 = .ok (.iaload, 1) := by decide +kernel
theorem dL_law_332 : decode cL_law 332 = .ok (.aload_n 0, 1) := by decide +kernel
theorem dL_law_333 : decode cL_law 333 = .ok (.iload_n 3, 1) := by decide +kernel
theorem dL_law_334 : decode cL_law 334 = .ok (.iconst 3, 1) := by decide +kernel
theorem dL_law_335 : decode cL_law 335 = .ok (.iadd, 1) := by decide +kernel
theorem dL_law_336 : decode cL_law 336 = .ok (.iaload, 1) := by decide +kernel
theorem dL_law_337 : decode cL_law 337 = .ok (.ifCond .eq 7, 3) := by decide +kernel
theorem dL_law_340 : decode cL_law 340 = .ok (.iconst 1, 1) := by decide +kernel
theorem dL_law_341 : decode cL_law 341 = .ok (.goto 4, 3) := by decide +kernel
theorem dL_law_344 : decode cL_law 344 = .ok (.iconst 0, 1) := by decide +kernel
theorem dL_law_345 : decode cL_law 345 = .ok (.invokevirtual 37, 3) := by decide +kernel
theorem dL_law_348 : decode cL_law 348 = .ok (.if_icmp .eq 729, 3) := by decide +kernel
theorem dL_law_351 : decode cL_law 351 = .ok (.iconst 0, 1) := by decide +kernel
theorem dL_law_352 : decode cL_law 352 = .ok (.ireturn, 1) := by decide +kernel
theorem dL_law_353 : decode cL_law 353 = .ok (.aload_n 1, 1) := by decide +kernel
theorem dL_law_354 : decode cL_law 354 = .ok (.aload_n 0, 1) := by decide +kernel
theorem dL_law_355 : decode cL_law 355 = .ok (.iload_n 3, 1) := by decide +kernel
theorem dL_law_356 : decode cL_law 356 = .ok (.iconst 1, 1) := by decide +kernel
theorem dL_law_357 : decode cL_law 357 = .ok (.iadd, 1) := by decide +kernel
theorem dL_law_358 : decode cL_law 358 = .ok (.iaload, 1) := by decide +kernel
theorem dL_law_359 : decode cL_law 359 = .ok (.aload_n 0, 1) := by decide +kernel
theorem dL_law_360 : decode cL_law 360 = .ok (.iload_n 3, 1) := by decide +kernel
theorem dL_law_361 : decode cL_law 361 = .ok (.iconst 2, 1) := by decide +kernel
theorem dL_law_362 : decode cL_law 362 = .ok (.iadd, 1) := by decide +kernel
theorem dL_law_363 : decode cL_law 363 = .ok (.iaload, 1) := by decide +kernel
theorem dL_law_364 : decode cL_law 364 = .ok (.aload_n 0, 1) := by decide +kernel
theorem dL_law_365 : decode cL_law 365 = .ok (.iload_n 3, 1) := by decide +kernel
theorem dL_law_366 : decode cL_law 366 = .ok (.iconst 3, 1) := by decide +kernel
theorem dL_law_367 : decode cL_law 367 = .ok (.iadd, 1) := by decide +kernel
theorem dL_law_368 : decode cL_law 368 = .ok (.iaload, 1) := by decide +kernel
theorem dL_law_369 : decode cL_law 369 = .ok (.invokevirtual 38, 3) := by decide +kernel
theorem dL_law_372 : decode cL_law 372 = .ok (.aload_n 2, 1) := by decide +kernel
theorem dL_law_373 : decode cL_law 373 = .ok (.aload_n 0, 1) := by decide +kernel
theorem dL_law_374 : decode cL_law 374 = .ok (.iload_n 3, 1) := by decide +kernel
theorem dL_law_375 : decode cL_law 375 = .ok (.iconst 1, 1) := by decide +kernel
theorem dL_law_376 : decode cL_law 376 = .ok (.iadd, 1) := by decide +kernel
theorem dL_law_377 : decode cL_law 377 = .ok (.iaload, 1) := by decide +kernel
theorem dL_law_378 : decode cL_law 378 = .ok (.aload_n 0, 1) := by decide +kernel
theorem dL_law_379 : decode cL_law 379 = .ok (.iload_n 3, 1) := by decide +kernel
theorem dL_law_380 : decode cL_law 380 = .ok (.iconst 2, 1) := by decide +kernel
theorem dL_law_381 : decode cL_law 381 = .ok (.iadd, 1) := by decide +kernel
theorem dL_law_382 : decode cL_law 382 = .ok (.iaload, 1) := by decide +kernel
theorem dL_law_383 : decode cL_law 383 = .ok (.aload_n 0, 1) := by decide +kernel
theorem dL_law_384 : decode cL_law 384 = .ok (.iload_n 3, 1) := by decide +kernel
theorem dL_law_385 : decode cL_law 385 = .ok (.iconst 3, 1) := by decide +kernel
theorem dL_law_386 : decode cL_law 386 = .ok (.iadd, 1) := by decide +kernel
theorem dL_law_387 : decode cL_law 387 = .ok (.iaload, 1) := by decide +kernel
theorem dL_law_388 : decode cL_law 388 = .ok (.invokevirtual 41, 3) := by decide +kernel
theorem dL_law_391 : decode cL_law 391 = .ok (.if_icmp .eq 686, 3) := by decide +kernel
theorem dL_law_394 : decode cL_law 394 = .ok (.iconst 0, 1) := by decide +kernel
theorem dL_law_395 : decode cL_law 395 = .ok (.ireturn, 1) := by decide +kernel
theorem dL_law_396 : decode cL_law 396 = .ok (.aload_n 1, 1) := by decide +kernel
theorem dL_law_397 : decode cL_law 397 = .ok (.aload_n 0, 1) := by decide +kernel
theorem dL_law_398 : decode cL_law 398 = .ok (.iload_n 3, 1) := by decide +kernel
theorem dL_law_399 : decode cL_law 399 = .ok (.iconst 1, 1) := by decide +kernel
theorem dL_law_400 : decode cL_law 400 = .ok (.iadd, 1) := by decide +kernel
theorem dL_law_401 : decode cL_law 401 = .ok (.iaload, 1) := by decide +kernel
theorem dL_law_402 : decode cL_law 402 = .ok (.aload_n 0, 1) := by decide +kernel
theorem dL_law_403 : decode cL_law 403 = .ok (.iload_n 3, 1) := by decide +kernel
theorem dL_law_404 : decode cL_law 404 = .ok (.iconst 2, 1) := by decide +kernel
theorem dL_law_405 : decode cL_law 405 = .ok (.iadd, 1) := by decide +kernel
theorem dL_law_406 : decode cL_law 406 = .ok (.iaload, 1) := by decide +kernel
theorem dL_law_407 : decode cL_law 407 = .ok (.i2l, 1) := by decide +kernel
theorem dL_law_408 : decode cL_law 408 = .ok (.bipush 32, 2) := by decide +kernel
theorem dL_law_410 : decode cL_law 410 = .ok (.lshl, 1) := by decide +kernel
theorem dL_law_411 : decode cL_law 411 = .ok (.aload_n 0, 1) := by decide +kernel
theorem dL_law_412 : decode cL_law 412 = .ok (.iload_n 3, 1) := by decide +kernel
theorem dL_law_413 : decode cL_law 413 = .ok (.iconst 3, 1) := by decide +kernel
theorem dL_law_414 : decode cL_law 414 = .ok (.iadd, 1) := by decide +kernel
theorem dL_law_415 : decode cL_law 415 = .ok (.iaload, 1) := by decide +kernel
theorem dL_law_416 : decode cL_law 416 = .ok (.i2l, 1) := by decide +kernel
theorem dL_law_417 : decode cL_law 417 = .ok (.ldc2_w 42, 3) := by decide +kernel
theorem dL_law_420 : decode cL_law 420 = .ok (.land, 1) := by decide +kernel
theorem dL_law_421 : decode cL_law 421 = .ok (.lor, 1) := by decide +kernel
theorem dL_law_422 : decode cL_law 422 = .ok (.aload_n 0, 1) := by decide +kernel
theorem dL_law_423 : decode cL_law 423 = .ok (.iload_n 3, 1) := by decide +kernel
theorem dL_law_424 : decode cL_law 424 = .ok (.iconst 4, 1) := by decide +kernel
theorem dL_law_425 : decode cL_law 425 = .ok (.iadd, 1) := by decide +kernel
theorem dL_law_426 : decode cL_law 426 = .ok (.iaload, 1) := by decide +kernel
theorem dL_law_427 : decode cL_law 427 = .ok (.aload_n 0, 1) := by decide +kernel
theorem dL_law_428 : decode cL_law 428 = .ok (.iload_n 3, 1) := by decide +kernel
theorem dL_law_429 : decode cL_law 429 = .ok (.iconst 5, 1) := by decide +kernel
theorem dL_law_430 : decode cL_law 430 = .ok (.iadd, 1) := by decide +kernel
theorem dL_law_431 : decode cL_law 431 = .ok (.iaload, 1) := by decide +kernel
theorem dL_law_432 : decode cL_law 432 = .ok (.i2l, 1) := by decide +kernel
theorem dL_law_433 : decode cL_law 433 = .ok (.bipush 32, 2) := by decide +kernel
theorem dL_law_435 : decode cL_law 435 = .ok (.lshl, 1) := by decide +kernel
theorem dL_law_436 : decode cL_law 436 = .ok (.aload_n 0, 1) := by decide +kernel
theorem dL_law_437 : decode cL_law 437 = .ok (.iload_n 3, 1) := by decide +kernel
theorem dL_law_438 : decode cL_law 438 = .ok (.bipush 6, 2) := by decide +kernel
theorem dL_law_440 : decode cL_law 440 = .ok (.iadd, 1) := by decide +kernel
theorem dL_law_441 : decode cL_law 441 = .ok (.iaload, 1) := by decide +kernel
theorem dL_law_442 : decode cL_law 442 = .ok (.i2l, 1) := by decide +kernel
theorem dL_law_443 : decode cL_law 443 = .ok (.ldc2_w 42, 3) := by decide +kernel
theorem dL_law_446 : decode cL_law 446 = .ok (.land, 1) := by decide +kernel
theorem dL_law_447 : decode cL_law 447 = .ok (.lor, 1) := by decide +kernel
theorem dL_law_448 : decode cL_law 448 = .ok (.invokevirtual 44, 3) := by decide +kernel
theorem dL_law_451 : decode cL_law 451 = .ok (.aload_n 2, 1) := by decide +kernel
theorem dL_law_452 : decode cL_law 452 = .ok (.aload_n 0, 1) := by decide +kernel
theorem dL_law_453 : decode cL_law 453 = .ok (.iload_n 3, 1) := by decide +kernel
theorem dL_law_454 : decode cL_law 454 = .ok (.iconst 1, 1) := by decide +kernel
theorem dL_law_455 : decode cL_law 455 = .ok (.iadd, 1) := by decide +kernel
theorem dL_law_456 : decode cL_law 456 = .ok (.iaload, 1) := by decide +kernel
theorem dL_law_457 : decode cL_law 457 = .ok (.aload_n 0, 1) := by decide +kernel
theorem dL_law_458 : decode cL_law 458 = .ok (.iload_n 3, 1) := by decide +kernel
theorem dL_law_459 : decode cL_law 459 = .ok (.iconst 2, 1) := by decide +kernel
theorem dL_law_460 : decode cL_law 460 = .ok (.iadd, 1) := by decide +kernel
theorem dL_law_461 : decode cL_law 461 = .ok (.iaload, 1) := by decide +kernel
theorem dL_law_462 : decode cL_law 462 = .ok (.i2l, 1) := by decide +kernel
theorem dL_law_463 : decode cL_law 463 = .ok (.bipush 32, 2) := by decide +kernel
theorem dL_law_465 : decode cL_law 465 = .ok (.lshl, 1) := by decide +kernel
theorem dL_law_466 : decode cL_law 466 = .ok (.aload_n 0, 1) := by decide +kernel
theorem dL_law_467 : decode cL_law 467 = .ok (.iload_n 3, 1) := by decide +kernel
theorem dL_law_468 : decode cL_law 468 = .ok (.iconst 3, 1) := by decide +kernel
theorem dL_law_469 : decode cL_law 469 = .ok (.iadd, 1) := by decide +kernel
theorem dL_law_470 : decode cL_law 470 = .ok (.iaload, 1) := by decide +kernel
theorem dL_law_471 : decode cL_law 471 = .ok (.i2l, 1) := by decide +kernel
theorem dL_law_472 : decode cL_law 472 = .ok (.ldc2_w 42, 3) := by decide +kernel
theorem dL_law_475 : decode cL_law 475 = .ok (.land, 1) := by decide +kernel
theorem dL_law_476 : decode cL_law 476 = .ok (.lor, 1) := by decide +kernel
theorem dL_law_477 : decode cL_law 477 = .ok (.aload_n 0, 1) := by decide +kernel
theorem dL_law_478 : decode cL_law 478 = .ok (.iload_n 3, 1) := by decide +kernel
theorem dL_law_479 : decode cL_law 479 = .ok (.iconst 4, 1) := by decide +kernel
theorem dL_law_480 : decode cL_law 480 = .ok (.iadd, 1) := by decide +kernel
theorem dL_law_481 : decode cL_law 481 = .ok (.iaload, 1) := by decide +kernel
theorem dL_law_482 : decode cL_law 482 = .ok (.aload_n 0, 1) := by decide +kernel
theorem dL_law_483 : decode cL_law 483 = .ok (.iload_n 3, 1) := by decide +kernel
theorem dL_law_484 : decode cL_law 484 = .ok (.iconst 5, 1) := by decide +kernel
theorem dL_law_485 : decode cL_law 485 = .ok (.iadd, 1) := by decide +kernel
theorem dL_law_486 : decode cL_law 486 = .ok (.iaload, 1) := by decide +kernel
theorem dL_law_487 : decode cL_law 487 = .ok (.i2l, 1) := by decide +kernel
theorem dL_law_488 : decode cL_law 488 = .ok (.bipush 32, 2) := by decide +kernel
theorem dL_law_490 : decode cL_law 490 = .ok (.lshl, 1) := by decide +kernel
theorem dL_law_491 : decode cL_law 491 = .ok (.aload_n 0, 1) := by decide +kernel
theorem dL_law_492 : decode cL_law 492 = .ok (.iload_n 3, 1) := by decide +kernel
theorem dL_law_493 : decode cL_law 493 = .ok (.bipush 6, 2) := by decide +kernel
theorem dL_law_495 : decode cL_law 495 = .ok (.iadd, 1) := by decide +kernel
theorem dL_law_496 : decode cL_law 496 = .ok (.iaload, 1) := by decide +kernel
theorem dL_law_497 : decode cL_law 497 = .ok (.i2l, 1) := by decide +kernel
theorem dL_law_498 : decode cL_law 498 = .ok (.ldc2_w 42, 3) := by decide +kernel
theorem dL_law_501 : decode cL_law 501 = .ok (.land, 1) := by decide +kernel
theorem dL_law_502 : decode cL_law 502 = .ok (.lor, 1) := by decide +kernel
theorem dL_law_503 : decode cL_law 503 = .ok (.invokevirtual 48, 3) := by decide +kernel
theorem dL_law_506 : decode cL_law 506 = .ok (.if_icmp .eq 571, 3) := by decide +kernel
theorem dL_law_509 : decode cL_law 509 = .ok (.iconst 0, 1) := by decide +kernel
theorem dL_law_510 : decode cL_law 510 = .ok (.ireturn, 1) := by decide +kernel
theorem dL_law_511 : decode cL_law 511 = .ok (.aload_n 1, 1) := by decide +kernel
theorem dL_law_512 : decode cL_law 512 = .ok (.aload_n 0, 1) := by decide +kernel
theorem dL_law_513 : decode cL_law 513 = .ok (.iload_n 3, 1) := by decide +kernel
theorem dL_law_514 : decode cL_law 514 = .ok (.iconst 1, 1) := by decide +kernel
theorem dL_law_515 : decode cL_law 515 = .ok (.iadd, 1) := by decide +kernel
theorem dL_law_516 : decode cL_law 516 = .ok (.iaload, 1) := by decide +kernel
theorem dL_law_517 : decode cL_law 517 = .ok (.aload_n 0, 1) := by decide +kernel
theorem dL_law_518 : decode cL_law 518 = .ok (.iload_n 3, 1) := by decide +kernel
theorem dL_law_519 : decode cL_law 519 = .ok (.iconst 2, 1) := by decide +kernel
theorem dL_law_520 : decode cL_law 520 = .ok (.iadd, 1) := by decide +kernel
theorem dL_law_521 : decode cL_law 521 = .ok (.iaload, 1) := by decide +kernel
theorem dL_law_522 : decode cL_law 522 = .ok (.aload_n 0, 1) := by decide +kernel
theorem dL_law_523 : decode cL_law 523 = .ok (.iload_n 3, 1) := by decide +kernel
theorem dL_law_524 : decode cL_law 524 = .ok (.iconst 3, 1) := by decide +kernel
theorem dL_law_525 : decode cL_law 525 = .ok (.iadd, 1) := by decide +kernel
theorem dL_law_526 : decode cL_law 526 = .ok (.iaload, 1) := by decide +kernel
theorem dL_law_527 : decode cL_law 527 = .ok (.invokevirtual 49, 3) := by decide +kernel
theorem dL_law_530 : decode cL_law 530 = .ok (.aload_n 2, 1) := by decide +kernel
theorem dL_law_531 : decode cL_law 531 = .ok (.aload_n 0, 1) := by decide +kernel
theorem dL_law_532 : decode cL_law 532 = .ok (.iload_n 3, 1) := by decide +kernel
theorem dL_law_533 : decode cL_law 533 = .ok (.iconst 1, 1) := by decide +kernel
theorem dL_law_534 : decode cL_law 534 = .ok (.iadd, 1) := by decide +kernel
theorem dL_law_535 : decode cL_law 535 = .ok (.iaload, 1) := by decide +kernel
theorem dL_law_536 : decode cL_law 536 = .ok (.aload_n 0, 1) := by decide +kernel
theorem dL_law_537 : decode cL_law 537 = .ok (.iload_n 3, 1) := by decide +kernel
theorem dL_law_538 : decode cL_law 538 = .ok (.iconst 2, 1) := by decide +kernel
theorem dL_law_539 : decode cL_law 539 = .ok (.iadd, 1) := by decide +kernel
theorem dL_law_540 : decode cL_law 540 = .ok (.iaload, 1) := by decide +kernel
theorem dL_law_541 : decode cL_law 541 = .ok (.aload_n 0, 1) := by decide +kernel
theorem dL_law_542 : decode cL_law 542 = .ok (.iload_n 3, 1) := by decide +kernel
theorem dL_law_543 : decode cL_law 543 = .ok (.iconst 3, 1) := by decide +kernel
theorem dL_law_544 : decode cL_law 544 = .ok (.iadd, 1) := by decide +kernel
theorem dL_law_545 : decode cL_law 545 = .ok (.iaload, 1) := by decide +kernel
theorem dL_law_546 : decode cL_law 546 = .ok (.invokevirtual 52, 3) := by decide +kernel
theorem dL_law_549 : decode cL_law 549 = .ok (.if_icmp .eq 528, 3) := by decide +kernel
theorem dL_law_552 : decode cL_law 552 = .ok (.iconst 0, 1) := by decide +kernel
theorem dL_law_553 : decode cL_law 553 = .ok (.ireturn, 1) := by decide +kernel
theorem dL_law_554 : decode cL_law 554 = .ok (.aload_n 1, 1) := by decide +kernel
theorem dL_law_555 : decode cL_law 555 = .ok (.aload_n 0, 1) := by decide +kernel
theorem dL_law_556 : decode cL_law 556 = .ok (.iload_n 3, 1) := by decide +kernel
theorem dL_law_557 : decode cL_law 557 = .ok (.iconst 1, 1) := by decide +kernel
theorem dL_law_558 : decode cL_law 558 = .ok (.iadd, 1) := by decide +kernel
theorem dL_law_559 : decode cL_law 559 = .ok (.iaload, 1) := by decide +kernel
theorem dL_law_560 : decode cL_law 560 = .ok (.aload_n 0, 1) := by decide +kernel
theorem dL_law_561 : decode cL_law 561 = .ok (.iload_n 3, 1) := by decide +kernel
theorem dL_law_562 : decode cL_law 562 = .ok (.iconst 2, 1) := by decide +kernel
theorem dL_law_563 : decode cL_law 563 = .ok (.iadd, 1) := by decide +kernel
theorem dL_law_564 : decode cL_law 564 = .ok (.iaload, 1) := by decide +kernel
theorem dL_law_565 : decode cL_law 565 = .ok (.aload_n 0, 1) := by decide +kernel
theorem dL_law_566 : decode cL_law 566 = .ok (.iload_n 3, 1) := by decide +kernel
theorem dL_law_567 : decode cL_law 567 = .ok (.iconst 3, 1) := by decide +kernel
theorem dL_law_568 : decode cL_law 568 = .ok (.iadd, 1) := by decide +kernel
theorem dL_law_569 : decode cL_law 569 = .ok (.iaload, 1) := by decide +kernel
theorem dL_law_570 : decode cL_law 570 = .ok (.aload_n 0, 1) := by decide +kernel
theorem dL_law_571 : decode cL_law 571 = .ok (.iload_n 3, 1) := by decide +kernel
theorem dL_law_572 : decode cL_law 572 = .ok (.iconst 4, 1) := by decide +kernel
theorem dL_law_573 : decode cL_law 573 = .ok (.iadd, 1) := by decide +kernel
theorem dL_law_574 : decode cL_law 574 = .ok (.iaload, 1) := by decide +kernel
theorem dL_law_575 : decode cL_law 575 = .ok (.aload_n 0, 1) := by decide +kernel
theorem dL_law_576 : decode cL_law 576 = .ok (.iload_n 3, 1) := by decide +kernel
theorem dL_law_577 : decode cL_law 577 = .ok (.iconst 5, 1) := by decide +kernel
theorem dL_law_578 : decode cL_law 578 = .ok (.iadd, 1) := by decide +kernel
theorem dL_law_579 : decode cL_law 579 = .ok (.iaload, 1) := by decide +kernel
theorem dL_law_580 : decode cL_law 580 = .ok (.ifCond .eq 7, 3) := by decide +kernel
theorem dL_law_583 : decode cL_law 583 = .ok (.iconst 1, 1) := by decide +kernel
theorem dL_law_584 : decode cL_law 584 = .ok (.goto 4, 3) := by decide +kernel
theorem dL_law_587 : decode cL_law 587 = .ok (.iconst 0, 1) := by decide +kernel
theorem dL_law_588 : decode cL_law 588 = .ok (.aload_n 0, 1) := by decide +kernel
theorem dL_law_589 : decode cL_law 589 = .ok (.iload_n 3, 1) := by decide +kernel
theorem dL_law_590 : decode cL_law 590 = .ok (.bipush 6, 2) := by decide +kernel
theorem dL_law_592 : decode cL_law 592 = .ok (.iadd, 1) := by decide +kernel
theorem dL_law_593 : decode cL_law 593 = .ok (.iaload, 1) := by decide +kernel
theorem dL_law_594 : decode cL_law 594 = .ok (.invokevirtual 53, 3) := by decide +kernel
theorem dL_law_597 : decode cL_law 597 = .ok (.aload_n 2, 1) := by decide +kernel
theorem dL_law_598 : decode cL_law 598 = .ok (.aload_n 0, 1) := by decide +kernel
theorem dL_law_599 : decode cL_law 599 = .ok (.iload_n 3, 1) := by decide +kernel
theorem dL_law_600 : decode cL_law 600 = .ok (.iconst 1, 1) := by decide +kernel
theorem dL_law_601 : decode cL_law 601 = .ok (.iadd, 1) := by decide +kernel
theorem dL_law_602 : decode cL_law 602 = .ok (.iaload, 1) := by decide +kernel
theorem dL_law_603 : decode cL_law 603 = .ok (.aload_n 0, 1) := by decide +kernel
theorem dL_law_604 : decode cL_law 604 = .ok (.iload_n 3, 1) := by decide +kernel
theorem dL_law_605 : decode cL_law 605 = .ok (.iconst 2, 1) := by decide +kernel
theorem dL_law_606 : decode cL_law 606 = .ok (.iadd, 1) := by decide +kernel
theorem dL_law_607 : decode cL_law 607 = .ok (.iaload, 1) := by decide +kernel
theorem dL_law_608 : decode cL_law 608 = .ok (.aload_n 0, 1) := by decide +kernel
theorem dL_law_609 : decode cL_law 609 = .ok (.iload_n 3, 1) := by decide +kernel
theorem dL_law_610 : decode cL_law 610 = .ok (.iconst 3, 1) := by decide +kernel
theorem dL_law_611 : decode cL_law 611 = .ok (.iadd, 1) := by decide +kernel
theorem dL_law_612 : decode cL_law 612 = .ok (.iaload, 1) := by decide +kernel
theorem dL_law_613 : decode cL_law 613 = .ok (.aload_n 0, 1) := by decide +kernel
theorem dL_law_614 : decode cL_law 614 = .ok (.iload_n 3, 1) := by decide +kernel
theorem dL_law_615 : decode cL_law 615 = .ok (.iconst 4, 1) := by decide +kernel
theorem dL_law_616 : decode cL_law 616 = .ok (.iadd, 1) := by decide +kernel
theorem dL_law_617 : decode cL_law 617 = .ok (.iaload, 1) := by decide +kernel
theorem dL_law_618 : decode cL_law 618 = .ok (.aload_n 0, 1) := by decide +kernel
theorem dL_law_619 : decode cL_law 619 = .ok (.iload_n 3, 1) := by decide +kernel
theorem dL_law_620 : decode cL_law 620 = .ok (.iconst 5, 1) := by decide +kernel
theorem dL_law_621 : decode cL_law 621 = .ok (.iadd, 1) := by decide +kernel
theorem dL_law_622 : decode cL_law 622 = .ok (.iaload, 1) := by decide +kernel
theorem dL_law_623 : decode cL_law 623 = .ok (.ifCond .eq 7, 3) := by decide +kernel
theorem dL_law_626 : decode cL_law 626 = .ok (.iconst 1, 1) := by decide +kernel
theorem dL_law_627 : decode cL_law 627 = .ok (.goto 4, 3) := by decide +kernel
theorem dL_law_630 : decode cL_law 630 = .ok (.iconst 0, 1) := by decide +kernel
theorem dL_law_631 : decode cL_law 631 = .ok (.aload_n 0, 1) := by decide +kernel
theorem dL_law_632 : decode cL_law 632 = .ok (.iload_n 3, 1) := by decide +kernel
theorem dL_law_633 : decode cL_law 633 = .ok (.bipush 6, 2) := by decide +kernel
theorem dL_law_635 : decode cL_law 635 = .ok (.iadd, 1) := by decide +kernel
theorem dL_law_636 : decode cL_law 636 = .ok (.iaload, 1) := by decide +kernel
theorem dL_law_637 : decode cL_law 637 = .ok (.invokevirtual 57, 3) := by decide +kernel
theorem dL_law_640 : decode cL_law 640 = .ok (.if_icmp .eq 437, 3) := by decide +kernel
theorem dL_law_643 : decode cL_law 643 = .ok (.iconst 0, 1) := by decide +kernel
theorem dL_law_644 : decode cL_law 644 = .ok (.ireturn, 1) := by decide +kernel
theorem dL_law_645 : decode cL_law 645 = .ok (.aload_n 1, 1) := by decide +kernel
theorem dL_law_646 : decode cL_law 646 = .ok (.aload_n 0, 1) := by decide +kernel
theorem dL_law_647 : decode cL_law 647 = .ok (.iload_n 3, 1) := by decide +kernel
theorem dL_law_648 : decode cL_law 648 = .ok (.iconst 1, 1) := by decide +kernel
theorem dL_law_649 : decode cL_law 649 = .ok (.iadd, 1) := by decide +kernel
theorem dL_law_650 : decode cL_law 650 = .ok (.iaload, 1) := by decide +kernel
theorem dL_law_651 : decode cL_law 651 = .ok (.aload_n 0, 1) := by decide +kernel
theorem dL_law_652 : decode cL_law 652 = .ok (.iload_n 3, 1) := by decide +kernel
theorem dL_law_653 : decode cL_law 653 = .ok (.iconst 2, 1) := by decide +kernel
theorem dL_law_654 : decode cL_law 654 = .ok (.iadd, 1) := by decide +kernel
theorem dL_law_655 : decode cL_law 655 = .ok (.iaload, 1) := by decide +kernel
theorem dL_law_656 : decode cL_law 656 = .ok (.aload_n 0, 1) := by decide +kernel
theorem dL_law_657 : decode cL_law 657 = .ok (.iload_n 3, 1) := by decide +kernel
theorem dL_law_658 : decode cL_law 658 = .ok (.iconst 3, 1) := by decide +kernel
theorem dL_law_659 : decode cL_law 659 = .ok (.iadd, 1) := by decide +kernel
theorem dL_law_660 : decode cL_law 660 = .ok (.iaload, 1) := by decide +kernel
theorem dL_law_661 : decode cL_law 661 = .ok (.invokevirtual 58, 3) := by decide +kernel
theorem dL_law_664 : decode cL_law 664 = .ok (.aload_n 2, 1) := by decide +kernel
theorem dL_law_665 : decode cL_law 665 = .ok (.aload_n 0, 1) := by decide +kernel
theorem dL_law_666 : decode cL_law 666 = .ok (.iload_n 3, 1) := by decide +kernel
theorem dL_law_667 : decode cL_law 667 = .ok (.iconst 1, 1) := by decide +kernel
theorem dL_law_668 : decode cL_law 668 = .ok (.iadd, 1) := by decide +kernel
theorem dL_law_669 : decode cL_law 669 = .ok (.iaload, 1) := by decide +kernel
theorem dL_law_670 : decode cL_law 670 = .ok (.aload_n 0, 1) := by decide +kernel
theorem dL_law_671 : decode cL_law 671 = .ok (.iload_n 3, 1) := by decide +kernel
theorem dL_law_672 : decode cL_law 672 = .ok (.iconst 2, 1) := by decide +kernel
theorem dL_law_673 : decode cL_law 673 = .ok (.iadd, 1) := by decide +kernel
theorem dL_law_674 : decode cL_law 674 = .ok (.iaload, 1) := by decide +kernel
theorem dL_law_675 : decode cL_law 675 = .ok (.aload_n 0, 1) := by decide +kernel
theorem dL_law_676 : decode cL_law 676 = .ok (.iload_n 3, 1) := by decide +kernel
theorem dL_law_677 : decode cL_law 677 = .ok (.iconst 3, 1) := by decide +kernel
theorem dL_law_678 : decode cL_law 678 = .ok (.iadd, 1) := by decide +kernel
theorem dL_law_679 : decode cL_law 679 = .ok (.iaload, 1) := by decide +kernel
theorem dL_law_680 : decode cL_law 680 = .ok (.invokevirtual 61, 3) := by decide +kernel
theorem dL_law_683 : decode cL_law 683 = .ok (.if_icmp .eq 394, 3) := by decide +kernel
theorem dL_law_686 : decode cL_law 686 = .ok (.iconst 0, 1) := by decide +kernel
theorem dL_law_687 : decode cL_law 687 = .ok (.ireturn, 1) := by decide +kernel
theorem dL_law_688 : decode cL_law 688 = .ok (.aload_n 1, 1) := by decide +kernel
theorem dL_law_689 : decode cL_law 689 = .ok (.aload_n 0, 1) := by decide +kernel
theorem dL_law_690 : decode cL_law 690 = .ok (.iload_n 3, 1) := by decide +kernel
theorem dL_law_691 : decode cL_law 691 = .ok (.iconst 1, 1) := by decide +kernel
theorem dL_law_692 : decode cL_law 692 = .ok (.iadd, 1) := by decide +kernel
theorem dL_law_693 : decode cL_law 693 = .ok (.iaload, 1) := by decide +kernel
theorem dL_law_694 : decode cL_law 694 = .ok (.aload_n 0, 1) := by decide +kernel
theorem dL_law_695 : decode cL_law 695 = .ok (.iload_n 3, 1) := by decide +kernel
theorem dL_law_696 : decode cL_law 696 = .ok (.iconst 2, 1) := by decide +kernel
theorem dL_law_697 : decode cL_law 697 = .ok (.iadd, 1) := by decide +kernel
theorem dL_law_698 : decode cL_law 698 = .ok (.iaload, 1) := by decide +kernel
theorem dL_law_699 : decode cL_law 699 = .ok (.aload_n 0, 1) := by decide +kernel
theorem dL_law_700 : decode cL_law 700 = .ok (.iload_n 3, 1) := by decide +kernel
theorem dL_law_701 : decode cL_law 701 = .ok (.iconst 3, 1) := by decide +kernel
theorem dL_law_702 : decode cL_law 702 = .ok (.iadd, 1) := by decide +kernel
theorem dL_law_703 : decode cL_law 703 = .ok (.iaload, 1) := by decide +kernel
theorem dL_law_704 : decode cL_law 704 = .ok (.invokevirtual 62, 3) := by decide +kernel
theorem dL_law_707 : decode cL_law 707 = .ok (.aload_n 2, 1) := by decide +kernel
theorem dL_law_708 : decode cL_law 708 = .ok (.aload_n 0, 1) := by decide +kernel
theorem dL_law_709 : decode cL_law 709 = .ok (.iload_n 3, 1) := by decide +kernel
theorem dL_law_710 : decode cL_law 710 = .ok (.iconst 1, 1) := by decide +kernel
theorem dL_law_711 : decode cL_law 711 = .ok (.iadd, 1) := by decide +kernel
theorem dL_law_712 : decode cL_law 712 = .ok (.iaload, 1) := by decide +kernel
theorem dL_law_713 : decode cL_law 713 = .ok (.aload_n 0, 1) := by decide +kernel
theorem dL_law_714 : decode cL_law 714 = .ok (.iload_n 3, 1) := by decide +kernel
theorem dL_law_715 : decode cL_law 715 = .ok (.iconst 2, 1) := by decide +kernel
theorem dL_law_716 : decode cL_law 716 = .ok (.iadd, 1) := by decide +kernel
theorem dL_law_717 : decode cL_law 717 = .ok (.iaload, 1) := by decide +kernel
theorem dL_law_718 : decode cL_law 718 = .ok (.aload_n 0, 1) := by decide +kernel
theorem dL_law_719 : decode cL_law 719 = .ok (.iload_n 3, 1) := by decide +kernel
theorem dL_law_720 : decode cL_law 720 = .ok (.iconst 3, 1) := by decide +kernel
theorem dL_law_721 : decode cL_law 721 = .ok (.iadd, 1) := by decide +kernel
theorem dL_law_722 : decode cL_law 722 = .ok (.iaload, 1) := by decide +kernel
theorem dL_law_723 : decode cL_law 723 = .ok (.invokevirtual 65, 3) := by decide +kernel
theorem dL_law_726 : decode cL_law 726 = .ok (.if_icmp .eq 351, 3) := by decide +kernel
theorem dL_law_729 : decode cL_law 729 = .ok (.iconst 0, 1) := by decide +kernel
theorem dL_law_730 : decode cL_law 730 = .ok (.ireturn, 1) := by decide +kernel
theorem dL_law_731 : decode cL_law 731 = .ok (.aload_n 1, 1) := by decide +kernel
theorem dL_law_732 : decode cL_law 732 = .ok (.invokevirtual 66, 3) := by decide +kernel
theorem dL_law_735 : decode cL_law 735 = .ok (.aload_n 2, 1) := by decide +kernel
theorem dL_law_736 : decode cL_law 736 = .ok (.invokevirtual 69, 3) := by decide +kernel
theorem dL_law_739 : decode cL_law 739 = .ok (.if_icmp .eq 338, 3) := by decide +kernel
theorem dL_law_742 : decode cL_law 742 = .ok (.iconst 0, 1) := by decide +kernel
theorem dL_law_743 : decode cL_law 743 = .ok (.ireturn, 1) := by decide +kernel
theorem dL_law_744 : decode cL_law 744 = .ok (.aload_n 1, 1) := by decide +kernel
theorem dL_law_745 : decode cL_law 745 = .ok (.invokevirtual 70, 3) := by decide +kernel
theorem dL_law_748 : decode cL_law 748 = .ok (.aload_n 2, 1) := by decide +kernel
theorem dL_law_749 : decode cL_law 749 = .ok (.invokevirtual 73, 3) := by decide +kernel
theorem dL_law_752 : decode cL_law 752 = .ok (.if_icmp .eq 325, 3) := by decide +kernel
theorem dL_law_755 : decode cL_law 755 = .ok (.iconst 0, 1) := by decide +kernel
theorem dL_law_756 : decode cL_law 756 = .ok (.ireturn, 1) := by decide +kernel
theorem dL_law_757 : decode cL_law 757 = .ok (.aload_n 1, 1) := by decide +kernel
theorem dL_law_758 : decode cL_law 758 = .ok (.invokevirtual 74, 3) := by decide +kernel
theorem dL_law_761 : decode cL_law 761 = .ok (.aload_n 2, 1) := by decide +kernel
theorem dL_law_762 : decode cL_law 762 = .ok (.invokevirtual 77, 3) := by decide +kernel
theorem dL_law_765 : decode cL_law 765 = .ok (.if_icmp .eq 312, 3) := by decide +kernel
theorem dL_law_768 : decode cL_law 768 = .ok (.iconst 0, 1) := by decide +kernel
theorem dL_law_769 : decode cL_law 769 = .ok (.ireturn, 1) := by decide +kernel
theorem dL_law_770 : decode cL_law 770 = .ok (.aload_n 1, 1) := by decide +kernel
theorem dL_law_771 : decode cL_law 771 = .ok (.aload_n 0, 1) := by decide +kernel
theorem dL_law_772 : decode cL_law 772 = .ok (.iload_n 3, 1) := by decide +kernel
theorem dL_law_773 : decode cL_law 773 = .ok (.iconst 1, 1) := by decide +kernel
theorem dL_law_774 : decode cL_law 774 = .ok (.iadd, 1) := by decide +kernel
theorem dL_law_775 : decode cL_law 775 = .ok (.iaload, 1) := by decide +kernel
theorem dL_law_776 : decode cL_law 776 = .ok (.invokevirtual 78, 3) := by decide +kernel
theorem dL_law_779 : decode cL_law 779 = .ok (.aload_n 2, 1) := by decide +kernel
theorem dL_law_780 : decode cL_law 780 = .ok (.aload_n 0, 1) := by decide +kernel
theorem dL_law_781 : decode cL_law 781 = .ok (.iload_n 3, 1) := by decide +kernel
theorem dL_law_782 : decode cL_law 782 = .ok (.iconst 1, 1) := by decide +kernel
theorem dL_law_783 : decode cL_law 783 = .ok (.iadd, 1) := by decide +kernel
theorem dL_law_784 : decode cL_law 784 = .ok (.iaload, 1) := by decide +kernel
theorem dL_law_785 : decode cL_law 785 = .ok (.invokevirtual 82, 3) := by decide +kernel
theorem dL_law_788 : decode cL_law 788 = .ok (.if_icmp .eq 289, 3) := by decide +kernel
theorem dL_law_791 : decode cL_law 791 = .ok (.iconst 0, 1) := by decide +kernel
theorem dL_law_792 : decode cL_law 792 = .ok (.ireturn, 1) := by decide +kernel
theorem dL_law_793 : decode cL_law 793 = .ok (.aload_n 1, 1) := by decide +kernel
theorem dL_law_794 : decode cL_law 794 = .ok (.aload_n 0, 1) := by decide +kernel
theorem dL_law_795 : decode cL_law 795 = .ok (.iload_n 3, 1) := by decide +kernel
theorem dL_law_796 : decode cL_law 796 = .ok (.iconst 1, 1) := by decide +kernel
theorem dL_law_797 : decode cL_law 797 = .ok (.iadd, 1) := by decide +kernel
theorem dL_law_798 : decode cL_law 798 = .ok (.iaload, 1) := by decide +kernel
theorem dL_law_799 : decode cL_law 799 = .ok (.aload_n 0, 1) := by decide +kernel
theorem dL_law_800 : decode cL_law 800 = .ok (.iload_n 3, 1) := by decide +kernel
theorem dL_law_801 : decode cL_law 801 = .ok (.iconst 2, 1) := by decide +kernel
theorem dL_law_802 : decode cL_law 802 = .ok (.iadd, 1) := by decide +kernel
theorem dL_law_803 : decode cL_law 803 = .ok (.iaload, 1) := by decide +kernel
theorem dL_law_804 : decode cL_law 804 = .ok (.aload_n 0, 1) := by decide +kernel
theorem dL_law_805 : decode cL_law 805 = .ok (.iload_n 3, 1) := by decide +kernel
theorem dL_law_806 : decode cL_law 806 = .ok (.iconst 3, 1) := by decide +kernel
theorem dL_law_807 : decode cL_law 807 = .ok (.iadd, 1) := by decide +kernel
theorem dL_law_808 : decode cL_law 808 = .ok (.iaload, 1) := by decide +kernel
theorem dL_law_809 : decode cL_law 809 = .ok (.invokevirtual 83, 3) := by decide +kernel
theorem dL_law_812 : decode cL_law 812 = .ok (.aload_n 2, 1) := by decide +kernel
theorem dL_law_813 : decode cL_law 813 = .ok (.aload_n 0, 1) := by decide +kernel
theorem dL_law_814 : decode cL_law 814 = .ok (.iload_n 3, 1) := by decide +kernel
theorem dL_law_815 : decode cL_law 815 = .ok (.iconst 1, 1) := by decide +kernel
theorem dL_law_816 : decode cL_law 816 = .ok (.iadd, 1) := by decide +kernel
theorem dL_law_817 : decode cL_law 817 = .ok (.iaload, 1) := by decide +kernel
theorem dL_law_818 : decode cL_law 818 = .ok (.aload_n 0, 1) := by decide +kernel
theorem dL_law_819 : decode cL_law 819 = .ok (.iload_n 3, 1) := by decide +kernel
theorem dL_law_820 : decode cL_law 820 = .ok (.iconst 2, 1) := by decide +kernel
theorem dL_law_821 : decode cL_law 821 = .ok (.iadd, 1) := by decide +kernel
theorem dL_law_822 : decode cL_law 822 = .ok (.iaload, 1) := by decide +kernel
theorem dL_law_823 : decode cL_law 823 = .ok (.aload_n 0, 1) := by decide +kernel
theorem dL_law_824 : decode cL_law 824 = .ok (.iload_n 3, 1) := by decide +kernel
theorem dL_law_825 : decode cL_law 825 = .ok (.iconst 3, 1) := by decide +kernel
theorem dL_law_826 : decode cL_law 826 = .ok (.iadd, 1) := by decide +kernel
theorem dL_law_827 : decode cL_law 827 = .ok (.iaload, 1) := by decide +kernel
theorem dL_law_828 : decode cL_law 828 = .ok (.invokevirtual 86, 3) := by decide +kernel
theorem dL_law_831 : decode cL_law 831 = .ok (.if_icmp .eq 246, 3) := by decide +kernel
theorem dL_law_834 : decode cL_law 834 = .ok (.iconst 0, 1) := by decide +kernel
theorem dL_law_835 : decode cL_law 835 = .ok (.ireturn, 1) := by decide +kernel
theorem dL_law_836 : decode cL_law 836 = .ok (.aload_n 1, 1) := by decide +kernel
theorem dL_law_837 : decode cL_law 837 = .ok (.aload_n 0, 1) := by decide +kernel
theorem dL_law_838 : decode cL_law 838 = .ok (.iload_n 3, 1) := by decide +kernel
theorem dL_law_839 : decode cL_law 839 = .ok (.iconst 1, 1) := by decide +kernel
theorem dL_law_840 : decode cL_law 840 = .ok (.iadd, 1) := by decide +kernel
theorem dL_law_841 : decode cL_law 841 = .ok (.iaload, 1) := by decide +kernel
theorem dL_law_842 : decode cL_law 842 = .ok (.aload_n 0, 1) := by decide +kernel
theorem dL_law_843 : decode cL_law 843 = .ok (.iload_n 3, 1) := by decide +kernel
theorem dL_law_844 : decode cL_law 844 = .ok (.iconst 2, 1) := by decide +kernel
theorem dL_law_845 : decode cL_law 845 = .ok (.iadd, 1) := by decide +kernel
theorem dL_law_846 : decode cL_law 846 = .ok (.iaload, 1) := by decide +kernel
theorem dL_law_847 : decode cL_law 847 = .ok (.invokevirtual 87, 3) := by decide +kernel
theorem dL_law_850 : decode cL_law 850 = .ok (.aload_n 2, 1) := by decide +kernel
theorem dL_law_851 : decode cL_law 851 = .ok (.aload_n 0, 1) := by decide +kernel
theorem dL_law_852 : decode cL_law 852 = .ok (.iload_n 3, 1) := by decide +kernel
theorem dL_law_853 : decode cL_law 853 = .ok (.iconst 1, 1) := by decide +kernel
theorem dL_law_854 : decode cL_law 854 = .ok (.iadd, 1) := by decide +kernel
theorem dL_law_855 : decode cL_law 855 = .ok (.iaload, 1) := by decide +kernel
theorem dL_law_856 : decode cL_law 856 = .ok (.aload_n 0, 1) := by decide +kernel
theorem dL_law_857 : decode cL_law 857 = .ok (.iload_n 3, 1) := by decide +kernel
theorem dL_law_858 : decode cL_law 858 = .ok (.iconst 2, 1) := by decide +kernel
theorem dL_law_859 : decode cL_law 859 = .ok (.iadd, 1) := by decide +kernel
theorem dL_law_860 : decode cL_law 860 = .ok (.iaload, 1) := by decide +kernel
theorem dL_law_861 : decode cL_law 861 = .ok (.invokevirtual 91, 3) := by decide +kernel
theorem dL_law_864 : decode cL_law 864 = .ok (.lcmp, 1) := by decide +kernel
theorem dL_law_865 : decode cL_law 865 = .ok (.ifCond .eq 212, 3) := by decide +kernel
theorem dL_law_868 : decode cL_law 868 = .ok (.iconst 0, 1) := by decide +kernel
theorem dL_law_869 : decode cL_law 869 = .ok (.ireturn, 1) := by decide +kernel
theorem dL_law_870 : decode cL_law 870 = .ok (.aload_n 1, 1) := by decide +kernel
theorem dL_law_871 : decode cL_law 871 = .ok (.aload_n 0, 1) := by decide +kernel
theorem dL_law_872 : decode cL_law 872 = .ok (.iload_n 3, 1) := by decide +kernel
theorem dL_law_873 : decode cL_law 873 = .ok (.iconst 1, 1) := by decide +kernel
theorem dL_law_874 : decode cL_law 874 = .ok (.iadd, 1) := by decide +kernel
theorem dL_law_875 : decode cL_law 875 = .ok (.iaload, 1) := by decide +kernel
theorem dL_law_876 : decode cL_law 876 = .ok (.aload_n 0, 1) := by decide +kernel
theorem dL_law_877 : decode cL_law 877 = .ok (.iload_n 3, 1) := by decide +kernel
theorem dL_law_878 : decode cL_law 878 = .ok (.iconst 2, 1) := by decide +kernel
theorem dL_law_879 : decode cL_law 879 = .ok (.iadd, 1) := by decide +kernel
theorem dL_law_880 : decode cL_law 880 = .ok (.iaload, 1) := by decide +kernel
theorem dL_law_881 : decode cL_law 881 = .ok (.aload_n 0, 1) := by decide +kernel
theorem dL_law_882 : decode cL_law 882 = .ok (.iload_n 3, 1) := by decide +kernel
theorem dL_law_883 : decode cL_law 883 = .ok (.iconst 3, 1) := by decide +kernel
theorem dL_law_884 : decode cL_law 884 = .ok (.iadd, 1) := by decide +kernel
theorem dL_law_885 : decode cL_law 885 = .ok (.iaload, 1) := by decide +kernel
theorem dL_law_886 : decode cL_law 886 = .ok (.invokevirtual 92, 3) := by decide +kernel
theorem dL_law_889 : decode cL_law 889 = .ok (.aload_n 2, 1) := by decide +kernel
theorem dL_law_890 : decode cL_law 890 = .ok (.aload_n 0, 1) := by decide +kernel
theorem dL_law_891 : decode cL_law 891 = .ok (.iload_n 3, 1) := by decide +kernel
theorem dL_law_892 : decode cL_law 892 = .ok (.iconst 1, 1) := by decide +kernel
theorem dL_law_893 : decode cL_law 893 = .ok (.iadd, 1) := by decide +kernel
theorem dL_law_894 : decode cL_law 894 = .ok (.iaload, 1) := by decide +kernel
theorem dL_law_895 : decode cL_law 895 = .ok (.aload_n 0, 1) := by decide +kernel
theorem dL_law_896 : decode cL_law 896 = .ok (.iload_n 3, 1) := by decide +kernel
theorem dL_law_897 : decode cL_law 897 = .ok (.iconst 2, 1) := by decide +kernel
theorem dL_law_898 : decode cL_law 898 = .ok (.iadd, 1) := by decide +kernel
theorem dL_law_899 : decode cL_law 899 = .ok (.iaload, 1) := by decide +kernel
theorem dL_law_900 : decode cL_law 900 = .ok (.aload_n 0, 1) := by decide +kernel
theorem dL_law_901 : decode cL_law 901 = .ok (.iload_n 3, 1) := by decide +kernel
theorem dL_law_902 : decode cL_law 902 = .ok (.iconst 3, 1) := by decide +kernel
theorem dL_law_903 : decode cL_law 903 = .ok (.iadd, 1) := by decide +kernel
theorem dL_law_904 : decode cL_law 904 = .ok (.iaload, 1) := by decide +kernel
theorem dL_law_905 : decode cL_law 905 = .ok (.invokevirtual 96, 3) := by decide +kernel
theorem dL_law_908 : decode cL_law 908 = .ok (.lcmp, 1) := by decide +kernel
theorem dL_law_909 : decode cL_law 909 = .ok (.ifCond .eq 168, 3) := by decide +kernel
theorem dL_law_912 : decode cL_law 912 = .ok (.iconst 0, 1) := by decide +kernel
theorem dL_law_913 : decode cL_law 913 = .ok (.ireturn, 1) := by decide +kernel
theorem dL_law_914 : decode cL_law 914 = .ok (.aload_n 1, 1) := by decide +kernel
theorem dL_law_915 : decode cL_law 915 = .ok (.aload_n 0, 1) := by decide +kernel
theorem dL_law_916 : decode cL_law 916 = .ok (.iload_n 3, 1) := by decide +kernel
theorem dL_law_917 : decode cL_law 917 = .ok (.iconst 1, 1) := by decide +kernel
theorem dL_law_918 : decode cL_law 918 = .ok (.iadd, 1) := by decide +kernel
theorem dL_law_919 : decode cL_law 919 = .ok (.iaload, 1) := by decide +kernel
theorem dL_law_920 : decode cL_law 920 = .ok (.aload_n 0, 1) := by decide +kernel
theorem dL_law_921 : decode cL_law 921 = .ok (.iload_n 3, 1) := by decide +kernel
theorem dL_law_922 : decode cL_law 922 = .ok (.iconst 2, 1) := by decide +kernel
theorem dL_law_923 : decode cL_law 923 = .ok (.iadd, 1) := by decide +kernel
theorem dL_law_924 : decode cL_law 924 = .ok (.iaload, 1) := by decide +kernel
theorem dL_law_925 : decode cL_law 925 = .ok (.aload_n 0, 1) := by decide +kernel
theorem dL_law_926 : decode cL_law 926 = .ok (.iload_n 3, 1) := by decide +kernel
theorem dL_law_927 : decode cL_law 927 = .ok (.iconst 3, 1) := by decide +kernel
theorem dL_law_928 : decode cL_law 928 = .ok (.iadd, 1) := by decide +kernel
theorem dL_law_929 : decode cL_law 929 = .ok (.iaload, 1) := by decide +kernel
theorem dL_law_930 : decode cL_law 930 = .ok (.invokevirtual 97, 3) := by decide +kernel
theorem dL_law_933 : decode cL_law 933 = .ok (.aload_n 2, 1) := by decide +kernel
theorem dL_law_934 : decode cL_law 934 = .ok (.aload_n 0, 1) := by decide +kernel
theorem dL_law_935 : decode cL_law 935 = .ok (.iload_n 3, 1) := by decide +kernel
theorem dL_law_936 : decode cL_law 936 = .ok (.iconst 1, 1) := by decide +kernel
theorem dL_law_937 : decode cL_law 937 = .ok (.iadd, 1) := by decide +kernel
theorem dL_law_938 : decode cL_law 938 = .ok (.iaload, 1) := by decide +kernel
theorem dL_law_939 : decode cL_law 939 = .ok (.aload_n 0, 1) := by decide +kernel
theorem dL_law_940 : decode cL_law 940 = .ok (.iload_n 3, 1) := by decide +kernel
theorem dL_law_941 : decode cL_law 941 = .ok (.iconst 2, 1) := by decide +kernel
theorem dL_law_942 : decode cL_law 942 = .ok (.iadd, 1) := by decide +kernel
theorem dL_law_943 : decode cL_law 943 = .ok (.iaload, 1) := by decide +kernel
theorem dL_law_944 : decode cL_law 944 = .ok (.aload_n 0, 1) := by decide +kernel
theorem dL_law_945 : decode cL_law 945 = .ok (.iload_n 3, 1) := by decide +kernel
theorem dL_law_946 : decode cL_law 946 = .ok (.iconst 3, 1) := by decide +kernel
theorem dL_law_947 : decode cL_law 947 = .ok (.iadd, 1) := by decide +kernel
theorem dL_law_948 : decode cL_law 948 = .ok (.iaload, 1) := by decide +kernel
theorem dL_law_949 : decode cL_law 949 = .ok (.invokevirtual 100, 3) := by decide +kernel
theorem dL_law_952 : decode cL_law 952 = .ok (.if_icmp .eq 125, 3) := by decide +kernel
theorem dL_law_955 : decode cL_law 955 = .ok (.iconst 0, 1) := by decide +kernel
theorem dL_law_956 : decode cL_law 956 = .ok (.ireturn, 1) := by decide +kernel
theorem dL_law_957 : decode cL_law 957 = .ok (.aload_n 1, 1) := by decide +kernel
theorem dL_law_958 : decode cL_law 958 = .ok (.aload_n 0, 1) := by decide +kernel
theorem dL_law_959 : decode cL_law 959 = .ok (.iload_n 3, 1) := by decide +kernel
theorem dL_law_960 : decode cL_law 960 = .ok (.iconst 1, 1) := by decide +kernel
theorem dL_law_961 : decode cL_law 961 = .ok (.iadd, 1) := by decide +kernel
theorem dL_law_962 : decode cL_law 962 = .ok (.iaload, 1) := by decide +kernel
theorem dL_law_963 : decode cL_law 963 = .ok (.aload_n 0, 1) := by decide +kernel
theorem dL_law_964 : decode cL_law 964 = .ok (.iload_n 3, 1) := by decide +kernel
theorem dL_law_965 : decode cL_law 965 = .ok (.iconst 2, 1) := by decide +kernel
theorem dL_law_966 : decode cL_law 966 = .ok (.iadd, 1) := by decide +kernel
theorem dL_law_967 : decode cL_law 967 = .ok (.iaload, 1) := by decide +kernel
theorem dL_law_968 : decode cL_law 968 = .ok (.invokevirtual 101, 3) := by decide +kernel
theorem dL_law_971 : decode cL_law 971 = .ok (.aload_n 2, 1) := by decide +kernel
theorem dL_law_972 : decode cL_law 972 = .ok (.aload_n 0, 1) := by decide +kernel
theorem dL_law_973 : decode cL_law 973 = .ok (.iload_n 3, 1) := by decide +kernel
theorem dL_law_974 : decode cL_law 974 = .ok (.iconst 1, 1) := by decide +kernel
theorem dL_law_975 : decode cL_law 975 = .ok (.iadd, 1) := by decide +kernel
theorem dL_law_976 : decode cL_law 976 = .ok (.iaload, 1) := by decide +kernel
theorem dL_law_977 : decode cL_law 977 = .ok (.aload_n 0, 1) := by decide +kernel
theorem dL_law_978 : decode cL_law 978 = .ok (.iload_n 3, 1) := by decide +kernel
theorem dL_law_979 : decode cL_law 979 = .ok (.iconst 2, 1) := by decide +kernel
theorem dL_law_980 : decode cL_law 980 = .ok (.iadd, 1) := by decide +kernel
theorem dL_law_981 : decode cL_law 981 = .ok (.iaload, 1) := by decide +kernel
theorem dL_law_982 : decode cL_law 982 = .ok (.invokevirtual 105, 3) := by decide +kernel
theorem dL_law_985 : decode cL_law 985 = .ok (.if_icmp .eq 92, 3) := by decide +kernel
theorem dL_law_988 : decode cL_law 988 = .ok (.iconst 0, 1) := by decide +kernel
theorem dL_law_989 : decode cL_law 989 = .ok (.ireturn, 1) := by decide +kernel
theorem dL_law_990 : decode cL_law 990 = .ok (.aload_n 1, 1) := by decide +kernel
theorem dL_law_991 : decode cL_law 991 = .ok (.aload_n 0, 1) := by decide +kernel
theorem dL_law_992 : decode cL_law 992 = .ok (.iload_n 3, 1) := by decide +kernel
theorem dL_law_993 : decode cL_law 993 = .ok (.iconst 1, 1) := by decide +kernel
theorem dL_law_994 : decode cL_law 994 = .ok (.iadd, 1) := by decide +kernel
theorem dL_law_995 : decode cL_law 995 = .ok (.iaload, 1) := by decide +kernel
theorem dL_law_996 : decode cL_law 996 = .ok (.aload_n 0, 1) := by decide +kernel
theorem dL_law_997 : decode cL_law 997 = .ok (.iload_n 3, 1) := by decide +kernel
theorem dL_law_998 : decode cL_law 998 = .ok (.iconst 2, 1) := by decide +kernel
theorem dL_law_999 : decode cL_law 999 = .ok (.iadd, 1) := by decide +kernel
theorem dL_law_1000 : decode cL_law 1000 = .ok (.iaload, 1) := by decide +kernel
theorem dL_law_1001 : decode cL_law 1001 = .ok (.invokevirtual 106, 3) := by decide +kernel
theorem dL_law_1004 : decode cL_law 1004 = .ok (.aload_n 2, 1) := by decide +kernel
theorem dL_law_1005 : decode cL_law 1005 = .ok (.aload_n 0, 1) := by decide +kernel
theorem dL_law_1006 : decode cL_law 1006 = .ok (.iload_n 3, 1) := by decide +kernel
theorem dL_law_1007 : decode cL_law 1007 = .ok (.iconst 1, 1) := by decide +kernel
theorem dL_law_1008 : decode cL_law 1008 = .ok (.iadd, 1) := by decide +kernel
theorem dL_law_1009 : decode cL_law 1009 = .ok (.iaload, 1) := by decide +kernel
theorem dL_law_1010 : decode cL_law 1010 = .ok (.aload_n 0, 1) := by decide +kernel
theorem dL_law_1011 : decode cL_law 1011 = .ok (.iload_n 3, 1) := by decide +kernel
theorem dL_law_1012 : decode cL_law 1012 = .ok (.iconst 2, 1) := by decide +kernel
theorem dL_law_1013 : decode cL_law 1013 = .ok (.iadd, 1) := by decide +kernel
theorem dL_law_1014 : decode cL_law 1014 = .ok (.iaload, 1) := by decide +kernel
theorem dL_law_1015 : decode cL_law 1015 = .ok (.invokevirtual 109, 3) := by decide +kernel
theorem dL_law_1018 : decode cL_law 1018 = .ok (.if_icmp .eq 59, 3) := by decide +kernel
theorem dL_law_1021 : decode cL_law 1021 = .ok (.iconst 0, 1) := by decide +kernel
theorem dL_law_1022 : decode cL_law 1022 = .ok (.ireturn, 1) := by decide +kernel
theorem dL_law_1023 : decode cL_law 1023 = .ok (.aload_n 1, 1) := by decide +kernel
theorem dL_law_1024 : decode cL_law 1024 = .ok (.aload_n 0, 1) := by decide +kernel
theorem dL_law_1025 : decode cL_law 1025 = .ok (.iload_n 3, 1) := by decide +kernel
theorem dL_law_1026 : decode cL_law 1026 = .ok (.iconst 1, 1) := by decide +kernel
theorem dL_law_1027 : decode cL_law 1027 = .ok (.iadd, 1) := by decide +kernel
theorem dL_law_1028 : decode cL_law 1028 = .ok (.iaload, 1) := by decide +kernel
theorem dL_law_1029 : decode cL_law 1029 = .ok (.aload_n 0, 1) := by decide +kernel
theorem dL_law_1030 : decode cL_law 1030 = .ok (.iload_n 3, 1) := by decide +kernel
theorem dL_law_1031 : decode cL_law 1031 = .ok (.iconst 2, 1) := by decide +kernel
theorem dL_law_1032 : decode cL_law 1032 = .ok (.iadd, 1) := by decide +kernel
theorem dL_law_1033 : decode cL_law 1033 = .ok (.iaload, 1) := by decide +kernel
theorem dL_law_1034 : decode cL_law 1034 = .ok (.aload_n 0, 1) := by decide +kernel
theorem dL_law_1035 : decode cL_law 1035 = .ok (.iload_n 3, 1) := by decide +kernel
theorem dL_law_1036 : decode cL_law 1036 = .ok (.iconst 3, 1) := by decide +kernel
theorem dL_law_1037 : decode cL_law 1037 = .ok (.iadd, 1) := by decide +kernel
theorem dL_law_1038 : decode cL_law 1038 = .ok (.iaload, 1) := by decide +kernel
theorem dL_law_1039 : decode cL_law 1039 = .ok (.aload_n 0, 1) := by decide +kernel
theorem dL_law_1040 : decode cL_law 1040 = .ok (.iload_n 3, 1) := by decide +kernel
theorem dL_law_1041 : decode cL_law 1041 = .ok (.iconst 4, 1) := by decide +kernel
theorem dL_law_1042 : decode cL_law 1042 = .ok (.iadd, 1) := by decide +kernel
theorem dL_law_1043 : decode cL_law 1043 = .ok (.iaload, 1) := by decide +kernel
theorem dL_law_1044 : decode cL_law 1044 = .ok (.invokevirtual 110, 3) := by decide +kernel
theorem dL_law_1047 : decode cL_law 1047 = .ok (.aload_n 2, 1) := by decide +kernel
theorem dL_law_1048 : decode cL_law 1048 = .ok (.aload_n 0, 1) := by decide +kernel
theorem dL_law_1049 : decode cL_law 1049 = .ok (.iload_n 3, 1) := by decide +kernel
theorem dL_law_1050 : decode cL_law 1050 = .ok (.iconst 1, 1) := by decide +kernel
theorem dL_law_1051 : decode cL_law 1051 = .ok (.iadd, 1) := by decide +kernel
theorem dL_law_1052 : decode cL_law 1052 = .ok (.iaload, 1) := by decide +kernel
theorem dL_law_1053 : decode cL_law 1053 = .ok (.aload_n 0, 1) := by decide +kernel
theorem dL_law_1054 : decode cL_law 1054 = .ok (.iload_n 3, 1) := by decide +kernel
theorem dL_law_1055 : decode cL_law 1055 = .ok (.iconst 2, 1) := by decide +kernel
theorem dL_law_1056 : decode cL_law 1056 = .ok (.iadd, 1) := by decide +kernel
theorem dL_law_1057 : decode cL_law 1057 = .ok (.iaload, 1) := by decide +kernel
theorem dL_law_1058 : decode cL_law 1058 = .ok (.aload_n 0, 1) := by decide +kernel
theorem dL_law_1059 : decode cL_law 1059 = .ok (.iload_n 3, 1) := by decide +kernel
theorem dL_law_1060 : decode cL_law 1060 = .ok (.iconst 3, 1) := by decide +kernel
theorem dL_law_1061 : decode cL_law 1061 = .ok (.iadd, 1) := by decide +kernel
theorem dL_law_1062 : decode cL_law 1062 = .ok (.iaload, 1) := by decide +kernel
theorem dL_law_1063 : decode cL_law 1063 = .ok (.aload_n 0, 1) := by decide +kernel
theorem dL_law_1064 : decode cL_law 1064 = .ok (.iload_n 3, 1) := by decide +kernel
theorem dL_law_1065 : decode cL_law 1065 = .ok (.iconst 4, 1) := by decide +kernel
theorem dL_law_1066 : decode cL_law 1066 = .ok (.iadd, 1) := by decide +kernel
theorem dL_law_1067 : decode cL_law 1067 = .ok (.iaload, 1) := by decide +kernel
theorem dL_law_1068 : decode cL_law 1068 = .ok (.invokevirtual 114, 3) := by decide +kernel
theorem dL_law_1071 : decode cL_law 1071 = .ok (.lcmp, 1) := by decide +kernel
theorem dL_law_1072 : decode cL_law 1072 = .ok (.ifCond .eq 5, 3) := by decide +kernel
theorem dL_law_1075 : decode cL_law 1075 = .ok (.iconst 0, 1) := by decide +kernel
theorem dL_law_1076 : decode cL_law 1076 = .ok (.ireturn, 1) := by decide +kernel
theorem dL_law_1077 : decode cL_law 1077 = .ok (.iinc 3 7, 3) := by decide +kernel
theorem dL_law_1080 : decode cL_law 1080 = .ok (.goto (-1062), 3) := by decide +kernel
theorem dL_law_1083 : decode cL_law 1083 = .ok (.iconst 1, 1) := by decide +kernel
theorem dL_law_1084 : decode cL_law 1084 = .ok (.ireturn, 1) := by decide +kernel
theorem nL_7 : lkN (gS, X) RL 7 10 RX11 TX11 10 := ⟨rfl, inX11, (tb_t (k := 18) (w := Cond.classLink RL 7 RX11) (by decide +kernel)), (tb_t (k := 19) (w := Cond.instantiable RX11 10) (by decide +kernel)), (tb_t (k := 1) (w := Cond.initialized RX11) (by decide +kernel))⟩
theorem kL_9 : lkK (gS, X) RL 9 mX11_init 0 ∧ Cond.instanceMethod yX11_init ∈ g_ws (gS, X) ∧ yX11_init.name = "<init>" ∧ mX11_init.2.2.2 = none := ⟨⟨tb_good, (tb_t (k := 20) (w := Cond.methodLink RL 9 yX11_init) (by decide +kernel)), (tb_t (k := 1) (w := Cond.initialized RX11) (by decide +kernel)), (tb_t (k := 22) (w := Cond.code yX11_init cX11_init 1 none) (by decide +kernel)), by decide +kernel, by decide⟩, (tb_t (k := 21) (w := Cond.instanceMethod yX11_init) (by decide +kernel)), rfl, rfl⟩
theorem nL_10 : lkN (gS, X) RL 10 11 RX12 TX12 45 := ⟨rfl, inX12, (tb_t (k := 1128) (w := Cond.classLink RL 10 RX12) (by decide +kernel)), (tb_t (k := 1129) (w := Cond.instantiable RX12 45) (by decide +kernel)), (tb_t (k := 8) (w := Cond.initialized RX12) (by decide +kernel))⟩
theorem kL_12 : lkK (gS, X) RL 12 mX12_init 0 ∧ Cond.instanceMethod yX12_init ∈ g_ws (gS, X) ∧ yX12_init.name = "<init>" ∧ mX12_init.2.2.2 = none := ⟨⟨tb_good, (tb_t (k := 1130) (w := Cond.methodLink RL 12 yX12_init) (by decide +kernel)), (tb_t (k := 8) (w := Cond.initialized RX12) (by decide +kernel)), (tb_t (k := 1132) (w := Cond.code yX12_init cX12_init 1 none) (by decide +kernel)), by decide +kernel, by decide⟩, (tb_t (k := 1131) (w := Cond.instanceMethod yX12_init) (by decide +kernel)), rfl, rfl⟩
theorem kL_13 : lkK (gS, X) RL 13 mX11_begin 2 ∧ Cond.instanceMethod yX11_begin ∈ g_ws (gS, X) ∧ Cond.selects RX11 yX11_begin yX11_begin ∈ g_ws (gS, X) ∧ yX11_begin.cls = RX11 := ⟨⟨tb_good, (tb_t (k := 214) (w := Cond.methodLink RL 13 yX11_begin) (by decide +kernel)), (tb_t (k := 1) (w := Cond.initialized RX11) (by decide +kernel)), (tb_t (k := 217) (w := Cond.code yX11_begin cX11_begin 3 (some .boolean)) (by decide +kernel)), by decide +kernel, by decide⟩, (tb_t (k := 215) (w := Cond.instanceMethod yX11_begin) (by decide +kernel)), (tb_t (k := 216) (w := Cond.selects RX11 yX11_begin yX11_begin) (by decide +kernel)), rfl⟩
theorem kL_17 : lkK (gS, X) RL 17 mX12_begin 2 ∧ Cond.instanceMethod yX12_begin ∈ g_ws (gS, X) ∧ Cond.selects RX12 yX12_begin yX12_begin ∈ g_ws (gS, X) ∧ yX12_begin.cls = RX12 := ⟨⟨tb_good, (tb_t (k := 1276) (w := Cond.methodLink RL 17 yX12_begin) (by decide +kernel)), (tb_t (k := 8) (w := Cond.initialized RX12) (by decide +kernel)), (tb_t (k := 1279) (w := Cond.code yX12_begin cX12_begin 3 (some .boolean)) (by decide +kernel)), by decide +kernel, by decide⟩, (tb_t (k := 1277) (w := Cond.instanceMethod yX12_begin) (by decide +kernel)), (tb_t (k := 1278) (w := Cond.selects RX12 yX12_begin yX12_begin) (by decide +kernel)), rfl⟩
theorem kL_18 : lkK (gS, X) RL 18 mX11_arc 4 ∧ Cond.instanceMethod yX11_arc ∈ g_ws (gS, X) ∧ Cond.selects RX11 yX11_arc yX11_arc ∈ g_ws (gS, X) ∧ yX11_arc.cls = RX11 := ⟨⟨tb_good, (tb_t (k := 222) (w := Cond.methodLink RL 18 yX11_arc) (by decide +kernel)), (tb_t (k := 1) (w := Cond.initialized RX11) (by decide +kernel)), (tb_t (k := 225) (w := Cond.code yX11_arc cX11_arc 6 (some .int)) (by decide +kernel)), by decide +kernel, by decide⟩, (tb_t (k := 223) (w := Cond.instanceMethod yX11_arc) (by decide +kernel)), (tb_t (k := 224) (w := Cond.selects RX11 yX11_arc yX11_arc) (by decide +kernel)), rfl⟩
theorem kL_22 : lkK (gS, X) RL 22 mX12_arc 4 ∧ Cond.instanceMethod yX12_arc ∈ g_ws (gS, X) ∧ Cond.selects RX12 yX12_arc yX12_arc ∈ g_ws (gS, X) ∧ yX12_arc.cls = RX12 := ⟨⟨tb_good, (tb_t (k := 1284) (w := Cond.methodLink RL 22 yX12_arc) (by decide +kernel)), (tb_t (k := 8) (w := Cond.initialized RX12) (by decide +kernel)), (tb_t (k := 1287) (w := Cond.code yX12_arc cX12_arc 6 (some .int)) (by decide +kernel)), by decide +kernel, by decide⟩, (tb_t (k := 1285) (w := Cond.instanceMethod yX12_arc) (by decide +kernel)), (tb_t (k := 1286) (w := Cond.selects RX12 yX12_arc yX12_arc) (by decide +kernel)), rfl⟩
theorem kL_23 : lkK (gS, X) RL 23 mX11_graph 0 ∧ Cond.instanceMethod yX11_graph ∈ g_ws (gS, X) ∧ Cond.selects RX11 yX11_graph yX11_graph ∈ g_ws (gS, X) ∧ yX11_graph.cls = RX11 := ⟨⟨tb_good, (tb_t (k := 240) (w := Cond.methodLink RL 23 yX11_graph) (by decide +kernel)), (tb_t (k := 1) (w := Cond.initialized RX11) (by decide +kernel)), (tb_t (k := 243) (w := Cond.code yX11_graph cX11_graph 1 (some .int)) (by decide +kernel)), by decide +kernel, by decide⟩, (tb_t (k := 241) (w := Cond.instanceMethod yX11_graph) (by decide +kernel)), (tb_t (k := 242) (w := Cond.selects RX11 yX11_graph yX11_graph) (by decide +kernel)), rfl⟩
theorem kL_27 : lkK (gS, X) RL 27 mX12_graph 0 ∧ Cond.instanceMethod yX12_graph ∈ g_ws (gS, X) ∧ Cond.selects RX12 yX12_graph yX12_graph ∈ g_ws (gS, X) ∧ yX12_graph.cls = RX12 := ⟨⟨tb_good, (tb_t (k := 1295) (w := Cond.methodLink RL 27 yX12_graph) (by decide +kernel)), (tb_t (k := 8) (w := Cond.initialized RX12) (by decide +kernel)), (tb_t (k := 1298) (w := Cond.code yX12_graph cX12_graph 1 (some .int)) (by decide +kernel)), by decide +kernel, by decide⟩, (tb_t (k := 1296) (w := Cond.instanceMethod yX12_graph) (by decide +kernel)), (tb_t (k := 1297) (w := Cond.selects RX12 yX12_graph yX12_graph) (by decide +kernel)), rfl⟩
theorem kL_28 : lkK (gS, X) RL 28 mX11_view 3 ∧ Cond.instanceMethod yX11_view ∈ g_ws (gS, X) ∧ Cond.selects RX11 yX11_view yX11_view ∈ g_ws (gS, X) ∧ yX11_view.cls = RX11 := ⟨⟨tb_good, (tb_t (k := 405) (w := Cond.methodLink RL 28 yX11_view) (by decide +kernel)), (tb_t (k := 1) (w := Cond.initialized RX11) (by decide +kernel)), (tb_t (k := 408) (w := Cond.code yX11_view cX11_view 5 (some .int)) (by decide +kernel)), by decide +kernel, by decide⟩, (tb_t (k := 406) (w := Cond.instanceMethod yX11_view) (by decide +kernel)), (tb_t (k := 407) (w := Cond.selects RX11 yX11_view yX11_view) (by decide +kernel)), rfl⟩
theorem kL_32 : lkK (gS, X) RL 32 mX12_view 3 ∧ Cond.instanceMethod yX12_view ∈ g_ws (gS, X) ∧ Cond.selects RX12 yX12_view yX12_view ∈ g_ws (gS, X) ∧ yX12_view.cls = RX12 := ⟨⟨tb_good, (tb_t (k := 1315) (w := Cond.methodLink RL 32 yX12_view) (by decide +kernel)), (tb_t (k := 8) (w := Cond.initialized RX12) (by decide +kernel)), (tb_t (k := 1318) (w := Cond.code yX12_view cX12_view 13 (some .int)) (by decide +kernel)), by decide +kernel, by decide⟩, (tb_t (k := 1316) (w := Cond.instanceMethod yX12_view) (by decide +kernel)), (tb_t (k := 1317) (w := Cond.selects RX12 yX12_view yX12_view) (by decide +kernel)), rfl⟩
theorem kL_33 : lkK (gS, X) RL 33 mX11_join 3 ∧ Cond.instanceMethod yX11_join ∈ g_ws (gS, X) ∧ Cond.selects RX11 yX11_join yX11_join ∈ g_ws (gS, X) ∧ yX11_join.cls = RX11 := ⟨⟨tb_good, (tb_t (k := 491) (w := Cond.methodLink RL 33 yX11_join) (by decide +kernel)), (tb_t (k := 1) (w := Cond.initialized RX11) (by decide +kernel)), (tb_t (k := 494) (w := Cond.code yX11_join cX11_join 4 (some .int)) (by decide +kernel)), by decide +kernel, by decide⟩, (tb_t (k := 492) (w := Cond.instanceMethod yX11_join) (by decide +kernel)), (tb_t (k := 493) (w := Cond.selects RX11 yX11_join yX11_join) (by decide +kernel)), rfl⟩
theorem kL_37 : lkK (gS, X) RL 37 mX12_join 3 ∧ Cond.instanceMethod yX12_join ∈ g_ws (gS, X) ∧ Cond.selects RX12 yX12_join yX12_join ∈ g_ws (gS, X) ∧ yX12_join.cls = RX12 := ⟨⟨tb_good, (tb_t (k := 1350) (w := Cond.methodLink RL 37 yX12_join) (by decide +kernel)), (tb_t (k := 8) (w := Cond.initialized RX12) (by decide +kernel)), (tb_t (k := 1353) (w := Cond.code yX12_join cX12_join 8 (some .int)) (by decide +kernel)), by decide +kernel, by decide⟩, (tb_t (k := 1351) (w := Cond.instanceMethod yX12_join) (by decide +kernel)), (tb_t (k := 1352) (w := Cond.selects RX12 yX12_join yX12_join) (by decide +kernel)), rfl⟩
theorem kL_38 : lkK (gS, X) RL 38 mX11_column 3 ∧ Cond.instanceMethod yX11_column ∈ g_ws (gS, X) ∧ Cond.selects RX11 yX11_column yX11_column ∈ g_ws (gS, X) ∧ yX11_column.cls = RX11 := ⟨⟨tb_good, (tb_t (k := 520) (w := Cond.methodLink RL 38 yX11_column) (by decide +kernel)), (tb_t (k := 1) (w := Cond.initialized RX11) (by decide +kernel)), (tb_t (k := 523) (w := Cond.code yX11_column cX11_column 7 (some .int)) (by decide +kernel)), by decide +kernel, by decide⟩, (tb_t (k := 521) (w := Cond.instanceMethod yX11_column) (by decide +kernel)), (tb_t (k := 522) (w := Cond.selects RX11 yX11_column yX11_column) (by decide +kernel)), rfl⟩
theorem kL_41 : lkK (gS, X) RL 41 mX12_column 3 ∧ Cond.instanceMethod yX12_column ∈ g_ws (gS, X) ∧ Cond.selects RX12 yX12_column yX12_column ∈ g_ws (gS, X) ∧ yX12_column.cls = RX12 := ⟨⟨tb_good, (tb_t (k := 1358) (w := Cond.methodLink RL 41 yX12_column) (by decide +kernel)), (tb_t (k := 8) (w := Cond.initialized RX12) (by decide +kernel)), (tb_t (k := 1361) (w := Cond.code yX12_column cX12_column 6 (some .int)) (by decide +kernel)), by decide +kernel, by decide⟩, (tb_t (k := 1359) (w := Cond.instanceMethod yX12_column) (by decide +kernel)), (tb_t (k := 1360) (w := Cond.selects RX12 yX12_column yX12_column) (by decide +kernel)), rfl⟩
theorem kL_42 : Cond.constantLong RL 42 4294967295 ∈ g_ws (gS, X) := (tb_t (k := 1642) (w := Cond.constantLong RL 42 4294967295) (by decide +kernel))
theorem kL_44 : lkK (gS, X) RL 44 mX11_flat 4 ∧ Cond.instanceMethod yX11_flat ∈ g_ws (gS, X) ∧ Cond.selects RX11 yX11_flat yX11_flat ∈ g_ws (gS, X) ∧ yX11_flat.cls = RX11 := ⟨⟨tb_good, (tb_t (k := 580) (w := Cond.methodLink RL 44 yX11_flat) (by decide +kernel)), (tb_t (k := 1) (w := Cond.initialized RX11) (by decide +kernel)), (tb_t (k := 583) (w := Cond.code yX11_flat cX11_flat 8 (some .int)) (by decide +kernel)), by decide +kernel, by decide⟩, (tb_t (k := 581) (w := Cond.instanceMethod yX11_flat) (by decide +kernel)), (tb_t (k := 582) (w := Cond.selects RX11 yX11_flat yX11_flat) (by decide +kernel)), rfl⟩
theorem kL_48 : lkK (gS, X) RL 48 mX12_flat 4 ∧ Cond.instanceMethod yX12_flat ∈ g_ws (gS, X) ∧ Cond.selects RX12 yX12_flat yX12_flat ∈ g_ws (gS, X) ∧ yX12_flat.cls = RX12 := ⟨⟨tb_good, (tb_t (k := 1398) (w := Cond.methodLink RL 48 yX12_flat) (by decide +kernel)), (tb_t (k := 8) (w := Cond.initialized RX12) (by decide +kernel)), (tb_t (k := 1401) (w := Cond.code yX12_flat cX12_flat 8 (some .int)) (by decide +kernel)), by decide +kernel, by decide⟩, (tb_t (k := 1399) (w := Cond.instanceMethod yX12_flat) (by decide +kernel)), (tb_t (k := 1400) (w := Cond.selects RX12 yX12_flat yX12_flat) (by decide +kernel)), rfl⟩
theorem kL_49 : lkK (gS, X) RL 49 mX11_mix 3 ∧ Cond.instanceMethod yX11_mix ∈ g_ws (gS, X) ∧ Cond.selects RX11 yX11_mix yX11_mix ∈ g_ws (gS, X) ∧ yX11_mix.cls = RX11 := ⟨⟨tb_good, (tb_t (k := 585) (w := Cond.methodLink RL 49 yX11_mix) (by decide +kernel)), (tb_t (k := 1) (w := Cond.initialized RX11) (by decide +kernel)), (tb_t (k := 588) (w := Cond.code yX11_mix cX11_mix 7 (some .int)) (by decide +kernel)), by decide +kernel, by decide⟩, (tb_t (k := 586) (w := Cond.instanceMethod yX11_mix) (by decide +kernel)), (tb_t (k := 587) (w := Cond.selects RX11 yX11_mix yX11_mix) (by decide +kernel)), rfl⟩
theorem kL_52 : lkK (gS, X) RL 52 mX12_mix 3 ∧ Cond.instanceMethod yX12_mix ∈ g_ws (gS, X) ∧ Cond.selects RX12 yX12_mix yX12_mix ∈ g_ws (gS, X) ∧ yX12_mix.cls = RX12 := ⟨⟨tb_good, (tb_t (k := 1402) (w := Cond.methodLink RL 52 yX12_mix) (by decide +kernel)), (tb_t (k := 8) (w := Cond.initialized RX12) (by decide +kernel)), (tb_t (k := 1405) (w := Cond.code yX12_mix cX12_mix 9 (some .int)) (by decide +kernel)), by decide +kernel, by decide⟩, (tb_t (k := 1403) (w := Cond.instanceMethod yX12_mix) (by decide +kernel)), (tb_t (k := 1404) (w := Cond.selects RX12 yX12_mix yX12_mix) (by decide +kernel)), rfl⟩
theorem kL_53 : lkK (gS, X) RL 53 mX11_run 6 ∧ Cond.instanceMethod yX11_run ∈ g_ws (gS, X) ∧ Cond.selects RX11 yX11_run yX11_run ∈ g_ws (gS, X) ∧ yX11_run.cls = RX11 := ⟨⟨tb_good, (tb_t (k := 606) (w := Cond.methodLink RL 53 yX11_run) (by decide +kernel)), (tb_t (k := 1) (w := Cond.initialized RX11) (by decide +kernel)), (tb_t (k := 609) (w := Cond.code yX11_run cX11_run 11 (some .int)) (by decide +kernel)), by decide +kernel, by decide⟩, (tb_t (k := 607) (w := Cond.instanceMethod yX11_run) (by decide +kernel)), (tb_t (k := 608) (w := Cond.selects RX11 yX11_run yX11_run) (by decide +kernel)), rfl⟩
theorem kL_57 : lkK (gS, X) RL 57 mX12_run 6 ∧ Cond.instanceMethod yX12_run ∈ g_ws (gS, X) ∧ Cond.selects RX12 yX12_run yX12_run ∈ g_ws (gS, X) ∧ yX12_run.cls = RX12 := ⟨⟨tb_good, (tb_t (k := 1406) (w := Cond.methodLink RL 57 yX12_run) (by decide +kernel)), (tb_t (k := 8) (w := Cond.initialized RX12) (by decide +kernel)), (tb_t (k := 1409) (w := Cond.code yX12_run cX12_run 10 (some .int)) (by decide +kernel)), by decide +kernel, by decide⟩, (tb_t (k := 1407) (w := Cond.instanceMethod yX12_run) (by decide +kernel)), (tb_t (k := 1408) (w := Cond.selects RX12 yX12_run yX12_run) (by decide +kernel)), rfl⟩
theorem kL_58 : lkK (gS, X) RL 58 mX11_ways 3 ∧ Cond.instanceMethod yX11_ways ∈ g_ws (gS, X) ∧ Cond.selects RX11 yX11_ways yX11_ways ∈ g_ws (gS, X) ∧ yX11_ways.cls = RX11 := ⟨⟨tb_good, (tb_t (k := 621) (w := Cond.methodLink RL 58 yX11_ways) (by decide +kernel)), (tb_t (k := 1) (w := Cond.initialized RX11) (by decide +kernel)), (tb_t (k := 624) (w := Cond.code yX11_ways cX11_ways 5 (some .int)) (by decide +kernel)), by decide +kernel, by decide⟩, (tb_t (k := 622) (w := Cond.instanceMethod yX11_ways) (by decide +kernel)), (tb_t (k := 623) (w := Cond.selects RX11 yX11_ways yX11_ways) (by decide +kernel)), rfl⟩
theorem kL_61 : lkK (gS, X) RL 61 mX12_ways 3 ∧ Cond.instanceMethod yX12_ways ∈ g_ws (gS, X) ∧ Cond.selects RX12 yX12_ways yX12_ways ∈ g_ws (gS, X) ∧ yX12_ways.cls = RX12 := ⟨⟨tb_good, (tb_t (k := 1420) (w := Cond.methodLink RL 61 yX12_ways) (by decide +kernel)), (tb_t (k := 8) (w := Cond.initialized RX12) (by decide +kernel)), (tb_t (k := 1423) (w := Cond.code yX12_ways cX12_ways 9 (some .int)) (by decide +kernel)), by decide +kernel, by decide⟩, (tb_t (k := 1421) (w := Cond.instanceMethod yX12_ways) (by decide +kernel)), (tb_t (k := 1422) (w := Cond.selects RX12 yX12_ways yX12_ways) (by decide +kernel)), rfl⟩
theorem kL_62 : lkK (gS, X) RL 62 mX11_parts 3 ∧ Cond.instanceMethod yX11_parts ∈ g_ws (gS, X) ∧ Cond.selects RX11 yX11_parts yX11_parts ∈ g_ws (gS, X) ∧ yX11_parts.cls = RX11 := ⟨⟨tb_good, (tb_t (k := 694) (w := Cond.methodLink RL 62 yX11_parts) (by decide +kernel)), (tb_t (k := 1) (w := Cond.initialized RX11) (by decide +kernel)), (tb_t (k := 697) (w := Cond.code yX11_parts cX11_parts 5 (some .int)) (by decide +kernel)), by decide +kernel, by decide⟩, (tb_t (k := 695) (w := Cond.instanceMethod yX11_parts) (by decide +kernel)), (tb_t (k := 696) (w := Cond.selects RX11 yX11_parts yX11_parts) (by decide +kernel)), rfl⟩
theorem kL_65 : lkK (gS, X) RL 65 mX12_parts 3 ∧ Cond.instanceMethod yX12_parts ∈ g_ws (gS, X) ∧ Cond.selects RX12 yX12_parts yX12_parts ∈ g_ws (gS, X) ∧ yX12_parts.cls = RX12 := ⟨⟨tb_good, (tb_t (k := 1463) (w := Cond.methodLink RL 65 yX12_parts) (by decide +kernel)), (tb_t (k := 8) (w := Cond.initialized RX12) (by decide +kernel)), (tb_t (k := 1466) (w := Cond.code yX12_parts cX12_parts 10 (some .int)) (by decide +kernel)), by decide +kernel, by decide⟩, (tb_t (k := 1464) (w := Cond.instanceMethod yX12_parts) (by decide +kernel)), (tb_t (k := 1465) (w := Cond.selects RX12 yX12_parts yX12_parts) (by decide +kernel)), rfl⟩
theorem kL_66 : lkK (gS, X) RL 66 mX11_drop 0 ∧ Cond.instanceMethod yX11_drop ∈ g_ws (gS, X) ∧ Cond.selects RX11 yX11_drop yX11_drop ∈ g_ws (gS, X) ∧ yX11_drop.cls = RX11 := ⟨⟨tb_good, (tb_t (k := 753) (w := Cond.methodLink RL 66 yX11_drop) (by decide +kernel)), (tb_t (k := 1) (w := Cond.initialized RX11) (by decide +kernel)), (tb_t (k := 756) (w := Cond.code yX11_drop cX11_drop 1 (some .int)) (by decide +kernel)), by decide +kernel, by decide⟩, (tb_t (k := 754) (w := Cond.instanceMethod yX11_drop) (by decide +kernel)), (tb_t (k := 755) (w := Cond.selects RX11 yX11_drop yX11_drop) (by decide +kernel)), rfl⟩
theorem kL_69 : lkK (gS, X) RL 69 mX12_drop 0 ∧ Cond.instanceMethod yX12_drop ∈ g_ws (gS, X) ∧ Cond.selects RX12 yX12_drop yX12_drop ∈ g_ws (gS, X) ∧ yX12_drop.cls = RX12 := ⟨⟨tb_good, (tb_t (k := 1491) (w := Cond.methodLink RL 69 yX12_drop) (by decide +kernel)), (tb_t (k := 8) (w := Cond.initialized RX12) (by decide +kernel)), (tb_t (k := 1494) (w := Cond.code yX12_drop cX12_drop 1 (some .int)) (by decide +kernel)), by decide +kernel, by decide⟩, (tb_t (k := 1492) (w := Cond.instanceMethod yX12_drop) (by decide +kernel)), (tb_t (k := 1493) (w := Cond.selects RX12 yX12_drop yX12_drop) (by decide +kernel)), rfl⟩
theorem kL_70 : lkK (gS, X) RL 70 mX11_refused 0 ∧ Cond.instanceMethod yX11_refused ∈ g_ws (gS, X) ∧ Cond.selects RX11 yX11_refused yX11_refused ∈ g_ws (gS, X) ∧ yX11_refused.cls = RX11 := ⟨⟨tb_good, (tb_t (k := 757) (w := Cond.methodLink RL 70 yX11_refused) (by decide +kernel)), (tb_t (k := 1) (w := Cond.initialized RX11) (by decide +kernel)), (tb_t (k := 760) (w := Cond.code yX11_refused cX11_refused 1 (some .int)) (by decide +kernel)), by decide +kernel, by decide⟩, (tb_t (k := 758) (w := Cond.instanceMethod yX11_refused) (by decide +kernel)), (tb_t (k := 759) (w := Cond.selects RX11 yX11_refused yX11_refused) (by decide +kernel)), rfl⟩
theorem kL_73 : lkK (gS, X) RL 73 mX12_refused 0 ∧ Cond.instanceMethod yX12_refused ∈ g_ws (gS, X) ∧ Cond.selects RX12 yX12_refused yX12_refused ∈ g_ws (gS, X) ∧ yX12_refused.cls = RX12 := ⟨⟨tb_good, (tb_t (k := 1495) (w := Cond.methodLink RL 73 yX12_refused) (by decide +kernel)), (tb_t (k := 8) (w := Cond.initialized RX12) (by decide +kernel)), (tb_t (k := 1498) (w := Cond.code yX12_refused cX12_refused 1 (some .int)) (by decide +kernel)), by decide +kernel, by decide⟩, (tb_t (k := 1496) (w := Cond.instanceMethod yX12_refused) (by decide +kernel)), (tb_t (k := 1497) (w := Cond.selects RX12 yX12_refused yX12_refused) (by decide +kernel)), rfl⟩
theorem kL_74 : lkK (gS, X) RL 74 mX11_handles 0 ∧ Cond.instanceMethod yX11_handles ∈ g_ws (gS, X) ∧ Cond.selects RX11 yX11_handles yX11_handles ∈ g_ws (gS, X) ∧ yX11_handles.cls = RX11 := ⟨⟨tb_good, (tb_t (k := 761) (w := Cond.methodLink RL 74 yX11_handles) (by decide +kernel)), (tb_t (k := 1) (w := Cond.initialized RX11) (by decide +kernel)), (tb_t (k := 764) (w := Cond.code yX11_handles cX11_handles 1 (some .int)) (by decide +kernel)), by decide +kernel, by decide⟩, (tb_t (k := 762) (w := Cond.instanceMethod yX11_handles) (by decide +kernel)), (tb_t (k := 763) (w := Cond.selects RX11 yX11_handles yX11_handles) (by decide +kernel)), rfl⟩
theorem kL_77 : lkK (gS, X) RL 77 mX12_handles 0 ∧ Cond.instanceMethod yX12_handles ∈ g_ws (gS, X) ∧ Cond.selects RX12 yX12_handles yX12_handles ∈ g_ws (gS, X) ∧ yX12_handles.cls = RX12 := ⟨⟨tb_good, (tb_t (k := 1499) (w := Cond.methodLink RL 77 yX12_handles) (by decide +kernel)), (tb_t (k := 8) (w := Cond.initialized RX12) (by decide +kernel)), (tb_t (k := 1502) (w := Cond.code yX12_handles cX12_handles 1 (some .int)) (by decide +kernel)), by decide +kernel, by decide⟩, (tb_t (k := 1500) (w := Cond.instanceMethod yX12_handles) (by decide +kernel)), (tb_t (k := 1501) (w := Cond.selects RX12 yX12_handles yX12_handles) (by decide +kernel)), rfl⟩
theorem kL_78 : lkK (gS, X) RL 78 mX11_sort 1 ∧ Cond.instanceMethod yX11_sort ∈ g_ws (gS, X) ∧ Cond.selects RX11 yX11_sort yX11_sort ∈ g_ws (gS, X) ∧ yX11_sort.cls = RX11 := ⟨⟨tb_good, (tb_t (k := 765) (w := Cond.methodLink RL 78 yX11_sort) (by decide +kernel)), (tb_t (k := 1) (w := Cond.initialized RX11) (by decide +kernel)), (tb_t (k := 768) (w := Cond.code yX11_sort cX11_sort 3 (some .int)) (by decide +kernel)), by decide +kernel, by decide⟩, (tb_t (k := 766) (w := Cond.instanceMethod yX11_sort) (by decide +kernel)), (tb_t (k := 767) (w := Cond.selects RX11 yX11_sort yX11_sort) (by decide +kernel)), rfl⟩
theorem kL_82 : lkK (gS, X) RL 82 mX12_sort 1 ∧ Cond.instanceMethod yX12_sort ∈ g_ws (gS, X) ∧ Cond.selects RX12 yX12_sort yX12_sort ∈ g_ws (gS, X) ∧ yX12_sort.cls = RX12 := ⟨⟨tb_good, (tb_t (k := 1503) (w := Cond.methodLink RL 82 yX12_sort) (by decide +kernel)), (tb_t (k := 8) (w := Cond.initialized RX12) (by decide +kernel)), (tb_t (k := 1506) (w := Cond.code yX12_sort cX12_sort 2 (some .int)) (by decide +kernel)), by decide +kernel, by decide⟩, (tb_t (k := 1504) (w := Cond.instanceMethod yX12_sort) (by decide +kernel)), (tb_t (k := 1505) (w := Cond.selects RX12 yX12_sort yX12_sort) (by decide +kernel)), rfl⟩
theorem kL_83 : lkK (gS, X) RL 83 mX11_of 3 ∧ Cond.instanceMethod yX11_of ∈ g_ws (gS, X) ∧ Cond.selects RX11 yX11_of yX11_of ∈ g_ws (gS, X) ∧ yX11_of.cls = RX11 := ⟨⟨tb_good, (tb_t (k := 788) (w := Cond.methodLink RL 83 yX11_of) (by decide +kernel)), (tb_t (k := 1) (w := Cond.initialized RX11) (by decide +kernel)), (tb_t (k := 791) (w := Cond.code yX11_of cX11_of 5 (some .int)) (by decide +kernel)), by decide +kernel, by decide⟩, (tb_t (k := 789) (w := Cond.instanceMethod yX11_of) (by decide +kernel)), (tb_t (k := 790) (w := Cond.selects RX11 yX11_of yX11_of) (by decide +kernel)), rfl⟩
theorem kL_86 : lkK (gS, X) RL 86 mX12_of 3 ∧ Cond.instanceMethod yX12_of ∈ g_ws (gS, X) ∧ Cond.selects RX12 yX12_of yX12_of ∈ g_ws (gS, X) ∧ yX12_of.cls = RX12 := ⟨⟨tb_good, (tb_t (k := 1507) (w := Cond.methodLink RL 86 yX12_of) (by decide +kernel)), (tb_t (k := 8) (w := Cond.initialized RX12) (by decide +kernel)), (tb_t (k := 1510) (w := Cond.code yX12_of cX12_of 5 (some .int)) (by decide +kernel)), by decide +kernel, by decide⟩, (tb_t (k := 1508) (w := Cond.instanceMethod yX12_of) (by decide +kernel)), (tb_t (k := 1509) (w := Cond.selects RX12 yX12_of yX12_of) (by decide +kernel)), rfl⟩
theorem kL_87 : lkK (gS, X) RL 87 mX11_at 2 ∧ Cond.instanceMethod yX11_at ∈ g_ws (gS, X) ∧ Cond.selects RX11 yX11_at yX11_at ∈ g_ws (gS, X) ∧ yX11_at.cls = RX11 := ⟨⟨tb_good, (tb_t (k := 796) (w := Cond.methodLink RL 87 yX11_at) (by decide +kernel)), (tb_t (k := 1) (w := Cond.initialized RX11) (by decide +kernel)), (tb_t (k := 799) (w := Cond.code yX11_at cX11_at 4 (some .long)) (by decide +kernel)), by decide +kernel, by decide⟩, (tb_t (k := 797) (w := Cond.instanceMethod yX11_at) (by decide +kernel)), (tb_t (k := 798) (w := Cond.selects RX11 yX11_at yX11_at) (by decide +kernel)), rfl⟩
theorem kL_91 : lkK (gS, X) RL 91 mX12_at 2 ∧ Cond.instanceMethod yX12_at ∈ g_ws (gS, X) ∧ Cond.selects RX12 yX12_at yX12_at ∈ g_ws (gS, X) ∧ yX12_at.cls = RX12 := ⟨⟨tb_good, (tb_t (k := 1511) (w := Cond.methodLink RL 91 yX12_at) (by decide +kernel)), (tb_t (k := 8) (w := Cond.initialized RX12) (by decide +kernel)), (tb_t (k := 1514) (w := Cond.code yX12_at cX12_at 6 (some .long)) (by decide +kernel)), by decide +kernel, by decide⟩, (tb_t (k := 1512) (w := Cond.instanceMethod yX12_at) (by decide +kernel)), (tb_t (k := 1513) (w := Cond.selects RX12 yX12_at yX12_at) (by decide +kernel)), rfl⟩
theorem kL_92 : lkK (gS, X) RL 92 mX11_way 3 ∧ Cond.instanceMethod yX11_way ∈ g_ws (gS, X) ∧ Cond.selects RX11 yX11_way yX11_way ∈ g_ws (gS, X) ∧ yX11_way.cls = RX11 := ⟨⟨tb_good, (tb_t (k := 804) (w := Cond.methodLink RL 92 yX11_way) (by decide +kernel)), (tb_t (k := 1) (w := Cond.initialized RX11) (by decide +kernel)), (tb_t (k := 807) (w := Cond.code yX11_way cX11_way 5 (some .long)) (by decide +kernel)), by decide +kernel, by decide⟩, (tb_t (k := 805) (w := Cond.instanceMethod yX11_way) (by decide +kernel)), (tb_t (k := 806) (w := Cond.selects RX11 yX11_way yX11_way) (by decide +kernel)), rfl⟩
theorem kL_96 : lkK (gS, X) RL 96 mX12_way 3 ∧ Cond.instanceMethod yX12_way ∈ g_ws (gS, X) ∧ Cond.selects RX12 yX12_way yX12_way ∈ g_ws (gS, X) ∧ yX12_way.cls = RX12 := ⟨⟨tb_good, (tb_t (k := 1519) (w := Cond.methodLink RL 96 yX12_way) (by decide +kernel)), (tb_t (k := 8) (w := Cond.initialized RX12) (by decide +kernel)), (tb_t (k := 1522) (w := Cond.code yX12_way cX12_way 5 (some .long)) (by decide +kernel)), by decide +kernel, by decide⟩, (tb_t (k := 1520) (w := Cond.instanceMethod yX12_way) (by decide +kernel)), (tb_t (k := 1521) (w := Cond.selects RX12 yX12_way yX12_way) (by decide +kernel)), rfl⟩
theorem kL_97 : lkK (gS, X) RL 97 mX11_step 3 ∧ Cond.instanceMethod yX11_step ∈ g_ws (gS, X) ∧ Cond.selects RX11 yX11_step yX11_step ∈ g_ws (gS, X) ∧ yX11_step.cls = RX11 := ⟨⟨tb_good, (tb_t (k := 816) (w := Cond.methodLink RL 97 yX11_step) (by decide +kernel)), (tb_t (k := 1) (w := Cond.initialized RX11) (by decide +kernel)), (tb_t (k := 819) (w := Cond.code yX11_step cX11_step 5 (some .int)) (by decide +kernel)), by decide +kernel, by decide⟩, (tb_t (k := 817) (w := Cond.instanceMethod yX11_step) (by decide +kernel)), (tb_t (k := 818) (w := Cond.selects RX11 yX11_step yX11_step) (by decide +kernel)), rfl⟩
theorem kL_100 : lkK (gS, X) RL 100 mX12_step 3 ∧ Cond.instanceMethod yX12_step ∈ g_ws (gS, X) ∧ Cond.selects RX12 yX12_step yX12_step ∈ g_ws (gS, X) ∧ yX12_step.cls = RX12 := ⟨⟨tb_good, (tb_t (k := 1523) (w := Cond.methodLink RL 100 yX12_step) (by decide +kernel)), (tb_t (k := 8) (w := Cond.initialized RX12) (by decide +kernel)), (tb_t (k := 1526) (w := Cond.code yX12_step cX12_step 4 (some .int)) (by decide +kernel)), by decide +kernel, by decide⟩, (tb_t (k := 1524) (w := Cond.instanceMethod yX12_step) (by decide +kernel)), (tb_t (k := 1525) (w := Cond.selects RX12 yX12_step yX12_step) (by decide +kernel)), rfl⟩
theorem kL_101 : lkK (gS, X) RL 101 mX11_part 2 ∧ Cond.instanceMethod yX11_part ∈ g_ws (gS, X) ∧ Cond.selects RX11 yX11_part yX11_part ∈ g_ws (gS, X) ∧ yX11_part.cls = RX11 := ⟨⟨tb_good, (tb_t (k := 824) (w := Cond.methodLink RL 101 yX11_part) (by decide +kernel)), (tb_t (k := 1) (w := Cond.initialized RX11) (by decide +kernel)), (tb_t (k := 827) (w := Cond.code yX11_part cX11_part 4 (some .int)) (by decide +kernel)), by decide +kernel, by decide⟩, (tb_t (k := 825) (w := Cond.instanceMethod yX11_part) (by decide +kernel)), (tb_t (k := 826) (w := Cond.selects RX11 yX11_part yX11_part) (by decide +kernel)), rfl⟩
theorem kL_105 : lkK (gS, X) RL 105 mX12_part 2 ∧ Cond.instanceMethod yX12_part ∈ g_ws (gS, X) ∧ Cond.selects RX12 yX12_part yX12_part ∈ g_ws (gS, X) ∧ yX12_part.cls = RX12 := ⟨⟨tb_good, (tb_t (k := 1527) (w := Cond.methodLink RL 105 yX12_part) (by decide +kernel)), (tb_t (k := 8) (w := Cond.initialized RX12) (by decide +kernel)), (tb_t (k := 1530) (w := Cond.code yX12_part cX12_part 3 (some .int)) (by decide +kernel)), by decide +kernel, by decide⟩, (tb_t (k := 1528) (w := Cond.instanceMethod yX12_part) (by decide +kernel)), (tb_t (k := 1529) (w := Cond.selects RX12 yX12_part yX12_part) (by decide +kernel)), rfl⟩
theorem kL_106 : lkK (gS, X) RL 106 mX11_members 2 ∧ Cond.instanceMethod yX11_members ∈ g_ws (gS, X) ∧ Cond.selects RX11 yX11_members yX11_members ∈ g_ws (gS, X) ∧ yX11_members.cls = RX11 := ⟨⟨tb_good, (tb_t (k := 828) (w := Cond.methodLink RL 106 yX11_members) (by decide +kernel)), (tb_t (k := 1) (w := Cond.initialized RX11) (by decide +kernel)), (tb_t (k := 831) (w := Cond.code yX11_members cX11_members 4 (some .int)) (by decide +kernel)), by decide +kernel, by decide⟩, (tb_t (k := 829) (w := Cond.instanceMethod yX11_members) (by decide +kernel)), (tb_t (k := 830) (w := Cond.selects RX11 yX11_members yX11_members) (by decide +kernel)), rfl⟩
theorem kL_109 : lkK (gS, X) RL 109 mX12_members 2 ∧ Cond.instanceMethod yX12_members ∈ g_ws (gS, X) ∧ Cond.selects RX12 yX12_members yX12_members ∈ g_ws (gS, X) ∧ yX12_members.cls = RX12 := ⟨⟨tb_good, (tb_t (k := 1531) (w := Cond.methodLink RL 109 yX12_members) (by decide +kernel)), (tb_t (k := 8) (w := Cond.initialized RX12) (by decide +kernel)), (tb_t (k := 1534) (w := Cond.code yX12_members cX12_members 5 (some .int)) (by decide +kernel)), by decide +kernel, by decide⟩, (tb_t (k := 1532) (w := Cond.instanceMethod yX12_members) (by decide +kernel)), (tb_t (k := 1533) (w := Cond.selects RX12 yX12_members yX12_members) (by decide +kernel)), rfl⟩
theorem kL_110 : lkK (gS, X) RL 110 mX11_ask 4 ∧ Cond.instanceMethod yX11_ask ∈ g_ws (gS, X) ∧ Cond.selects RX11 yX11_ask yX11_ask ∈ g_ws (gS, X) ∧ yX11_ask.cls = RX11 := ⟨⟨tb_good, (tb_t (k := 832) (w := Cond.methodLink RL 110 yX11_ask) (by decide +kernel)), (tb_t (k := 1) (w := Cond.initialized RX11) (by decide +kernel)), (tb_t (k := 835) (w := Cond.code yX11_ask cX11_ask 6 (some .long)) (by decide +kernel)), by decide +kernel, by decide⟩, (tb_t (k := 833) (w := Cond.instanceMethod yX11_ask) (by decide +kernel)), (tb_t (k := 834) (w := Cond.selects RX11 yX11_ask yX11_ask) (by decide +kernel)), rfl⟩
theorem kL_114 : lkK (gS, X) RL 114 mX12_ask 4 ∧ Cond.instanceMethod yX12_ask ∈ g_ws (gS, X) ∧ Cond.selects RX12 yX12_ask yX12_ask ∈ g_ws (gS, X) ∧ yX12_ask.cls = RX12 := ⟨⟨tb_good, (tb_t (k := 1535) (w := Cond.methodLink RL 114 yX12_ask) (by decide +kernel)), (tb_t (k := 8) (w := Cond.initialized RX12) (by decide +kernel)), (tb_t (k := 1538) (w := Cond.code yX12_ask cX12_ask 9 (some .long)) (by decide +kernel)), by decide +kernel, by decide⟩, (tb_t (k := 1536) (w := Cond.instanceMethod yX12_ask) (by decide +kernel)), (tb_t (k := 1537) (w := Cond.selects RX12 yX12_ask yX12_ask) (by decide +kernel)), rfl⟩
end NM
