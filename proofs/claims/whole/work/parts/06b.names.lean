section NM
variable {X : va_G × List (ClassId × FieldType) × (Nat × Nat × Nat × (Nat → Int32))}
theorem dX12_init_0 : decode cX12_init 0 = .ok (.aload_n 0, 1) := by decide +kernel
theorem dX12_init_1 : decode cX12_init 1 = .ok (.invokespecial 1, 3) := by decide +kernel
theorem dX12_init_4 : decode cX12_init 4 = .ok (.aload_n 0, 1) := by decide +kernel
theorem dX12_init_5 : decode cX12_init 5 = .ok (.bipush 121, 2) := by decide +kernel
theorem dX12_init_7 : decode cX12_init 7 = .ok (.newarray .int, 2) := by decide +kernel
theorem dX12_init_9 : decode cX12_init 9 = .ok (.putfield 7, 3) := by decide +kernel
theorem dX12_init_12 : decode cX12_init 12 = .ok (.aload_n 0, 1) := by decide +kernel
theorem dX12_init_13 : decode cX12_init 13 = .ok (.bipush 121, 2) := by decide +kernel
theorem dX12_init_15 : decode cX12_init 15 = .ok (.newarray .int, 2) := by decide +kernel
theorem dX12_init_17 : decode cX12_init 17 = .ok (.putfield 13, 3) := by decide +kernel
theorem dX12_init_20 : decode cX12_init 20 = .ok (.aload_n 0, 1) := by decide +kernel
theorem dX12_init_21 : decode cX12_init 21 = .ok (.bipush 121, 2) := by decide +kernel
theorem dX12_init_23 : decode cX12_init 23 = .ok (.newarray .boolean, 2) := by decide +kernel
theorem dX12_init_25 : decode cX12_init 25 = .ok (.putfield 16, 3) := by decide +kernel
theorem dX12_init_28 : decode cX12_init 28 = .ok (.aload_n 0, 1) := by decide +kernel
theorem dX12_init_29 : decode cX12_init 29 = .ok (.bipush 121, 2) := by decide +kernel
theorem dX12_init_31 : decode cX12_init 31 = .ok (.newarray .int, 2) := by decide +kernel
theorem dX12_init_33 : decode cX12_init 33 = .ok (.putfield 20, 3) := by decide +kernel
theorem dX12_init_36 : decode cX12_init 36 = .ok (.aload_n 0, 1) := by decide +kernel
theorem dX12_init_37 : decode cX12_init 37 = .ok (.sipush 7260, 3) := by decide +kernel
theorem dX12_init_40 : decode cX12_init 40 = .ok (.newarray .int, 2) := by decide +kernel
theorem dX12_init_42 : decode cX12_init 42 = .ok (.putfield 23, 3) := by decide +kernel
theorem dX12_init_45 : decode cX12_init 45 = .ok (.aload_n 0, 1) := by decide +kernel
theorem dX12_init_46 : decode cX12_init 46 = .ok (.sipush 7260, 3) := by decide +kernel
theorem dX12_init_49 : decode cX12_init 49 = .ok (.newarray .int, 2) := by decide +kernel
theorem dX12_init_51 : decode cX12_init 51 = .ok (.putfield 26, 3) := by decide +kernel
theorem dX12_init_54 : decode cX12_init 54 = .ok (.aload_n 0, 1) := by decide +kernel
theorem dX12_init_55 : decode cX12_init 55 = .ok (.sipush 7260, 3) := by decide +kernel
theorem dX12_init_58 : decode cX12_init 58 = .ok (.newarray .int, 2) := by decide +kernel
theorem dX12_init_60 : decode cX12_init 60 = .ok (.putfield 29, 3) := by decide +kernel
theorem dX12_init_63 : decode cX12_init 63 = .ok (.aload_n 0, 1) := by decide +kernel
theorem dX12_init_64 : decode cX12_init 64 = .ok (.sipush 7260, 3) := by decide +kernel
theorem dX12_init_67 : decode cX12_init 67 = .ok (.newarray .int, 2) := by decide +kernel
theorem dX12_init_69 : decode cX12_init 69 = .ok (.putfield 32, 3) := by decide +kernel
theorem dX12_init_72 : decode cX12_init 72 = .ok (.aload_n 0, 1) := by decide +kernel
theorem dX12_init_73 : decode cX12_init 73 = .ok (.sipush 1936, 3) := by decide +kernel
theorem dX12_init_76 : decode cX12_init 76 = .ok (.newarray .long, 2) := by decide +kernel
theorem dX12_init_78 : decode cX12_init 78 = .ok (.putfield 35, 3) := by decide +kernel
theorem dX12_init_81 : decode cX12_init 81 = .ok (.aload_n 0, 1) := by decide +kernel
theorem dX12_init_82 : decode cX12_init 82 = .ok (.sipush 1936, 3) := by decide +kernel
theorem dX12_init_85 : decode cX12_init 85 = .ok (.newarray .int, 2) := by decide +kernel
theorem dX12_init_87 : decode cX12_init 87 = .ok (.putfield 39, 3) := by decide +kernel
theorem dX12_init_90 : decode cX12_init 90 = .ok (.aload_n 0, 1) := by decide +kernel
theorem dX12_init_91 : decode cX12_init 91 = .ok (.sipush 1936, 3) := by decide +kernel
theorem dX12_init_94 : decode cX12_init 94 = .ok (.newarray .long, 2) := by decide +kernel
theorem dX12_init_96 : decode cX12_init 96 = .ok (.putfield 42, 3) := by decide +kernel
theorem dX12_init_99 : decode cX12_init 99 = .ok (.aload_n 0, 1) := by decide +kernel
theorem dX12_init_100 : decode cX12_init 100 = .ok (.sipush 1936, 3) := by decide +kernel
theorem dX12_init_103 : decode cX12_init 103 = .ok (.newarray .int, 2) := by decide +kernel
theorem dX12_init_105 : decode cX12_init 105 = .ok (.putfield 45, 3) := by decide +kernel
theorem dX12_init_108 : decode cX12_init 108 = .ok (.aload_n 0, 1) := by decide +kernel
theorem dX12_init_109 : decode cX12_init 109 = .ok (.sipush 1936, 3) := by decide +kernel
theorem dX12_init_112 : decode cX12_init 112 = .ok (.newarray .long, 2) := by decide +kernel
theorem dX12_init_114 : decode cX12_init 114 = .ok (.putfield 48, 3) := by decide +kernel
theorem dX12_init_117 : decode cX12_init 117 = .ok (.aload_n 0, 1) := by decide +kernel
theorem dX12_init_118 : decode cX12_init 118 = .ok (.sipush 30976, 3) := by decide +kernel
theorem dX12_init_121 : decode cX12_init 121 = .ok (.newarray .int, 2) := by decide +kernel
theorem dX12_init_123 : decode cX12_init 123 = .ok (.putfield 51, 3) := by decide +kernel
theorem dX12_init_126 : decode cX12_init 126 = .ok (.aload_n 0, 1) := by decide +kernel
theorem dX12_init_127 : decode cX12_init 127 = .ok (.sipush 1936, 3) := by decide +kernel
theorem dX12_init_130 : decode cX12_init 130 = .ok (.newarray .int, 2) := by decide +kernel
theorem dX12_init_132 : decode cX12_init 132 = .ok (.putfield 54, 3) := by decide +kernel
theorem dX12_init_135 : decode cX12_init 135 = .ok (.aload_n 0, 1) := by decide +kernel
theorem dX12_init_136 : decode cX12_init 136 = .ok (.bipush 121, 2) := by decide +kernel
theorem dX12_init_138 : decode cX12_init 138 = .ok (.newarray .int, 2) := by decide +kernel
theorem dX12_init_140 : decode cX12_init 140 = .ok (.putfield 57, 3) := by decide +kernel
theorem dX12_init_143 : decode cX12_init 143 = .ok (.aload_n 0, 1) := by decide +kernel
theorem dX12_init_144 : decode cX12_init 144 = .ok (.sipush 300, 3) := by decide +kernel
theorem dX12_init_147 : decode cX12_init 147 = .ok (.newarray .int, 2) := by decide +kernel
theorem dX12_init_149 : decode cX12_init 149 = .ok (.putfield 60, 3) := by decide +kernel
theorem dX12_init_152 : decode cX12_init 152 = .ok (.aload_n 0, 1) := by decide +kernel
theorem dX12_init_153 : decode cX12_init 153 = .ok (.sipush 300, 3) := by decide +kernel
theorem dX12_init_156 : decode cX12_init 156 = .ok (.newarray .int, 2) := by decide +kernel
theorem dX12_init_158 : decode cX12_init 158 = .ok (.putfield 63, 3) := by decide +kernel
theorem dX12_init_161 : decode cX12_init 161 = .ok (.aload_n 0, 1) := by decide +kernel
theorem dX12_init_162 : decode cX12_init 162 = .ok (.sipush 300, 3) := by decide +kernel
theorem dX12_init_165 : decode cX12_init 165 = .ok (.newarray .int, 2) := by decide +kernel
theorem dX12_init_167 : decode cX12_init 167 = .ok (.putfield 66, 3) := by decide +kernel
theorem dX12_init_170 : decode cX12_init 170 = .ok (.aload_n 0, 1) := by decide +kernel
theorem dX12_init_171 : decode cX12_init 171 = .ok (.sipush 300, 3) := by decide +kernel
theorem dX12_init_174 : decode cX12_init 174 = .ok (.newarray .int, 2) := by decide +kernel
theorem dX12_init_176 : decode cX12_init 176 = .ok (.putfield 69, 3) := by decide +kernel
theorem dX12_init_179 : decode cX12_init 179 = .ok (.aload_n 0, 1) := by decide +kernel
theorem dX12_init_180 : decode cX12_init 180 = .ok (.bipush 16, 2) := by decide +kernel
theorem dX12_init_182 : decode cX12_init 182 = .ok (.newarray .long, 2) := by decide +kernel
theorem dX12_init_184 : decode cX12_init 184 = .ok (.putfield 72, 3) := by decide +kernel
theorem dX12_init_187 : decode cX12_init 187 = .ok (.aload_n 0, 1) := by decide +kernel
theorem dX12_init_188 : decode cX12_init 188 = .ok (.bipush 16, 2) := by decide +kernel
theorem dX12_init_190 : decode cX12_init 190 = .ok (.newarray .long, 2) := by decide +kernel
theorem dX12_init_192 : decode cX12_init 192 = .ok (.putfield 75, 3) := by decide +kernel
theorem dX12_init_195 : decode cX12_init 195 = .ok (.aload_n 0, 1) := by decide +kernel
theorem dX12_init_196 : decode cX12_init 196 = .ok (.bipush 16, 2) := by decide +kernel
theorem dX12_init_198 : decode cX12_init 198 = .ok (.newarray .int, 2) := by decide +kernel
theorem dX12_init_200 : decode cX12_init 200 = .ok (.putfield 78, 3) := by decide +kernel
theorem dX12_init_203 : decode cX12_init 203 = .ok (.aload_n 0, 1) := by decide +kernel
theorem dX12_init_204 : decode cX12_init 204 = .ok (.bipush 16, 2) := by decide +kernel
theorem dX12_init_206 : decode cX12_init 206 = .ok (.newarray .int, 2) := by decide +kernel
theorem dX12_init_208 : decode cX12_init 208 = .ok (.putfield 81, 3) := by decide +kernel
theorem dX12_init_211 : decode cX12_init 211 = .ok (.aload_n 0, 1) := by decide +kernel
theorem dX12_init_212 : decode cX12_init 212 = .ok (.ldc 84, 2) := by decide +kernel
theorem dX12_init_214 : decode cX12_init 214 = .ok (.newarray .boolean, 2) := by decide +kernel
theorem dX12_init_216 : decode cX12_init 216 = .ok (.putfield 85, 3) := by decide +kernel
theorem dX12_init_219 : decode cX12_init 219 = .ok (.aload_n 0, 1) := by decide +kernel
theorem dX12_init_220 : decode cX12_init 220 = .ok (.ldc 84, 2) := by decide +kernel
theorem dX12_init_222 : decode cX12_init 222 = .ok (.newarray .boolean, 2) := by decide +kernel
theorem dX12_init_224 : decode cX12_init 224 = .ok (.putfield 88, 3) := by decide +kernel
theorem dX12_init_227 : decode cX12_init 227 = .ok (.aload_n 0, 1) := by decide +kernel
theorem dX12_init_228 : decode cX12_init 228 = .ok (.sipush 272, 3) := by decide +kernel
theorem dX12_init_231 : decode cX12_init 231 = .ok (.newarray .long, 2) := by decide +kernel
theorem dX12_init_233 : decode cX12_init 233 = .ok (.putfield 91, 3) := by decide +kernel
theorem dX12_init_236 : decode cX12_init 236 = .ok (.aload_n 0, 1) := by decide +kernel
theorem dX12_init_237 : decode cX12_init 237 = .ok (.sipush 272, 3) := by decide +kernel
theorem dX12_init_240 : decode cX12_init 240 = .ok (.newarray .long, 2) := by decide +kernel
theorem dX12_init_242 : decode cX12_init 242 = .ok (.putfield 94, 3) := by decide +kernel
theorem dX12_init_245 : decode cX12_init 245 = .ok (.aload_n 0, 1) := by decide +kernel
theorem dX12_init_246 : decode cX12_init 246 = .ok (.bipush 16, 2) := by decide +kernel
theorem dX12_init_248 : decode cX12_init 248 = .ok (.newarray .long, 2) := by decide +kernel
theorem dX12_init_250 : decode cX12_init 250 = .ok (.putfield 97, 3) := by decide +kernel
theorem dX12_init_253 : decode cX12_init 253 = .ok (.aload_n 0, 1) := by decide +kernel
theorem dX12_init_254 : decode cX12_init 254 = .ok (.bipush 16, 2) := by decide +kernel
theorem dX12_init_256 : decode cX12_init 256 = .ok (.newarray .long, 2) := by decide +kernel
theorem dX12_init_258 : decode cX12_init 258 = .ok (.putfield 100, 3) := by decide +kernel
theorem dX12_init_261 : decode cX12_init 261 = .ok (.aload_n 0, 1) := by decide +kernel
theorem dX12_init_262 : decode cX12_init 262 = .ok (.bipush 16, 2) := by decide +kernel
theorem dX12_init_264 : decode cX12_init 264 = .ok (.newarray .int, 2) := by decide +kernel
theorem dX12_init_266 : decode cX12_init 266 = .ok (.putfield 103, 3) := by decide +kernel
theorem dX12_init_269 : decode cX12_init 269 = .ok (.aload_n 0, 1) := by decide +kernel
theorem dX12_init_270 : decode cX12_init 270 = .ok (.bipush 60, 2) := by decide +kernel
theorem dX12_init_272 : decode cX12_init 272 = .ok (.newarray .boolean, 2) := by decide +kernel
theorem dX12_init_274 : decode cX12_init 274 = .ok (.putfield 106, 3) := by decide +kernel
theorem dX12_init_277 : decode cX12_init 277 = .ok (.aload_n 0, 1) := by decide +kernel
theorem dX12_init_278 : decode cX12_init 278 = .ok (.bipush 16, 2) := by decide +kernel
theorem dX12_init_280 : decode cX12_init 280 = .ok (.newarray .int, 2) := by decide +kernel
theorem dX12_init_282 : decode cX12_init 282 = .ok (.putfield 109, 3) := by decide +kernel
theorem dX12_init_285 : decode cX12_init 285 = .ok (.aload_n 0, 1) := by decide +kernel
theorem dX12_init_286 : decode cX12_init 286 = .ok (.bipush 16, 2) := by decide +kernel
theorem dX12_init_288 : decode cX12_init 288 = .ok (.newarray .int, 2) := by decide +kernel
theorem dX12_init_290 : decode cX12_init 290 = .ok (.putfield 112, 3) := by decide +kernel
theorem dX12_init_293 : decode cX12_init 293 = .ok (.aload_n 0, 1) := by decide +kernel
theorem dX12_init_294 : decode cX12_init 294 = .ok (.ldc 84, 2) := by decide +kernel
theorem dX12_init_296 : decode cX12_init 296 = .ok (.newarray .int, 2) := by decide +kernel
theorem dX12_init_298 : decode cX12_init 298 = .ok (.putfield 115, 3) := by decide +kernel
theorem dX12_init_301 : decode cX12_init 301 = .ok (.aload_n 0, 1) := by decide +kernel
theorem dX12_init_302 : decode cX12_init 302 = .ok (.ldc 84, 2) := by decide +kernel
theorem dX12_init_304 : decode cX12_init 304 = .ok (.newarray .long, 2) := by decide +kernel
theorem dX12_init_306 : decode cX12_init 306 = .ok (.putfield 118, 3) := by decide +kernel
theorem dX12_init_309 : decode cX12_init 309 = .ok (.aload_n 0, 1) := by decide +kernel
theorem dX12_init_310 : decode cX12_init 310 = .ok (.bipush 16, 2) := by decide +kernel
theorem dX12_init_312 : decode cX12_init 312 = .ok (.newarray .int, 2) := by decide +kernel
theorem dX12_init_314 : decode cX12_init 314 = .ok (.putfield 121, 3) := by decide +kernel
theorem dX12_init_317 : decode cX12_init 317 = .ok (.aload_n 0, 1) := by decide +kernel
theorem dX12_init_318 : decode cX12_init 318 = .ok (.bipush 60, 2) := by decide +kernel
theorem dX12_init_320 : decode cX12_init 320 = .ok (.newarray .int, 2) := by decide +kernel
theorem dX12_init_322 : decode cX12_init 322 = .ok (.putfield 124, 3) := by decide +kernel
theorem dX12_init_325 : decode cX12_init 325 = .ok (.aload_n 0, 1) := by decide +kernel
theorem dX12_init_326 : decode cX12_init 326 = .ok (.bipush 16, 2) := by decide +kernel
theorem dX12_init_328 : decode cX12_init 328 = .ok (.newarray .long, 2) := by decide +kernel
theorem dX12_init_330 : decode cX12_init 330 = .ok (.putfield 127, 3) := by decide +kernel
theorem dX12_init_333 : decode cX12_init 333 = .ok (.aload_n 0, 1) := by decide +kernel
theorem dX12_init_334 : decode cX12_init 334 = .ok (.bipush 16, 2) := by decide +kernel
theorem dX12_init_336 : decode cX12_init 336 = .ok (.newarray .int, 2) := by decide +kernel
theorem dX12_init_338 : decode cX12_init 338 = .ok (.putfield 130, 3) := by decide +kernel
theorem dX12_init_341 : decode cX12_init 341 = .ok (.aload_n 0, 1) := by decide +kernel
theorem dX12_init_342 : decode cX12_init 342 = .ok (.bipush 16, 2) := by decide +kernel
theorem dX12_init_344 : decode cX12_init 344 = .ok (.newarray .boolean, 2) := by decide +kernel
theorem dX12_init_346 : decode cX12_init 346 = .ok (.putfield 133, 3) := by decide +kernel
theorem dX12_init_349 : decode cX12_init 349 = .ok (.aload_n 0, 1) := by decide +kernel
theorem dX12_init_350 : decode cX12_init 350 = .ok (.bipush 16, 2) := by decide +kernel
theorem dX12_init_352 : decode cX12_init 352 = .ok (.newarray .int, 2) := by decide +kernel
theorem dX12_init_354 : decode cX12_init 354 = .ok (.putfield 136, 3) := by decide +kernel
theorem dX12_init_357 : decode cX12_init 357 = .ok (.aload_n 0, 1) := by decide +kernel
theorem dX12_init_358 : decode cX12_init 358 = .ok (.invokevirtual 139, 3) := by decide +kernel
theorem dX12_init_361 : decode cX12_init 361 = .ok (.return_, 1) := by decide +kernel
theorem kX12_1 : Cond.methodLink RX12 1 objectInit ∈ g_ws (gS, X) ∧ Cond.instanceMethod objectInit ∈ g_ws (gS, X) ∧ Cond.code objectInit ⟨#[0xb1]⟩ 1 none ∈ g_ws (gS, X) := ⟨(tb_t (k := 1133) (w := Cond.methodLink RX12 1 objectInit) (by decide +kernel)), (tb_t (k := 24) (w := Cond.instanceMethod objectInit) (by decide +kernel)), (tb_t (k := 25) (w := Cond.code objectInit ⟨#[0xb1]⟩ 1 none) (by decide +kernel))⟩
theorem fX12_7 : lkF (gS, X) RX12 7 11 2 "GraphEngineModel" RX12 TX12 45 := ⟨rfl, inX12, by decide, (tb_t (k := 1141) (w := Cond.fieldLink RX12 7 "GraphEngineModel" "sorts" "[I") (by decide +kernel)), Or.inl rfl⟩
theorem fX12_13 : lkF (gS, X) RX12 13 11 3 "GraphEngineModel" RX12 TX12 45 := ⟨rfl, inX12, by decide, (tb_t (k := 1142) (w := Cond.fieldLink RX12 13 "GraphEngineModel" "sizes" "[I") (by decide +kernel)), Or.inl rfl⟩
theorem fX12_16 : lkF (gS, X) RX12 16 11 4 "GraphEngineModel" RX12 TX12 45 := ⟨rfl, inX12, by decide, (tb_t (k := 1143) (w := Cond.fieldLink RX12 16 "GraphEngineModel" "directs" "[Z") (by decide +kernel)), Or.inl rfl⟩
theorem fX12_20 : lkF (gS, X) RX12 20 11 5 "GraphEngineModel" RX12 TX12 45 := ⟨rfl, inX12, by decide, (tb_t (k := 1144) (w := Cond.fieldLink RX12 20 "GraphEngineModel" "many" "[I") (by decide +kernel)), Or.inl rfl⟩
theorem fX12_23 : lkF (gS, X) RX12 23 11 6 "GraphEngineModel" RX12 TX12 45 := ⟨rfl, inX12, by decide, (tb_t (k := 1145) (w := Cond.fieldLink RX12 23 "GraphEngineModel" "from" "[I") (by decide +kernel)), Or.inl rfl⟩
theorem fX12_26 : lkF (gS, X) RX12 26 11 7 "GraphEngineModel" RX12 TX12 45 := ⟨rfl, inX12, by decide, (tb_t (k := 1146) (w := Cond.fieldLink RX12 26 "GraphEngineModel" "to" "[I") (by decide +kernel)), Or.inl rfl⟩
theorem fX12_29 : lkF (gS, X) RX12 29 11 8 "GraphEngineModel" RX12 TX12 45 := ⟨rfl, inX12, by decide, (tb_t (k := 1147) (w := Cond.fieldLink RX12 29 "GraphEngineModel" "weight" "[I") (by decide +kernel)), Or.inl rfl⟩
theorem fX12_32 : lkF (gS, X) RX12 32 11 9 "GraphEngineModel" RX12 TX12 45 := ⟨rfl, inX12, by decide, (tb_t (k := 1148) (w := Cond.fieldLink RX12 32 "GraphEngineModel" "cost" "[I") (by decide +kernel)), Or.inl rfl⟩
theorem fX12_35 : lkF (gS, X) RX12 35 11 10 "GraphEngineModel" RX12 TX12 45 := ⟨rfl, inX12, by decide, (tb_t (k := 1149) (w := Cond.fieldLink RX12 35 "GraphEngineModel" "numbers" "[J") (by decide +kernel)), Or.inl rfl⟩
theorem fX12_39 : lkF (gS, X) RX12 39 11 11 "GraphEngineModel" RX12 TX12 45 := ⟨rfl, inX12, by decide, (tb_t (k := 1150) (w := Cond.fieldLink RX12 39 "GraphEngineModel" "state" "[I") (by decide +kernel)), Or.inl rfl⟩
theorem fX12_42 : lkF (gS, X) RX12 42 11 12 "GraphEngineModel" RX12 TX12 45 := ⟨rfl, inX12, by decide, (tb_t (k := 1151) (w := Cond.fieldLink RX12 42 "GraphEngineModel" "worth" "[J") (by decide +kernel)), Or.inl rfl⟩
theorem fX12_45 : lkF (gS, X) RX12 45 11 13 "GraphEngineModel" RX12 TX12 45 := ⟨rfl, inX12, by decide, (tb_t (k := 1152) (w := Cond.fieldLink RX12 45 "GraphEngineModel" "long1" "[I") (by decide +kernel)), Or.inl rfl⟩
theorem fX12_48 : lkF (gS, X) RX12 48 11 14 "GraphEngineModel" RX12 TX12 45 := ⟨rfl, inX12, by decide, (tb_t (k := 1153) (w := Cond.fieldLink RX12 48 "GraphEngineModel" "howMany" "[J") (by decide +kernel)), Or.inl rfl⟩
theorem fX12_51 : lkF (gS, X) RX12 51 11 15 "GraphEngineModel" RX12 TX12 45 := ⟨rfl, inX12, by decide, (tb_t (k := 1154) (w := Cond.fieldLink RX12 51 "GraphEngineModel" "rows" "[I") (by decide +kernel)), Or.inl rfl⟩
theorem fX12_54 : lkF (gS, X) RX12 54 11 16 "GraphEngineModel" RX12 TX12 45 := ⟨rfl, inX12, by decide, (tb_t (k := 1155) (w := Cond.fieldLink RX12 54 "GraphEngineModel" "inPart" "[I") (by decide +kernel)), Or.inl rfl⟩
theorem fX12_57 : lkF (gS, X) RX12 57 11 17 "GraphEngineModel" RX12 TX12 45 := ⟨rfl, inX12, by decide, (tb_t (k := 1156) (w := Cond.fieldLink RX12 57 "GraphEngineModel" "partCount" "[I") (by decide +kernel)), Or.inl rfl⟩
theorem fX12_60 : lkF (gS, X) RX12 60 11 18 "GraphEngineModel" RX12 TX12 45 := ⟨rfl, inX12, by decide, (tb_t (k := 1157) (w := Cond.fieldLink RX12 60 "GraphEngineModel" "nf" "[I") (by decide +kernel)), Or.inl rfl⟩
theorem fX12_63 : lkF (gS, X) RX12 63 11 19 "GraphEngineModel" RX12 TX12 45 := ⟨rfl, inX12, by decide, (tb_t (k := 1158) (w := Cond.fieldLink RX12 63 "GraphEngineModel" "nt" "[I") (by decide +kernel)), Or.inl rfl⟩
theorem fX12_66 : lkF (gS, X) RX12 66 11 20 "GraphEngineModel" RX12 TX12 45 := ⟨rfl, inX12, by decide, (tb_t (k := 1159) (w := Cond.fieldLink RX12 66 "GraphEngineModel" "nw" "[I") (by decide +kernel)), Or.inl rfl⟩
theorem fX12_69 : lkF (gS, X) RX12 69 11 21 "GraphEngineModel" RX12 TX12 45 := ⟨rfl, inX12, by decide, (tb_t (k := 1160) (w := Cond.fieldLink RX12 69 "GraphEngineModel" "nc" "[I") (by decide +kernel)), Or.inl rfl⟩
theorem fX12_72 : lkF (gS, X) RX12 72 11 23 "GraphEngineModel" RX12 TX12 45 := ⟨rfl, inX12, by decide, (tb_t (k := 1162) (w := Cond.fieldLink RX12 72 "GraphEngineModel" "column" "[J") (by decide +kernel)), Or.inl rfl⟩
theorem fX12_75 : lkF (gS, X) RX12 75 11 24 "GraphEngineModel" RX12 TX12 45 := ⟨rfl, inX12, by decide, (tb_t (k := 1163) (w := Cond.fieldLink RX12 75 "GraphEngineModel" "next" "[J") (by decide +kernel)), Or.inl rfl⟩
theorem fX12_78 : lkF (gS, X) RX12 78 11 25 "GraphEngineModel" RX12 TX12 45 := ⟨rfl, inX12, by decide, (tb_t (k := 1164) (w := Cond.fieldLink RX12 78 "GraphEngineModel" "inside" "[I") (by decide +kernel)), Or.inl rfl⟩
theorem fX12_81 : lkF (gS, X) RX12 81 11 26 "GraphEngineModel" RX12 TX12 45 := ⟨rfl, inX12, by decide, (tb_t (k := 1165) (w := Cond.fieldLink RX12 81 "GraphEngineModel" "beside" "[I") (by decide +kernel)), Or.inl rfl⟩
theorem kX12_84 : Cond.constant RX12 84 65536 ∈ g_ws (gS, X) := (tb_t (k := 1134) (w := Cond.constant RX12 84 65536) (by decide +kernel))
theorem fX12_85 : lkF (gS, X) RX12 85 11 27 "GraphEngineModel" RX12 TX12 45 := ⟨rfl, inX12, by decide, (tb_t (k := 1166) (w := Cond.fieldLink RX12 85 "GraphEngineModel" "solid" "[Z") (by decide +kernel)), Or.inl rfl⟩
theorem fX12_88 : lkF (gS, X) RX12 88 11 28 "GraphEngineModel" RX12 TX12 45 := ⟨rfl, inX12, by decide, (tb_t (k := 1167) (w := Cond.fieldLink RX12 88 "GraphEngineModel" "below" "[Z") (by decide +kernel)), Or.inl rfl⟩
theorem fX12_91 : lkF (gS, X) RX12 91 11 29 "GraphEngineModel" RX12 TX12 45 := ⟨rfl, inX12, by decide, (tb_t (k := 1168) (w := Cond.fieldLink RX12 91 "GraphEngineModel" "best" "[J") (by decide +kernel)), Or.inl rfl⟩
theorem fX12_94 : lkF (gS, X) RX12 94 11 30 "GraphEngineModel" RX12 TX12 45 := ⟨rfl, inX12, by decide, (tb_t (k := 1169) (w := Cond.fieldLink RX12 94 "GraphEngineModel" "ways1" "[J") (by decide +kernel)), Or.inl rfl⟩
theorem fX12_97 : lkF (gS, X) RX12 97 11 31 "GraphEngineModel" RX12 TX12 45 := ⟨rfl, inX12, by decide, (tb_t (k := 1170) (w := Cond.fieldLink RX12 97 "GraphEngineModel" "round" "[J") (by decide +kernel)), Or.inl rfl⟩
theorem fX12_100 : lkF (gS, X) RX12 100 11 32 "GraphEngineModel" RX12 TX12 45 := ⟨rfl, inX12, by decide, (tb_t (k := 1171) (w := Cond.fieldLink RX12 100 "GraphEngineModel" "round2" "[J") (by decide +kernel)), Or.inl rfl⟩
theorem fX12_103 : lkF (gS, X) RX12 103 11 33 "GraphEngineModel" RX12 TX12 45 := ⟨rfl, inX12, by decide, (tb_t (k := 1172) (w := Cond.fieldLink RX12 103 "GraphEngineModel" "label" "[I") (by decide +kernel)), Or.inl rfl⟩
theorem fX12_106 : lkF (gS, X) RX12 106 11 34 "GraphEngineModel" RX12 TX12 45 := ⟨rfl, inX12, by decide, (tb_t (k := 1173) (w := Cond.fieldLink RX12 106 "GraphEngineModel" "bridge" "[Z") (by decide +kernel)), Or.inl rfl⟩
theorem fX12_109 : lkF (gS, X) RX12 109 11 35 "GraphEngineModel" RX12 TX12 45 := ⟨rfl, inX12, by decide, (tb_t (k := 1174) (w := Cond.fieldLink RX12 109 "GraphEngineModel" "outs" "[I") (by decide +kernel)), Or.inl rfl⟩
theorem fX12_112 : lkF (gS, X) RX12 112 11 36 "GraphEngineModel" RX12 TX12 45 := ⟨rfl, inX12, by decide, (tb_t (k := 1175) (w := Cond.fieldLink RX12 112 "GraphEngineModel" "ins" "[I") (by decide +kernel)), Or.inl rfl⟩
theorem fX12_115 : lkF (gS, X) RX12 115 11 37 "GraphEngineModel" RX12 TX12 45 := ⟨rfl, inX12, by decide, (tb_t (k := 1176) (w := Cond.fieldLink RX12 115 "GraphEngineModel" "least" "[I") (by decide +kernel)), Or.inl rfl⟩
theorem fX12_118 : lkF (gS, X) RX12 118 11 38 "GraphEngineModel" RX12 TX12 45 := ⟨rfl, inX12, by decide, (tb_t (k := 1177) (w := Cond.fieldLink RX12 118 "GraphEngineModel" "spans" "[J") (by decide +kernel)), Or.inl rfl⟩
theorem fX12_121 : lkF (gS, X) RX12 121 11 39 "GraphEngineModel" RX12 TX12 45 := ⟨rfl, inX12, by decide, (tb_t (k := 1178) (w := Cond.fieldLink RX12 121 "GraphEngineModel" "joinedWith" "[I") (by decide +kernel)), Or.inl rfl⟩
theorem fX12_124 : lkF (gS, X) RX12 124 11 40 "GraphEngineModel" RX12 TX12 45 := ⟨rfl, inX12, by decide, (tb_t (k := 1179) (w := Cond.fieldLink RX12 124 "GraphEngineModel" "gone" "[I") (by decide +kernel)), Or.inl rfl⟩
theorem fX12_127 : lkF (gS, X) RX12 127 11 41 "GraphEngineModel" RX12 TX12 45 := ⟨rfl, inX12, by decide, (tb_t (k := 1180) (w := Cond.fieldLink RX12 127 "GraphEngineModel" "dear" "[J") (by decide +kernel)), Or.inl rfl⟩
theorem fX12_130 : lkF (gS, X) RX12 130 11 42 "GraphEngineModel" RX12 TX12 45 := ⟨rfl, inX12, by decide, (tb_t (k := 1181) (w := Cond.fieldLink RX12 130 "GraphEngineModel" "by" "[I") (by decide +kernel)), Or.inl rfl⟩
theorem fX12_133 : lkF (gS, X) RX12 133 11 43 "GraphEngineModel" RX12 TX12 45 := ⟨rfl, inX12, by decide, (tb_t (k := 1182) (w := Cond.fieldLink RX12 133 "GraphEngineModel" "ahead" "[Z") (by decide +kernel)), Or.inl rfl⟩
theorem fX12_136 : lkF (gS, X) RX12 136 11 44 "GraphEngineModel" RX12 TX12 45 := ⟨rfl, inX12, by decide, (tb_t (k := 1183) (w := Cond.fieldLink RX12 136 "GraphEngineModel" "image" "[I") (by decide +kernel)), Or.inl rfl⟩
theorem kX12_139 : lkK (gS, X) RX12 139 mX12_init_ 0 ∧ Cond.instanceMethod yX12_init_ ∈ g_ws (gS, X) ∧ Cond.selects RX12 yX12_init_ yX12_init_ ∈ g_ws (gS, X) ∧ yX12_init_.cls = RX12 := ⟨⟨tb_good, (tb_t (k := 1135) (w := Cond.methodLink RX12 139 yX12_init_) (by decide +kernel)), (tb_t (k := 8) (w := Cond.initialized RX12) (by decide +kernel)), (tb_t (k := 1138) (w := Cond.code yX12_init_ cX12_init_ 1 none) (by decide +kernel)), by decide +kernel, by decide⟩, (tb_t (k := 1136) (w := Cond.instanceMethod yX12_init_) (by decide +kernel)), (tb_t (k := 1137) (w := Cond.selects RX12 yX12_init_ yX12_init_) (by decide +kernel)), rfl⟩
theorem dX12_init__0 : decode cX12_init_ 0 = .ok (.aload_n 0, 1) := by decide +kernel
theorem dX12_init__1 : decode cX12_init_ 1 = .ok (.iconst 0, 1) := by decide +kernel
theorem dX12_init__2 : decode cX12_init_ 2 = .ok (.putfield 142, 3) := by decide +kernel
theorem dX12_init__5 : decode cX12_init_ 5 = .ok (.aload_n 0, 1) := by decide +kernel
theorem dX12_init__6 : decode cX12_init_ 6 = .ok (.iconst 0, 1) := by decide +kernel
theorem dX12_init__7 : decode cX12_init_ 7 = .ok (.putfield 146, 3) := by decide +kernel
theorem dX12_init__10 : decode cX12_init_ 10 = .ok (.aload_n 0, 1) := by decide +kernel
theorem dX12_init__11 : decode cX12_init_ 11 = .ok (.getfield 13, 3) := by decide +kernel
theorem dX12_init__14 : decode cX12_init_ 14 = .ok (.bipush 120, 2) := by decide +kernel
theorem dX12_init__16 : decode cX12_init_ 16 = .ok (.iconst 1, 1) := by decide +kernel
theorem dX12_init__17 : decode cX12_init_ 17 = .ok (.iastore, 1) := by decide +kernel
theorem dX12_init__18 : decode cX12_init_ 18 = .ok (.aload_n 0, 1) := by decide +kernel
theorem dX12_init__19 : decode cX12_init_ 19 = .ok (.getfield 16, 3) := by decide +kernel
theorem dX12_init__22 : decode cX12_init_ 22 = .ok (.bipush 120, 2) := by decide +kernel
theorem dX12_init__24 : decode cX12_init_ 24 = .ok (.iconst 0, 1) := by decide +kernel
theorem dX12_init__25 : decode cX12_init_ 25 = .ok (.bastore, 1) := by decide +kernel
theorem dX12_init__26 : decode cX12_init_ 26 = .ok (.aload_n 0, 1) := by decide +kernel
theorem dX12_init__27 : decode cX12_init_ 27 = .ok (.getfield 20, 3) := by decide +kernel
theorem dX12_init__30 : decode cX12_init_ 30 = .ok (.bipush 120, 2) := by decide +kernel
theorem dX12_init__32 : decode cX12_init_ 32 = .ok (.iconst 0, 1) := by decide +kernel
theorem dX12_init__33 : decode cX12_init_ 33 = .ok (.iastore, 1) := by decide +kernel
theorem dX12_init__34 : decode cX12_init_ 34 = .ok (.return_, 1) := by decide +kernel
theorem fX12_142 : lkF (gS, X) RX12 142 11 0 "GraphEngineModel" RX12 TX12 45 := ⟨rfl, inX12, by decide, (tb_t (k := 1139) (w := Cond.fieldLink RX12 142 "GraphEngineModel" "refusal" "I") (by decide +kernel)), Or.inl rfl⟩
theorem fX12_146 : lkF (gS, X) RX12 146 11 1 "GraphEngineModel" RX12 TX12 45 := ⟨rfl, inX12, by decide, (tb_t (k := 1140) (w := Cond.fieldLink RX12 146 "GraphEngineModel" "count" "I") (by decide +kernel)), Or.inl rfl⟩
theorem dX12_refuse_0 : decode cX12_refuse 0 = .ok (.aload_n 0, 1) := by decide +kernel
theorem dX12_refuse_1 : decode cX12_refuse 1 = .ok (.iload_n 1, 1) := by decide +kernel
theorem dX12_refuse_2 : decode cX12_refuse 2 = .ok (.putfield 142, 3) := by decide +kernel
theorem dX12_refuse_5 : decode cX12_refuse 5 = .ok (.iload_n 1, 1) := by decide +kernel
theorem dX12_refuse_6 : decode cX12_refuse 6 = .ok (.ireturn, 1) := by decide +kernel
theorem dX12_isThere_0 : decode cX12_isThere 0 = .ok (.iload_n 1, 1) := by decide +kernel
theorem dX12_isThere_1 : decode cX12_isThere 1 = .ok (.ifCond .lt 15, 3) := by decide +kernel
theorem dX12_isThere_4 : decode cX12_isThere 4 = .ok (.iload_n 1, 1) := by decide +kernel
theorem dX12_isThere_5 : decode cX12_isThere 5 = .ok (.aload_n 0, 1) := by decide +kernel
theorem dX12_isThere_6 : decode cX12_isThere 6 = .ok (.getfield 146, 3) := by decide +kernel
theorem dX12_isThere_9 : decode cX12_isThere 9 = .ok (.if_icmp .ge 7, 3) := by decide +kernel
theorem dX12_isThere_12 : decode cX12_isThere 12 = .ok (.iconst 1, 1) := by decide +kernel
theorem dX12_isThere_13 : decode cX12_isThere 13 = .ok (.goto 4, 3) := by decide +kernel
theorem dX12_isThere_16 : decode cX12_isThere 16 = .ok (.iconst 0, 1) := by decide +kernel
theorem dX12_isThere_17 : decode cX12_isThere 17 = .ok (.ireturn, 1) := by decide +kernel
theorem dX12_has_0 : decode cX12_has 0 = .ok (.aload_n 0, 1) := by decide +kernel
theorem dX12_has_1 : decode cX12_has 1 = .ok (.aload_n 0, 1) := by decide +kernel
theorem dX12_has_2 : decode cX12_has 2 = .ok (.iload_n 1, 1) := by decide +kernel
theorem dX12_has_3 : decode cX12_has 3 = .ok (.invokevirtual 149, 3) := by decide +kernel
theorem dX12_has_6 : decode cX12_has 6 = .ok (.ifCond .ne 7, 3) := by decide +kernel
theorem dX12_has_9 : decode cX12_has 9 = .ok (.iconst (-1), 1) := by decide +kernel
theorem dX12_has_10 : decode cX12_has 10 = .ok (.goto 19, 3) := by decide +kernel
theorem dX12_has_13 : decode cX12_has 13 = .ok (.aload_n 0, 1) := by decide +kernel
theorem dX12_has_14 : decode cX12_has 14 = .ok (.getfield 7, 3) := by decide +kernel
theorem dX12_has_17 : decode cX12_has 17 = .ok (.iload_n 1, 1) := by decide +kernel
theorem dX12_has_18 : decode cX12_has 18 = .ok (.iaload, 1) := by decide +kernel
theorem dX12_has_19 : decode cX12_has 19 = .ok (.iload_n 2, 1) := by decide +kernel
theorem dX12_has_20 : decode cX12_has 20 = .ok (.if_icmp .eq 8, 3) := by decide +kernel
theorem dX12_has_23 : decode cX12_has 23 = .ok (.bipush (-2), 2) := by decide +kernel
theorem dX12_has_25 : decode cX12_has 25 = .ok (.goto 4, 3) := by decide +kernel
theorem dX12_has_28 : decode cX12_has 28 = .ok (.iconst 0, 1) := by decide +kernel
theorem dX12_has_29 : decode cX12_has 29 = .ok (.putfield 142, 3) := by decide +kernel
theorem dX12_has_32 : decode cX12_has 32 = .ok (.aload_n 0, 1) := by decide +kernel
theorem dX12_has_33 : decode cX12_has 33 = .ok (.getfield 142, 3) := by decide +kernel
theorem dX12_has_36 : decode cX12_has 36 = .ok (.ifCond .ne 7, 3) := by decide +kernel
theorem dX12_has_39 : decode cX12_has 39 = .ok (.iconst 1, 1) := by decide +kernel
theorem dX12_has_40 : decode cX12_has 40 = .ok (.goto 4, 3) := by decide +kernel
theorem dX12_has_43 : decode cX12_has 43 = .ok (.iconst 0, 1) := by decide +kernel
theorem dX12_has_44 : decode cX12_has 44 = .ok (.ireturn, 1) := by decide +kernel
theorem kX12_149 : lkK (gS, X) RX12 149 mX12_isThere 1 ∧ Cond.instanceMethod yX12_isThere ∈ g_ws (gS, X) ∧ Cond.selects RX12 yX12_isThere yX12_isThere ∈ g_ws (gS, X) ∧ yX12_isThere.cls = RX12 := ⟨⟨tb_good, (tb_t (k := 1323) (w := Cond.methodLink RX12 149 yX12_isThere) (by decide +kernel)), (tb_t (k := 8) (w := Cond.initialized RX12) (by decide +kernel)), (tb_t (k := 1326) (w := Cond.code yX12_isThere cX12_isThere 2 (some .boolean)) (by decide +kernel)), by decide +kernel, by decide⟩, (tb_t (k := 1325) (w := Cond.instanceMethod yX12_isThere) (by decide +kernel)), (tb_p (k := 83) (q := (yX12_isThere, 45)) (by decide +kernel)), rfl⟩
theorem dX12_haveTwo_0 : decode cX12_haveTwo 0 = .ok (.aload_n 0, 1) := by decide +kernel
theorem dX12_haveTwo_1 : decode cX12_haveTwo 1 = .ok (.aload_n 0, 1) := by decide +kernel
theorem dX12_haveTwo_2 : decode cX12_haveTwo 2 = .ok (.iload_n 1, 1) := by decide +kernel
theorem dX12_haveTwo_3 : decode cX12_haveTwo 3 = .ok (.invokevirtual 149, 3) := by decide +kernel
theorem dX12_haveTwo_6 : decode cX12_haveTwo 6 = .ok (.ifCond .eq 11, 3) := by decide +kernel
theorem dX12_haveTwo_9 : decode cX12_haveTwo 9 = .ok (.aload_n 0, 1) := by decide +kernel
theorem dX12_haveTwo_10 : decode cX12_haveTwo 10 = .ok (.iload_n 3, 1) := by decide +kernel
theorem dX12_haveTwo_11 : decode cX12_haveTwo 11 = .ok (.invokevirtual 149, 3) := by decide +kernel
theorem dX12_haveTwo_14 : decode cX12_haveTwo 14 = .ok (.ifCond .ne 7, 3) := by decide +kernel
theorem dX12_haveTwo_17 : decode cX12_haveTwo 17 = .ok (.iconst (-1), 1) := by decide +kernel
theorem dX12_haveTwo_18 : decode cX12_haveTwo 18 = .ok (.goto 30, 3) := by decide +kernel
theorem dX12_haveTwo_21 : decode cX12_haveTwo 21 = .ok (.aload_n 0, 1) := by decide +kernel
theorem dX12_haveTwo_22 : decode cX12_haveTwo 22 = .ok (.getfield 7, 3) := by decide +kernel
theorem dX12_haveTwo_25 : decode cX12_haveTwo 25 = .ok (.iload_n 1, 1) := by decide +kernel
theorem dX12_haveTwo_26 : decode cX12_haveTwo 26 = .ok (.iaload, 1) := by decide +kernel
theorem dX12_haveTwo_27 : decode cX12_haveTwo 27 = .ok (.iload_n 2, 1) := by decide +kernel
theorem dX12_haveTwo_28 : decode cX12_haveTwo 28 = .ok (.if_icmp .ne 14, 3) := by decide +kernel
theorem dX12_haveTwo_31 : decode cX12_haveTwo 31 = .ok (.aload_n 0, 1) := by decide +kernel
theorem dX12_haveTwo_32 : decode cX12_haveTwo 32 = .ok (.getfield 7, 3) := by decide +kernel
theorem dX12_haveTwo_35 : decode cX12_haveTwo 35 = .ok (.iload_n 3, 1) := by decide +kernel
theorem dX12_haveTwo_36 : decode cX12_haveTwo 36 = .ok (.iaload, 1) := by decide +kernel
theorem dX12_haveTwo_37 : decode cX12_haveTwo 37 = .ok (.iload 4, 2) := by decide +kernel
theorem dX12_haveTwo_39 : decode cX12_haveTwo 39 = .ok (.if_icmp .eq 8, 3) := by decide +kernel
theorem dX12_haveTwo_42 : decode cX12_haveTwo 42 = .ok (.bipush (-2), 2) := by decide +kernel
theorem dX12_haveTwo_44 : decode cX12_haveTwo 44 = .ok (.goto 4, 3) := by decide +kernel
theorem dX12_haveTwo_47 : decode cX12_haveTwo 47 = .ok (.iconst 0, 1) := by decide +kernel
theorem dX12_haveTwo_48 : decode cX12_haveTwo 48 = .ok (.putfield 142, 3) := by decide +kernel
theorem dX12_haveTwo_51 : decode cX12_haveTwo 51 = .ok (.aload_n 0, 1) := by decide +kernel
theorem dX12_haveTwo_52 : decode cX12_haveTwo 52 = .ok (.getfield 142, 3) := by decide +kernel
theorem dX12_haveTwo_55 : decode cX12_haveTwo 55 = .ok (.ifCond .ne 7, 3) := by decide +kernel
theorem dX12_haveTwo_58 : decode cX12_haveTwo 58 = .ok (.iconst 1, 1) := by decide +kernel
theorem dX12_haveTwo_59 : decode cX12_haveTwo 59 = .ok (.goto 4, 3) := by decide +kernel
theorem dX12_haveTwo_62 : decode cX12_haveTwo 62 = .ok (.iconst 0, 1) := by decide +kernel
theorem dX12_haveTwo_63 : decode cX12_haveTwo 63 = .ok (.ireturn, 1) := by decide +kernel
theorem dX12_keep_0 : decode cX12_keep 0 = .ok (.aload_n 0, 1) := by decide +kernel
theorem dX12_keep_1 : decode cX12_keep 1 = .ok (.getfield 146, 3) := by decide +kernel
theorem dX12_keep_4 : decode cX12_keep 4 = .ok (.bipush 120, 2) := by decide +kernel
theorem dX12_keep_6 : decode cX12_keep 6 = .ok (.if_icmp .ne 10, 3) := by decide +kernel
theorem dX12_keep_9 : decode cX12_keep 9 = .ok (.aload_n 0, 1) := by decide +kernel
theorem dX12_keep_10 : decode cX12_keep 10 = .ok (.bipush (-4), 2) := by decide +kernel
theorem dX12_keep_12 : decode cX12_keep 12 = .ok (.invokevirtual 153, 3) := by decide +kernel
theorem dX12_keep_15 : decode cX12_keep 15 = .ok (.ireturn, 1) := by decide +kernel
theorem dX12_keep_16 : decode cX12_keep 16 = .ok (.aload_n 0, 1) := by decide +kernel
theorem dX12_keep_17 : decode cX12_keep 17 = .ok (.getfield 7, 3) := by decide +kernel
theorem dX12_keep_20 : decode cX12_keep 20 = .ok (.aload_n 0, 1) := by decide +kernel
theorem dX12_keep_21 : decode cX12_keep 21 = .ok (.getfield 146, 3) := by decide +kernel
theorem dX12_keep_24 : decode cX12_keep 24 = .ok (.iload_n 1, 1) := by decide +kernel
theorem dX12_keep_25 : decode cX12_keep 25 = .ok (.iastore, 1) := by decide +kernel
theorem dX12_keep_26 : decode cX12_keep 26 = .ok (.aload_n 0, 1) := by decide +kernel
theorem dX12_keep_27 : decode cX12_keep 27 = .ok (.dup, 1) := by decide +kernel
theorem dX12_keep_28 : decode cX12_keep 28 = .ok (.getfield 146, 3) := by decide +kernel
theorem dX12_keep_31 : decode cX12_keep 31 = .ok (.iconst 1, 1) := by decide +kernel
theorem dX12_keep_32 : decode cX12_keep 32 = .ok (.iadd, 1) := by decide +kernel
theorem dX12_keep_33 : decode cX12_keep 33 = .ok (.putfield 146, 3) := by decide +kernel
theorem dX12_keep_36 : decode cX12_keep 36 = .ok (.aload_n 0, 1) := by decide +kernel
theorem dX12_keep_37 : decode cX12_keep 37 = .ok (.getfield 146, 3) := by decide +kernel
theorem dX12_keep_40 : decode cX12_keep 40 = .ok (.iconst 1, 1) := by decide +kernel
theorem dX12_keep_41 : decode cX12_keep 41 = .ok (.isub, 1) := by decide +kernel
theorem dX12_keep_42 : decode cX12_keep 42 = .ok (.ireturn, 1) := by decide +kernel
theorem kX12_153 : lkK (gS, X) RX12 153 mX12_refuse 1 ∧ Cond.instanceMethod yX12_refuse ∈ g_ws (gS, X) ∧ Cond.selects RX12 yX12_refuse yX12_refuse ∈ g_ws (gS, X) ∧ yX12_refuse.cls = RX12 := ⟨⟨tb_good, (tb_t (k := 1280) (w := Cond.methodLink RX12 153 yX12_refuse) (by decide +kernel)), (tb_t (k := 8) (w := Cond.initialized RX12) (by decide +kernel)), (tb_t (k := 1283) (w := Cond.code yX12_refuse cX12_refuse 2 (some .int)) (by decide +kernel)), by decide +kernel, by decide⟩, (tb_t (k := 1282) (w := Cond.instanceMethod yX12_refuse) (by decide +kernel)), (tb_p (k := 76) (q := (yX12_refuse, 45)) (by decide +kernel)), rfl⟩
theorem dX12_at1_0 : decode cX12_at1 0 = .ok (.bipush 60, 2) := by decide +kernel
theorem dX12_at1_2 : decode cX12_at1 2 = .ok (.iload_n 0, 1) := by decide +kernel
theorem dX12_at1_3 : decode cX12_at1 3 = .ok (.imul, 1) := by decide +kernel
theorem dX12_at1_4 : decode cX12_at1 4 = .ok (.iload_n 1, 1) := by decide +kernel
theorem dX12_at1_5 : decode cX12_at1 5 = .ok (.iadd, 1) := by decide +kernel
theorem dX12_at1_6 : decode cX12_at1 6 = .ok (.ireturn, 1) := by decide +kernel
theorem dX12_begin_0 : decode cX12_begin 0 = .ok (.iload_n 1, 1) := by decide +kernel
theorem dX12_begin_1 : decode cX12_begin 1 = .ok (.iconst 1, 1) := by decide +kernel
theorem dX12_begin_2 : decode cX12_begin 2 = .ok (.if_icmp .lt 9, 3) := by decide +kernel
theorem dX12_begin_5 : decode cX12_begin 5 = .ok (.iload_n 1, 1) := by decide +kernel
theorem dX12_begin_6 : decode cX12_begin 6 = .ok (.bipush 16, 2) := by decide +kernel
theorem dX12_begin_8 : decode cX12_begin 8 = .ok (.if_icmp .le 12, 3) := by decide +kernel
theorem dX12_begin_11 : decode cX12_begin 11 = .ok (.aload_n 0, 1) := by decide +kernel
theorem dX12_begin_12 : decode cX12_begin 12 = .ok (.bipush (-3), 2) := by decide +kernel
theorem dX12_begin_14 : decode cX12_begin 14 = .ok (.invokevirtual 153, 3) := by decide +kernel
theorem dX12_begin_17 : decode cX12_begin 17 = .ok (.pop, 1) := by decide +kernel
theorem dX12_begin_18 : decode cX12_begin 18 = .ok (.iconst 0, 1) := by decide +kernel
theorem dX12_begin_19 : decode cX12_begin 19 = .ok (.ireturn, 1) := by decide +kernel
theorem dX12_begin_20 : decode cX12_begin 20 = .ok (.aload_n 0, 1) := by decide +kernel
theorem dX12_begin_21 : decode cX12_begin 21 = .ok (.iconst 0, 1) := by decide +kernel
theorem dX12_begin_22 : decode cX12_begin 22 = .ok (.putfield 142, 3) := by decide +kernel
theorem dX12_begin_25 : decode cX12_begin 25 = .ok (.aload_n 0, 1) := by decide +kernel
theorem dX12_begin_26 : decode cX12_begin 26 = .ok (.getfield 13, 3) := by decide +kernel
theorem dX12_begin_29 : decode cX12_begin 29 = .ok (.bipush 120, 2) := by decide +kernel
theorem dX12_begin_31 : decode cX12_begin 31 = .ok (.iload_n 1, 1) := by decide +kernel
theorem dX12_begin_32 : decode cX12_begin 32 = .ok (.iastore, 1) := by decide +kernel
theorem dX12_begin_33 : decode cX12_begin 33 = .ok (.aload_n 0, 1) := by decide +kernel
theorem dX12_begin_34 : decode cX12_begin 34 = .ok (.getfield 16, 3) := by decide +kernel
theorem dX12_begin_37 : decode cX12_begin 37 = .ok (.bipush 120, 2) := by decide +kernel
theorem dX12_begin_39 : decode cX12_begin 39 = .ok (.iload_n 2, 1) := by decide +kernel
theorem dX12_begin_40 : decode cX12_begin 40 = .ok (.bastore, 1) := by decide +kernel
theorem dX12_begin_41 : decode cX12_begin 41 = .ok (.aload_n 0, 1) := by decide +kernel
theorem dX12_begin_42 : decode cX12_begin 42 = .ok (.getfield 20, 3) := by decide +kernel
theorem dX12_begin_45 : decode cX12_begin 45 = .ok (.bipush 120, 2) := by decide +kernel
theorem dX12_begin_47 : decode cX12_begin 47 = .ok (.iconst 0, 1) := by decide +kernel
theorem dX12_begin_48 : decode cX12_begin 48 = .ok (.iastore, 1) := by decide +kernel
theorem dX12_begin_49 : decode cX12_begin 49 = .ok (.iconst 1, 1) := by decide +kernel
theorem dX12_begin_50 : decode cX12_begin 50 = .ok (.ireturn, 1) := by decide +kernel
theorem dX12_add_0 : decode cX12_add 0 = .ok (.iload_n 1, 1) := by decide +kernel
theorem dX12_add_1 : decode cX12_add 1 = .ok (.aload_n 0, 1) := by decide +kernel
theorem dX12_add_2 : decode cX12_add 2 = .ok (.getfield 20, 3) := by decide +kernel
theorem dX12_add_5 : decode cX12_add 5 = .ok (.iload_n 1, 1) := by decide +kernel
theorem dX12_add_6 : decode cX12_add 6 = .ok (.iaload, 1) := by decide +kernel
theorem dX12_add_7 : decode cX12_add 7 = .ok (.invokestatic 157, 3) := by decide +kernel
theorem dX12_add_10 : decode cX12_add 10 = .ok (.istore 6, 2) := by decide +kernel
theorem dX12_add_12 : decode cX12_add 12 = .ok (.aload_n 0, 1) := by decide +kernel
theorem dX12_add_13 : decode cX12_add 13 = .ok (.getfield 23, 3) := by decide +kernel
theorem dX12_add_16 : decode cX12_add 16 = .ok (.iload 6, 2) := by decide +kernel
theorem dX12_add_18 : decode cX12_add 18 = .ok (.iload_n 2, 1) := by decide +kernel
theorem dX12_add_19 : decode cX12_add 19 = .ok (.iastore, 1) := by decide +kernel
theorem dX12_add_20 : decode cX12_add 20 = .ok (.aload_n 0, 1) := by decide +kernel
theorem dX12_add_21 : decode cX12_add 21 = .ok (.getfield 26, 3) := by decide +kernel
theorem dX12_add_24 : decode cX12_add 24 = .ok (.iload 6, 2) := by decide +kernel
theorem dX12_add_26 : decode cX12_add 26 = .ok (.iload_n 3, 1) := by decide +kernel
theorem dX12_add_27 : decode cX12_add 27 = .ok (.iastore, 1) := by decide +kernel
theorem dX12_add_28 : decode cX12_add 28 = .ok (.aload_n 0, 1) := by decide +kernel
theorem dX12_add_29 : decode cX12_add 29 = .ok (.getfield 29, 3) := by decide +kernel
theorem dX12_add_32 : decode cX12_add 32 = .ok (.iload 6, 2) := by decide +kernel
theorem dX12_add_34 : decode cX12_add 34 = .ok (.iload 4, 2) := by decide +kernel
theorem dX12_add_36 : decode cX12_add 36 = .ok (.iastore, 1) := by decide +kernel
theorem dX12_add_37 : decode cX12_add 37 = .ok (.aload_n 0, 1) := by decide +kernel
theorem dX12_add_38 : decode cX12_add 38 = .ok (.getfield 32, 3) := by decide +kernel
theorem dX12_add_41 : decode cX12_add 41 = .ok (.iload 6, 2) := by decide +kernel
theorem dX12_add_43 : decode cX12_add 43 = .ok (.iload 5, 2) := by decide +kernel
theorem dX12_add_45 : decode cX12_add 45 = .ok (.iastore, 1) := by decide +kernel
theorem dX12_add_46 : decode cX12_add 46 = .ok (.aload_n 0, 1) := by decide +kernel
theorem dX12_add_47 : decode cX12_add 47 = .ok (.getfield 20, 3) := by decide +kernel
theorem dX12_add_50 : decode cX12_add 50 = .ok (.iload_n 1, 1) := by decide +kernel
theorem dX12_add_51 : decode cX12_add 51 = .ok (.dup2, 1) := by decide +kernel
theorem dX12_add_52 : decode cX12_add 52 = .ok (.iaload, 1) := by decide +kernel
theorem dX12_add_53 : decode cX12_add 53 = .ok (.iconst 1, 1) := by decide +kernel
theorem dX12_add_54 : decode cX12_add 54 = .ok (.iadd, 1) := by decide +kernel
theorem dX12_add_55 : decode cX12_add 55 = .ok (.iastore, 1) := by decide +kernel
theorem dX12_add_56 : decode cX12_add 56 = .ok (.return_, 1) := by decide +kernel
theorem kX12_157 : lkK (gS, X) RX12 157 mX12_at1 2 ∧ Cond.static yX12_at1 ∈ g_ws (gS, X) := ⟨⟨tb_good, (tb_t (k := 1292) (w := Cond.methodLink RX12 157 yX12_at1) (by decide +kernel)), (tb_t (k := 8) (w := Cond.initialized RX12) (by decide +kernel)), (tb_t (k := 1294) (w := Cond.code yX12_at1 cX12_at1 2 (some .int)) (by decide +kernel)), by decide +kernel, by decide⟩, (tb_t (k := 1293) (w := Cond.static yX12_at1) (by decide +kernel))⟩
theorem dX12_arc_0 : decode cX12_arc 0 = .ok (.aload_n 0, 1) := by decide +kernel
theorem dX12_arc_1 : decode cX12_arc 1 = .ok (.getfield 13, 3) := by decide +kernel
theorem dX12_arc_4 : decode cX12_arc 4 = .ok (.bipush 120, 2) := by decide +kernel
theorem dX12_arc_6 : decode cX12_arc 6 = .ok (.iaload, 1) := by decide +kernel
theorem dX12_arc_7 : decode cX12_arc 7 = .ok (.istore 5, 2) := by decide +kernel
theorem dX12_arc_9 : decode cX12_arc 9 = .ok (.aload_n 0, 1) := by decide +kernel
theorem dX12_arc_10 : decode cX12_arc 10 = .ok (.iconst 0, 1) := by decide +kernel
theorem dX12_arc_11 : decode cX12_arc 11 = .ok (.putfield 142, 3) := by decide +kernel
theorem dX12_arc_14 : decode cX12_arc 14 = .ok (.iload_n 1, 1) := by decide +kernel
theorem dX12_arc_15 : decode cX12_arc 15 = .ok (.ifCond .lt 49, 3) := by decide +kernel
theorem dX12_arc_18 : decode cX12_arc 18 = .ok (.iload_n 1, 1) := by decide +kernel
theorem dX12_arc_19 : decode cX12_arc 19 = .ok (.iload 5, 2) := by decide +kernel
theorem dX12_arc_21 : decode cX12_arc 21 = .ok (.if_icmp .ge 43, 3) := by decide +kernel
theorem dX12_arc_24 : decode cX12_arc 24 = .ok (.iload_n 2, 1) := by decide +kernel
theorem dX12_arc_25 : decode cX12_arc 25 = .ok (.ifCond .lt 39, 3) := by decide +kernel
theorem dX12_arc_28 : decode cX12_arc 28 = .ok (.iload_n 2, 1) := by decide +kernel
theorem dX12_arc_29 : decode cX12_arc 29 = .ok (.iload 5, 2) := by decide +kernel
theorem dX12_arc_31 : decode cX12_arc 31 = .ok (.if_icmp .ge 33, 3) := by decide +kernel
theorem dX12_arc_34 : decode cX12_arc 34 = .ok (.iload_n 3, 1) := by decide +kernel
theorem dX12_arc_35 : decode cX12_arc 35 = .ok (.sipush (-1000), 3) := by decide +kernel
theorem dX12_arc_38 : decode cX12_arc 38 = .ok (.if_icmp .lt 26, 3) := by decide +kernel
theorem dX12_arc_41 : decode cX12_arc 41 = .ok (.iload_n 3, 1) := by decide +kernel
theorem dX12_arc_42 : decode cX12_arc 42 = .ok (.sipush 1000, 3) := by decide +kernel
theorem dX12_arc_45 : decode cX12_arc 45 = .ok (.if_icmp .gt 19, 3) := by decide +kernel
theorem dX12_arc_48 : decode cX12_arc 48 = .ok (.iload 4, 2) := by decide +kernel
theorem dX12_arc_50 : decode cX12_arc 50 = .ok (.sipush (-1000), 3) := by decide +kernel
theorem dX12_arc_53 : decode cX12_arc 53 = .ok (.if_icmp .lt 11, 3) := by decide +kernel
theorem dX12_arc_56 : decode cX12_arc 56 = .ok (.iload 4, 2) := by decide +kernel
theorem dX12_arc_58 : decode cX12_arc 58 = .ok (.sipush 1000, 3) := by decide +kernel
theorem dX12_arc_61 : decode cX12_arc 61 = .ok (.if_icmp .le 10, 3) := by decide +kernel
theorem dX12_arc_64 : decode cX12_arc 64 = .ok (.aload_n 0, 1) := by decide +kernel
theorem dX12_arc_65 : decode cX12_arc 65 = .ok (.bipush (-3), 2) := by decide +kernel
theorem dX12_arc_67 : decode cX12_arc 67 = .ok (.invokevirtual 153, 3) := by decide +kernel
theorem dX12_arc_70 : decode cX12_arc 70 = .ok (.ireturn, 1) := by decide +kernel
theorem dX12_arc_71 : decode cX12_arc 71 = .ok (.aload_n 0, 1) := by decide +kernel
theorem dX12_arc_72 : decode cX12_arc 72 = .ok (.getfield 20, 3) := by decide +kernel
theorem dX12_arc_75 : decode cX12_arc 75 = .ok (.bipush 120, 2) := by decide +kernel
theorem dX12_arc_77 : decode cX12_arc 77 = .ok (.iaload, 1) := by decide +kernel
theorem dX12_arc_78 : decode cX12_arc 78 = .ok (.bipush 60, 2) := by decide +kernel
theorem dX12_arc_80 : decode cX12_arc 80 = .ok (.if_icmp .ne 10, 3) := by decide +kernel
theorem dX12_arc_83 : decode cX12_arc 83 = .ok (.aload_n 0, 1) := by decide +kernel
theorem dX12_arc_84 : decode cX12_arc 84 = .ok (.bipush (-4), 2) := by decide +kernel
theorem dX12_arc_86 : decode cX12_arc 86 = .ok (.invokevirtual 153, 3) := by decide +kernel
theorem dX12_arc_89 : decode cX12_arc 89 = .ok (.ireturn, 1) := by decide +kernel
theorem dX12_arc_90 : decode cX12_arc 90 = .ok (.aload_n 0, 1) := by decide +kernel
theorem dX12_arc_91 : decode cX12_arc 91 = .ok (.bipush 120, 2) := by decide +kernel
theorem dX12_arc_93 : decode cX12_arc 93 = .ok (.iload_n 1, 1) := by decide +kernel
theorem dX12_arc_94 : decode cX12_arc 94 = .ok (.iload_n 2, 1) := by decide +kernel
theorem dX12_arc_95 : decode cX12_arc 95 = .ok (.iload_n 3, 1) := by decide +kernel
theorem dX12_arc_96 : decode cX12_arc 96 = .ok (.iload 4, 2) := by decide +kernel
theorem dX12_arc_98 : decode cX12_arc 98 = .ok (.invokevirtual 161, 3) := by decide +kernel
theorem dX12_arc_101 : decode cX12_arc 101 = .ok (.aload_n 0, 1) := by decide +kernel
theorem dX12_arc_102 : decode cX12_arc 102 = .ok (.getfield 20, 3) := by decide +kernel
theorem dX12_arc_105 : decode cX12_arc 105 = .ok (.bipush 120, 2) := by decide +kernel
theorem dX12_arc_107 : decode cX12_arc 107 = .ok (.iaload, 1) := by decide +kernel
theorem dX12_arc_108 : decode cX12_arc 108 = .ok (.iconst 1, 1) := by decide +kernel
theorem dX12_arc_109 : decode cX12_arc 109 = .ok (.isub, 1) := by decide +kernel
theorem dX12_arc_110 : decode cX12_arc 110 = .ok (.ireturn, 1) := by decide +kernel
theorem kX12_161 : lkK (gS, X) RX12 161 mX12_add 5 ∧ Cond.instanceMethod yX12_add ∈ g_ws (gS, X) ∧ Cond.selects RX12 yX12_add yX12_add ∈ g_ws (gS, X) ∧ yX12_add.cls = RX12 := ⟨⟨tb_good, (tb_t (k := 1288) (w := Cond.methodLink RX12 161 yX12_add) (by decide +kernel)), (tb_t (k := 8) (w := Cond.initialized RX12) (by decide +kernel)), (tb_t (k := 1291) (w := Cond.code yX12_add cX12_add 7 none) (by decide +kernel)), by decide +kernel, by decide⟩, (tb_t (k := 1290) (w := Cond.instanceMethod yX12_add) (by decide +kernel)), (tb_p (k := 77) (q := (yX12_add, 45)) (by decide +kernel)), rfl⟩
theorem dX12_put_0 : decode cX12_put 0 = .ok (.aload_n 0, 1) := by decide +kernel
theorem dX12_put_1 : decode cX12_put 1 = .ok (.getfield 165, 3) := by decide +kernel
theorem dX12_put_4 : decode cX12_put 4 = .ok (.sipush 300, 3) := by decide +kernel
theorem dX12_put_7 : decode cX12_put 7 = .ok (.if_icmp .ge 44, 3) := by decide +kernel
theorem dX12_put_10 : decode cX12_put 10 = .ok (.aload_n 0, 1) := by decide +kernel
theorem dX12_put_11 : decode cX12_put 11 = .ok (.getfield 60, 3) := by decide +kernel
theorem dX12_put_14 : decode cX12_put 14 = .ok (.aload_n 0, 1) := by decide +kernel
theorem dX12_put_15 : decode cX12_put 15 = .ok (.getfield 165, 3) := by decide +kernel
theorem dX12_put_18 : decode cX12_put 18 = .ok (.iload_n 1, 1) := by decide +kernel
theorem dX12_put_19 : decode cX12_put 19 = .ok (.iastore, 1) := by decide +kernel
theorem dX12_put_20 : decode cX12_put 20 = .ok (.aload_n 0, 1) := by decide +kernel
theorem dX12_put_21 : decode cX12_put 21 = .ok (.getfield 63, 3) := by decide +kernel
theorem dX12_put_24 : decode cX12_put 24 = .ok (.aload_n 0, 1) := by decide +kernel
theorem dX12_put_25 : decode cX12_put 25 = .ok (.getfield 165, 3) := by decide +kernel
theorem dX12_put_28 : decode cX12_put 28 = .ok (.iload_n 2, 1) := by decide +kernel
theorem dX12_put_29 : decode cX12_put 29 = .ok (.iastore, 1) := by decide +kernel
theorem dX12_put_30 : decode cX12_put 30 = .ok (.aload_n 0, 1) := by decide +kernel
theorem dX12_put_31 : decode cX12_put 31 = .ok (.getfield 66, 3) := by decide +kernel
theorem dX12_put_34 : decode cX12_put 34 = .ok (.aload_n 0, 1) := by decide +kernel
theorem dX12_put_35 : decode cX12_put 35 = .ok (.getfield 165, 3) := by decide +kernel
theorem dX12_put_38 : decode cX12_put 38 = .ok (.iload_n 3, 1) := by decide +kernel
theorem dX12_put_39 : decode cX12_put 39 = .ok (.iastore, 1) := by decide +kernel
theorem dX12_put_40 : decode cX12_put 40 = .ok (.aload_n 0, 1) := by decide +kernel
theorem dX12_put_41 : decode cX12_put 41 = .ok (.getfield 69, 3) := by decide +kernel
theorem dX12_put_44 : decode cX12_put 44 = .ok (.aload_n 0, 1) := by decide +kernel
theorem dX12_put_45 : decode cX12_put 45 = .ok (.getfield 165, 3) := by decide +kernel
theorem dX12_put_48 : decode cX12_put 48 = .ok (.iload 4, 2) := by decide +kernel
theorem dX12_put_50 : decode cX12_put 50 = .ok (.iastore, 1) := by decide +kernel
theorem dX12_put_51 : decode cX12_put 51 = .ok (.aload_n 0, 1) := by decide +kernel
theorem dX12_put_52 : decode cX12_put 52 = .ok (.dup, 1) := by decide +kernel
theorem dX12_put_53 : decode cX12_put 53 = .ok (.getfield 165, 3) := by decide +kernel
theorem dX12_put_56 : decode cX12_put 56 = .ok (.iconst 1, 1) := by decide +kernel
theorem dX12_put_57 : decode cX12_put 57 = .ok (.iadd, 1) := by decide +kernel
theorem dX12_put_58 : decode cX12_put 58 = .ok (.putfield 165, 3) := by decide +kernel
theorem dX12_put_61 : decode cX12_put 61 = .ok (.return_, 1) := by decide +kernel
theorem fX12_165 : lkF (gS, X) RX12 165 11 22 "GraphEngineModel" RX12 TX12 45 := ⟨rfl, inX12, by decide, (tb_t (k := 1161) (w := Cond.fieldLink RX12 165 "GraphEngineModel" "nm" "I") (by decide +kernel)), Or.inl rfl⟩
theorem dX12_made_0 : decode cX12_made 0 = .ok (.aload_n 0, 1) := by decide +kernel
theorem dX12_made_1 : decode cX12_made 1 = .ok (.getfield 165, 3) := by decide +kernel
theorem dX12_made_4 : decode cX12_made 4 = .ok (.bipush 60, 2) := by decide +kernel
theorem dX12_made_6 : decode cX12_made 6 = .ok (.if_icmp .le 10, 3) := by decide +kernel
theorem dX12_made_9 : decode cX12_made 9 = .ok (.aload_n 0, 1) := by decide +kernel
theorem dX12_made_10 : decode cX12_made 10 = .ok (.bipush (-4), 2) := by decide +kernel
theorem dX12_made_12 : decode cX12_made 12 = .ok (.invokevirtual 153, 3) := by decide +kernel
theorem dX12_made_15 : decode cX12_made 15 = .ok (.ireturn, 1) := by decide +kernel
theorem dX12_made_16 : decode cX12_made 16 = .ok (.aload_n 0, 1) := by decide +kernel
theorem dX12_made_17 : decode cX12_made 17 = .ok (.iconst 1, 1) := by decide +kernel
theorem dX12_made_18 : decode cX12_made 18 = .ok (.invokevirtual 168, 3) := by decide +kernel
theorem dX12_made_21 : decode cX12_made 21 = .ok (.istore_n 3, 1) := by decide +kernel
theorem dX12_made_22 : decode cX12_made 22 = .ok (.iload_n 3, 1) := by decide +kernel
theorem dX12_made_23 : decode cX12_made 23 = .ok (.ifCond .ge 5, 3) := by decide +kernel
theorem dX12_made_26 : decode cX12_made 26 = .ok (.iload_n 3, 1) := by decide +kernel
theorem dX12_made_27 : decode cX12_made 27 = .ok (.ireturn, 1) := by decide +kernel
theorem dX12_made_28 : decode cX12_made 28 = .ok (.aload_n 0, 1) := by decide +kernel
theorem dX12_made_29 : decode cX12_made 29 = .ok (.getfield 13, 3) := by decide +kernel
theorem dX12_made_32 : decode cX12_made 32 = .ok (.iload_n 3, 1) := by decide +kernel
theorem dX12_made_33 : decode cX12_made 33 = .ok (.iload_n 1, 1) := by decide +kernel
theorem dX12_made_34 : decode cX12_made 34 = .ok (.iastore, 1) := by decide +kernel
theorem dX12_made_35 : decode cX12_made 35 = .ok (.aload_n 0, 1) := by decide +kernel
theorem dX12_made_36 : decode cX12_made 36 = .ok (.getfield 16, 3) := by decide +kernel
theorem dX12_made_39 : decode cX12_made 39 = .ok (.iload_n 3, 1) := by decide +kernel
theorem dX12_made_40 : decode cX12_made 40 = .ok (.iload_n 2, 1) := by decide +kernel
theorem dX12_made_41 : decode cX12_made 41 = .ok (.bastore, 1) := by decide +kernel
theorem dX12_made_42 : decode cX12_made 42 = .ok (.aload_n 0, 1) := by decide +kernel
theorem dX12_made_43 : decode cX12_made 43 = .ok (.getfield 20, 3) := by decide +kernel
theorem dX12_made_46 : decode cX12_made 46 = .ok (.iload_n 3, 1) := by decide +kernel
theorem dX12_made_47 : decode cX12_made 47 = .ok (.iconst 0, 1) := by decide +kernel
theorem dX12_made_48 : decode cX12_made 48 = .ok (.iastore, 1) := by decide +kernel
theorem dX12_made_49 : decode cX12_made 49 = .ok (.iconst 0, 1) := by decide +kernel
theorem dX12_made_50 : decode cX12_made 50 = .ok (.istore 4, 2) := by decide +kernel
theorem dX12_made_52 : decode cX12_made 52 = .ok (.iload 4, 2) := by decide +kernel
theorem dX12_made_54 : decode cX12_made 54 = .ok (.aload_n 0, 1) := by decide +kernel
theorem dX12_made_55 : decode cX12_made 55 = .ok (.getfield 165, 3) := by decide +kernel
theorem dX12_made_58 : decode cX12_made 58 = .ok (.if_icmp .ge 42, 3) := by decide +kernel
theorem dX12_made_61 : decode cX12_made 61 = .ok (.aload_n 0, 1) := by decide +kernel
theorem dX12_made_62 : decode cX12_made 62 = .ok (.iload_n 3, 1) := by decide +kernel
theorem dX12_made_63 : decode cX12_made 63 = .ok (.aload_n 0, 1) := by decide +kernel
theorem dX12_made_64 : decode cX12_made 64 = .ok (.getfield 60, 3) := by decide +kernel
theorem dX12_made_67 : decode cX12_made 67 = .ok (.iload 4, 2) := by decide +kernel
theorem dX12_made_69 : decode cX12_made 69 = .ok (.iaload, 1) := by decide +kernel
theorem dX12_made_70 : decode cX12_made 70 = .ok (.aload_n 0, 1) := by decide +kernel
theorem dX12_made_71 : decode cX12_made 71 = .ok (.getfield 63, 3) := by decide +kernel
theorem dX12_made_74 : decode cX12_made 74 = .ok (.iload 4, 2) := by decide +kernel
theorem dX12_made_76 : decode cX12_made 76 = .ok (.iaload, 1) := by decide +kernel
theorem dX12_made_77 : decode cX12_made 77 = .ok (.aload_n 0, 1) := by decide +kernel
theorem dX12_made_78 : decode cX12_made 78 = .ok (.getfield 66, 3) := by decide +kernel
theorem dX12_made_81 : decode cX12_made 81 = .ok (.iload 4, 2) := by decide +kernel
theorem dX12_made_83 : decode cX12_made 83 = .ok (.iaload, 1) := by decide +kernel
theorem dX12_made_84 : decode cX12_made 84 = .ok (.aload_n 0, 1) := by decide +kernel
theorem dX12_made_85 : decode cX12_made 85 = .ok (.getfield 69, 3) := by decide +kernel
theorem dX12_made_88 : decode cX12_made 88 = .ok (.iload 4, 2) := by decide +kernel
theorem dX12_made_90 : decode cX12_made 90 = .ok (.iaload, 1) := by decide +kernel
theorem dX12_made_91 : decode cX12_made 91 = .ok (.invokevirtual 161, 3) := by decide +kernel
theorem dX12_made_94 : decode cX12_made 94 = .ok (.iinc 4 1, 3) := by decide +kernel
theorem dX12_made_97 : decode cX12_made 97 = .ok (.goto (-45), 3) := by decide +kernel
theorem dX12_made_100 : decode cX12_made 100 = .ok (.iload_n 3, 1) := by decide +kernel
theorem dX12_made_101 : decode cX12_made 101 = .ok (.ireturn, 1) := by decide +kernel
theorem kX12_168 : lkK (gS, X) RX12 168 mX12_keep 1 ∧ Cond.instanceMethod yX12_keep ∈ g_ws (gS, X) ∧ Cond.selects RX12 yX12_keep yX12_keep ∈ g_ws (gS, X) ∧ yX12_keep.cls = RX12 := ⟨⟨tb_good, (tb_t (k := 1311) (w := Cond.methodLink RX12 168 yX12_keep) (by decide +kernel)), (tb_t (k := 8) (w := Cond.initialized RX12) (by decide +kernel)), (tb_t (k := 1314) (w := Cond.code yX12_keep cX12_keep 2 (some .int)) (by decide +kernel)), by decide +kernel, by decide⟩, (tb_t (k := 1313) (w := Cond.instanceMethod yX12_keep) (by decide +kernel)), (tb_p (k := 81) (q := (yX12_keep, 45)) (by decide +kernel)), rfl⟩
theorem dX12_copyArcs_0 : decode cX12_copyArcs 0 = .ok (.iconst 0, 1) := by decide +kernel
theorem dX12_copyArcs_1 : decode cX12_copyArcs 1 = .ok (.istore_n 3, 1) := by decide +kernel
theorem dX12_copyArcs_2 : decode cX12_copyArcs 2 = .ok (.iload_n 3, 1) := by decide +kernel
theorem dX12_copyArcs_3 : decode cX12_copyArcs 3 = .ok (.aload_n 0, 1) := by decide +kernel
theorem dX12_copyArcs_4 : decode cX12_copyArcs 4 = .ok (.getfield 20, 3) := by decide +kernel
theorem dX12_copyArcs_7 : decode cX12_copyArcs 7 = .ok (.iload_n 1, 1) := by decide +kernel
theorem dX12_copyArcs_8 : decode cX12_copyArcs 8 = .ok (.iaload, 1) := by decide +kernel
theorem dX12_copyArcs_9 : decode cX12_copyArcs 9 = .ok (.if_icmp .ge 52, 3) := by decide +kernel
theorem dX12_copyArcs_12 : decode cX12_copyArcs 12 = .ok (.iload_n 1, 1) := by decide +kernel
theorem dX12_copyArcs_13 : decode cX12_copyArcs 13 = .ok (.iload_n 3, 1) := by decide +kernel
theorem dX12_copyArcs_14 : decode cX12_copyArcs 14 = .ok (.invokestatic 157, 3) := by decide +kernel
theorem dX12_copyArcs_17 : decode cX12_copyArcs 17 = .ok (.istore 4, 2) := by decide +kernel
theorem dX12_copyArcs_19 : decode cX12_copyArcs 19 = .ok (.aload_n 0, 1) := by decide +kernel
theorem dX12_copyArcs_20 : decode cX12_copyArcs 20 = .ok (.aload_n 0, 1) := by decide +kernel
theorem dX12_copyArcs_21 : decode cX12_copyArcs 21 = .ok (.getfield 23, 3) := by decide +kernel
theorem dX12_copyArcs_24 : decode cX12_copyArcs 24 = .ok (.iload 4, 2) := by decide +kernel
theorem dX12_copyArcs_26 : decode cX12_copyArcs 26 = .ok (.iaload, 1) := by decide +kernel
theorem dX12_copyArcs_27 : decode cX12_copyArcs 27 = .ok (.iload_n 2, 1) := by decide +kernel
theorem dX12_copyArcs_28 : decode cX12_copyArcs 28 = .ok (.iadd, 1) := by decide +kernel
theorem dX12_copyArcs_29 : decode cX12_copyArcs 29 = .ok (.aload_n 0, 1) := by decide +kernel
theorem dX12_copyArcs_30 : decode cX12_copyArcs 30 = .ok (.getfield 26, 3) := by decide +kernel
theorem dX12_copyArcs_33 : decode cX12_copyArcs 33 = .ok (.iload 4, 2) := by decide +kernel
theorem dX12_copyArcs_35 : decode cX12_copyArcs 35 = .ok (.iaload, 1) := by decide +kernel
theorem dX12_copyArcs_36 : decode cX12_copyArcs 36 = .ok (.iload_n 2, 1) := by decide +kernel
theorem dX12_copyArcs_37 : decode cX12_copyArcs 37 = .ok (.iadd, 1) := by decide +kernel
theorem dX12_copyArcs_38 : decode cX12_copyArcs 38 = .ok (.aload_n 0, 1) := by decide +kernel
theorem dX12_copyArcs_39 : decode cX12_copyArcs 39 = .ok (.getfield 29, 3) := by decide +kernel
theorem dX12_copyArcs_42 : decode cX12_copyArcs 42 = .ok (.iload 4, 2) := by decide +kernel
theorem dX12_copyArcs_44 : decode cX12_copyArcs 44 = .ok (.iaload, 1) := by decide +kernel
theorem dX12_copyArcs_45 : decode cX12_copyArcs 45 = .ok (.aload_n 0, 1) := by decide +kernel
theorem dX12_copyArcs_46 : decode cX12_copyArcs 46 = .ok (.getfield 32, 3) := by decide +kernel
theorem dX12_copyArcs_49 : decode cX12_copyArcs 49 = .ok (.iload 4, 2) := by decide +kernel
theorem dX12_copyArcs_51 : decode cX12_copyArcs 51 = .ok (.iaload, 1) := by decide +kernel
theorem dX12_copyArcs_52 : decode cX12_copyArcs 52 = .ok (.invokevirtual 171, 3) := by decide +kernel
theorem dX12_copyArcs_55 : decode cX12_copyArcs 55 = .ok (.iinc 3 1, 3) := by decide +kernel
theorem dX12_copyArcs_58 : decode cX12_copyArcs 58 = .ok (.goto (-56), 3) := by decide +kernel
theorem dX12_copyArcs_61 : decode cX12_copyArcs 61 = .ok (.return_, 1) := by decide +kernel
theorem kX12_171 : lkK (gS, X) RX12 171 mX12_put 4 ∧ Cond.instanceMethod yX12_put ∈ g_ws (gS, X) ∧ Cond.selects RX12 yX12_put yX12_put ∈ g_ws (gS, X) ∧ yX12_put.cls = RX12 := ⟨⟨tb_good, (tb_t (k := 1303) (w := Cond.methodLink RX12 171 yX12_put) (by decide +kernel)), (tb_t (k := 8) (w := Cond.initialized RX12) (by decide +kernel)), (tb_t (k := 1306) (w := Cond.code yX12_put cX12_put 5 none) (by decide +kernel)), by decide +kernel, by decide⟩, (tb_t (k := 1305) (w := Cond.instanceMethod yX12_put) (by decide +kernel)), (tb_p (k := 79) (q := (yX12_put, 45)) (by decide +kernel)), rfl⟩
theorem dX12_graph_0 : decode cX12_graph 0 = .ok (.aload_n 0, 1) := by decide +kernel
theorem dX12_graph_1 : decode cX12_graph 1 = .ok (.iconst 0, 1) := by decide +kernel
theorem dX12_graph_2 : decode cX12_graph 2 = .ok (.putfield 142, 3) := by decide +kernel
theorem dX12_graph_5 : decode cX12_graph 5 = .ok (.aload_n 0, 1) := by decide +kernel
theorem dX12_graph_6 : decode cX12_graph 6 = .ok (.iconst 0, 1) := by decide +kernel
theorem dX12_graph_7 : decode cX12_graph 7 = .ok (.putfield 165, 3) := by decide +kernel
theorem dX12_graph_10 : decode cX12_graph 10 = .ok (.aload_n 0, 1) := by decide +kernel
theorem dX12_graph_11 : decode cX12_graph 11 = .ok (.bipush 120, 2) := by decide +kernel
theorem dX12_graph_13 : decode cX12_graph 13 = .ok (.iconst 0, 1) := by decide +kernel
theorem dX12_graph_14 : decode cX12_graph 14 = .ok (.invokevirtual 175, 3) := by decide +kernel
theorem dX12_graph_17 : decode cX12_graph 17 = .ok (.aload_n 0, 1) := by decide +kernel
theorem dX12_graph_18 : decode cX12_graph 18 = .ok (.aload_n 0, 1) := by decide +kernel
theorem dX12_graph_19 : decode cX12_graph 19 = .ok (.getfield 13, 3) := by decide +kernel
theorem dX12_graph_22 : decode cX12_graph 22 = .ok (.bipush 120, 2) := by decide +kernel
theorem dX12_graph_24 : decode cX12_graph 24 = .ok (.iaload, 1) := by decide +kernel
theorem dX12_graph_25 : decode cX12_graph 25 = .ok (.aload_n 0, 1) := by decide +kernel
theorem dX12_graph_26 : decode cX12_graph 26 = .ok (.getfield 16, 3) := by decide +kernel
theorem dX12_graph_29 : decode cX12_graph 29 = .ok (.bipush 120, 2) := by decide +kernel
theorem dX12_graph_31 : decode cX12_graph 31 = .ok (.baload, 1) := by decide +kernel
theorem dX12_graph_32 : decode cX12_graph 32 = .ok (.invokevirtual 179, 3) := by decide +kernel
theorem dX12_graph_35 : decode cX12_graph 35 = .ok (.ireturn, 1) := by decide +kernel
theorem kX12_175 : lkK (gS, X) RX12 175 mX12_copyArcs 2 ∧ Cond.instanceMethod yX12_copyArcs ∈ g_ws (gS, X) ∧ Cond.selects RX12 yX12_copyArcs yX12_copyArcs ∈ g_ws (gS, X) ∧ yX12_copyArcs.cls = RX12 := ⟨⟨tb_good, (tb_t (k := 1299) (w := Cond.methodLink RX12 175 yX12_copyArcs) (by decide +kernel)), (tb_t (k := 8) (w := Cond.initialized RX12) (by decide +kernel)), (tb_t (k := 1302) (w := Cond.code yX12_copyArcs cX12_copyArcs 5 none) (by decide +kernel)), by decide +kernel, by decide⟩, (tb_t (k := 1301) (w := Cond.instanceMethod yX12_copyArcs) (by decide +kernel)), (tb_p (k := 78) (q := (yX12_copyArcs, 45)) (by decide +kernel)), rfl⟩
theorem kX12_179 : lkK (gS, X) RX12 179 mX12_made 2 ∧ Cond.instanceMethod yX12_made ∈ g_ws (gS, X) ∧ Cond.selects RX12 yX12_made yX12_made ∈ g_ws (gS, X) ∧ yX12_made.cls = RX12 := ⟨⟨tb_good, (tb_t (k := 1307) (w := Cond.methodLink RX12 179 yX12_made) (by decide +kernel)), (tb_t (k := 8) (w := Cond.initialized RX12) (by decide +kernel)), (tb_t (k := 1310) (w := Cond.code yX12_made cX12_made 5 (some .int)) (by decide +kernel)), by decide +kernel, by decide⟩, (tb_t (k := 1309) (w := Cond.instanceMethod yX12_made) (by decide +kernel)), (tb_p (k := 80) (q := (yX12_made, 45)) (by decide +kernel)), rfl⟩
theorem dX12_madeColumn_0 : decode cX12_madeColumn 0 = .ok (.aload_n 0, 1) := by decide +kernel
theorem dX12_madeColumn_1 : decode cX12_madeColumn 1 = .ok (.iconst 2, 1) := by decide +kernel
theorem dX12_madeColumn_2 : decode cX12_madeColumn 2 = .ok (.invokevirtual 168, 3) := by decide +kernel
theorem dX12_madeColumn_5 : decode cX12_madeColumn 5 = .ok (.istore_n 2, 1) := by decide +kernel
theorem dX12_madeColumn_6 : decode cX12_madeColumn 6 = .ok (.iload_n 2, 1) := by decide +kernel
theorem dX12_madeColumn_7 : decode cX12_madeColumn 7 = .ok (.ifCond .lt 40, 3) := by decide +kernel
theorem dX12_madeColumn_10 : decode cX12_madeColumn 10 = .ok (.aload_n 0, 1) := by decide +kernel
theorem dX12_madeColumn_11 : decode cX12_madeColumn 11 = .ok (.getfield 13, 3) := by decide +kernel
theorem dX12_madeColumn_14 : decode cX12_madeColumn 14 = .ok (.iload_n 2, 1) := by decide +kernel
theorem dX12_madeColumn_15 : decode cX12_madeColumn 15 = .ok (.iload_n 1, 1) := by decide +kernel
theorem dX12_madeColumn_16 : decode cX12_madeColumn 16 = .ok (.iastore, 1) := by decide +kernel
theorem dX12_madeColumn_17 : decode cX12_madeColumn 17 = .ok (.iconst 0, 1) := by decide +kernel
theorem dX12_madeColumn_18 : decode cX12_madeColumn 18 = .ok (.istore_n 3, 1) := by decide +kernel
theorem dX12_madeColumn_19 : decode cX12_madeColumn 19 = .ok (.iload_n 3, 1) := by decide +kernel
theorem dX12_madeColumn_20 : decode cX12_madeColumn 20 = .ok (.iload_n 1, 1) := by decide +kernel
theorem dX12_madeColumn_21 : decode cX12_madeColumn 21 = .ok (.if_icmp .ge 26, 3) := by decide +kernel
theorem dX12_madeColumn_24 : decode cX12_madeColumn 24 = .ok (.aload_n 0, 1) := by decide +kernel
theorem dX12_madeColumn_25 : decode cX12_madeColumn 25 = .ok (.getfield 35, 3) := by decide +kernel
theorem dX12_madeColumn_28 : decode cX12_madeColumn 28 = .ok (.bipush 16, 2) := by decide +kernel
theorem dX12_madeColumn_30 : decode cX12_madeColumn 30 = .ok (.iload_n 2, 1) := by decide +kernel
theorem dX12_madeColumn_31 : decode cX12_madeColumn 31 = .ok (.imul, 1) := by decide +kernel
theorem dX12_madeColumn_32 : decode cX12_madeColumn 32 = .ok (.iload_n 3, 1) := by decide +kernel
theorem dX12_madeColumn_33 : decode cX12_madeColumn 33 = .ok (.iadd, 1) := by decide +kernel
theorem dX12_madeColumn_34 : decode cX12_madeColumn 34 = .ok (.aload_n 0, 1) := by decide +kernel
theorem dX12_madeColumn_35 : decode cX12_madeColumn 35 = .ok (.getfield 72, 3) := by decide +kernel
theorem dX12_madeColumn_38 : decode cX12_madeColumn 38 = .ok (.iload_n 3, 1) := by decide +kernel
theorem dX12_madeColumn_39 : decode cX12_madeColumn 39 = .ok (.laload, 1) := by decide +kernel
theorem dX12_madeColumn_40 : decode cX12_madeColumn 40 = .ok (.lastore, 1) := by decide +kernel
theorem dX12_madeColumn_41 : decode cX12_madeColumn 41 = .ok (.iinc 3 1, 3) := by decide +kernel
theorem dX12_madeColumn_44 : decode cX12_madeColumn 44 = .ok (.goto (-25), 3) := by decide +kernel
theorem dX12_madeColumn_47 : decode cX12_madeColumn 47 = .ok (.iload_n 2, 1) := by decide +kernel
theorem dX12_madeColumn_48 : decode cX12_madeColumn 48 = .ok (.ireturn, 1) := by decide +kernel
theorem dX12_flat_0 : decode cX12_flat 0 = .ok (.aload_n 0, 1) := by decide +kernel
theorem dX12_flat_1 : decode cX12_flat 1 = .ok (.iconst 0, 1) := by decide +kernel
theorem dX12_flat_2 : decode cX12_flat 2 = .ok (.putfield 142, 3) := by decide +kernel
theorem dX12_flat_5 : decode cX12_flat 5 = .ok (.iload_n 1, 1) := by decide +kernel
theorem dX12_flat_6 : decode cX12_flat 6 = .ok (.iconst 1, 1) := by decide +kernel
theorem dX12_flat_7 : decode cX12_flat 7 = .ok (.if_icmp .lt 21, 3) := by decide +kernel
theorem dX12_flat_10 : decode cX12_flat 10 = .ok (.iload_n 1, 1) := by decide +kernel
theorem dX12_flat_11 : decode cX12_flat 11 = .ok (.bipush 16, 2) := by decide +kernel
theorem dX12_flat_13 : decode cX12_flat 13 = .ok (.if_icmp .gt 15, 3) := by decide +kernel
theorem dX12_flat_16 : decode cX12_flat 16 = .ok (.iload 4, 2) := by decide +kernel
theorem dX12_flat_18 : decode cX12_flat 18 = .ok (.iconst (-1), 1) := by decide +kernel
theorem dX12_flat_19 : decode cX12_flat 19 = .ok (.if_icmp .lt 9, 3) := by decide +kernel
theorem dX12_flat_22 : decode cX12_flat 22 = .ok (.iload 4, 2) := by decide +kernel
theorem dX12_flat_24 : decode cX12_flat 24 = .ok (.iload_n 1, 1) := by decide +kernel
theorem dX12_flat_25 : decode cX12_flat 25 = .ok (.if_icmp .lt 10, 3) := by decide +kernel
theorem dX12_flat_28 : decode cX12_flat 28 = .ok (.aload_n 0, 1) := by decide +kernel
theorem dX12_flat_29 : decode cX12_flat 29 = .ok (.bipush (-3), 2) := by decide +kernel
theorem dX12_flat_31 : decode cX12_flat 31 = .ok (.invokevirtual 153, 3) := by decide +kernel
theorem dX12_flat_34 : decode cX12_flat 34 = .ok (.ireturn, 1) := by decide +kernel
theorem dX12_flat_35 : decode cX12_flat 35 = .ok (.iconst 0, 1) := by decide +kernel
theorem dX12_flat_36 : decode cX12_flat 36 = .ok (.istore 7, 2) := by decide +kernel
theorem dX12_flat_38 : decode cX12_flat 38 = .ok (.iload 7, 2) := by decide +kernel
theorem dX12_flat_40 : decode cX12_flat 40 = .ok (.iload_n 1, 1) := by decide +kernel
theorem dX12_flat_41 : decode cX12_flat 41 = .ok (.if_icmp .ge 29, 3) := by decide +kernel
theorem dX12_flat_44 : decode cX12_flat 44 = .ok (.aload_n 0, 1) := by decide +kernel
theorem dX12_flat_45 : decode cX12_flat 45 = .ok (.getfield 72, 3) := by decide +kernel
theorem dX12_flat_48 : decode cX12_flat 48 = .ok (.iload 7, 2) := by decide +kernel
theorem dX12_flat_50 : decode cX12_flat 50 = .ok (.iload 7, 2) := by decide +kernel
theorem dX12_flat_52 : decode cX12_flat 52 = .ok (.iload 4, 2) := by decide +kernel
theorem dX12_flat_54 : decode cX12_flat 54 = .ok (.if_icmp .ne 8, 3) := by decide +kernel
theorem dX12_flat_57 : decode cX12_flat 57 = .ok (.lload 5, 2) := by decide +kernel
theorem dX12_flat_59 : decode cX12_flat 59 = .ok (.goto 4, 3) := by decide +kernel
theorem dX12_flat_62 : decode cX12_flat 62 = .ok (.lload_n 2, 1) := by decide +kernel
theorem dX12_flat_63 : decode cX12_flat 63 = .ok (.lastore, 1) := by decide +kernel
theorem dX12_flat_64 : decode cX12_flat 64 = .ok (.iinc 7 1, 3) := by decide +kernel
theorem dX12_flat_67 : decode cX12_flat 67 = .ok (.goto (-29), 3) := by decide +kernel
theorem dX12_flat_70 : decode cX12_flat 70 = .ok (.aload_n 0, 1) := by decide +kernel
theorem dX12_flat_71 : decode cX12_flat 71 = .ok (.iload_n 1, 1) := by decide +kernel
theorem dX12_flat_72 : decode cX12_flat 72 = .ok (.invokevirtual 228, 3) := by decide +kernel
theorem dX12_flat_75 : decode cX12_flat 75 = .ok (.ireturn, 1) := by decide +kernel
theorem kX12_228 : lkK (gS, X) RX12 228 mX12_madeColumn 1 ∧ Cond.instanceMethod yX12_madeColumn ∈ g_ws (gS, X) ∧ Cond.selects RX12 yX12_madeColumn yX12_madeColumn ∈ g_ws (gS, X) ∧ yX12_madeColumn.cls = RX12 := ⟨⟨tb_good, (tb_t (k := 1394) (w := Cond.methodLink RX12 228 yX12_madeColumn) (by decide +kernel)), (tb_t (k := 8) (w := Cond.initialized RX12) (by decide +kernel)), (tb_t (k := 1397) (w := Cond.code yX12_madeColumn cX12_madeColumn 4 (some .int)) (by decide +kernel)), by decide +kernel, by decide⟩, (tb_t (k := 1396) (w := Cond.instanceMethod yX12_madeColumn) (by decide +kernel)), (tb_p (k := 97) (q := (yX12_madeColumn, 45)) (by decide +kernel)), rfl⟩
theorem dX12_view_0 : decode cX12_view 0 = .ok (.aload_n 0, 1) := by decide +kernel
theorem dX12_view_1 : decode cX12_view 1 = .ok (.iload_n 1, 1) := by decide +kernel
theorem dX12_view_2 : decode cX12_view 2 = .ok (.iconst 1, 1) := by decide +kernel
theorem dX12_view_3 : decode cX12_view 3 = .ok (.invokevirtual 183, 3) := by decide +kernel
theorem dX12_view_6 : decode cX12_view 6 = .ok (.ifCond .ne 8, 3) := by decide +kernel
theorem dX12_view_9 : decode cX12_view 9 = .ok (.aload_n 0, 1) := by decide +kernel
theorem dX12_view_10 : decode cX12_view 10 = .ok (.getfield 142, 3) := by decide +kernel
theorem dX12_view_13 : decode cX12_view 13 = .ok (.ireturn, 1) := by decide +kernel
theorem dX12_view_14 : decode cX12_view 14 = .ok (.aload_n 0, 1) := by decide +kernel
theorem dX12_view_15 : decode cX12_view 15 = .ok (.getfield 13, 3) := by decide +kernel
theorem dX12_view_18 : decode cX12_view 18 = .ok (.iload_n 1, 1) := by decide +kernel
theorem dX12_view_19 : decode cX12_view 19 = .ok (.iaload, 1) := by decide +kernel
theorem dX12_view_20 : decode cX12_view 20 = .ok (.istore 4, 2) := by decide +kernel
theorem dX12_view_22 : decode cX12_view 22 = .ok (.iload_n 2, 1) := by decide +kernel
theorem dX12_view_23 : decode cX12_view 23 = .ok (.ifCond .lt 52, 3) := by decide +kernel
theorem dX12_view_26 : decode cX12_view 26 = .ok (.iload_n 2, 1) := by decide +kernel
theorem dX12_view_27 : decode cX12_view 27 = .ok (.bipush 7, 2) := by decide +kernel
theorem dX12_view_29 : decode cX12_view 29 = .ok (.if_icmp .gt 46, 3) := by decide +kernel
theorem dX12_view_32 : decode cX12_view 32 = .ok (.iload_n 2, 1) := by decide +kernel
theorem dX12_view_33 : decode cX12_view 33 = .ok (.iconst 4, 1) := by decide +kernel
theorem dX12_view_34 : decode cX12_view 34 = .ok (.if_icmp .ne 15, 3) := by decide +kernel
theorem dX12_view_37 : decode cX12_view 37 = .ok (.iload_n 3, 1) := by decide +kernel
theorem dX12_view_38 : decode cX12_view 38 = .ok (.ifCond .le 37, 3) := by decide +kernel
theorem dX12_view_41 : decode cX12_view 41 = .ok (.iload_n 3, 1) := by decide +kernel
theorem dX12_view_42 : decode cX12_view 42 = .ok (.iconst 1, 1) := by decide +kernel
theorem dX12_view_43 : decode cX12_view 43 = .ok (.iload 4, 2) := by decide +kernel
theorem dX12_view_45 : decode cX12_view 45 = .ok (.ishl, 1) := by decide +kernel
theorem dX12_view_46 : decode cX12_view 46 = .ok (.if_icmp .ge 29, 3) := by decide +kernel
theorem dX12_view_49 : decode cX12_view 49 = .ok (.iload_n 2, 1) := by decide +kernel
theorem dX12_view_50 : decode cX12_view 50 = .ok (.bipush 7, 2) := by decide +kernel
theorem dX12_view_52 : decode cX12_view 52 = .ok (.if_icmp .ne 30, 3) := by decide +kernel
theorem dX12_view_55 : decode cX12_view 55 = .ok (.aload_n 0, 1) := by decide +kernel
theorem dX12_view_56 : decode cX12_view 56 = .ok (.getfield 20, 3) := by decide +kernel
theorem dX12_view_59 : decode cX12_view 59 = .ok (.iload_n 1, 1) := by decide +kernel
theorem dX12_view_60 : decode cX12_view 60 = .ok (.iaload, 1) := by decide +kernel
theorem dX12_view_61 : decode cX12_view 61 = .ok (.ifCond .eq 14, 3) := by decide +kernel
theorem dX12_view_64 : decode cX12_view 64 = .ok (.aload_n 0, 1) := by decide +kernel
theorem dX12_view_65 : decode cX12_view 65 = .ok (.getfield 20, 3) := by decide +kernel
theorem dX12_view_68 : decode cX12_view 68 = .ok (.iload_n 1, 1) := by decide +kernel
theorem dX12_view_69 : decode cX12_view 69 = .ok (.iaload, 1) := by decide +kernel
theorem dX12_view_70 : decode cX12_view 70 = .ok (.bipush 16, 2) := by decide +kernel
theorem dX12_view_72 : decode cX12_view 72 = .ok (.if_icmp .le 10, 3) := by decide +kernel
theorem dX12_view_75 : decode cX12_view 75 = .ok (.aload_n 0, 1) := by decide +kernel
theorem dX12_view_76 : decode cX12_view 76 = .ok (.bipush (-3), 2) := by decide +kernel
theorem dX12_view_78 : decode cX12_view 78 = .ok (.invokevirtual 153, 3) := by decide +kernel
theorem dX12_view_81 : decode cX12_view 81 = .ok (.ireturn, 1) := by decide +kernel
theorem dX12_view_82 : decode cX12_view 82 = .ok (.aload_n 0, 1) := by decide +kernel
theorem dX12_view_83 : decode cX12_view 83 = .ok (.iconst 0, 1) := by decide +kernel
theorem dX12_view_84 : decode cX12_view 84 = .ok (.putfield 165, 3) := by decide +kernel
theorem dX12_view_87 : decode cX12_view 87 = .ok (.aload_n 0, 1) := by decide +kernel
theorem dX12_view_88 : decode cX12_view 88 = .ok (.getfield 16, 3) := by decide +kernel
theorem dX12_view_91 : decode cX12_view 91 = .ok (.iload_n 1, 1) := by decide +kernel
theorem dX12_view_92 : decode cX12_view 92 = .ok (.baload, 1) := by decide +kernel
theorem dX12_view_93 : decode cX12_view 93 = .ok (.ifCond .eq 12, 3) := by decide +kernel
theorem dX12_view_96 : decode cX12_view 96 = .ok (.iload_n 2, 1) := by decide +kernel
theorem dX12_view_97 : decode cX12_view 97 = .ok (.iconst 1, 1) := by decide +kernel
theorem dX12_view_98 : decode cX12_view 98 = .ok (.if_icmp .eq 7, 3) := by decide +kernel
theorem dX12_view_101 : decode cX12_view 101 = .ok (.iconst 1, 1) := by decide +kernel
theorem dX12_view_102 : decode cX12_view 102 = .ok (.goto 4, 3) := by decide +kernel
theorem dX12_view_105 : decode cX12_view 105 = .ok (.iconst 0, 1) := by decide +kernel
theorem dX12_view_106 : decode cX12_view 106 = .ok (.istore 5, 2) := by decide +kernel
theorem dX12_view_108 : decode cX12_view 108 = .ok (.iload_n 2, 1) := by decide +kernel
theorem dX12_view_109 : decode cX12_view 109 = .ok (.bipush 6, 2) := by decide +kernel
theorem dX12_view_111 : decode cX12_view 111 = .ok (.if_icmp .ne 17, 3) := by decide +kernel
theorem dX12_view_114 : decode cX12_view 114 = .ok (.aload_n 0, 1) := by decide +kernel
theorem dX12_view_115 : decode cX12_view 115 = .ok (.iload_n 1, 1) := by decide +kernel
theorem dX12_view_116 : decode cX12_view 116 = .ok (.invokevirtual 187, 3) := by decide +kernel
theorem dX12_view_119 : decode cX12_view 119 = .ok (.aload_n 0, 1) := by decide +kernel
theorem dX12_view_120 : decode cX12_view 120 = .ok (.iload 4, 2) := by decide +kernel
theorem dX12_view_122 : decode cX12_view 122 = .ok (.iload 5, 2) := by decide +kernel
theorem dX12_view_124 : decode cX12_view 124 = .ok (.invokevirtual 179, 3) := by decide +kernel
theorem dX12_view_127 : decode cX12_view 127 = .ok (.ireturn, 1) := by decide +kernel
theorem dX12_view_128 : decode cX12_view 128 = .ok (.iload_n 2, 1) := by decide +kernel
theorem dX12_view_129 : decode cX12_view 129 = .ok (.bipush 7, 2) := by decide +kernel
theorem dX12_view_131 : decode cX12_view 131 = .ok (.if_icmp .ne 21, 3) := by decide +kernel
theorem dX12_view_134 : decode cX12_view 134 = .ok (.aload_n 0, 1) := by decide +kernel
theorem dX12_view_135 : decode cX12_view 135 = .ok (.iload_n 1, 1) := by decide +kernel
theorem dX12_view_136 : decode cX12_view 136 = .ok (.invokevirtual 191, 3) := by decide +kernel
theorem dX12_view_139 : decode cX12_view 139 = .ok (.aload_n 0, 1) := by decide +kernel
theorem dX12_view_140 : decode cX12_view 140 = .ok (.aload_n 0, 1) := by decide +kernel
theorem dX12_view_141 : decode cX12_view 141 = .ok (.getfield 20, 3) := by decide +kernel
theorem dX12_view_144 : decode cX12_view 144 = .ok (.iload_n 1, 1) := by decide +kernel
theorem dX12_view_145 : decode cX12_view 145 = .ok (.iaload, 1) := by decide +kernel
theorem dX12_view_146 : decode cX12_view 146 = .ok (.iload 5, 2) := by decide +kernel
theorem dX12_view_148 : decode cX12_view 148 = .ok (.invokevirtual 179, 3) := by decide +kernel
theorem dX12_view_151 : decode cX12_view 151 = .ok (.ireturn, 1) := by decide +kernel
theorem dX12_view_152 : decode cX12_view 152 = .ok (.iconst 0, 1) := by decide +kernel
theorem dX12_view_153 : decode cX12_view 153 = .ok (.istore 6, 2) := by decide +kernel
theorem dX12_view_155 : decode cX12_view 155 = .ok (.iload 6, 2) := by decide +kernel
theorem dX12_view_157 : decode cX12_view 157 = .ok (.aload_n 0, 1) := by decide +kernel
theorem dX12_view_158 : decode cX12_view 158 = .ok (.getfield 20, 3) := by decide +kernel
theorem dX12_view_161 : decode cX12_view 161 = .ok (.iload_n 1, 1) := by decide +kernel
theorem dX12_view_162 : decode cX12_view 162 = .ok (.iaload, 1) := by decide +kernel
theorem dX12_view_163 : decode cX12_view 163 = .ok (.if_icmp .ge 295, 3) := by decide +kernel
theorem dX12_view_166 : decode cX12_view 166 = .ok (.iload_n 1, 1) := by decide +kernel
theorem dX12_view_167 : decode cX12_view 167 = .ok (.iload 6, 2) := by decide +kernel
theorem dX12_view_169 : decode cX12_view 169 = .ok (.invokestatic 157, 3) := by decide +kernel
theorem dX12_view_172 : decode cX12_view 172 = .ok (.istore 7, 2) := by decide +kernel
theorem dX12_view_174 : decode cX12_view 174 = .ok (.aload_n 0, 1) := by decide +kernel
theorem dX12_view_175 : decode cX12_view 175 = .ok (.getfield 23, 3) := by decide +kernel
theorem dX12_view_178 : decode cX12_view 178 = .ok (.iload 7, 2) := by decide +kernel
theorem dX12_view_180 : decode cX12_view 180 = .ok (.iaload, 1) := by decide +kernel
theorem dX12_view_181 : decode cX12_view 181 = .ok (.istore 8, 2) := by decide +kernel
theorem dX12_view_183 : decode cX12_view 183 = .ok (.aload_n 0, 1) := by decide +kernel
theorem dX12_view_184 : decode cX12_view 184 = .ok (.getfield 26, 3) := by decide +kernel
theorem dX12_view_187 : decode cX12_view 187 = .ok (.iload 7, 2) := by decide +kernel
theorem dX12_view_189 : decode cX12_view 189 = .ok (.iaload, 1) := by decide +kernel
theorem dX12_view_190 : decode cX12_view 190 = .ok (.istore 9, 2) := by decide +kernel
theorem dX12_view_192 : decode cX12_view 192 = .ok (.iconst 1, 1) := by decide +kernel
theorem dX12_view_193 : decode cX12_view 193 = .ok (.istore 10, 2) := by decide +kernel
theorem dX12_view_195 : decode cX12_view 195 = .ok (.iload_n 2, 1) := by decide +kernel
theorem dX12_view_196 : decode cX12_view 196 = .ok (.iconst 2, 1) := by decide +kernel
theorem dX12_view_197 : decode cX12_view 197 = .ok (.if_icmp .eq 8, 3) := by decide +kernel
theorem dX12_view_200 : decode cX12_view 200 = .ok (.iload_n 2, 1) := by decide +kernel
theorem dX12_view_201 : decode cX12_view 201 = .ok (.iconst 3, 1) := by decide +kernel
theorem dX12_view_202 : decode cX12_view 202 = .ok (.if_icmp .ne 17, 3) := by decide +kernel
theorem dX12_view_205 : decode cX12_view 205 = .ok (.iload 8, 2) := by decide +kernel
theorem dX12_view_207 : decode cX12_view 207 = .ok (.iload 9, 2) := by decide +kernel
theorem dX12_view_209 : decode cX12_view 209 = .ok (.if_icmp .eq 7, 3) := by decide +kernel
theorem dX12_view_212 : decode cX12_view 212 = .ok (.iconst 1, 1) := by decide +kernel
theorem dX12_view_213 : decode cX12_view 213 = .ok (.goto 4, 3) := by decide +kernel
theorem dX12_view_216 : decode cX12_view 216 = .ok (.iconst 0, 1) := by decide +kernel
theorem dX12_view_217 : decode cX12_view 217 = .ok (.istore 10, 2) := by decide +kernel
theorem dX12_view_219 : decode cX12_view 219 = .ok (.iconst 0, 1) := by decide +kernel
theorem dX12_view_220 : decode cX12_view 220 = .ok (.istore 11, 2) := by decide +kernel
theorem dX12_view_222 : decode cX12_view 222 = .ok (.iload 11, 2) := by decide +kernel
theorem dX12_view_224 : decode cX12_view 224 = .ok (.aload_n 0, 1) := by decide +kernel
theorem dX12_view_225 : decode cX12_view 225 = .ok (.getfield 20, 3) := by decide +kernel
theorem dX12_view_228 : decode cX12_view 228 = .ok (.iload_n 1, 1) := by decide +kernel
theorem dX12_view_229 : decode cX12_view 229 = .ok (.iaload, 1) := by decide +kernel
theorem dX12_view_230 : decode cX12_view 230 = .ok (.if_icmp .ge 94, 3) := by decide +kernel
theorem dX12_view_233 : decode cX12_view 233 = .ok (.iload_n 2, 1) := by decide +kernel
theorem dX12_view_234 : decode cX12_view 234 = .ok (.iconst 3, 1) := by decide +kernel
theorem dX12_view_235 : decode cX12_view 235 = .ok (.if_icmp .ne 89, 3) := by decide +kernel
theorem dX12_view_238 : decode cX12_view 238 = .ok (.iload 10, 2) := by decide +kernel
theorem dX12_view_240 : decode cX12_view 240 = .ok (.ifCond .eq 84, 3) := by decide +kernel
theorem dX12_view_243 : decode cX12_view 243 = .ok (.iload_n 1, 1) := by decide +kernel
theorem dX12_view_244 : decode cX12_view 244 = .ok (.iload 11, 2) := by decide +kernel
theorem dX12_view_246 : decode cX12_view 246 = .ok (.invokestatic 157, 3) := by decide +kernel
theorem dX12_view_249 : decode cX12_view 249 = .ok (.istore 12, 2) := by decide +kernel
theorem dX12_view_251 : decode cX12_view 251 = .ok (.iload 11, 2) := by decide +kernel
theorem dX12_view_253 : decode cX12_view 253 = .ok (.iload 6, 2) := by decide +kernel
theorem dX12_view_255 : decode cX12_view 255 = .ok (.if_icmp .eq 56, 3) := by decide +kernel
theorem dX12_view_258 : decode cX12_view 258 = .ok (.aload_n 0, 1) := by decide +kernel
theorem dX12_view_259 : decode cX12_view 259 = .ok (.iload_n 1, 1) := by decide +kernel
theorem dX12_view_260 : decode cX12_view 260 = .ok (.iload 7, 2) := by decide +kernel
theorem dX12_view_262 : decode cX12_view 262 = .ok (.iload 12, 2) := by decide +kernel
theorem dX12_view_264 : decode cX12_view 264 = .ok (.invokevirtual 194, 3) := by decide +kernel
theorem dX12_view_267 : decode cX12_view 267 = .ok (.ifCond .eq 44, 3) := by decide +kernel
theorem dX12_view_270 : decode cX12_view 270 = .ok (.aload_n 0, 1) := by decide +kernel
theorem dX12_view_271 : decode cX12_view 271 = .ok (.getfield 29, 3) := by decide +kernel
theorem dX12_view_274 : decode cX12_view 274 = .ok (.iload 12, 2) := by decide +kernel
theorem dX12_view_276 : decode cX12_view 276 = .ok (.iaload, 1) := by decide +kernel
theorem dX12_view_277 : decode cX12_view 277 = .ok (.aload_n 0, 1) := by decide +kernel
theorem dX12_view_278 : decode cX12_view 278 = .ok (.getfield 29, 3) := by decide +kernel
theorem dX12_view_281 : decode cX12_view 281 = .ok (.iload 7, 2) := by decide +kernel
theorem dX12_view_283 : decode cX12_view 283 = .ok (.iaload, 1) := by decide +kernel
theorem dX12_view_284 : decode cX12_view 284 = .ok (.if_icmp .gt 27, 3) := by decide +kernel
theorem dX12_view_287 : decode cX12_view 287 = .ok (.aload_n 0, 1) := by decide +kernel
theorem dX12_view_288 : decode cX12_view 288 = .ok (.getfield 29, 3) := by decide +kernel
theorem dX12_view_291 : decode cX12_view 291 = .ok (.iload 12, 2) := by decide +kernel
theorem dX12_view_293 : decode cX12_view 293 = .ok (.iaload, 1) := by decide +kernel
theorem dX12_view_294 : decode cX12_view 294 = .ok (.aload_n 0, 1) := by decide +kernel
theorem dX12_view_295 : decode cX12_view 295 = .ok (.getfield 29, 3) := by decide +kernel
theorem dX12_view_298 : decode cX12_view 298 = .ok (.iload 7, 2) := by decide +kernel
theorem dX12_view_300 : decode cX12_view 300 = .ok (.iaload, 1) := by decide +kernel
theorem dX12_view_301 : decode cX12_view 301 = .ok (.if_icmp .ne 14, 3) := by decide +kernel
theorem dX12_view_304 : decode cX12_view 304 = .ok (.iload 11, 2) := by decide +kernel
theorem dX12_view_306 : decode cX12_view 306 = .ok (.iload 6, 2) := by decide +kernel
theorem dX12_view_308 : decode cX12_view 308 = .ok (.if_icmp .le 7, 3) := by decide +kernel
theorem dX12_view_311 : decode cX12_view 311 = .ok (.iconst 1, 1) := by decide +kernel
theorem dX12_view_312 : decode cX12_view 312 = .ok (.goto 4, 3) := by decide +kernel
theorem dX12_view_315 : decode cX12_view 315 = .ok (.iconst 0, 1) := by decide +kernel
theorem dX12_view_316 : decode cX12_view 316 = .ok (.istore 10, 2) := by decide +kernel
theorem dX12_view_318 : decode cX12_view 318 = .ok (.iinc 11 1, 3) := by decide +kernel
theorem dX12_view_321 : decode cX12_view 321 = .ok (.goto (-99), 3) := by decide +kernel
theorem dX12_view_324 : decode cX12_view 324 = .ok (.iload_n 2, 1) := by decide +kernel
theorem dX12_view_325 : decode cX12_view 325 = .ok (.iconst 4, 1) := by decide +kernel
theorem dX12_view_326 : decode cX12_view 326 = .ok (.if_icmp .ne 30, 3) := by decide +kernel
theorem dX12_view_329 : decode cX12_view 329 = .ok (.iload_n 3, 1) := by decide +kernel
theorem dX12_view_330 : decode cX12_view 330 = .ok (.iload 8, 2) := by decide +kernel
theorem dX12_view_332 : decode cX12_view 332 = .ok (.ishr, 1) := by decide +kernel
theorem dX12_view_333 : decode cX12_view 333 = .ok (.iconst 1, 1) := by decide +kernel
theorem dX12_view_334 : decode cX12_view 334 = .ok (.iand, 1) := by decide +kernel
theorem dX12_view_335 : decode cX12_view 335 = .ok (.iconst 1, 1) := by decide +kernel
theorem dX12_view_336 : decode cX12_view 336 = .ok (.if_icmp .ne 17, 3) := by decide +kernel
theorem dX12_view_339 : decode cX12_view 339 = .ok (.iload_n 3, 1) := by decide +kernel
theorem dX12_view_340 : decode cX12_view 340 = .ok (.iload 9, 2) := by decide +kernel
theorem dX12_view_342 : decode cX12_view 342 = .ok (.ishr, 1) := by decide +kernel
theorem dX12_view_343 : decode cX12_view 343 = .ok (.iconst 1, 1) := by decide +kernel
theorem dX12_view_344 : decode cX12_view 344 = .ok (.iand, 1) := by decide +kernel
theorem dX12_view_345 : decode cX12_view 345 = .ok (.iconst 1, 1) := by decide +kernel
theorem dX12_view_346 : decode cX12_view 346 = .ok (.if_icmp .ne 7, 3) := by decide +kernel
theorem dX12_view_349 : decode cX12_view 349 = .ok (.iconst 1, 1) := by decide +kernel
theorem dX12_view_350 : decode cX12_view 350 = .ok (.goto 4, 3) := by decide +kernel
theorem dX12_view_353 : decode cX12_view 353 = .ok (.iconst 0, 1) := by decide +kernel
theorem dX12_view_354 : decode cX12_view 354 = .ok (.istore 10, 2) := by decide +kernel
theorem dX12_view_356 : decode cX12_view 356 = .ok (.iload_n 2, 1) := by decide +kernel
theorem dX12_view_357 : decode cX12_view 357 = .ok (.iconst 5, 1) := by decide +kernel
theorem dX12_view_358 : decode cX12_view 358 = .ok (.if_icmp .ne 21, 3) := by decide +kernel
theorem dX12_view_361 : decode cX12_view 361 = .ok (.aload_n 0, 1) := by decide +kernel
theorem dX12_view_362 : decode cX12_view 362 = .ok (.getfield 29, 3) := by decide +kernel
theorem dX12_view_365 : decode cX12_view 365 = .ok (.iload 7, 2) := by decide +kernel
theorem dX12_view_367 : decode cX12_view 367 = .ok (.iaload, 1) := by decide +kernel
theorem dX12_view_368 : decode cX12_view 368 = .ok (.iload_n 3, 1) := by decide +kernel
theorem dX12_view_369 : decode cX12_view 369 = .ok (.if_icmp .lt 7, 3) := by decide +kernel
theorem dX12_view_372 : decode cX12_view 372 = .ok (.iconst 1, 1) := by decide +kernel
theorem dX12_view_373 : decode cX12_view 373 = .ok (.goto 4, 3) := by decide +kernel
theorem dX12_view_376 : decode cX12_view 376 = .ok (.iconst 0, 1) := by decide +kernel
theorem dX12_view_377 : decode cX12_view 377 = .ok (.istore 10, 2) := by decide +kernel
theorem dX12_view_379 : decode cX12_view 379 = .ok (.iload 10, 2) := by decide +kernel
theorem dX12_view_381 : decode cX12_view 381 = .ok (.ifCond .eq 71, 3) := by decide +kernel
theorem dX12_view_384 : decode cX12_view 384 = .ok (.aload_n 0, 1) := by decide +kernel
theorem dX12_view_385 : decode cX12_view 385 = .ok (.iload_n 2, 1) := by decide +kernel
theorem dX12_view_386 : decode cX12_view 386 = .ok (.ifCond .ne 8, 3) := by decide +kernel
theorem dX12_view_389 : decode cX12_view 389 = .ok (.iload 9, 2) := by decide +kernel
theorem dX12_view_391 : decode cX12_view 391 = .ok (.goto 19, 3) := by decide +kernel
theorem dX12_view_394 : decode cX12_view 394 = .ok (.iload_n 2, 1) := by decide +kernel
theorem dX12_view_395 : decode cX12_view 395 = .ok (.iconst 4, 1) := by decide +kernel
theorem dX12_view_396 : decode cX12_view 396 = .ok (.if_icmp .ne 12, 3) := by decide +kernel
theorem dX12_view_399 : decode cX12_view 399 = .ok (.iload_n 3, 1) := by decide +kernel
theorem dX12_view_400 : decode cX12_view 400 = .ok (.iload 8, 2) := by decide +kernel
theorem dX12_view_402 : decode cX12_view 402 = .ok (.invokestatic 198, 3) := by decide +kernel
theorem dX12_view_405 : decode cX12_view 405 = .ok (.goto 5, 3) := by decide +kernel
theorem dX12_view_408 : decode cX12_view 408 = .ok (.iload 8, 2) := by decide +kernel
theorem dX12_view_410 : decode cX12_view 410 = .ok (.iload_n 2, 1) := by decide +kernel
theorem dX12_view_411 : decode cX12_view 411 = .ok (.ifCond .ne 8, 3) := by decide +kernel
theorem dX12_view_414 : decode cX12_view 414 = .ok (.iload 8, 2) := by decide +kernel
theorem dX12_view_416 : decode cX12_view 416 = .ok (.goto 19, 3) := by decide +kernel
theorem dX12_view_419 : decode cX12_view 419 = .ok (.iload_n 2, 1) := by decide +kernel
theorem dX12_view_420 : decode cX12_view 420 = .ok (.iconst 4, 1) := by decide +kernel
theorem dX12_view_421 : decode cX12_view 421 = .ok (.if_icmp .ne 12, 3) := by decide +kernel
theorem dX12_view_424 : decode cX12_view 424 = .ok (.iload_n 3, 1) := by decide +kernel
theorem dX12_view_425 : decode cX12_view 425 = .ok (.iload 9, 2) := by decide +kernel
theorem dX12_view_427 : decode cX12_view 427 = .ok (.invokestatic 198, 3) := by decide +kernel
theorem dX12_view_430 : decode cX12_view 430 = .ok (.goto 5, 3) := by decide +kernel
theorem dX12_view_433 : decode cX12_view 433 = .ok (.iload 9, 2) := by decide +kernel
theorem dX12_view_435 : decode cX12_view 435 = .ok (.aload_n 0, 1) := by decide +kernel
theorem dX12_view_436 : decode cX12_view 436 = .ok (.getfield 29, 3) := by decide +kernel
theorem dX12_view_439 : decode cX12_view 439 = .ok (.iload 7, 2) := by decide +kernel
theorem dX12_view_441 : decode cX12_view 441 = .ok (.iaload, 1) := by decide +kernel
theorem dX12_view_442 : decode cX12_view 442 = .ok (.aload_n 0, 1) := by decide +kernel
theorem dX12_view_443 : decode cX12_view 443 = .ok (.getfield 32, 3) := by decide +kernel
theorem dX12_view_446 : decode cX12_view 446 = .ok (.iload 7, 2) := by decide +kernel
theorem dX12_view_448 : decode cX12_view 448 = .ok (.iaload, 1) := by decide +kernel
theorem dX12_view_449 : decode cX12_view 449 = .ok (.invokevirtual 171, 3) := by decide +kernel
theorem dX12_view_452 : decode cX12_view 452 = .ok (.iinc 6 1, 3) := by decide +kernel
theorem dX12_view_455 : decode cX12_view 455 = .ok (.goto (-300), 3) := by decide +kernel
theorem dX12_view_458 : decode cX12_view 458 = .ok (.aload_n 0, 1) := by decide +kernel
theorem dX12_view_459 : decode cX12_view 459 = .ok (.iload_n 2, 1) := by decide +kernel
theorem dX12_view_460 : decode cX12_view 460 = .ok (.iconst 4, 1) := by decide +kernel
theorem dX12_view_461 : decode cX12_view 461 = .ok (.if_icmp .ne 10, 3) := by decide +kernel
theorem dX12_view_464 : decode cX12_view 464 = .ok (.iload_n 3, 1) := by decide +kernel
theorem dX12_view_465 : decode cX12_view 465 = .ok (.invokestatic 201, 3) := by decide +kernel
theorem dX12_view_468 : decode cX12_view 468 = .ok (.goto 5, 3) := by decide +kernel
theorem dX12_view_471 : decode cX12_view 471 = .ok (.iload 4, 2) := by decide +kernel
theorem dX12_view_473 : decode cX12_view 473 = .ok (.iload 5, 2) := by decide +kernel
theorem dX12_view_475 : decode cX12_view 475 = .ok (.invokevirtual 179, 3) := by decide +kernel
theorem dX12_view_478 : decode cX12_view 478 = .ok (.ireturn, 1) := by decide +kernel
theorem kX12_183 : lkK (gS, X) RX12 183 mX12_has 2 ∧ Cond.instanceMethod yX12_has ∈ g_ws (gS, X) ∧ Cond.selects RX12 yX12_has yX12_has ∈ g_ws (gS, X) ∧ yX12_has.cls = RX12 := ⟨⟨tb_good, (tb_t (k := 1319) (w := Cond.methodLink RX12 183 yX12_has) (by decide +kernel)), (tb_t (k := 8) (w := Cond.initialized RX12) (by decide +kernel)), (tb_t (k := 1322) (w := Cond.code yX12_has cX12_has 3 (some .boolean)) (by decide +kernel)), by decide +kernel, by decide⟩, (tb_t (k := 1321) (w := Cond.instanceMethod yX12_has) (by decide +kernel)), (tb_p (k := 82) (q := (yX12_has, 45)) (by decide +kernel)), rfl⟩
theorem kX12_187 : lkK (gS, X) RX12 187 mX12_square 1 ∧ Cond.instanceMethod yX12_square ∈ g_ws (gS, X) ∧ Cond.selects RX12 yX12_square yX12_square ∈ g_ws (gS, X) ∧ yX12_square.cls = RX12 := ⟨⟨tb_good, (tb_t (k := 1327) (w := Cond.methodLink RX12 187 yX12_square) (by decide +kernel)), (tb_t (k := 8) (w := Cond.initialized RX12) (by decide +kernel)), (tb_t (k := 1330) (w := Cond.code yX12_square cX12_square 10 none) (by decide +kernel)), by decide +kernel, by decide⟩, (tb_t (k := 1329) (w := Cond.instanceMethod yX12_square) (by decide +kernel)), (tb_p (k := 84) (q := (yX12_square, 45)) (by decide +kernel)), rfl⟩
theorem kX12_191 : lkK (gS, X) RX12 191 mX12_line 1 ∧ Cond.instanceMethod yX12_line ∈ g_ws (gS, X) ∧ Cond.selects RX12 yX12_line yX12_line ∈ g_ws (gS, X) ∧ yX12_line.cls = RX12 := ⟨⟨tb_good, (tb_t (k := 1336) (w := Cond.methodLink RX12 191 yX12_line) (by decide +kernel)), (tb_t (k := 8) (w := Cond.initialized RX12) (by decide +kernel)), (tb_t (k := 1339) (w := Cond.code yX12_line cX12_line 7 none) (by decide +kernel)), by decide +kernel, by decide⟩, (tb_t (k := 1338) (w := Cond.instanceMethod yX12_line) (by decide +kernel)), (tb_p (k := 86) (q := (yX12_line, 45)) (by decide +kernel)), rfl⟩
theorem kX12_194 : lkK (gS, X) RX12 194 mX12_sameEnds 3 ∧ Cond.instanceMethod yX12_sameEnds ∈ g_ws (gS, X) ∧ Cond.selects RX12 yX12_sameEnds yX12_sameEnds ∈ g_ws (gS, X) ∧ yX12_sameEnds.cls = RX12 := ⟨⟨tb_good, (tb_t (k := 1340) (w := Cond.methodLink RX12 194 yX12_sameEnds) (by decide +kernel)), (tb_t (k := 8) (w := Cond.initialized RX12) (by decide +kernel)), (tb_t (k := 1343) (w := Cond.code yX12_sameEnds cX12_sameEnds 5 (some .boolean)) (by decide +kernel)), by decide +kernel, by decide⟩, (tb_t (k := 1342) (w := Cond.instanceMethod yX12_sameEnds) (by decide +kernel)), (tb_p (k := 87) (q := (yX12_sameEnds, 45)) (by decide +kernel)), rfl⟩
theorem kX12_198 : lkK (gS, X) RX12 198 mX12_placeIn 2 ∧ Cond.static yX12_placeIn ∈ g_ws (gS, X) := ⟨⟨tb_good, (tb_t (k := 1344) (w := Cond.methodLink RX12 198 yX12_placeIn) (by decide +kernel)), (tb_t (k := 8) (w := Cond.initialized RX12) (by decide +kernel)), (tb_t (k := 1346) (w := Cond.code yX12_placeIn cX12_placeIn 4 (some .int)) (by decide +kernel)), by decide +kernel, by decide⟩, (tb_t (k := 1345) (w := Cond.static yX12_placeIn) (by decide +kernel))⟩
theorem kX12_201 : lkK (gS, X) RX12 201 mX12_bits 1 ∧ Cond.static yX12_bits ∈ g_ws (gS, X) := ⟨⟨tb_good, (tb_t (k := 1347) (w := Cond.methodLink RX12 201 yX12_bits) (by decide +kernel)), (tb_t (k := 8) (w := Cond.initialized RX12) (by decide +kernel)), (tb_t (k := 1349) (w := Cond.code yX12_bits cX12_bits 3 (some .int)) (by decide +kernel)), by decide +kernel, by decide⟩, (tb_t (k := 1348) (w := Cond.static yX12_bits) (by decide +kernel))⟩
theorem dX12_join_0 : decode cX12_join 0 = .ok (.aload_n 0, 1) := by decide +kernel
theorem dX12_join_1 : decode cX12_join 1 = .ok (.iload_n 1, 1) := by decide +kernel
theorem dX12_join_2 : decode cX12_join 2 = .ok (.iconst 1, 1) := by decide +kernel
theorem dX12_join_3 : decode cX12_join 3 = .ok (.iload_n 2, 1) := by decide +kernel
theorem dX12_join_4 : decode cX12_join 4 = .ok (.iload_n 3, 1) := by decide +kernel
theorem dX12_join_5 : decode cX12_join 5 = .ok (.ifCond .eq 7, 3) := by decide +kernel
theorem dX12_join_8 : decode cX12_join 8 = .ok (.iconst 4, 1) := by decide +kernel
theorem dX12_join_9 : decode cX12_join 9 = .ok (.goto 4, 3) := by decide +kernel
theorem dX12_join_12 : decode cX12_join 12 = .ok (.iconst 1, 1) := by decide +kernel
theorem dX12_join_13 : decode cX12_join 13 = .ok (.invokevirtual 209, 3) := by decide +kernel
theorem dX12_join_16 : decode cX12_join 16 = .ok (.ifCond .ne 8, 3) := by decide +kernel
theorem dX12_join_19 : decode cX12_join 19 = .ok (.aload_n 0, 1) := by decide +kernel
theorem dX12_join_20 : decode cX12_join 20 = .ok (.getfield 142, 3) := by decide +kernel
theorem dX12_join_23 : decode cX12_join 23 = .ok (.ireturn, 1) := by decide +kernel
theorem dX12_join_24 : decode cX12_join 24 = .ok (.aload_n 0, 1) := by decide +kernel
theorem dX12_join_25 : decode cX12_join 25 = .ok (.iconst 0, 1) := by decide +kernel
theorem dX12_join_26 : decode cX12_join 26 = .ok (.putfield 165, 3) := by decide +kernel
theorem dX12_join_29 : decode cX12_join 29 = .ok (.iload_n 3, 1) := by decide +kernel
theorem dX12_join_30 : decode cX12_join 30 = .ok (.ifCond .eq 137, 3) := by decide +kernel
theorem dX12_join_33 : decode cX12_join 33 = .ok (.aload_n 0, 1) := by decide +kernel
theorem dX12_join_34 : decode cX12_join 34 = .ok (.getfield 13, 3) := by decide +kernel
theorem dX12_join_37 : decode cX12_join 37 = .ok (.iload_n 1, 1) := by decide +kernel
theorem dX12_join_38 : decode cX12_join 38 = .ok (.iaload, 1) := by decide +kernel
theorem dX12_join_39 : decode cX12_join 39 = .ok (.aload_n 0, 1) := by decide +kernel
theorem dX12_join_40 : decode cX12_join 40 = .ok (.getfield 13, 3) := by decide +kernel
theorem dX12_join_43 : decode cX12_join 43 = .ok (.iload_n 2, 1) := by decide +kernel
theorem dX12_join_44 : decode cX12_join 44 = .ok (.iaload, 1) := by decide +kernel
theorem dX12_join_45 : decode cX12_join 45 = .ok (.if_icmp .eq 10, 3) := by decide +kernel
theorem dX12_join_48 : decode cX12_join 48 = .ok (.aload_n 0, 1) := by decide +kernel
theorem dX12_join_49 : decode cX12_join 49 = .ok (.bipush (-3), 2) := by decide +kernel
theorem dX12_join_51 : decode cX12_join 51 = .ok (.invokevirtual 153, 3) := by decide +kernel
theorem dX12_join_54 : decode cX12_join 54 = .ok (.ireturn, 1) := by decide +kernel
theorem dX12_join_55 : decode cX12_join 55 = .ok (.iconst 0, 1) := by decide +kernel
theorem dX12_join_56 : decode cX12_join 56 = .ok (.istore 4, 2) := by decide +kernel
theorem dX12_join_58 : decode cX12_join 58 = .ok (.iload 4, 2) := by decide +kernel
theorem dX12_join_60 : decode cX12_join 60 = .ok (.aload_n 0, 1) := by decide +kernel
theorem dX12_join_61 : decode cX12_join 61 = .ok (.getfield 20, 3) := by decide +kernel
theorem dX12_join_64 : decode cX12_join 64 = .ok (.iload_n 1, 1) := by decide +kernel
theorem dX12_join_65 : decode cX12_join 65 = .ok (.iaload, 1) := by decide +kernel
theorem dX12_join_66 : decode cX12_join 66 = .ok (.if_icmp .ge 84, 3) := by decide +kernel
theorem dX12_join_69 : decode cX12_join 69 = .ok (.iload_n 1, 1) := by decide +kernel
theorem dX12_join_70 : decode cX12_join 70 = .ok (.iload 4, 2) := by decide +kernel
theorem dX12_join_72 : decode cX12_join 72 = .ok (.invokestatic 157, 3) := by decide +kernel
theorem dX12_join_75 : decode cX12_join 75 = .ok (.istore 5, 2) := by decide +kernel
theorem dX12_join_77 : decode cX12_join 77 = .ok (.aload_n 0, 1) := by decide +kernel
theorem dX12_join_78 : decode cX12_join 78 = .ok (.getfield 54, 3) := by decide +kernel
theorem dX12_join_81 : decode cX12_join 81 = .ok (.bipush 16, 2) := by decide +kernel
theorem dX12_join_83 : decode cX12_join 83 = .ok (.iload_n 2, 1) := by decide +kernel
theorem dX12_join_84 : decode cX12_join 84 = .ok (.imul, 1) := by decide +kernel
theorem dX12_join_85 : decode cX12_join 85 = .ok (.aload_n 0, 1) := by decide +kernel
theorem dX12_join_86 : decode cX12_join 86 = .ok (.getfield 23, 3) := by decide +kernel
theorem dX12_join_89 : decode cX12_join 89 = .ok (.iload 5, 2) := by decide +kernel
theorem dX12_join_91 : decode cX12_join 91 = .ok (.iaload, 1) := by decide +kernel
theorem dX12_join_92 : decode cX12_join 92 = .ok (.iadd, 1) := by decide +kernel
theorem dX12_join_93 : decode cX12_join 93 = .ok (.iaload, 1) := by decide +kernel
theorem dX12_join_94 : decode cX12_join 94 = .ok (.istore 6, 2) := by decide +kernel
theorem dX12_join_96 : decode cX12_join 96 = .ok (.aload_n 0, 1) := by decide +kernel
theorem dX12_join_97 : decode cX12_join 97 = .ok (.getfield 54, 3) := by decide +kernel
theorem dX12_join_100 : decode cX12_join 100 = .ok (.bipush 16, 2) := by decide +kernel
theorem dX12_join_102 : decode cX12_join 102 = .ok (.iload_n 2, 1) := by decide +kernel
theorem dX12_join_103 : decode cX12_join 103 = .ok (.imul, 1) := by decide +kernel
theorem dX12_join_104 : decode cX12_join 104 = .ok (.aload_n 0, 1) := by decide +kernel
theorem dX12_join_105 : decode cX12_join 105 = .ok (.getfield 26, 3) := by decide +kernel
theorem dX12_join_108 : decode cX12_join 108 = .ok (.iload 5, 2) := by decide +kernel
theorem dX12_join_110 : decode cX12_join 110 = .ok (.iaload, 1) := by decide +kernel
theorem dX12_join_111 : decode cX12_join 111 = .ok (.iadd, 1) := by decide +kernel
theorem dX12_join_112 : decode cX12_join 112 = .ok (.iaload, 1) := by decide +kernel
theorem dX12_join_113 : decode cX12_join 113 = .ok (.istore 7, 2) := by decide +kernel
theorem dX12_join_115 : decode cX12_join 115 = .ok (.iload 6, 2) := by decide +kernel
theorem dX12_join_117 : decode cX12_join 117 = .ok (.iload 7, 2) := by decide +kernel
theorem dX12_join_119 : decode cX12_join 119 = .ok (.if_icmp .eq 25, 3) := by decide +kernel
theorem dX12_join_122 : decode cX12_join 122 = .ok (.aload_n 0, 1) := by decide +kernel
theorem dX12_join_123 : decode cX12_join 123 = .ok (.iload 6, 2) := by decide +kernel
theorem dX12_join_125 : decode cX12_join 125 = .ok (.iload 7, 2) := by decide +kernel
theorem dX12_join_127 : decode cX12_join 127 = .ok (.aload_n 0, 1) := by decide +kernel
theorem dX12_join_128 : decode cX12_join 128 = .ok (.getfield 29, 3) := by decide +kernel
theorem dX12_join_131 : decode cX12_join 131 = .ok (.iload 5, 2) := by decide +kernel
theorem dX12_join_133 : decode cX12_join 133 = .ok (.iaload, 1) := by decide +kernel
theorem dX12_join_134 : decode cX12_join 134 = .ok (.aload_n 0, 1) := by decide +kernel
theorem dX12_join_135 : decode cX12_join 135 = .ok (.getfield 32, 3) := by decide +kernel
theorem dX12_join_138 : decode cX12_join 138 = .ok (.iload 5, 2) := by decide +kernel
theorem dX12_join_140 : decode cX12_join 140 = .ok (.iaload, 1) := by decide +kernel
theorem dX12_join_141 : decode cX12_join 141 = .ok (.invokevirtual 171, 3) := by decide +kernel
theorem dX12_join_144 : decode cX12_join 144 = .ok (.iinc 4 1, 3) := by decide +kernel
theorem dX12_join_147 : decode cX12_join 147 = .ok (.goto (-89), 3) := by decide +kernel
theorem dX12_join_150 : decode cX12_join 150 = .ok (.aload_n 0, 1) := by decide +kernel
theorem dX12_join_151 : decode cX12_join 151 = .ok (.aload_n 0, 1) := by decide +kernel
theorem dX12_join_152 : decode cX12_join 152 = .ok (.getfield 57, 3) := by decide +kernel
theorem dX12_join_155 : decode cX12_join 155 = .ok (.iload_n 2, 1) := by decide +kernel
theorem dX12_join_156 : decode cX12_join 156 = .ok (.iaload, 1) := by decide +kernel
theorem dX12_join_157 : decode cX12_join 157 = .ok (.aload_n 0, 1) := by decide +kernel
theorem dX12_join_158 : decode cX12_join 158 = .ok (.getfield 16, 3) := by decide +kernel
theorem dX12_join_161 : decode cX12_join 161 = .ok (.iload_n 1, 1) := by decide +kernel
theorem dX12_join_162 : decode cX12_join 162 = .ok (.baload, 1) := by decide +kernel
theorem dX12_join_163 : decode cX12_join 163 = .ok (.invokevirtual 179, 3) := by decide +kernel
theorem dX12_join_166 : decode cX12_join 166 = .ok (.ireturn, 1) := by decide +kernel
theorem dX12_join_167 : decode cX12_join 167 = .ok (.aload_n 0, 1) := by decide +kernel
theorem dX12_join_168 : decode cX12_join 168 = .ok (.getfield 16, 3) := by decide +kernel
theorem dX12_join_171 : decode cX12_join 171 = .ok (.iload_n 1, 1) := by decide +kernel
theorem dX12_join_172 : decode cX12_join 172 = .ok (.baload, 1) := by decide +kernel
theorem dX12_join_173 : decode cX12_join 173 = .ok (.aload_n 0, 1) := by decide +kernel
theorem dX12_join_174 : decode cX12_join 174 = .ok (.getfield 16, 3) := by decide +kernel
theorem dX12_join_177 : decode cX12_join 177 = .ok (.iload_n 2, 1) := by decide +kernel
theorem dX12_join_178 : decode cX12_join 178 = .ok (.baload, 1) := by decide +kernel
theorem dX12_join_179 : decode cX12_join 179 = .ok (.if_icmp .eq 10, 3) := by decide +kernel
theorem dX12_join_182 : decode cX12_join 182 = .ok (.aload_n 0, 1) := by decide +kernel
theorem dX12_join_183 : decode cX12_join 183 = .ok (.bipush (-3), 2) := by decide +kernel
theorem dX12_join_185 : decode cX12_join 185 = .ok (.invokevirtual 153, 3) := by decide +kernel
theorem dX12_join_188 : decode cX12_join 188 = .ok (.ireturn, 1) := by decide +kernel
theorem dX12_join_189 : decode cX12_join 189 = .ok (.aload_n 0, 1) := by decide +kernel
theorem dX12_join_190 : decode cX12_join 190 = .ok (.getfield 13, 3) := by decide +kernel
theorem dX12_join_193 : decode cX12_join 193 = .ok (.iload_n 1, 1) := by decide +kernel
theorem dX12_join_194 : decode cX12_join 194 = .ok (.iaload, 1) := by decide +kernel
theorem dX12_join_195 : decode cX12_join 195 = .ok (.aload_n 0, 1) := by decide +kernel
theorem dX12_join_196 : decode cX12_join 196 = .ok (.getfield 13, 3) := by decide +kernel
theorem dX12_join_199 : decode cX12_join 199 = .ok (.iload_n 2, 1) := by decide +kernel
theorem dX12_join_200 : decode cX12_join 200 = .ok (.iaload, 1) := by decide +kernel
theorem dX12_join_201 : decode cX12_join 201 = .ok (.iadd, 1) := by decide +kernel
theorem dX12_join_202 : decode cX12_join 202 = .ok (.bipush 16, 2) := by decide +kernel
theorem dX12_join_204 : decode cX12_join 204 = .ok (.if_icmp .le 10, 3) := by decide +kernel
theorem dX12_join_207 : decode cX12_join 207 = .ok (.aload_n 0, 1) := by decide +kernel
theorem dX12_join_208 : decode cX12_join 208 = .ok (.bipush (-4), 2) := by decide +kernel
theorem dX12_join_210 : decode cX12_join 210 = .ok (.invokevirtual 153, 3) := by decide +kernel
theorem dX12_join_213 : decode cX12_join 213 = .ok (.ireturn, 1) := by decide +kernel
theorem dX12_join_214 : decode cX12_join 214 = .ok (.aload_n 0, 1) := by decide +kernel
theorem dX12_join_215 : decode cX12_join 215 = .ok (.iload_n 1, 1) := by decide +kernel
theorem dX12_join_216 : decode cX12_join 216 = .ok (.iconst 0, 1) := by decide +kernel
theorem dX12_join_217 : decode cX12_join 217 = .ok (.invokevirtual 175, 3) := by decide +kernel
theorem dX12_join_220 : decode cX12_join 220 = .ok (.aload_n 0, 1) := by decide +kernel
theorem dX12_join_221 : decode cX12_join 221 = .ok (.iload_n 2, 1) := by decide +kernel
theorem dX12_join_222 : decode cX12_join 222 = .ok (.aload_n 0, 1) := by decide +kernel
theorem dX12_join_223 : decode cX12_join 223 = .ok (.getfield 13, 3) := by decide +kernel
theorem dX12_join_226 : decode cX12_join 226 = .ok (.iload_n 1, 1) := by decide +kernel
theorem dX12_join_227 : decode cX12_join 227 = .ok (.iaload, 1) := by decide +kernel
theorem dX12_join_228 : decode cX12_join 228 = .ok (.invokevirtual 175, 3) := by decide +kernel
theorem dX12_join_231 : decode cX12_join 231 = .ok (.aload_n 0, 1) := by decide +kernel
theorem dX12_join_232 : decode cX12_join 232 = .ok (.aload_n 0, 1) := by decide +kernel
theorem dX12_join_233 : decode cX12_join 233 = .ok (.getfield 13, 3) := by decide +kernel
theorem dX12_join_236 : decode cX12_join 236 = .ok (.iload_n 1, 1) := by decide +kernel
theorem dX12_join_237 : decode cX12_join 237 = .ok (.iaload, 1) := by decide +kernel
theorem dX12_join_238 : decode cX12_join 238 = .ok (.aload_n 0, 1) := by decide +kernel
theorem dX12_join_239 : decode cX12_join 239 = .ok (.getfield 13, 3) := by decide +kernel
theorem dX12_join_242 : decode cX12_join 242 = .ok (.iload_n 2, 1) := by decide +kernel
theorem dX12_join_243 : decode cX12_join 243 = .ok (.iaload, 1) := by decide +kernel
theorem dX12_join_244 : decode cX12_join 244 = .ok (.iadd, 1) := by decide +kernel
theorem dX12_join_245 : decode cX12_join 245 = .ok (.aload_n 0, 1) := by decide +kernel
theorem dX12_join_246 : decode cX12_join 246 = .ok (.getfield 16, 3) := by decide +kernel
theorem dX12_join_249 : decode cX12_join 249 = .ok (.iload_n 1, 1) := by decide +kernel
theorem dX12_join_250 : decode cX12_join 250 = .ok (.baload, 1) := by decide +kernel
theorem dX12_join_251 : decode cX12_join 251 = .ok (.invokevirtual 179, 3) := by decide +kernel
theorem dX12_join_254 : decode cX12_join 254 = .ok (.ireturn, 1) := by decide +kernel
theorem kX12_209 : lkK (gS, X) RX12 209 mX12_haveTwo 4 ∧ Cond.instanceMethod yX12_haveTwo ∈ g_ws (gS, X) ∧ Cond.selects RX12 yX12_haveTwo yX12_haveTwo ∈ g_ws (gS, X) ∧ yX12_haveTwo.cls = RX12 := ⟨⟨tb_good, (tb_t (k := 1354) (w := Cond.methodLink RX12 209 yX12_haveTwo) (by decide +kernel)), (tb_t (k := 8) (w := Cond.initialized RX12) (by decide +kernel)), (tb_t (k := 1357) (w := Cond.code yX12_haveTwo cX12_haveTwo 5 (some .boolean)) (by decide +kernel)), by decide +kernel, by decide⟩, (tb_t (k := 1356) (w := Cond.instanceMethod yX12_haveTwo) (by decide +kernel)), (tb_p (k := 88) (q := (yX12_haveTwo, 45)) (by decide +kernel)), rfl⟩
theorem dX12_column_0 : decode cX12_column 0 = .ok (.aload_n 0, 1) := by decide +kernel
theorem dX12_column_1 : decode cX12_column 1 = .ok (.iload_n 1, 1) := by decide +kernel
theorem dX12_column_2 : decode cX12_column 2 = .ok (.iconst 1, 1) := by decide +kernel
theorem dX12_column_3 : decode cX12_column 3 = .ok (.invokevirtual 183, 3) := by decide +kernel
theorem dX12_column_6 : decode cX12_column 6 = .ok (.ifCond .ne 8, 3) := by decide +kernel
theorem dX12_column_9 : decode cX12_column 9 = .ok (.aload_n 0, 1) := by decide +kernel
theorem dX12_column_10 : decode cX12_column 10 = .ok (.getfield 142, 3) := by decide +kernel
theorem dX12_column_13 : decode cX12_column 13 = .ok (.ireturn, 1) := by decide +kernel
theorem dX12_column_14 : decode cX12_column 14 = .ok (.iload_n 2, 1) := by decide +kernel
theorem dX12_column_15 : decode cX12_column 15 = .ok (.ifCond .lt 25, 3) := by decide +kernel
theorem dX12_column_18 : decode cX12_column 18 = .ok (.iload_n 2, 1) := by decide +kernel
theorem dX12_column_19 : decode cX12_column 19 = .ok (.bipush 6, 2) := by decide +kernel
theorem dX12_column_21 : decode cX12_column 21 = .ok (.if_icmp .gt 19, 3) := by decide +kernel
theorem dX12_column_24 : decode cX12_column 24 = .ok (.iload_n 2, 1) := by decide +kernel
theorem dX12_column_25 : decode cX12_column 25 = .ok (.iconst 5, 1) := by decide +kernel
theorem dX12_column_26 : decode cX12_column 26 = .ok (.if_icmp .ne 21, 3) := by decide +kernel
theorem dX12_column_29 : decode cX12_column 29 = .ok (.iload_n 3, 1) := by decide +kernel
theorem dX12_column_30 : decode cX12_column 30 = .ok (.ifCond .lt 10, 3) := by decide +kernel
theorem dX12_column_33 : decode cX12_column 33 = .ok (.iload_n 3, 1) := by decide +kernel
theorem dX12_column_34 : decode cX12_column 34 = .ok (.sipush 1000, 3) := by decide +kernel
theorem dX12_column_37 : decode cX12_column 37 = .ok (.if_icmp .le 10, 3) := by decide +kernel
theorem dX12_column_40 : decode cX12_column 40 = .ok (.aload_n 0, 1) := by decide +kernel
theorem dX12_column_41 : decode cX12_column 41 = .ok (.bipush (-3), 2) := by decide +kernel
theorem dX12_column_43 : decode cX12_column 43 = .ok (.invokevirtual 153, 3) := by decide +kernel
theorem dX12_column_46 : decode cX12_column 46 = .ok (.ireturn, 1) := by decide +kernel
theorem dX12_column_47 : decode cX12_column 47 = .ok (.aload_n 0, 1) := by decide +kernel
theorem dX12_column_48 : decode cX12_column 48 = .ok (.getfield 13, 3) := by decide +kernel
theorem dX12_column_51 : decode cX12_column 51 = .ok (.iload_n 1, 1) := by decide +kernel
theorem dX12_column_52 : decode cX12_column 52 = .ok (.iaload, 1) := by decide +kernel
theorem dX12_column_53 : decode cX12_column 53 = .ok (.istore 4, 2) := by decide +kernel
theorem dX12_column_55 : decode cX12_column 55 = .ok (.iconst 0, 1) := by decide +kernel
theorem dX12_column_56 : decode cX12_column 56 = .ok (.istore 5, 2) := by decide +kernel
theorem dX12_column_58 : decode cX12_column 58 = .ok (.iload 5, 2) := by decide +kernel
theorem dX12_column_60 : decode cX12_column 60 = .ok (.iload 4, 2) := by decide +kernel
theorem dX12_column_62 : decode cX12_column 62 = .ok (.if_icmp .ge 26, 3) := by decide +kernel
theorem dX12_column_65 : decode cX12_column 65 = .ok (.aload_n 0, 1) := by decide +kernel
theorem dX12_column_66 : decode cX12_column 66 = .ok (.getfield 72, 3) := by decide +kernel
theorem dX12_column_69 : decode cX12_column 69 = .ok (.iload 5, 2) := by decide +kernel
theorem dX12_column_71 : decode cX12_column 71 = .ok (.iload_n 2, 1) := by decide +kernel
theorem dX12_column_72 : decode cX12_column 72 = .ok (.iconst 5, 1) := by decide +kernel
theorem dX12_column_73 : decode cX12_column 73 = .ok (.if_icmp .ne 7, 3) := by decide +kernel
theorem dX12_column_76 : decode cX12_column 76 = .ok (.lconst 1, 1) := by decide +kernel
theorem dX12_column_77 : decode cX12_column 77 = .ok (.goto 4, 3) := by decide +kernel
theorem dX12_column_80 : decode cX12_column 80 = .ok (.lconst 0, 1) := by decide +kernel
theorem dX12_column_81 : decode cX12_column 81 = .ok (.lastore, 1) := by decide +kernel
theorem dX12_column_82 : decode cX12_column 82 = .ok (.iinc 5 1, 3) := by decide +kernel
theorem dX12_column_85 : decode cX12_column 85 = .ok (.goto (-27), 3) := by decide +kernel
theorem dX12_column_88 : decode cX12_column 88 = .ok (.iload_n 2, 1) := by decide +kernel
theorem dX12_column_89 : decode cX12_column 89 = .ok (.iconst 3, 1) := by decide +kernel
theorem dX12_column_90 : decode cX12_column 90 = .ok (.if_icmp .ge 12, 3) := by decide +kernel
theorem dX12_column_93 : decode cX12_column 93 = .ok (.aload_n 0, 1) := by decide +kernel
theorem dX12_column_94 : decode cX12_column 94 = .ok (.iload_n 1, 1) := by decide +kernel
theorem dX12_column_95 : decode cX12_column 95 = .ok (.iload_n 2, 1) := by decide +kernel
theorem dX12_column_96 : decode cX12_column 96 = .ok (.invokevirtual 213, 3) := by decide +kernel
theorem dX12_column_99 : decode cX12_column 99 = .ok (.goto 48, 3) := by decide +kernel
theorem dX12_column_102 : decode cX12_column 102 = .ok (.iload_n 2, 1) := by decide +kernel
theorem dX12_column_103 : decode cX12_column 103 = .ok (.iconst 3, 1) := by decide +kernel
theorem dX12_column_104 : decode cX12_column 104 = .ok (.if_icmp .ne 11, 3) := by decide +kernel
theorem dX12_column_107 : decode cX12_column 107 = .ok (.aload_n 0, 1) := by decide +kernel
theorem dX12_column_108 : decode cX12_column 108 = .ok (.iload_n 1, 1) := by decide +kernel
theorem dX12_column_109 : decode cX12_column 109 = .ok (.invokevirtual 216, 3) := by decide +kernel
theorem dX12_column_112 : decode cX12_column 112 = .ok (.goto 35, 3) := by decide +kernel
theorem dX12_column_115 : decode cX12_column 115 = .ok (.iload_n 2, 1) := by decide +kernel
theorem dX12_column_116 : decode cX12_column 116 = .ok (.iconst 4, 1) := by decide +kernel
theorem dX12_column_117 : decode cX12_column 117 = .ok (.if_icmp .ne 11, 3) := by decide +kernel
theorem dX12_column_120 : decode cX12_column 120 = .ok (.aload_n 0, 1) := by decide +kernel
theorem dX12_column_121 : decode cX12_column 121 = .ok (.iload_n 1, 1) := by decide +kernel
theorem dX12_column_122 : decode cX12_column 122 = .ok (.invokevirtual 219, 3) := by decide +kernel
theorem dX12_column_125 : decode cX12_column 125 = .ok (.goto 22, 3) := by decide +kernel
theorem dX12_column_128 : decode cX12_column 128 = .ok (.iload_n 2, 1) := by decide +kernel
theorem dX12_column_129 : decode cX12_column 129 = .ok (.iconst 5, 1) := by decide +kernel
theorem dX12_column_130 : decode cX12_column 130 = .ok (.if_icmp .ne 12, 3) := by decide +kernel
theorem dX12_column_133 : decode cX12_column 133 = .ok (.aload_n 0, 1) := by decide +kernel
theorem dX12_column_134 : decode cX12_column 134 = .ok (.iload_n 1, 1) := by decide +kernel
theorem dX12_column_135 : decode cX12_column 135 = .ok (.iload_n 3, 1) := by decide +kernel
theorem dX12_column_136 : decode cX12_column 136 = .ok (.invokevirtual 222, 3) := by decide +kernel
theorem dX12_column_139 : decode cX12_column 139 = .ok (.goto 8, 3) := by decide +kernel
theorem dX12_column_142 : decode cX12_column 142 = .ok (.aload_n 0, 1) := by decide +kernel
theorem dX12_column_143 : decode cX12_column 143 = .ok (.iload_n 1, 1) := by decide +kernel
theorem dX12_column_144 : decode cX12_column 144 = .ok (.invokevirtual 225, 3) := by decide +kernel
theorem dX12_column_147 : decode cX12_column 147 = .ok (.aload_n 0, 1) := by decide +kernel
theorem dX12_column_148 : decode cX12_column 148 = .ok (.iload 4, 2) := by decide +kernel
theorem dX12_column_150 : decode cX12_column 150 = .ok (.invokevirtual 228, 3) := by decide +kernel
theorem dX12_column_153 : decode cX12_column 153 = .ok (.ireturn, 1) := by decide +kernel
theorem kX12_213 : lkK (gS, X) RX12 213 mX12_degrees 2 ∧ Cond.instanceMethod yX12_degrees ∈ g_ws (gS, X) ∧ Cond.selects RX12 yX12_degrees yX12_degrees ∈ g_ws (gS, X) ∧ yX12_degrees.cls = RX12 := ⟨⟨tb_good, (tb_t (k := 1362) (w := Cond.methodLink RX12 213 yX12_degrees) (by decide +kernel)), (tb_t (k := 8) (w := Cond.initialized RX12) (by decide +kernel)), (tb_t (k := 1365) (w := Cond.code yX12_degrees cX12_degrees 7 none) (by decide +kernel)), by decide +kernel, by decide⟩, (tb_t (k := 1364) (w := Cond.instanceMethod yX12_degrees) (by decide +kernel)), (tb_p (k := 89) (q := (yX12_degrees, 45)) (by decide +kernel)), rfl⟩
theorem kX12_216 : lkK (gS, X) RX12 216 mX12_cores 1 ∧ Cond.instanceMethod yX12_cores ∈ g_ws (gS, X) ∧ Cond.selects RX12 yX12_cores yX12_cores ∈ g_ws (gS, X) ∧ yX12_cores.cls = RX12 := ⟨⟨tb_good, (tb_t (k := 1366) (w := Cond.methodLink RX12 216 yX12_cores) (by decide +kernel)), (tb_t (k := 8) (w := Cond.initialized RX12) (by decide +kernel)), (tb_t (k := 1369) (w := Cond.code yX12_cores cX12_cores 6 none) (by decide +kernel)), by decide +kernel, by decide⟩, (tb_t (k := 1368) (w := Cond.instanceMethod yX12_cores) (by decide +kernel)), (tb_p (k := 90) (q := (yX12_cores, 45)) (by decide +kernel)), rfl⟩
theorem kX12_219 : lkK (gS, X) RX12 219 mX12_farthest 1 ∧ Cond.instanceMethod yX12_farthest ∈ g_ws (gS, X) ∧ Cond.selects RX12 yX12_farthest yX12_farthest ∈ g_ws (gS, X) ∧ yX12_farthest.cls = RX12 := ⟨⟨tb_good, (tb_t (k := 1370) (w := Cond.methodLink RX12 219 yX12_farthest) (by decide +kernel)), (tb_t (k := 8) (w := Cond.initialized RX12) (by decide +kernel)), (tb_t (k := 1373) (w := Cond.code yX12_farthest cX12_farthest 5 none) (by decide +kernel)), by decide +kernel, by decide⟩, (tb_t (k := 1372) (w := Cond.instanceMethod yX12_farthest) (by decide +kernel)), (tb_p (k := 91) (q := (yX12_farthest, 45)) (by decide +kernel)), rfl⟩
theorem kX12_222 : lkK (gS, X) RX12 222 mX12_walks 2 ∧ Cond.instanceMethod yX12_walks ∈ g_ws (gS, X) ∧ Cond.selects RX12 yX12_walks yX12_walks ∈ g_ws (gS, X) ∧ yX12_walks.cls = RX12 := ⟨⟨tb_good, (tb_t (k := 1378) (w := Cond.methodLink RX12 222 yX12_walks) (by decide +kernel)), (tb_t (k := 8) (w := Cond.initialized RX12) (by decide +kernel)), (tb_t (k := 1381) (w := Cond.code yX12_walks cX12_walks 10 none) (by decide +kernel)), by decide +kernel, by decide⟩, (tb_t (k := 1380) (w := Cond.instanceMethod yX12_walks) (by decide +kernel)), (tb_p (k := 93) (q := (yX12_walks, 45)) (by decide +kernel)), rfl⟩
theorem kX12_225 : lkK (gS, X) RX12 225 mX12_blocks 1 ∧ Cond.instanceMethod yX12_blocks ∈ g_ws (gS, X) ∧ Cond.selects RX12 yX12_blocks yX12_blocks ∈ g_ws (gS, X) ∧ yX12_blocks.cls = RX12 := ⟨⟨tb_good, (tb_t (k := 1382) (w := Cond.methodLink RX12 225 yX12_blocks) (by decide +kernel)), (tb_t (k := 8) (w := Cond.initialized RX12) (by decide +kernel)), (tb_t (k := 1385) (w := Cond.code yX12_blocks cX12_blocks 7 none) (by decide +kernel)), by decide +kernel, by decide⟩, (tb_t (k := 1384) (w := Cond.instanceMethod yX12_blocks) (by decide +kernel)), (tb_p (k := 94) (q := (yX12_blocks, 45)) (by decide +kernel)), rfl⟩
theorem dX12_mix_0 : decode cX12_mix 0 = .ok (.aload_n 0, 1) := by decide +kernel
theorem dX12_mix_1 : decode cX12_mix 1 = .ok (.iload_n 1, 1) := by decide +kernel
theorem dX12_mix_2 : decode cX12_mix 2 = .ok (.iconst 2, 1) := by decide +kernel
theorem dX12_mix_3 : decode cX12_mix 3 = .ok (.iload_n 2, 1) := by decide +kernel
theorem dX12_mix_4 : decode cX12_mix 4 = .ok (.iconst 2, 1) := by decide +kernel
theorem dX12_mix_5 : decode cX12_mix 5 = .ok (.invokevirtual 209, 3) := by decide +kernel
theorem dX12_mix_8 : decode cX12_mix 8 = .ok (.ifCond .ne 8, 3) := by decide +kernel
theorem dX12_mix_11 : decode cX12_mix 11 = .ok (.aload_n 0, 1) := by decide +kernel
theorem dX12_mix_12 : decode cX12_mix 12 = .ok (.getfield 142, 3) := by decide +kernel
theorem dX12_mix_15 : decode cX12_mix 15 = .ok (.ireturn, 1) := by decide +kernel
theorem dX12_mix_16 : decode cX12_mix 16 = .ok (.iload_n 3, 1) := by decide +kernel
theorem dX12_mix_17 : decode cX12_mix 17 = .ok (.ifCond .lt 24, 3) := by decide +kernel
theorem dX12_mix_20 : decode cX12_mix 20 = .ok (.iload_n 3, 1) := by decide +kernel
theorem dX12_mix_21 : decode cX12_mix 21 = .ok (.bipush 6, 2) := by decide +kernel
theorem dX12_mix_23 : decode cX12_mix 23 = .ok (.if_icmp .gt 18, 3) := by decide +kernel
theorem dX12_mix_26 : decode cX12_mix 26 = .ok (.aload_n 0, 1) := by decide +kernel
theorem dX12_mix_27 : decode cX12_mix 27 = .ok (.getfield 13, 3) := by decide +kernel
theorem dX12_mix_30 : decode cX12_mix 30 = .ok (.iload_n 1, 1) := by decide +kernel
theorem dX12_mix_31 : decode cX12_mix 31 = .ok (.iaload, 1) := by decide +kernel
theorem dX12_mix_32 : decode cX12_mix 32 = .ok (.aload_n 0, 1) := by decide +kernel
theorem dX12_mix_33 : decode cX12_mix 33 = .ok (.getfield 13, 3) := by decide +kernel
theorem dX12_mix_36 : decode cX12_mix 36 = .ok (.iload_n 2, 1) := by decide +kernel
theorem dX12_mix_37 : decode cX12_mix 37 = .ok (.iaload, 1) := by decide +kernel
theorem dX12_mix_38 : decode cX12_mix 38 = .ok (.if_icmp .eq 10, 3) := by decide +kernel
theorem dX12_mix_41 : decode cX12_mix 41 = .ok (.aload_n 0, 1) := by decide +kernel
theorem dX12_mix_42 : decode cX12_mix 42 = .ok (.bipush (-3), 2) := by decide +kernel
theorem dX12_mix_44 : decode cX12_mix 44 = .ok (.invokevirtual 153, 3) := by decide +kernel
theorem dX12_mix_47 : decode cX12_mix 47 = .ok (.ireturn, 1) := by decide +kernel
theorem dX12_mix_48 : decode cX12_mix 48 = .ok (.iconst 0, 1) := by decide +kernel
theorem dX12_mix_49 : decode cX12_mix 49 = .ok (.istore 4, 2) := by decide +kernel
theorem dX12_mix_51 : decode cX12_mix 51 = .ok (.iload 4, 2) := by decide +kernel
theorem dX12_mix_53 : decode cX12_mix 53 = .ok (.aload_n 0, 1) := by decide +kernel
theorem dX12_mix_54 : decode cX12_mix 54 = .ok (.getfield 13, 3) := by decide +kernel
theorem dX12_mix_57 : decode cX12_mix 57 = .ok (.iload_n 1, 1) := by decide +kernel
theorem dX12_mix_58 : decode cX12_mix 58 = .ok (.iaload, 1) := by decide +kernel
theorem dX12_mix_59 : decode cX12_mix 59 = .ok (.if_icmp .ge 154, 3) := by decide +kernel
theorem dX12_mix_62 : decode cX12_mix 62 = .ok (.aload_n 0, 1) := by decide +kernel
theorem dX12_mix_63 : decode cX12_mix 63 = .ok (.getfield 35, 3) := by decide +kernel
theorem dX12_mix_66 : decode cX12_mix 66 = .ok (.bipush 16, 2) := by decide +kernel
theorem dX12_mix_68 : decode cX12_mix 68 = .ok (.iload_n 1, 1) := by decide +kernel
theorem dX12_mix_69 : decode cX12_mix 69 = .ok (.imul, 1) := by decide +kernel
theorem dX12_mix_70 : decode cX12_mix 70 = .ok (.iload 4, 2) := by decide +kernel
theorem dX12_mix_72 : decode cX12_mix 72 = .ok (.iadd, 1) := by decide +kernel
theorem dX12_mix_73 : decode cX12_mix 73 = .ok (.laload, 1) := by decide +kernel
theorem dX12_mix_74 : decode cX12_mix 74 = .ok (.lstore 5, 2) := by decide +kernel
theorem dX12_mix_76 : decode cX12_mix 76 = .ok (.aload_n 0, 1) := by decide +kernel
theorem dX12_mix_77 : decode cX12_mix 77 = .ok (.getfield 35, 3) := by decide +kernel
theorem dX12_mix_80 : decode cX12_mix 80 = .ok (.bipush 16, 2) := by decide +kernel
theorem dX12_mix_82 : decode cX12_mix 82 = .ok (.iload_n 2, 1) := by decide +kernel
theorem dX12_mix_83 : decode cX12_mix 83 = .ok (.imul, 1) := by decide +kernel
theorem dX12_mix_84 : decode cX12_mix 84 = .ok (.iload 4, 2) := by decide +kernel
theorem dX12_mix_86 : decode cX12_mix 86 = .ok (.iadd, 1) := by decide +kernel
theorem dX12_mix_87 : decode cX12_mix 87 = .ok (.laload, 1) := by decide +kernel
theorem dX12_mix_88 : decode cX12_mix 88 = .ok (.lstore 7, 2) := by decide +kernel
theorem dX12_mix_90 : decode cX12_mix 90 = .ok (.aload_n 0, 1) := by decide +kernel
theorem dX12_mix_91 : decode cX12_mix 91 = .ok (.getfield 72, 3) := by decide +kernel
theorem dX12_mix_94 : decode cX12_mix 94 = .ok (.iload 4, 2) := by decide +kernel
theorem dX12_mix_96 : decode cX12_mix 96 = .ok (.iload_n 3, 1) := by decide +kernel
theorem dX12_mix_97 : decode cX12_mix 97 = .ok (.ifCond .ne 11, 3) := by decide +kernel
theorem dX12_mix_100 : decode cX12_mix 100 = .ok (.lload 5, 2) := by decide +kernel
theorem dX12_mix_102 : decode cX12_mix 102 = .ok (.lload 7, 2) := by decide +kernel
theorem dX12_mix_104 : decode cX12_mix 104 = .ok (.ladd, 1) := by decide +kernel
theorem dX12_mix_105 : decode cX12_mix 105 = .ok (.goto 101, 3) := by decide +kernel
theorem dX12_mix_108 : decode cX12_mix 108 = .ok (.iload_n 3, 1) := by decide +kernel
theorem dX12_mix_109 : decode cX12_mix 109 = .ok (.iconst 1, 1) := by decide +kernel
theorem dX12_mix_110 : decode cX12_mix 110 = .ok (.if_icmp .ne 11, 3) := by decide +kernel
theorem dX12_mix_113 : decode cX12_mix 113 = .ok (.lload 5, 2) := by decide +kernel
theorem dX12_mix_115 : decode cX12_mix 115 = .ok (.lload 7, 2) := by decide +kernel
theorem dX12_mix_117 : decode cX12_mix 117 = .ok (.lsub, 1) := by decide +kernel
theorem dX12_mix_118 : decode cX12_mix 118 = .ok (.goto 88, 3) := by decide +kernel
theorem dX12_mix_121 : decode cX12_mix 121 = .ok (.iload_n 3, 1) := by decide +kernel
theorem dX12_mix_122 : decode cX12_mix 122 = .ok (.iconst 2, 1) := by decide +kernel
theorem dX12_mix_123 : decode cX12_mix 123 = .ok (.if_icmp .ne 11, 3) := by decide +kernel
theorem dX12_mix_126 : decode cX12_mix 126 = .ok (.lload 5, 2) := by decide +kernel
theorem dX12_mix_128 : decode cX12_mix 128 = .ok (.lload 7, 2) := by decide +kernel
theorem dX12_mix_130 : decode cX12_mix 130 = .ok (.lmul, 1) := by decide +kernel
theorem dX12_mix_131 : decode cX12_mix 131 = .ok (.goto 75, 3) := by decide +kernel
theorem dX12_mix_134 : decode cX12_mix 134 = .ok (.iload_n 3, 1) := by decide +kernel
theorem dX12_mix_135 : decode cX12_mix 135 = .ok (.iconst 3, 1) := by decide +kernel
theorem dX12_mix_136 : decode cX12_mix 136 = .ok (.if_icmp .ne 21, 3) := by decide +kernel
theorem dX12_mix_139 : decode cX12_mix 139 = .ok (.lload 5, 2) := by decide +kernel
theorem dX12_mix_141 : decode cX12_mix 141 = .ok (.lload 7, 2) := by decide +kernel
theorem dX12_mix_143 : decode cX12_mix 143 = .ok (.lcmp, 1) := by decide +kernel
theorem dX12_mix_144 : decode cX12_mix 144 = .ok (.ifCond .ge 8, 3) := by decide +kernel
theorem dX12_mix_147 : decode cX12_mix 147 = .ok (.lload 5, 2) := by decide +kernel
theorem dX12_mix_149 : decode cX12_mix 149 = .ok (.goto 57, 3) := by decide +kernel
theorem dX12_mix_152 : decode cX12_mix 152 = .ok (.lload 7, 2) := by decide +kernel
theorem dX12_mix_154 : decode cX12_mix 154 = .ok (.goto 52, 3) := by decide +kernel
theorem dX12_mix_157 : decode cX12_mix 157 = .ok (.iload_n 3, 1) := by decide +kernel
theorem dX12_mix_158 : decode cX12_mix 158 = .ok (.iconst 4, 1) := by decide +kernel
theorem dX12_mix_159 : decode cX12_mix 159 = .ok (.if_icmp .ne 21, 3) := by decide +kernel
theorem dX12_mix_162 : decode cX12_mix 162 = .ok (.lload 5, 2) := by decide +kernel
theorem dX12_mix_164 : decode cX12_mix 164 = .ok (.lload 7, 2) := by decide +kernel
theorem dX12_mix_166 : decode cX12_mix 166 = .ok (.lcmp, 1) := by decide +kernel
theorem dX12_mix_167 : decode cX12_mix 167 = .ok (.ifCond .le 8, 3) := by decide +kernel
theorem dX12_mix_170 : decode cX12_mix 170 = .ok (.lload 5, 2) := by decide +kernel
theorem dX12_mix_172 : decode cX12_mix 172 = .ok (.goto 34, 3) := by decide +kernel
theorem dX12_mix_175 : decode cX12_mix 175 = .ok (.lload 7, 2) := by decide +kernel
theorem dX12_mix_177 : decode cX12_mix 177 = .ok (.goto 29, 3) := by decide +kernel
theorem dX12_mix_180 : decode cX12_mix 180 = .ok (.iload_n 3, 1) := by decide +kernel
theorem dX12_mix_181 : decode cX12_mix 181 = .ok (.iconst 5, 1) := by decide +kernel
theorem dX12_mix_182 : decode cX12_mix 182 = .ok (.if_icmp .ne 11, 3) := by decide +kernel
theorem dX12_mix_185 : decode cX12_mix 185 = .ok (.lload 5, 2) := by decide +kernel
theorem dX12_mix_187 : decode cX12_mix 187 = .ok (.lload 7, 2) := by decide +kernel
theorem dX12_mix_189 : decode cX12_mix 189 = .ok (.lxor, 1) := by decide +kernel
theorem dX12_mix_190 : decode cX12_mix 190 = .ok (.goto 16, 3) := by decide +kernel
theorem dX12_mix_193 : decode cX12_mix 193 = .ok (.lload 5, 2) := by decide +kernel
theorem dX12_mix_195 : decode cX12_mix 195 = .ok (.lload 7, 2) := by decide +kernel
theorem dX12_mix_197 : decode cX12_mix 197 = .ok (.lcmp, 1) := by decide +kernel
theorem dX12_mix_198 : decode cX12_mix 198 = .ok (.ifCond .ge 7, 3) := by decide +kernel
theorem dX12_mix_201 : decode cX12_mix 201 = .ok (.lconst 1, 1) := by decide +kernel
theorem dX12_mix_202 : decode cX12_mix 202 = .ok (.goto 4, 3) := by decide +kernel
theorem dX12_mix_205 : decode cX12_mix 205 = .ok (.lconst 0, 1) := by decide +kernel
theorem dX12_mix_206 : decode cX12_mix 206 = .ok (.lastore, 1) := by decide +kernel
theorem dX12_mix_207 : decode cX12_mix 207 = .ok (.iinc 4 1, 3) := by decide +kernel
theorem dX12_mix_210 : decode cX12_mix 210 = .ok (.goto (-159), 3) := by decide +kernel
theorem dX12_mix_213 : decode cX12_mix 213 = .ok (.aload_n 0, 1) := by decide +kernel
theorem dX12_mix_214 : decode cX12_mix 214 = .ok (.aload_n 0, 1) := by decide +kernel
theorem dX12_mix_215 : decode cX12_mix 215 = .ok (.getfield 13, 3) := by decide +kernel
theorem dX12_mix_218 : decode cX12_mix 218 = .ok (.iload_n 1, 1) := by decide +kernel
theorem dX12_mix_219 : decode cX12_mix 219 = .ok (.iaload, 1) := by decide +kernel
theorem dX12_mix_220 : decode cX12_mix 220 = .ok (.invokevirtual 228, 3) := by decide +kernel
theorem dX12_mix_223 : decode cX12_mix 223 = .ok (.ireturn, 1) := by decide +kernel
theorem dX12_run_0 : decode cX12_run 0 = .ok (.aload_n 0, 1) := by decide +kernel
theorem dX12_run_1 : decode cX12_run 1 = .ok (.iload_n 1, 1) := by decide +kernel
theorem dX12_run_2 : decode cX12_run 2 = .ok (.iconst 1, 1) := by decide +kernel
theorem dX12_run_3 : decode cX12_run 3 = .ok (.iload_n 2, 1) := by decide +kernel
theorem dX12_run_4 : decode cX12_run 4 = .ok (.iconst 2, 1) := by decide +kernel
theorem dX12_run_5 : decode cX12_run 5 = .ok (.invokevirtual 209, 3) := by decide +kernel
theorem dX12_run_8 : decode cX12_run 8 = .ok (.ifCond .ne 8, 3) := by decide +kernel
theorem dX12_run_11 : decode cX12_run 11 = .ok (.aload_n 0, 1) := by decide +kernel
theorem dX12_run_12 : decode cX12_run 12 = .ok (.getfield 142, 3) := by decide +kernel
theorem dX12_run_15 : decode cX12_run 15 = .ok (.ireturn, 1) := by decide +kernel
theorem dX12_run_16 : decode cX12_run 16 = .ok (.aload_n 0, 1) := by decide +kernel
theorem dX12_run_17 : decode cX12_run 17 = .ok (.getfield 13, 3) := by decide +kernel
theorem dX12_run_20 : decode cX12_run 20 = .ok (.iload_n 1, 1) := by decide +kernel
theorem dX12_run_21 : decode cX12_run 21 = .ok (.iaload, 1) := by decide +kernel
theorem dX12_run_22 : decode cX12_run 22 = .ok (.aload_n 0, 1) := by decide +kernel
theorem dX12_run_23 : decode cX12_run 23 = .ok (.getfield 13, 3) := by decide +kernel
theorem dX12_run_26 : decode cX12_run 26 = .ok (.iload_n 2, 1) := by decide +kernel
theorem dX12_run_27 : decode cX12_run 27 = .ok (.iaload, 1) := by decide +kernel
theorem dX12_run_28 : decode cX12_run 28 = .ok (.if_icmp .ne 36, 3) := by decide +kernel
theorem dX12_run_31 : decode cX12_run 31 = .ok (.iload_n 3, 1) := by decide +kernel
theorem dX12_run_32 : decode cX12_run 32 = .ok (.ifCond .lt 32, 3) := by decide +kernel
theorem dX12_run_35 : decode cX12_run 35 = .ok (.iload_n 3, 1) := by decide +kernel
theorem dX12_run_36 : decode cX12_run 36 = .ok (.iconst 4, 1) := by decide +kernel
theorem dX12_run_37 : decode cX12_run 37 = .ok (.if_icmp .gt 27, 3) := by decide +kernel
theorem dX12_run_40 : decode cX12_run 40 = .ok (.iload 4, 2) := by decide +kernel
theorem dX12_run_42 : decode cX12_run 42 = .ok (.ifCond .lt 22, 3) := by decide +kernel
theorem dX12_run_45 : decode cX12_run 45 = .ok (.iload 4, 2) := by decide +kernel
theorem dX12_run_47 : decode cX12_run 47 = .ok (.iconst 3, 1) := by decide +kernel
theorem dX12_run_48 : decode cX12_run 48 = .ok (.if_icmp .gt 16, 3) := by decide +kernel
theorem dX12_run_51 : decode cX12_run 51 = .ok (.iload 6, 2) := by decide +kernel
theorem dX12_run_53 : decode cX12_run 53 = .ok (.ifCond .lt 11, 3) := by decide +kernel
theorem dX12_run_56 : decode cX12_run 56 = .ok (.iload 6, 2) := by decide +kernel
theorem dX12_run_58 : decode cX12_run 58 = .ok (.sipush 200, 3) := by decide +kernel
theorem dX12_run_61 : decode cX12_run 61 = .ok (.if_icmp .le 10, 3) := by decide +kernel
theorem dX12_run_64 : decode cX12_run 64 = .ok (.aload_n 0, 1) := by decide +kernel
theorem dX12_run_65 : decode cX12_run 65 = .ok (.bipush (-3), 2) := by decide +kernel
theorem dX12_run_67 : decode cX12_run 67 = .ok (.invokevirtual 153, 3) := by decide +kernel
theorem dX12_run_70 : decode cX12_run 70 = .ok (.ireturn, 1) := by decide +kernel
theorem dX12_run_71 : decode cX12_run 71 = .ok (.aload_n 0, 1) := by decide +kernel
theorem dX12_run_72 : decode cX12_run 72 = .ok (.getfield 13, 3) := by decide +kernel
theorem dX12_run_75 : decode cX12_run 75 = .ok (.iload_n 1, 1) := by decide +kernel
theorem dX12_run_76 : decode cX12_run 76 = .ok (.iaload, 1) := by decide +kernel
theorem dX12_run_77 : decode cX12_run 77 = .ok (.istore 7, 2) := by decide +kernel
theorem dX12_run_79 : decode cX12_run 79 = .ok (.iconst 0, 1) := by decide +kernel
theorem dX12_run_80 : decode cX12_run 80 = .ok (.istore 8, 2) := by decide +kernel
theorem dX12_run_82 : decode cX12_run 82 = .ok (.iload 8, 2) := by decide +kernel
theorem dX12_run_84 : decode cX12_run 84 = .ok (.iload 7, 2) := by decide +kernel
theorem dX12_run_86 : decode cX12_run 86 = .ok (.if_icmp .ge 28, 3) := by decide +kernel
theorem dX12_run_89 : decode cX12_run 89 = .ok (.aload_n 0, 1) := by decide +kernel
theorem dX12_run_90 : decode cX12_run 90 = .ok (.getfield 72, 3) := by decide +kernel
theorem dX12_run_93 : decode cX12_run 93 = .ok (.iload 8, 2) := by decide +kernel
theorem dX12_run_95 : decode cX12_run 95 = .ok (.aload_n 0, 1) := by decide +kernel
theorem dX12_run_96 : decode cX12_run 96 = .ok (.getfield 35, 3) := by decide +kernel
theorem dX12_run_99 : decode cX12_run 99 = .ok (.bipush 16, 2) := by decide +kernel
theorem dX12_run_101 : decode cX12_run 101 = .ok (.iload_n 2, 1) := by decide +kernel
theorem dX12_run_102 : decode cX12_run 102 = .ok (.imul, 1) := by decide +kernel
theorem dX12_run_103 : decode cX12_run 103 = .ok (.iload 8, 2) := by decide +kernel
theorem dX12_run_105 : decode cX12_run 105 = .ok (.iadd, 1) := by decide +kernel
theorem dX12_run_106 : decode cX12_run 106 = .ok (.laload, 1) := by decide +kernel
theorem dX12_run_107 : decode cX12_run 107 = .ok (.lastore, 1) := by decide +kernel
theorem dX12_run_108 : decode cX12_run 108 = .ok (.iinc 8 1, 3) := by decide +kernel
theorem dX12_run_111 : decode cX12_run 111 = .ok (.goto (-29), 3) := by decide +kernel
theorem dX12_run_114 : decode cX12_run 114 = .ok (.iconst 0, 1) := by decide +kernel
theorem dX12_run_115 : decode cX12_run 115 = .ok (.istore 8, 2) := by decide +kernel
theorem dX12_run_117 : decode cX12_run 117 = .ok (.iload 8, 2) := by decide +kernel
theorem dX12_run_119 : decode cX12_run 119 = .ok (.iload 6, 2) := by decide +kernel
theorem dX12_run_121 : decode cX12_run 121 = .ok (.if_icmp .ge 74, 3) := by decide +kernel
theorem dX12_run_124 : decode cX12_run 124 = .ok (.iconst 0, 1) := by decide +kernel
theorem dX12_run_125 : decode cX12_run 125 = .ok (.istore 9, 2) := by decide +kernel
theorem dX12_run_127 : decode cX12_run 127 = .ok (.iload 9, 2) := by decide +kernel
theorem dX12_run_129 : decode cX12_run 129 = .ok (.iload 7, 2) := by decide +kernel
theorem dX12_run_131 : decode cX12_run 131 = .ok (.if_icmp .ge 28, 3) := by decide +kernel
theorem dX12_run_134 : decode cX12_run 134 = .ok (.aload_n 0, 1) := by decide +kernel
theorem dX12_run_135 : decode cX12_run 135 = .ok (.getfield 75, 3) := by decide +kernel
theorem dX12_run_138 : decode cX12_run 138 = .ok (.iload 9, 2) := by decide +kernel
theorem dX12_run_140 : decode cX12_run 140 = .ok (.aload_n 0, 1) := by decide +kernel
theorem dX12_run_141 : decode cX12_run 141 = .ok (.iload_n 1, 1) := by decide +kernel
theorem dX12_run_142 : decode cX12_run 142 = .ok (.iload 9, 2) := by decide +kernel
theorem dX12_run_144 : decode cX12_run 144 = .ok (.iload_n 3, 1) := by decide +kernel
theorem dX12_run_145 : decode cX12_run 145 = .ok (.iload 4, 2) := by decide +kernel
theorem dX12_run_147 : decode cX12_run 147 = .ok (.iload 5, 2) := by decide +kernel
theorem dX12_run_149 : decode cX12_run 149 = .ok (.invokevirtual 240, 3) := by decide +kernel
theorem dX12_run_152 : decode cX12_run 152 = .ok (.lastore, 1) := by decide +kernel
theorem dX12_run_153 : decode cX12_run 153 = .ok (.iinc 9 1, 3) := by decide +kernel
theorem dX12_run_156 : decode cX12_run 156 = .ok (.goto (-29), 3) := by decide +kernel
theorem dX12_run_159 : decode cX12_run 159 = .ok (.iconst 0, 1) := by decide +kernel
theorem dX12_run_160 : decode cX12_run 160 = .ok (.istore 9, 2) := by decide +kernel
theorem dX12_run_162 : decode cX12_run 162 = .ok (.iload 9, 2) := by decide +kernel
theorem dX12_run_164 : decode cX12_run 164 = .ok (.iload 7, 2) := by decide +kernel
theorem dX12_run_166 : decode cX12_run 166 = .ok (.if_icmp .ge 23, 3) := by decide +kernel
theorem dX12_run_169 : decode cX12_run 169 = .ok (.aload_n 0, 1) := by decide +kernel
theorem dX12_run_170 : decode cX12_run 170 = .ok (.getfield 72, 3) := by decide +kernel
theorem dX12_run_173 : decode cX12_run 173 = .ok (.iload 9, 2) := by decide +kernel
theorem dX12_run_175 : decode cX12_run 175 = .ok (.aload_n 0, 1) := by decide +kernel
theorem dX12_run_176 : decode cX12_run 176 = .ok (.getfield 75, 3) := by decide +kernel
theorem dX12_run_179 : decode cX12_run 179 = .ok (.iload 9, 2) := by decide +kernel
theorem dX12_run_181 : decode cX12_run 181 = .ok (.laload, 1) := by decide +kernel
theorem dX12_run_182 : decode cX12_run 182 = .ok (.lastore, 1) := by decide +kernel
theorem dX12_run_183 : decode cX12_run 183 = .ok (.iinc 9 1, 3) := by decide +kernel
theorem dX12_run_186 : decode cX12_run 186 = .ok (.goto (-24), 3) := by decide +kernel
theorem dX12_run_189 : decode cX12_run 189 = .ok (.iinc 8 1, 3) := by decide +kernel
theorem dX12_run_192 : decode cX12_run 192 = .ok (.goto (-75), 3) := by decide +kernel
theorem dX12_run_195 : decode cX12_run 195 = .ok (.aload_n 0, 1) := by decide +kernel
theorem dX12_run_196 : decode cX12_run 196 = .ok (.iload 7, 2) := by decide +kernel
theorem dX12_run_198 : decode cX12_run 198 = .ok (.invokevirtual 228, 3) := by decide +kernel
theorem dX12_run_201 : decode cX12_run 201 = .ok (.ireturn, 1) := by decide +kernel
theorem kX12_240 : lkK (gS, X) RX12 240 mX12_heard 5 ∧ Cond.instanceMethod yX12_heard ∈ g_ws (gS, X) ∧ Cond.selects RX12 yX12_heard yX12_heard ∈ g_ws (gS, X) ∧ yX12_heard.cls = RX12 := ⟨⟨tb_good, (tb_t (k := 1410) (w := Cond.methodLink RX12 240 yX12_heard) (by decide +kernel)), (tb_t (k := 8) (w := Cond.initialized RX12) (by decide +kernel)), (tb_t (k := 1413) (w := Cond.code yX12_heard cX12_heard 14 (some .long)) (by decide +kernel)), by decide +kernel, by decide⟩, (tb_t (k := 1412) (w := Cond.instanceMethod yX12_heard) (by decide +kernel)), (tb_p (k := 98) (q := (yX12_heard, 45)) (by decide +kernel)), rfl⟩
theorem dX12_ways_0 : decode cX12_ways 0 = .ok (.aload_n 0, 1) := by decide +kernel
theorem dX12_ways_1 : decode cX12_ways 1 = .ok (.iload_n 1, 1) := by decide +kernel
theorem dX12_ways_2 : decode cX12_ways 2 = .ok (.iconst 1, 1) := by decide +kernel
theorem dX12_ways_3 : decode cX12_ways 3 = .ok (.invokevirtual 183, 3) := by decide +kernel
theorem dX12_ways_6 : decode cX12_ways 6 = .ok (.ifCond .ne 8, 3) := by decide +kernel
theorem dX12_ways_9 : decode cX12_ways 9 = .ok (.aload_n 0, 1) := by decide +kernel
theorem dX12_ways_10 : decode cX12_ways 10 = .ok (.getfield 142, 3) := by decide +kernel
theorem dX12_ways_13 : decode cX12_ways 13 = .ok (.ireturn, 1) := by decide +kernel
theorem dX12_ways_14 : decode cX12_ways 14 = .ok (.iload_n 2, 1) := by decide +kernel
theorem dX12_ways_15 : decode cX12_ways 15 = .ok (.ifCond .lt 22, 3) := by decide +kernel
theorem dX12_ways_18 : decode cX12_ways 18 = .ok (.iload_n 2, 1) := by decide +kernel
theorem dX12_ways_19 : decode cX12_ways 19 = .ok (.iconst 2, 1) := by decide +kernel
theorem dX12_ways_20 : decode cX12_ways 20 = .ok (.if_icmp .gt 17, 3) := by decide +kernel
theorem dX12_ways_23 : decode cX12_ways 23 = .ok (.iload_n 3, 1) := by decide +kernel
theorem dX12_ways_24 : decode cX12_ways 24 = .ok (.ifCond .lt 13, 3) := by decide +kernel
theorem dX12_ways_27 : decode cX12_ways 27 = .ok (.iload_n 3, 1) := by decide +kernel
theorem dX12_ways_28 : decode cX12_ways 28 = .ok (.aload_n 0, 1) := by decide +kernel
theorem dX12_ways_29 : decode cX12_ways 29 = .ok (.getfield 13, 3) := by decide +kernel
theorem dX12_ways_32 : decode cX12_ways 32 = .ok (.iload_n 1, 1) := by decide +kernel
theorem dX12_ways_33 : decode cX12_ways 33 = .ok (.iaload, 1) := by decide +kernel
theorem dX12_ways_34 : decode cX12_ways 34 = .ok (.if_icmp .lt 10, 3) := by decide +kernel
theorem dX12_ways_37 : decode cX12_ways 37 = .ok (.aload_n 0, 1) := by decide +kernel
theorem dX12_ways_38 : decode cX12_ways 38 = .ok (.bipush (-3), 2) := by decide +kernel
theorem dX12_ways_40 : decode cX12_ways 40 = .ok (.invokevirtual 153, 3) := by decide +kernel
theorem dX12_ways_43 : decode cX12_ways 43 = .ok (.ireturn, 1) := by decide +kernel
theorem dX12_ways_44 : decode cX12_ways 44 = .ok (.aload_n 0, 1) := by decide +kernel
theorem dX12_ways_45 : decode cX12_ways 45 = .ok (.iconst 3, 1) := by decide +kernel
theorem dX12_ways_46 : decode cX12_ways 46 = .ok (.invokevirtual 168, 3) := by decide +kernel
theorem dX12_ways_49 : decode cX12_ways 49 = .ok (.istore 4, 2) := by decide +kernel
theorem dX12_ways_51 : decode cX12_ways 51 = .ok (.iload 4, 2) := by decide +kernel
theorem dX12_ways_53 : decode cX12_ways 53 = .ok (.ifCond .ge 6, 3) := by decide +kernel
theorem dX12_ways_56 : decode cX12_ways 56 = .ok (.iload 4, 2) := by decide +kernel
theorem dX12_ways_58 : decode cX12_ways 58 = .ok (.ireturn, 1) := by decide +kernel
theorem dX12_ways_59 : decode cX12_ways 59 = .ok (.aload_n 0, 1) := by decide +kernel
theorem dX12_ways_60 : decode cX12_ways 60 = .ok (.getfield 13, 3) := by decide +kernel
theorem dX12_ways_63 : decode cX12_ways 63 = .ok (.iload_n 1, 1) := by decide +kernel
theorem dX12_ways_64 : decode cX12_ways 64 = .ok (.iaload, 1) := by decide +kernel
theorem dX12_ways_65 : decode cX12_ways 65 = .ok (.istore 5, 2) := by decide +kernel
theorem dX12_ways_67 : decode cX12_ways 67 = .ok (.aload_n 0, 1) := by decide +kernel
theorem dX12_ways_68 : decode cX12_ways 68 = .ok (.getfield 13, 3) := by decide +kernel
theorem dX12_ways_71 : decode cX12_ways 71 = .ok (.iload 4, 2) := by decide +kernel
theorem dX12_ways_73 : decode cX12_ways 73 = .ok (.iload 5, 2) := by decide +kernel
theorem dX12_ways_75 : decode cX12_ways 75 = .ok (.iastore, 1) := by decide +kernel
theorem dX12_ways_76 : decode cX12_ways 76 = .ok (.iconst 0, 1) := by decide +kernel
theorem dX12_ways_77 : decode cX12_ways 77 = .ok (.istore 6, 2) := by decide +kernel
theorem dX12_ways_79 : decode cX12_ways 79 = .ok (.iload 6, 2) := by decide +kernel
theorem dX12_ways_81 : decode cX12_ways 81 = .ok (.iload 5, 2) := by decide +kernel
theorem dX12_ways_83 : decode cX12_ways 83 = .ok (.if_icmp .ge 41, 3) := by decide +kernel
theorem dX12_ways_86 : decode cX12_ways 86 = .ok (.iload_n 2, 1) := by decide +kernel
theorem dX12_ways_87 : decode cX12_ways 87 = .ok (.iconst 2, 1) := by decide +kernel
theorem dX12_ways_88 : decode cX12_ways 88 = .ok (.if_icmp .ne 14, 3) := by decide +kernel
theorem dX12_ways_91 : decode cX12_ways 91 = .ok (.aload_n 0, 1) := by decide +kernel
theorem dX12_ways_92 : decode cX12_ways 92 = .ok (.iload_n 1, 1) := by decide +kernel
theorem dX12_ways_93 : decode cX12_ways 93 = .ok (.iload_n 3, 1) := by decide +kernel
theorem dX12_ways_94 : decode cX12_ways 94 = .ok (.iload 6, 2) := by decide +kernel
theorem dX12_ways_96 : decode cX12_ways 96 = .ok (.invokevirtual 260, 3) := by decide +kernel
theorem dX12_ways_99 : decode cX12_ways 99 = .ok (.goto 4, 3) := by decide +kernel
theorem dX12_ways_102 : decode cX12_ways 102 = .ok (.lconst 0, 1) := by decide +kernel
theorem dX12_ways_103 : decode cX12_ways 103 = .ok (.lstore 7, 2) := by decide +kernel
theorem dX12_ways_105 : decode cX12_ways 105 = .ok (.aload_n 0, 1) := by decide +kernel
theorem dX12_ways_106 : decode cX12_ways 106 = .ok (.iload 4, 2) := by decide +kernel
theorem dX12_ways_108 : decode cX12_ways 108 = .ok (.iload_n 1, 1) := by decide +kernel
theorem dX12_ways_109 : decode cX12_ways 109 = .ok (.iload_n 2, 1) := by decide +kernel
theorem dX12_ways_110 : decode cX12_ways 110 = .ok (.iload_n 3, 1) := by decide +kernel
theorem dX12_ways_111 : decode cX12_ways 111 = .ok (.iload 6, 2) := by decide +kernel
theorem dX12_ways_113 : decode cX12_ways 113 = .ok (.lload 7, 2) := by decide +kernel
theorem dX12_ways_115 : decode cX12_ways 115 = .ok (.invokevirtual 264, 3) := by decide +kernel
theorem dX12_ways_118 : decode cX12_ways 118 = .ok (.iinc 6 1, 3) := by decide +kernel
theorem dX12_ways_121 : decode cX12_ways 121 = .ok (.goto (-42), 3) := by decide +kernel
theorem dX12_ways_124 : decode cX12_ways 124 = .ok (.iload 4, 2) := by decide +kernel
theorem dX12_ways_126 : decode cX12_ways 126 = .ok (.ireturn, 1) := by decide +kernel
theorem kX12_260 : lkK (gS, X) RX12 260 mX12_widest 3 ∧ Cond.instanceMethod yX12_widest ∈ g_ws (gS, X) ∧ Cond.selects RX12 yX12_widest yX12_widest ∈ g_ws (gS, X) ∧ yX12_widest.cls = RX12 := ⟨⟨tb_good, (tb_t (k := 1424) (w := Cond.methodLink RX12 260 yX12_widest) (by decide +kernel)), (tb_t (k := 8) (w := Cond.initialized RX12) (by decide +kernel)), (tb_t (k := 1427) (w := Cond.code yX12_widest cX12_widest 9 (some .long)) (by decide +kernel)), by decide +kernel, by decide⟩, (tb_t (k := 1426) (w := Cond.instanceMethod yX12_widest) (by decide +kernel)), (tb_p (k := 99) (q := (yX12_widest, 45)) (by decide +kernel)), rfl⟩
theorem kX12_264 : lkK (gS, X) RX12 264 mX12_fill 6 ∧ Cond.instanceMethod yX12_fill ∈ g_ws (gS, X) ∧ Cond.selects RX12 yX12_fill yX12_fill ∈ g_ws (gS, X) ∧ yX12_fill.cls = RX12 := ⟨⟨tb_good, (tb_t (k := 1430) (w := Cond.methodLink RX12 264 yX12_fill) (by decide +kernel)), (tb_t (k := 8) (w := Cond.initialized RX12) (by decide +kernel)), (tb_t (k := 1433) (w := Cond.code yX12_fill cX12_fill 14 none) (by decide +kernel)), by decide +kernel, by decide⟩, (tb_t (k := 1432) (w := Cond.instanceMethod yX12_fill) (by decide +kernel)), (tb_p (k := 100) (q := (yX12_fill, 45)) (by decide +kernel)), rfl⟩
theorem dX12_parts_0 : decode cX12_parts 0 = .ok (.iload_n 2, 1) := by decide +kernel
theorem dX12_parts_1 : decode cX12_parts 1 = .ok (.iconst 4, 1) := by decide +kernel
theorem dX12_parts_2 : decode cX12_parts 2 = .ok (.if_icmp .ne 7, 3) := by decide +kernel
theorem dX12_parts_5 : decode cX12_parts 5 = .ok (.iconst 1, 1) := by decide +kernel
theorem dX12_parts_6 : decode cX12_parts 6 = .ok (.goto 4, 3) := by decide +kernel
theorem dX12_parts_9 : decode cX12_parts 9 = .ok (.iconst 0, 1) := by decide +kernel
theorem dX12_parts_10 : decode cX12_parts 10 = .ok (.istore 4, 2) := by decide +kernel
theorem dX12_parts_12 : decode cX12_parts 12 = .ok (.iload 4, 2) := by decide +kernel
theorem dX12_parts_14 : decode cX12_parts 14 = .ok (.ifCond .eq 17, 3) := by decide +kernel
theorem dX12_parts_17 : decode cX12_parts 17 = .ok (.aload_n 0, 1) := by decide +kernel
theorem dX12_parts_18 : decode cX12_parts 18 = .ok (.iload_n 1, 1) := by decide +kernel
theorem dX12_parts_19 : decode cX12_parts 19 = .ok (.iconst 1, 1) := by decide +kernel
theorem dX12_parts_20 : decode cX12_parts 20 = .ok (.iload_n 3, 1) := by decide +kernel
theorem dX12_parts_21 : decode cX12_parts 21 = .ok (.iconst 2, 1) := by decide +kernel
theorem dX12_parts_22 : decode cX12_parts 22 = .ok (.invokevirtual 209, 3) := by decide +kernel
theorem dX12_parts_25 : decode cX12_parts 25 = .ok (.ifCond .ne 20, 3) := by decide +kernel
theorem dX12_parts_28 : decode cX12_parts 28 = .ok (.goto 12, 3) := by decide +kernel
theorem dX12_parts_31 : decode cX12_parts 31 = .ok (.aload_n 0, 1) := by decide +kernel
theorem dX12_parts_32 : decode cX12_parts 32 = .ok (.iload_n 1, 1) := by decide +kernel
theorem dX12_parts_33 : decode cX12_parts 33 = .ok (.iconst 1, 1) := by decide +kernel
theorem dX12_parts_34 : decode cX12_parts 34 = .ok (.invokevirtual 183, 3) := by decide +kernel
theorem dX12_parts_37 : decode cX12_parts 37 = .ok (.ifCond .ne 8, 3) := by decide +kernel
theorem dX12_parts_40 : decode cX12_parts 40 = .ok (.aload_n 0, 1) := by decide +kernel
theorem dX12_parts_41 : decode cX12_parts 41 = .ok (.getfield 142, 3) := by decide +kernel
theorem dX12_parts_44 : decode cX12_parts 44 = .ok (.ireturn, 1) := by decide +kernel
theorem dX12_parts_45 : decode cX12_parts 45 = .ok (.iload_n 2, 1) := by decide +kernel
theorem dX12_parts_46 : decode cX12_parts 46 = .ok (.ifCond .lt 28, 3) := by decide +kernel
theorem dX12_parts_49 : decode cX12_parts 49 = .ok (.iload_n 2, 1) := by decide +kernel
theorem dX12_parts_50 : decode cX12_parts 50 = .ok (.iconst 4, 1) := by decide +kernel
theorem dX12_parts_51 : decode cX12_parts 51 = .ok (.if_icmp .gt 23, 3) := by decide +kernel
theorem dX12_parts_54 : decode cX12_parts 54 = .ok (.iload 4, 2) := by decide +kernel
theorem dX12_parts_56 : decode cX12_parts 56 = .ok (.ifCond .eq 25, 3) := by decide +kernel
theorem dX12_parts_59 : decode cX12_parts 59 = .ok (.aload_n 0, 1) := by decide +kernel
theorem dX12_parts_60 : decode cX12_parts 60 = .ok (.getfield 13, 3) := by decide +kernel
theorem dX12_parts_63 : decode cX12_parts 63 = .ok (.iload_n 3, 1) := by decide +kernel
theorem dX12_parts_64 : decode cX12_parts 64 = .ok (.iaload, 1) := by decide +kernel
theorem dX12_parts_65 : decode cX12_parts 65 = .ok (.aload_n 0, 1) := by decide +kernel
theorem dX12_parts_66 : decode cX12_parts 66 = .ok (.getfield 13, 3) := by decide +kernel
theorem dX12_parts_69 : decode cX12_parts 69 = .ok (.iload_n 1, 1) := by decide +kernel
theorem dX12_parts_70 : decode cX12_parts 70 = .ok (.iaload, 1) := by decide +kernel
theorem dX12_parts_71 : decode cX12_parts 71 = .ok (.if_icmp .eq 10, 3) := by decide +kernel
theorem dX12_parts_74 : decode cX12_parts 74 = .ok (.aload_n 0, 1) := by decide +kernel
theorem dX12_parts_75 : decode cX12_parts 75 = .ok (.bipush (-3), 2) := by decide +kernel
theorem dX12_parts_77 : decode cX12_parts 77 = .ok (.invokevirtual 153, 3) := by decide +kernel
theorem dX12_parts_80 : decode cX12_parts 80 = .ok (.ireturn, 1) := by decide +kernel
theorem dX12_parts_81 : decode cX12_parts 81 = .ok (.aload_n 0, 1) := by decide +kernel
theorem dX12_parts_82 : decode cX12_parts 82 = .ok (.getfield 13, 3) := by decide +kernel
theorem dX12_parts_85 : decode cX12_parts 85 = .ok (.iload_n 1, 1) := by decide +kernel
theorem dX12_parts_86 : decode cX12_parts 86 = .ok (.iaload, 1) := by decide +kernel
theorem dX12_parts_87 : decode cX12_parts 87 = .ok (.istore 5, 2) := by decide +kernel
theorem dX12_parts_89 : decode cX12_parts 89 = .ok (.iload 4, 2) := by decide +kernel
theorem dX12_parts_91 : decode cX12_parts 91 = .ok (.ifCond .eq 95, 3) := by decide +kernel
theorem dX12_parts_94 : decode cX12_parts 94 = .ok (.iconst 0, 1) := by decide +kernel
theorem dX12_parts_95 : decode cX12_parts 95 = .ok (.istore 6, 2) := by decide +kernel
theorem dX12_parts_97 : decode cX12_parts 97 = .ok (.iload 6, 2) := by decide +kernel
theorem dX12_parts_99 : decode cX12_parts 99 = .ok (.iload 5, 2) := by decide +kernel
theorem dX12_parts_101 : decode cX12_parts 101 = .ok (.if_icmp .ge 82, 3) := by decide +kernel
theorem dX12_parts_104 : decode cX12_parts 104 = .ok (.aload_n 0, 1) := by decide +kernel
theorem dX12_parts_105 : decode cX12_parts 105 = .ok (.getfield 103, 3) := by decide +kernel
theorem dX12_parts_108 : decode cX12_parts 108 = .ok (.iload 6, 2) := by decide +kernel
theorem dX12_parts_110 : decode cX12_parts 110 = .ok (.iload 6, 2) := by decide +kernel
theorem dX12_parts_112 : decode cX12_parts 112 = .ok (.iastore, 1) := by decide +kernel
theorem dX12_parts_113 : decode cX12_parts 113 = .ok (.iload 6, 2) := by decide +kernel
theorem dX12_parts_115 : decode cX12_parts 115 = .ok (.iconst 1, 1) := by decide +kernel
theorem dX12_parts_116 : decode cX12_parts 116 = .ok (.isub, 1) := by decide +kernel
theorem dX12_parts_117 : decode cX12_parts 117 = .ok (.istore 7, 2) := by decide +kernel
theorem dX12_parts_119 : decode cX12_parts 119 = .ok (.iload 7, 2) := by decide +kernel
theorem dX12_parts_121 : decode cX12_parts 121 = .ok (.ifCond .lt 56, 3) := by decide +kernel
theorem dX12_parts_124 : decode cX12_parts 124 = .ok (.aload_n 0, 1) := by decide +kernel
theorem dX12_parts_125 : decode cX12_parts 125 = .ok (.getfield 103, 3) := by decide +kernel
theorem dX12_parts_128 : decode cX12_parts 128 = .ok (.iload 6, 2) := by decide +kernel
theorem dX12_parts_130 : decode cX12_parts 130 = .ok (.aload_n 0, 1) := by decide +kernel
theorem dX12_parts_131 : decode cX12_parts 131 = .ok (.getfield 35, 3) := by decide +kernel
theorem dX12_parts_134 : decode cX12_parts 134 = .ok (.bipush 16, 2) := by decide +kernel
theorem dX12_parts_136 : decode cX12_parts 136 = .ok (.iload_n 3, 1) := by decide +kernel
theorem dX12_parts_137 : decode cX12_parts 137 = .ok (.imul, 1) := by decide +kernel
theorem dX12_parts_138 : decode cX12_parts 138 = .ok (.iload 7, 2) := by decide +kernel
theorem dX12_parts_140 : decode cX12_parts 140 = .ok (.iadd, 1) := by decide +kernel
theorem dX12_parts_141 : decode cX12_parts 141 = .ok (.laload, 1) := by decide +kernel
theorem dX12_parts_142 : decode cX12_parts 142 = .ok (.aload_n 0, 1) := by decide +kernel
theorem dX12_parts_143 : decode cX12_parts 143 = .ok (.getfield 35, 3) := by decide +kernel
theorem dX12_parts_146 : decode cX12_parts 146 = .ok (.bipush 16, 2) := by decide +kernel
theorem dX12_parts_148 : decode cX12_parts 148 = .ok (.iload_n 3, 1) := by decide +kernel
theorem dX12_parts_149 : decode cX12_parts 149 = .ok (.imul, 1) := by decide +kernel
theorem dX12_parts_150 : decode cX12_parts 150 = .ok (.iload 6, 2) := by decide +kernel
theorem dX12_parts_152 : decode cX12_parts 152 = .ok (.iadd, 1) := by decide +kernel
theorem dX12_parts_153 : decode cX12_parts 153 = .ok (.laload, 1) := by decide +kernel
theorem dX12_parts_154 : decode cX12_parts 154 = .ok (.lcmp, 1) := by decide +kernel
theorem dX12_parts_155 : decode cX12_parts 155 = .ok (.ifCond .ne 8, 3) := by decide +kernel
theorem dX12_parts_158 : decode cX12_parts 158 = .ok (.iload 7, 2) := by decide +kernel
theorem dX12_parts_160 : decode cX12_parts 160 = .ok (.goto 10, 3) := by decide +kernel
theorem dX12_parts_163 : decode cX12_parts 163 = .ok (.aload_n 0, 1) := by decide +kernel
theorem dX12_parts_164 : decode cX12_parts 164 = .ok (.getfield 103, 3) := by decide +kernel
theorem dX12_parts_167 : decode cX12_parts 167 = .ok (.iload 6, 2) := by decide +kernel
theorem dX12_parts_169 : decode cX12_parts 169 = .ok (.iaload, 1) := by decide +kernel
theorem dX12_parts_170 : decode cX12_parts 170 = .ok (.iastore, 1) := by decide +kernel
theorem dX12_parts_171 : decode cX12_parts 171 = .ok (.iinc 7 (-1), 3) := by decide +kernel
theorem dX12_parts_174 : decode cX12_parts 174 = .ok (.goto (-55), 3) := by decide +kernel
theorem dX12_parts_177 : decode cX12_parts 177 = .ok (.iinc 6 1, 3) := by decide +kernel
theorem dX12_parts_180 : decode cX12_parts 180 = .ok (.goto (-83), 3) := by decide +kernel
theorem dX12_parts_183 : decode cX12_parts 183 = .ok (.goto 158, 3) := by decide +kernel
theorem dX12_parts_186 : decode cX12_parts 186 = .ok (.iload_n 2, 1) := by decide +kernel
theorem dX12_parts_187 : decode cX12_parts 187 = .ok (.ifCond .ne 103, 3) := by decide +kernel
theorem dX12_parts_190 : decode cX12_parts 190 = .ok (.iconst 0, 1) := by decide +kernel
theorem dX12_parts_191 : decode cX12_parts 191 = .ok (.istore 6, 2) := by decide +kernel
theorem dX12_parts_193 : decode cX12_parts 193 = .ok (.iload 6, 2) := by decide +kernel
theorem dX12_parts_195 : decode cX12_parts 195 = .ok (.iload 5, 2) := by decide +kernel
theorem dX12_parts_197 : decode cX12_parts 197 = .ok (.if_icmp .ge 90, 3) := by decide +kernel
theorem dX12_parts_200 : decode cX12_parts 200 = .ok (.aload_n 0, 1) := by decide +kernel
theorem dX12_parts_201 : decode cX12_parts 201 = .ok (.iload_n 1, 1) := by decide +kernel
theorem dX12_parts_202 : decode cX12_parts 202 = .ok (.iconst 1, 1) := by decide +kernel
theorem dX12_parts_203 : decode cX12_parts 203 = .ok (.iload 6, 2) := by decide +kernel
theorem dX12_parts_205 : decode cX12_parts 205 = .ok (.ishl, 1) := by decide +kernel
theorem dX12_parts_206 : decode cX12_parts 206 = .ok (.invokevirtual 283, 3) := by decide +kernel
theorem dX12_parts_209 : decode cX12_parts 209 = .ok (.istore 7, 2) := by decide +kernel
theorem dX12_parts_211 : decode cX12_parts 211 = .ok (.iconst 0, 1) := by decide +kernel
theorem dX12_parts_212 : decode cX12_parts 212 = .ok (.istore 8, 2) := by decide +kernel
theorem dX12_parts_214 : decode cX12_parts 214 = .ok (.iconst 0, 1) := by decide +kernel
theorem dX12_parts_215 : decode cX12_parts 215 = .ok (.istore 9, 2) := by decide +kernel
theorem dX12_parts_217 : decode cX12_parts 217 = .ok (.iload 9, 2) := by decide +kernel
theorem dX12_parts_219 : decode cX12_parts 219 = .ok (.iload 5, 2) := by decide +kernel
theorem dX12_parts_221 : decode cX12_parts 221 = .ok (.if_icmp .ge 51, 3) := by decide +kernel
theorem dX12_parts_224 : decode cX12_parts 224 = .ok (.iload 8, 2) := by decide +kernel
theorem dX12_parts_226 : decode cX12_parts 226 = .ok (.iload 7, 2) := by decide +kernel
theorem dX12_parts_228 : decode cX12_parts 228 = .ok (.iload 9, 2) := by decide +kernel
theorem dX12_parts_230 : decode cX12_parts 230 = .ok (.ishr, 1) := by decide +kernel
theorem dX12_parts_231 : decode cX12_parts 231 = .ok (.iconst 1, 1) := by decide +kernel
theorem dX12_parts_232 : decode cX12_parts 232 = .ok (.iand, 1) := by decide +kernel
theorem dX12_parts_233 : decode cX12_parts 233 = .ok (.iconst 1, 1) := by decide +kernel
theorem dX12_parts_234 : decode cX12_parts 234 = .ok (.if_icmp .ne 28, 3) := by decide +kernel
theorem dX12_parts_237 : decode cX12_parts 237 = .ok (.aload_n 0, 1) := by decide +kernel
theorem dX12_parts_238 : decode cX12_parts 238 = .ok (.iload_n 1, 1) := by decide +kernel
theorem dX12_parts_239 : decode cX12_parts 239 = .ok (.iconst 1, 1) := by decide +kernel
theorem dX12_parts_240 : decode cX12_parts 240 = .ok (.iload 9, 2) := by decide +kernel
theorem dX12_parts_242 : decode cX12_parts 242 = .ok (.ishl, 1) := by decide +kernel
theorem dX12_parts_243 : decode cX12_parts 243 = .ok (.invokevirtual 283, 3) := by decide +kernel
theorem dX12_parts_246 : decode cX12_parts 246 = .ok (.iload 6, 2) := by decide +kernel
theorem dX12_parts_248 : decode cX12_parts 248 = .ok (.ishr, 1) := by decide +kernel
theorem dX12_parts_249 : decode cX12_parts 249 = .ok (.iconst 1, 1) := by decide +kernel
theorem dX12_parts_250 : decode cX12_parts 250 = .ok (.iand, 1) := by decide +kernel
theorem dX12_parts_251 : decode cX12_parts 251 = .ok (.iconst 1, 1) := by decide +kernel
theorem dX12_parts_252 : decode cX12_parts 252 = .ok (.if_icmp .ne 10, 3) := by decide +kernel
theorem dX12_parts_255 : decode cX12_parts 255 = .ok (.iconst 1, 1) := by decide +kernel
theorem dX12_parts_256 : decode cX12_parts 256 = .ok (.iload 9, 2) := by decide +kernel
theorem dX12_parts_258 : decode cX12_parts 258 = .ok (.ishl, 1) := by decide +kernel
theorem dX12_parts_259 : decode cX12_parts 259 = .ok (.goto 4, 3) := by decide +kernel
theorem dX12_parts_262 : decode cX12_parts 262 = .ok (.iconst 0, 1) := by decide +kernel
theorem dX12_parts_263 : decode cX12_parts 263 = .ok (.ior, 1) := by decide +kernel
theorem dX12_parts_264 : decode cX12_parts 264 = .ok (.istore 8, 2) := by decide +kernel
theorem dX12_parts_266 : decode cX12_parts 266 = .ok (.iinc 9 1, 3) := by decide +kernel
theorem dX12_parts_269 : decode cX12_parts 269 = .ok (.goto (-52), 3) := by decide +kernel
theorem dX12_parts_272 : decode cX12_parts 272 = .ok (.aload_n 0, 1) := by decide +kernel
theorem dX12_parts_273 : decode cX12_parts 273 = .ok (.getfield 103, 3) := by decide +kernel
theorem dX12_parts_276 : decode cX12_parts 276 = .ok (.iload 6, 2) := by decide +kernel
theorem dX12_parts_278 : decode cX12_parts 278 = .ok (.iload 8, 2) := by decide +kernel
theorem dX12_parts_280 : decode cX12_parts 280 = .ok (.iastore, 1) := by decide +kernel
theorem dX12_parts_281 : decode cX12_parts 281 = .ok (.iinc 6 1, 3) := by decide +kernel
theorem dX12_parts_284 : decode cX12_parts 284 = .ok (.goto (-91), 3) := by decide +kernel
theorem dX12_parts_287 : decode cX12_parts 287 = .ok (.goto 54, 3) := by decide +kernel
theorem dX12_parts_290 : decode cX12_parts 290 = .ok (.iload_n 2, 1) := by decide +kernel
theorem dX12_parts_291 : decode cX12_parts 291 = .ok (.iconst 3, 1) := by decide +kernel
theorem dX12_parts_292 : decode cX12_parts 292 = .ok (.if_icmp .ne 11, 3) := by decide +kernel
theorem dX12_parts_295 : decode cX12_parts 295 = .ok (.aload_n 0, 1) := by decide +kernel
theorem dX12_parts_296 : decode cX12_parts 296 = .ok (.iload_n 1, 1) := by decide +kernel
theorem dX12_parts_297 : decode cX12_parts 297 = .ok (.invokevirtual 289, 3) := by decide +kernel
theorem dX12_parts_300 : decode cX12_parts 300 = .ok (.goto 41, 3) := by decide +kernel
theorem dX12_parts_303 : decode cX12_parts 303 = .ok (.iload_n 2, 1) := by decide +kernel
theorem dX12_parts_304 : decode cX12_parts 304 = .ok (.iconst 2, 1) := by decide +kernel
theorem dX12_parts_305 : decode cX12_parts 305 = .ok (.if_icmp .ne 11, 3) := by decide +kernel
theorem dX12_parts_308 : decode cX12_parts 308 = .ok (.aload_n 0, 1) := by decide +kernel
theorem dX12_parts_309 : decode cX12_parts 309 = .ok (.iload_n 1, 1) := by decide +kernel
theorem dX12_parts_310 : decode cX12_parts 310 = .ok (.invokevirtual 292, 3) := by decide +kernel
theorem dX12_parts_313 : decode cX12_parts 313 = .ok (.goto 4, 3) := by decide +kernel
theorem dX12_parts_316 : decode cX12_parts 316 = .ok (.iconst 0, 1) := by decide +kernel
theorem dX12_parts_317 : decode cX12_parts 317 = .ok (.istore 6, 2) := by decide +kernel
theorem dX12_parts_319 : decode cX12_parts 319 = .ok (.aload_n 0, 1) := by decide +kernel
theorem dX12_parts_320 : decode cX12_parts 320 = .ok (.iload_n 1, 1) := by decide +kernel
theorem dX12_parts_321 : decode cX12_parts 321 = .ok (.iconst (-1), 1) := by decide +kernel
theorem dX12_parts_322 : decode cX12_parts 322 = .ok (.invokevirtual 234, 3) := by decide +kernel
theorem dX12_parts_325 : decode cX12_parts 325 = .ok (.iload 6, 2) := by decide +kernel
theorem dX12_parts_327 : decode cX12_parts 327 = .ok (.ifCond .le 8, 3) := by decide +kernel
theorem dX12_parts_330 : decode cX12_parts 330 = .ok (.aload_n 0, 1) := by decide +kernel
theorem dX12_parts_331 : decode cX12_parts 331 = .ok (.iload_n 1, 1) := by decide +kernel
theorem dX12_parts_332 : decode cX12_parts 332 = .ok (.invokevirtual 295, 3) := by decide +kernel
theorem dX12_parts_335 : decode cX12_parts 335 = .ok (.aload_n 0, 1) := by decide +kernel
theorem dX12_parts_336 : decode cX12_parts 336 = .ok (.iload 5, 2) := by decide +kernel
theorem dX12_parts_338 : decode cX12_parts 338 = .ok (.invokevirtual 298, 3) := by decide +kernel
theorem dX12_parts_341 : decode cX12_parts 341 = .ok (.aload_n 0, 1) := by decide +kernel
theorem dX12_parts_342 : decode cX12_parts 342 = .ok (.iload 5, 2) := by decide +kernel
theorem dX12_parts_344 : decode cX12_parts 344 = .ok (.invokevirtual 301, 3) := by decide +kernel
theorem dX12_parts_347 : decode cX12_parts 347 = .ok (.ireturn, 1) := by decide +kernel
theorem kX12_283 : lkK (gS, X) RX12 283 mX12_reachAll 2 ∧ Cond.instanceMethod yX12_reachAll ∈ g_ws (gS, X) ∧ Cond.selects RX12 yX12_reachAll yX12_reachAll ∈ g_ws (gS, X) ∧ yX12_reachAll.cls = RX12 := ⟨⟨tb_good, (tb_t (k := 1451) (w := Cond.methodLink RX12 283 yX12_reachAll) (by decide +kernel)), (tb_t (k := 8) (w := Cond.initialized RX12) (by decide +kernel)), (tb_t (k := 1454) (w := Cond.code yX12_reachAll cX12_reachAll 5 (some .int)) (by decide +kernel)), by decide +kernel, by decide⟩, (tb_t (k := 1453) (w := Cond.instanceMethod yX12_reachAll) (by decide +kernel)), (tb_p (k := 105) (q := (yX12_reachAll, 45)) (by decide +kernel)), rfl⟩
theorem kX12_289 : lkK (gS, X) RX12 289 mX12_same 1 ∧ Cond.instanceMethod yX12_same ∈ g_ws (gS, X) ∧ Cond.selects RX12 yX12_same yX12_same ∈ g_ws (gS, X) ∧ yX12_same.cls = RX12 := ⟨⟨tb_good, (tb_t (k := 1467) (w := Cond.methodLink RX12 289 yX12_same) (by decide +kernel)), (tb_t (k := 8) (w := Cond.initialized RX12) (by decide +kernel)), (tb_t (k := 1470) (w := Cond.code yX12_same cX12_same 5 none) (by decide +kernel)), by decide +kernel, by decide⟩, (tb_t (k := 1469) (w := Cond.instanceMethod yX12_same) (by decide +kernel)), (tb_p (k := 108) (q := (yX12_same, 45)) (by decide +kernel)), rfl⟩
theorem kX12_292 : lkK (gS, X) RX12 292 mX12_bridgesOf 1 ∧ Cond.instanceMethod yX12_bridgesOf ∈ g_ws (gS, X) ∧ Cond.selects RX12 yX12_bridgesOf yX12_bridgesOf ∈ g_ws (gS, X) ∧ yX12_bridgesOf.cls = RX12 := ⟨⟨tb_good, (tb_t (k := 1471) (w := Cond.methodLink RX12 292 yX12_bridgesOf) (by decide +kernel)), (tb_t (k := 8) (w := Cond.initialized RX12) (by decide +kernel)), (tb_t (k := 1474) (w := Cond.code yX12_bridgesOf cX12_bridgesOf 6 (some .int)) (by decide +kernel)), by decide +kernel, by decide⟩, (tb_t (k := 1473) (w := Cond.instanceMethod yX12_bridgesOf) (by decide +kernel)), (tb_p (k := 109) (q := (yX12_bridgesOf, 45)) (by decide +kernel)), rfl⟩
theorem kX12_234 : lkK (gS, X) RX12 234 mX12_joinsOf 2 ∧ Cond.instanceMethod yX12_joinsOf ∈ g_ws (gS, X) ∧ Cond.selects RX12 yX12_joinsOf yX12_joinsOf ∈ g_ws (gS, X) ∧ yX12_joinsOf.cls = RX12 := ⟨⟨tb_good, (tb_t (k := 1386) (w := Cond.methodLink RX12 234 yX12_joinsOf) (by decide +kernel)), (tb_t (k := 8) (w := Cond.initialized RX12) (by decide +kernel)), (tb_t (k := 1389) (w := Cond.code yX12_joinsOf cX12_joinsOf 5 none) (by decide +kernel)), by decide +kernel, by decide⟩, (tb_t (k := 1388) (w := Cond.instanceMethod yX12_joinsOf) (by decide +kernel)), (tb_p (k := 95) (q := (yX12_joinsOf, 45)) (by decide +kernel)), rfl⟩
theorem kX12_295 : lkK (gS, X) RX12 295 mX12_withoutBridges 1 ∧ Cond.instanceMethod yX12_withoutBridges ∈ g_ws (gS, X) ∧ Cond.selects RX12 yX12_withoutBridges yX12_withoutBridges ∈ g_ws (gS, X) ∧ yX12_withoutBridges.cls = RX12 := ⟨⟨tb_good, (tb_t (k := 1479) (w := Cond.methodLink RX12 295 yX12_withoutBridges) (by decide +kernel)), (tb_t (k := 8) (w := Cond.initialized RX12) (by decide +kernel)), (tb_t (k := 1482) (w := Cond.code yX12_withoutBridges cX12_withoutBridges 4 none) (by decide +kernel)), by decide +kernel, by decide⟩, (tb_t (k := 1481) (w := Cond.instanceMethod yX12_withoutBridges) (by decide +kernel)), (tb_p (k := 111) (q := (yX12_withoutBridges, 45)) (by decide +kernel)), rfl⟩
theorem kX12_298 : lkK (gS, X) RX12 298 mX12_weakLabels 1 ∧ Cond.instanceMethod yX12_weakLabels ∈ g_ws (gS, X) ∧ Cond.selects RX12 yX12_weakLabels yX12_weakLabels ∈ g_ws (gS, X) ∧ yX12_weakLabels.cls = RX12 := ⟨⟨tb_good, (tb_t (k := 1483) (w := Cond.methodLink RX12 298 yX12_weakLabels) (by decide +kernel)), (tb_t (k := 8) (w := Cond.initialized RX12) (by decide +kernel)), (tb_t (k := 1486) (w := Cond.code yX12_weakLabels cX12_weakLabels 5 none) (by decide +kernel)), by decide +kernel, by decide⟩, (tb_t (k := 1485) (w := Cond.instanceMethod yX12_weakLabels) (by decide +kernel)), (tb_p (k := 112) (q := (yX12_weakLabels, 45)) (by decide +kernel)), rfl⟩
theorem kX12_301 : lkK (gS, X) RX12 301 mX12_madeParts 1 ∧ Cond.instanceMethod yX12_madeParts ∈ g_ws (gS, X) ∧ Cond.selects RX12 yX12_madeParts yX12_madeParts ∈ g_ws (gS, X) ∧ yX12_madeParts.cls = RX12 := ⟨⟨tb_good, (tb_t (k := 1487) (w := Cond.methodLink RX12 301 yX12_madeParts) (by decide +kernel)), (tb_t (k := 8) (w := Cond.initialized RX12) (by decide +kernel)), (tb_t (k := 1490) (w := Cond.code yX12_madeParts cX12_madeParts 7 (some .int)) (by decide +kernel)), by decide +kernel, by decide⟩, (tb_t (k := 1489) (w := Cond.instanceMethod yX12_madeParts) (by decide +kernel)), (tb_p (k := 113) (q := (yX12_madeParts, 45)) (by decide +kernel)), rfl⟩
theorem dX12_drop_0 : decode cX12_drop 0 = .ok (.aload_n 0, 1) := by decide +kernel
theorem dX12_drop_1 : decode cX12_drop 1 = .ok (.iconst 0, 1) := by decide +kernel
theorem dX12_drop_2 : decode cX12_drop 2 = .ok (.putfield 142, 3) := by decide +kernel
theorem dX12_drop_5 : decode cX12_drop 5 = .ok (.aload_n 0, 1) := by decide +kernel
theorem dX12_drop_6 : decode cX12_drop 6 = .ok (.getfield 146, 3) := by decide +kernel
theorem dX12_drop_9 : decode cX12_drop 9 = .ok (.ifCond .ne 9, 3) := by decide +kernel
theorem dX12_drop_12 : decode cX12_drop 12 = .ok (.aload_n 0, 1) := by decide +kernel
theorem dX12_drop_13 : decode cX12_drop 13 = .ok (.iconst (-1), 1) := by decide +kernel
theorem dX12_drop_14 : decode cX12_drop 14 = .ok (.invokevirtual 153, 3) := by decide +kernel
theorem dX12_drop_17 : decode cX12_drop 17 = .ok (.ireturn, 1) := by decide +kernel
theorem dX12_drop_18 : decode cX12_drop 18 = .ok (.aload_n 0, 1) := by decide +kernel
theorem dX12_drop_19 : decode cX12_drop 19 = .ok (.dup, 1) := by decide +kernel
theorem dX12_drop_20 : decode cX12_drop 20 = .ok (.getfield 146, 3) := by decide +kernel
theorem dX12_drop_23 : decode cX12_drop 23 = .ok (.iconst 1, 1) := by decide +kernel
theorem dX12_drop_24 : decode cX12_drop 24 = .ok (.isub, 1) := by decide +kernel
theorem dX12_drop_25 : decode cX12_drop 25 = .ok (.putfield 146, 3) := by decide +kernel
theorem dX12_drop_28 : decode cX12_drop 28 = .ok (.aload_n 0, 1) := by decide +kernel
theorem dX12_drop_29 : decode cX12_drop 29 = .ok (.getfield 146, 3) := by decide +kernel
theorem dX12_drop_32 : decode cX12_drop 32 = .ok (.ireturn, 1) := by decide +kernel
theorem dX12_refused_0 : decode cX12_refused 0 = .ok (.aload_n 0, 1) := by decide +kernel
theorem dX12_refused_1 : decode cX12_refused 1 = .ok (.getfield 142, 3) := by decide +kernel
theorem dX12_refused_4 : decode cX12_refused 4 = .ok (.ireturn, 1) := by decide +kernel
theorem dX12_handles_0 : decode cX12_handles 0 = .ok (.aload_n 0, 1) := by decide +kernel
theorem dX12_handles_1 : decode cX12_handles 1 = .ok (.iconst 0, 1) := by decide +kernel
theorem dX12_handles_2 : decode cX12_handles 2 = .ok (.putfield 142, 3) := by decide +kernel
theorem dX12_handles_5 : decode cX12_handles 5 = .ok (.aload_n 0, 1) := by decide +kernel
theorem dX12_handles_6 : decode cX12_handles 6 = .ok (.getfield 146, 3) := by decide +kernel
theorem dX12_handles_9 : decode cX12_handles 9 = .ok (.ireturn, 1) := by decide +kernel
theorem dX12_sort_0 : decode cX12_sort 0 = .ok (.aload_n 0, 1) := by decide +kernel
theorem dX12_sort_1 : decode cX12_sort 1 = .ok (.aload_n 0, 1) := by decide +kernel
theorem dX12_sort_2 : decode cX12_sort 2 = .ok (.iload_n 1, 1) := by decide +kernel
theorem dX12_sort_3 : decode cX12_sort 3 = .ok (.invokevirtual 149, 3) := by decide +kernel
theorem dX12_sort_6 : decode cX12_sort 6 = .ok (.ifCond .eq 7, 3) := by decide +kernel
theorem dX12_sort_9 : decode cX12_sort 9 = .ok (.iconst 0, 1) := by decide +kernel
theorem dX12_sort_10 : decode cX12_sort 10 = .ok (.goto 4, 3) := by decide +kernel
theorem dX12_sort_13 : decode cX12_sort 13 = .ok (.iconst (-1), 1) := by decide +kernel
theorem dX12_sort_14 : decode cX12_sort 14 = .ok (.putfield 142, 3) := by decide +kernel
theorem dX12_sort_17 : decode cX12_sort 17 = .ok (.aload_n 0, 1) := by decide +kernel
theorem dX12_sort_18 : decode cX12_sort 18 = .ok (.getfield 142, 3) := by decide +kernel
theorem dX12_sort_21 : decode cX12_sort 21 = .ok (.ifCond .ne 12, 3) := by decide +kernel
theorem dX12_sort_24 : decode cX12_sort 24 = .ok (.aload_n 0, 1) := by decide +kernel
theorem dX12_sort_25 : decode cX12_sort 25 = .ok (.getfield 7, 3) := by decide +kernel
theorem dX12_sort_28 : decode cX12_sort 28 = .ok (.iload_n 1, 1) := by decide +kernel
theorem dX12_sort_29 : decode cX12_sort 29 = .ok (.iaload, 1) := by decide +kernel
theorem dX12_sort_30 : decode cX12_sort 30 = .ok (.goto 4, 3) := by decide +kernel
theorem dX12_sort_33 : decode cX12_sort 33 = .ok (.iconst 0, 1) := by decide +kernel
theorem dX12_sort_34 : decode cX12_sort 34 = .ok (.ireturn, 1) := by decide +kernel
theorem dX12_of_0 : decode cX12_of 0 = .ok (.aload_n 0, 1) := by decide +kernel
theorem dX12_of_1 : decode cX12_of 1 = .ok (.iload_n 1, 1) := by decide +kernel
theorem dX12_of_2 : decode cX12_of 2 = .ok (.iconst 1, 1) := by decide +kernel
theorem dX12_of_3 : decode cX12_of 3 = .ok (.invokevirtual 183, 3) := by decide +kernel
theorem dX12_of_6 : decode cX12_of 6 = .ok (.ifCond .ne 5, 3) := by decide +kernel
theorem dX12_of_9 : decode cX12_of 9 = .ok (.iconst 0, 1) := by decide +kernel
theorem dX12_of_10 : decode cX12_of 10 = .ok (.ireturn, 1) := by decide +kernel
theorem dX12_of_11 : decode cX12_of 11 = .ok (.iload_n 2, 1) := by decide +kernel
theorem dX12_of_12 : decode cX12_of 12 = .ok (.ifCond .lt 28, 3) := by decide +kernel
theorem dX12_of_15 : decode cX12_of 15 = .ok (.iload_n 2, 1) := by decide +kernel
theorem dX12_of_16 : decode cX12_of 16 = .ok (.bipush 6, 2) := by decide +kernel
theorem dX12_of_18 : decode cX12_of 18 = .ok (.if_icmp .gt 22, 3) := by decide +kernel
theorem dX12_of_21 : decode cX12_of 21 = .ok (.iload_n 2, 1) := by decide +kernel
theorem dX12_of_22 : decode cX12_of 22 = .ok (.iconst 2, 1) := by decide +kernel
theorem dX12_of_23 : decode cX12_of 23 = .ok (.if_icmp .le 26, 3) := by decide +kernel
theorem dX12_of_26 : decode cX12_of 26 = .ok (.iload_n 3, 1) := by decide +kernel
theorem dX12_of_27 : decode cX12_of 27 = .ok (.ifCond .lt 13, 3) := by decide +kernel
theorem dX12_of_30 : decode cX12_of 30 = .ok (.iload_n 3, 1) := by decide +kernel
theorem dX12_of_31 : decode cX12_of 31 = .ok (.aload_n 0, 1) := by decide +kernel
theorem dX12_of_32 : decode cX12_of 32 = .ok (.getfield 20, 3) := by decide +kernel
theorem dX12_of_35 : decode cX12_of 35 = .ok (.iload_n 1, 1) := by decide +kernel
theorem dX12_of_36 : decode cX12_of 36 = .ok (.iaload, 1) := by decide +kernel
theorem dX12_of_37 : decode cX12_of 37 = .ok (.if_icmp .lt 12, 3) := by decide +kernel
theorem dX12_of_40 : decode cX12_of 40 = .ok (.aload_n 0, 1) := by decide +kernel
theorem dX12_of_41 : decode cX12_of 41 = .ok (.bipush (-3), 2) := by decide +kernel
theorem dX12_of_43 : decode cX12_of 43 = .ok (.invokevirtual 153, 3) := by decide +kernel
theorem dX12_of_46 : decode cX12_of 46 = .ok (.pop, 1) := by decide +kernel
theorem dX12_of_47 : decode cX12_of 47 = .ok (.iconst 0, 1) := by decide +kernel
theorem dX12_of_48 : decode cX12_of 48 = .ok (.ireturn, 1) := by decide +kernel
theorem dX12_of_49 : decode cX12_of 49 = .ok (.iload_n 2, 1) := by decide +kernel
theorem dX12_of_50 : decode cX12_of 50 = .ok (.iconst 2, 1) := by decide +kernel
theorem dX12_of_51 : decode cX12_of 51 = .ok (.if_icmp .le 11, 3) := by decide +kernel
theorem dX12_of_54 : decode cX12_of 54 = .ok (.iload_n 1, 1) := by decide +kernel
theorem dX12_of_55 : decode cX12_of 55 = .ok (.iload_n 3, 1) := by decide +kernel
theorem dX12_of_56 : decode cX12_of 56 = .ok (.invokestatic 157, 3) := by decide +kernel
theorem dX12_of_59 : decode cX12_of 59 = .ok (.goto 4, 3) := by decide +kernel
theorem dX12_of_62 : decode cX12_of 62 = .ok (.iconst 0, 1) := by decide +kernel
theorem dX12_of_63 : decode cX12_of 63 = .ok (.istore 4, 2) := by decide +kernel
theorem dX12_of_65 : decode cX12_of 65 = .ok (.iload_n 2, 1) := by decide +kernel
theorem dX12_of_66 : decode cX12_of 66 = .ok (.ifCond .ne 12, 3) := by decide +kernel
theorem dX12_of_69 : decode cX12_of 69 = .ok (.aload_n 0, 1) := by decide +kernel
theorem dX12_of_70 : decode cX12_of 70 = .ok (.getfield 13, 3) := by decide +kernel
theorem dX12_of_73 : decode cX12_of 73 = .ok (.iload_n 1, 1) := by decide +kernel
theorem dX12_of_74 : decode cX12_of 74 = .ok (.iaload, 1) := by decide +kernel
theorem dX12_of_75 : decode cX12_of 75 = .ok (.goto 91, 3) := by decide +kernel
theorem dX12_of_78 : decode cX12_of 78 = .ok (.iload_n 2, 1) := by decide +kernel
theorem dX12_of_79 : decode cX12_of 79 = .ok (.iconst 1, 1) := by decide +kernel
theorem dX12_of_80 : decode cX12_of 80 = .ok (.if_icmp .ne 12, 3) := by decide +kernel
theorem dX12_of_83 : decode cX12_of 83 = .ok (.aload_n 0, 1) := by decide +kernel
theorem dX12_of_84 : decode cX12_of 84 = .ok (.getfield 20, 3) := by decide +kernel
theorem dX12_of_87 : decode cX12_of 87 = .ok (.iload_n 1, 1) := by decide +kernel
theorem dX12_of_88 : decode cX12_of 88 = .ok (.iaload, 1) := by decide +kernel
theorem dX12_of_89 : decode cX12_of 89 = .ok (.goto 77, 3) := by decide +kernel
theorem dX12_of_92 : decode cX12_of 92 = .ok (.iload_n 2, 1) := by decide +kernel
theorem dX12_of_93 : decode cX12_of 93 = .ok (.iconst 2, 1) := by decide +kernel
theorem dX12_of_94 : decode cX12_of 94 = .ok (.if_icmp .ne 20, 3) := by decide +kernel
theorem dX12_of_97 : decode cX12_of 97 = .ok (.aload_n 0, 1) := by decide +kernel
theorem dX12_of_98 : decode cX12_of 98 = .ok (.getfield 16, 3) := by decide +kernel
theorem dX12_of_101 : decode cX12_of 101 = .ok (.iload_n 1, 1) := by decide +kernel
theorem dX12_of_102 : decode cX12_of 102 = .ok (.baload, 1) := by decide +kernel
theorem dX12_of_103 : decode cX12_of 103 = .ok (.ifCond .eq 7, 3) := by decide +kernel
theorem dX12_of_106 : decode cX12_of 106 = .ok (.iconst 1, 1) := by decide +kernel
theorem dX12_of_107 : decode cX12_of 107 = .ok (.goto 59, 3) := by decide +kernel
theorem dX12_of_110 : decode cX12_of 110 = .ok (.iconst 0, 1) := by decide +kernel
theorem dX12_of_111 : decode cX12_of 111 = .ok (.goto 55, 3) := by decide +kernel
theorem dX12_of_114 : decode cX12_of 114 = .ok (.iload_n 2, 1) := by decide +kernel
theorem dX12_of_115 : decode cX12_of 115 = .ok (.iconst 3, 1) := by decide +kernel
theorem dX12_of_116 : decode cX12_of 116 = .ok (.if_icmp .ne 13, 3) := by decide +kernel
theorem dX12_of_119 : decode cX12_of 119 = .ok (.aload_n 0, 1) := by decide +kernel
theorem dX12_of_120 : decode cX12_of 120 = .ok (.getfield 23, 3) := by decide +kernel
theorem dX12_of_123 : decode cX12_of 123 = .ok (.iload 4, 2) := by decide +kernel
theorem dX12_of_125 : decode cX12_of 125 = .ok (.iaload, 1) := by decide +kernel
theorem dX12_of_126 : decode cX12_of 126 = .ok (.goto 40, 3) := by decide +kernel
theorem dX12_of_129 : decode cX12_of 129 = .ok (.iload_n 2, 1) := by decide +kernel
theorem dX12_of_130 : decode cX12_of 130 = .ok (.iconst 4, 1) := by decide +kernel
theorem dX12_of_131 : decode cX12_of 131 = .ok (.if_icmp .ne 13, 3) := by decide +kernel
theorem dX12_of_134 : decode cX12_of 134 = .ok (.aload_n 0, 1) := by decide +kernel
theorem dX12_of_135 : decode cX12_of 135 = .ok (.getfield 26, 3) := by decide +kernel
theorem dX12_of_138 : decode cX12_of 138 = .ok (.iload 4, 2) := by decide +kernel
theorem dX12_of_140 : decode cX12_of 140 = .ok (.iaload, 1) := by decide +kernel
theorem dX12_of_141 : decode cX12_of 141 = .ok (.goto 25, 3) := by decide +kernel
theorem dX12_of_144 : decode cX12_of 144 = .ok (.iload_n 2, 1) := by decide +kernel
theorem dX12_of_145 : decode cX12_of 145 = .ok (.iconst 5, 1) := by decide +kernel
theorem dX12_of_146 : decode cX12_of 146 = .ok (.if_icmp .ne 13, 3) := by decide +kernel
theorem dX12_of_149 : decode cX12_of 149 = .ok (.aload_n 0, 1) := by decide +kernel
theorem dX12_of_150 : decode cX12_of 150 = .ok (.getfield 29, 3) := by decide +kernel
theorem dX12_of_153 : decode cX12_of 153 = .ok (.iload 4, 2) := by decide +kernel
theorem dX12_of_155 : decode cX12_of 155 = .ok (.iaload, 1) := by decide +kernel
theorem dX12_of_156 : decode cX12_of 156 = .ok (.goto 10, 3) := by decide +kernel
theorem dX12_of_159 : decode cX12_of 159 = .ok (.aload_n 0, 1) := by decide +kernel
theorem dX12_of_160 : decode cX12_of 160 = .ok (.getfield 32, 3) := by decide +kernel
theorem dX12_of_163 : decode cX12_of 163 = .ok (.iload 4, 2) := by decide +kernel
theorem dX12_of_165 : decode cX12_of 165 = .ok (.iaload, 1) := by decide +kernel
theorem dX12_of_166 : decode cX12_of 166 = .ok (.ireturn, 1) := by decide +kernel
theorem dX12_at_0 : decode cX12_at 0 = .ok (.aload_n 0, 1) := by decide +kernel
theorem dX12_at_1 : decode cX12_at 1 = .ok (.iload_n 1, 1) := by decide +kernel
theorem dX12_at_2 : decode cX12_at 2 = .ok (.iconst 2, 1) := by decide +kernel
theorem dX12_at_3 : decode cX12_at 3 = .ok (.invokevirtual 183, 3) := by decide +kernel
theorem dX12_at_6 : decode cX12_at 6 = .ok (.ifCond .ne 5, 3) := by decide +kernel
theorem dX12_at_9 : decode cX12_at 9 = .ok (.lconst 0, 1) := by decide +kernel
theorem dX12_at_10 : decode cX12_at 10 = .ok (.lreturn, 1) := by decide +kernel
theorem dX12_at_11 : decode cX12_at 11 = .ok (.iload_n 2, 1) := by decide +kernel
theorem dX12_at_12 : decode cX12_at 12 = .ok (.iconst (-1), 1) := by decide +kernel
theorem dX12_at_13 : decode cX12_at 13 = .ok (.if_icmp .ne 42, 3) := by decide +kernel
theorem dX12_at_16 : decode cX12_at 16 = .ok (.lconst 0, 1) := by decide +kernel
theorem dX12_at_17 : decode cX12_at 17 = .ok (.lstore_n 3, 1) := by decide +kernel
theorem dX12_at_18 : decode cX12_at 18 = .ok (.iconst 0, 1) := by decide +kernel
theorem dX12_at_19 : decode cX12_at 19 = .ok (.istore 5, 2) := by decide +kernel
theorem dX12_at_21 : decode cX12_at 21 = .ok (.iload 5, 2) := by decide +kernel
theorem dX12_at_23 : decode cX12_at 23 = .ok (.aload_n 0, 1) := by decide +kernel
theorem dX12_at_24 : decode cX12_at 24 = .ok (.getfield 13, 3) := by decide +kernel
theorem dX12_at_27 : decode cX12_at 27 = .ok (.iload_n 1, 1) := by decide +kernel
theorem dX12_at_28 : decode cX12_at 28 = .ok (.iaload, 1) := by decide +kernel
theorem dX12_at_29 : decode cX12_at 29 = .ok (.if_icmp .ge 24, 3) := by decide +kernel
theorem dX12_at_32 : decode cX12_at 32 = .ok (.lload_n 3, 1) := by decide +kernel
theorem dX12_at_33 : decode cX12_at 33 = .ok (.aload_n 0, 1) := by decide +kernel
theorem dX12_at_34 : decode cX12_at 34 = .ok (.getfield 35, 3) := by decide +kernel
theorem dX12_at_37 : decode cX12_at 37 = .ok (.bipush 16, 2) := by decide +kernel
theorem dX12_at_39 : decode cX12_at 39 = .ok (.iload_n 1, 1) := by decide +kernel
theorem dX12_at_40 : decode cX12_at 40 = .ok (.imul, 1) := by decide +kernel
theorem dX12_at_41 : decode cX12_at 41 = .ok (.iload 5, 2) := by decide +kernel
theorem dX12_at_43 : decode cX12_at 43 = .ok (.iadd, 1) := by decide +kernel
theorem dX12_at_44 : decode cX12_at 44 = .ok (.laload, 1) := by decide +kernel
theorem dX12_at_45 : decode cX12_at 45 = .ok (.ladd, 1) := by decide +kernel
theorem dX12_at_46 : decode cX12_at 46 = .ok (.lstore_n 3, 1) := by decide +kernel
theorem dX12_at_47 : decode cX12_at 47 = .ok (.iinc 5 1, 3) := by decide +kernel
theorem dX12_at_50 : decode cX12_at 50 = .ok (.goto (-29), 3) := by decide +kernel
theorem dX12_at_53 : decode cX12_at 53 = .ok (.lload_n 3, 1) := by decide +kernel
theorem dX12_at_54 : decode cX12_at 54 = .ok (.lreturn, 1) := by decide +kernel
theorem dX12_at_55 : decode cX12_at 55 = .ok (.aload_n 0, 1) := by decide +kernel
theorem dX12_at_56 : decode cX12_at 56 = .ok (.iload_n 1, 1) := by decide +kernel
theorem dX12_at_57 : decode cX12_at 57 = .ok (.iload_n 2, 1) := by decide +kernel
theorem dX12_at_58 : decode cX12_at 58 = .ok (.invokevirtual 307, 3) := by decide +kernel
theorem dX12_at_61 : decode cX12_at 61 = .ok (.ifCond .eq 17, 3) := by decide +kernel
theorem dX12_at_64 : decode cX12_at 64 = .ok (.aload_n 0, 1) := by decide +kernel
theorem dX12_at_65 : decode cX12_at 65 = .ok (.getfield 35, 3) := by decide +kernel
theorem dX12_at_68 : decode cX12_at 68 = .ok (.bipush 16, 2) := by decide +kernel
theorem dX12_at_70 : decode cX12_at 70 = .ok (.iload_n 1, 1) := by decide +kernel
theorem dX12_at_71 : decode cX12_at 71 = .ok (.imul, 1) := by decide +kernel
theorem dX12_at_72 : decode cX12_at 72 = .ok (.iload_n 2, 1) := by decide +kernel
theorem dX12_at_73 : decode cX12_at 73 = .ok (.iadd, 1) := by decide +kernel
theorem dX12_at_74 : decode cX12_at 74 = .ok (.laload, 1) := by decide +kernel
theorem dX12_at_75 : decode cX12_at 75 = .ok (.goto 4, 3) := by decide +kernel
theorem dX12_at_78 : decode cX12_at 78 = .ok (.lconst 0, 1) := by decide +kernel
theorem dX12_at_79 : decode cX12_at 79 = .ok (.lreturn, 1) := by decide +kernel
theorem kX12_307 : lkK (gS, X) RX12 307 mX12_isNode 2 ∧ Cond.instanceMethod yX12_isNode ∈ g_ws (gS, X) ∧ Cond.selects RX12 yX12_isNode yX12_isNode ∈ g_ws (gS, X) ∧ yX12_isNode.cls = RX12 := ⟨⟨tb_good, (tb_t (k := 1515) (w := Cond.methodLink RX12 307 yX12_isNode) (by decide +kernel)), (tb_t (k := 8) (w := Cond.initialized RX12) (by decide +kernel)), (tb_t (k := 1518) (w := Cond.code yX12_isNode cX12_isNode 3 (some .boolean)) (by decide +kernel)), by decide +kernel, by decide⟩, (tb_t (k := 1517) (w := Cond.instanceMethod yX12_isNode) (by decide +kernel)), (tb_p (k := 114) (q := (yX12_isNode, 45)) (by decide +kernel)), rfl⟩
theorem dX12_way_0 : decode cX12_way 0 = .ok (.aload_n 0, 1) := by decide +kernel
theorem dX12_way_1 : decode cX12_way 1 = .ok (.iload_n 1, 1) := by decide +kernel
theorem dX12_way_2 : decode cX12_way 2 = .ok (.iconst 3, 1) := by decide +kernel
theorem dX12_way_3 : decode cX12_way 3 = .ok (.invokevirtual 183, 3) := by decide +kernel
theorem dX12_way_6 : decode cX12_way 6 = .ok (.ifCond .ne 5, 3) := by decide +kernel
theorem dX12_way_9 : decode cX12_way 9 = .ok (.lconst 0, 1) := by decide +kernel
theorem dX12_way_10 : decode cX12_way 10 = .ok (.lreturn, 1) := by decide +kernel
theorem dX12_way_11 : decode cX12_way 11 = .ok (.iload_n 3, 1) := by decide +kernel
theorem dX12_way_12 : decode cX12_way 12 = .ok (.ifCond .lt 22, 3) := by decide +kernel
theorem dX12_way_15 : decode cX12_way 15 = .ok (.iload_n 3, 1) := by decide +kernel
theorem dX12_way_16 : decode cX12_way 16 = .ok (.iconst 3, 1) := by decide +kernel
theorem dX12_way_17 : decode cX12_way 17 = .ok (.if_icmp .gt 17, 3) := by decide +kernel
theorem dX12_way_20 : decode cX12_way 20 = .ok (.iload_n 2, 1) := by decide +kernel
theorem dX12_way_21 : decode cX12_way 21 = .ok (.ifCond .lt 13, 3) := by decide +kernel
theorem dX12_way_24 : decode cX12_way 24 = .ok (.iload_n 2, 1) := by decide +kernel
theorem dX12_way_25 : decode cX12_way 25 = .ok (.aload_n 0, 1) := by decide +kernel
theorem dX12_way_26 : decode cX12_way 26 = .ok (.getfield 13, 3) := by decide +kernel
theorem dX12_way_29 : decode cX12_way 29 = .ok (.iload_n 1, 1) := by decide +kernel
theorem dX12_way_30 : decode cX12_way 30 = .ok (.iaload, 1) := by decide +kernel
theorem dX12_way_31 : decode cX12_way 31 = .ok (.if_icmp .lt 12, 3) := by decide +kernel
theorem dX12_way_34 : decode cX12_way 34 = .ok (.aload_n 0, 1) := by decide +kernel
theorem dX12_way_35 : decode cX12_way 35 = .ok (.bipush (-3), 2) := by decide +kernel
theorem dX12_way_37 : decode cX12_way 37 = .ok (.invokevirtual 153, 3) := by decide +kernel
theorem dX12_way_40 : decode cX12_way 40 = .ok (.pop, 1) := by decide +kernel
theorem dX12_way_41 : decode cX12_way 41 = .ok (.lconst 0, 1) := by decide +kernel
theorem dX12_way_42 : decode cX12_way 42 = .ok (.lreturn, 1) := by decide +kernel
theorem dX12_way_43 : decode cX12_way 43 = .ok (.bipush 16, 2) := by decide +kernel
theorem dX12_way_45 : decode cX12_way 45 = .ok (.iload_n 1, 1) := by decide +kernel
theorem dX12_way_46 : decode cX12_way 46 = .ok (.imul, 1) := by decide +kernel
theorem dX12_way_47 : decode cX12_way 47 = .ok (.iload_n 2, 1) := by decide +kernel
theorem dX12_way_48 : decode cX12_way 48 = .ok (.iadd, 1) := by decide +kernel
theorem dX12_way_49 : decode cX12_way 49 = .ok (.istore 4, 2) := by decide +kernel
theorem dX12_way_51 : decode cX12_way 51 = .ok (.iload_n 3, 1) := by decide +kernel
theorem dX12_way_52 : decode cX12_way 52 = .ok (.ifCond .ne 14, 3) := by decide +kernel
theorem dX12_way_55 : decode cX12_way 55 = .ok (.aload_n 0, 1) := by decide +kernel
theorem dX12_way_56 : decode cX12_way 56 = .ok (.getfield 39, 3) := by decide +kernel
theorem dX12_way_59 : decode cX12_way 59 = .ok (.iload 4, 2) := by decide +kernel
theorem dX12_way_61 : decode cX12_way 61 = .ok (.iaload, 1) := by decide +kernel
theorem dX12_way_62 : decode cX12_way 62 = .ok (.i2l, 1) := by decide +kernel
theorem dX12_way_63 : decode cX12_way 63 = .ok (.goto 41, 3) := by decide +kernel
theorem dX12_way_66 : decode cX12_way 66 = .ok (.iload_n 3, 1) := by decide +kernel
theorem dX12_way_67 : decode cX12_way 67 = .ok (.iconst 1, 1) := by decide +kernel
theorem dX12_way_68 : decode cX12_way 68 = .ok (.if_icmp .ne 13, 3) := by decide +kernel
theorem dX12_way_71 : decode cX12_way 71 = .ok (.aload_n 0, 1) := by decide +kernel
theorem dX12_way_72 : decode cX12_way 72 = .ok (.getfield 42, 3) := by decide +kernel
theorem dX12_way_75 : decode cX12_way 75 = .ok (.iload 4, 2) := by decide +kernel
theorem dX12_way_77 : decode cX12_way 77 = .ok (.laload, 1) := by decide +kernel
theorem dX12_way_78 : decode cX12_way 78 = .ok (.goto 26, 3) := by decide +kernel
theorem dX12_way_81 : decode cX12_way 81 = .ok (.iload_n 3, 1) := by decide +kernel
theorem dX12_way_82 : decode cX12_way 82 = .ok (.iconst 2, 1) := by decide +kernel
theorem dX12_way_83 : decode cX12_way 83 = .ok (.if_icmp .ne 14, 3) := by decide +kernel
theorem dX12_way_86 : decode cX12_way 86 = .ok (.aload_n 0, 1) := by decide +kernel
theorem dX12_way_87 : decode cX12_way 87 = .ok (.getfield 45, 3) := by decide +kernel
theorem dX12_way_90 : decode cX12_way 90 = .ok (.iload 4, 2) := by decide +kernel
theorem dX12_way_92 : decode cX12_way 92 = .ok (.iaload, 1) := by decide +kernel
theorem dX12_way_93 : decode cX12_way 93 = .ok (.i2l, 1) := by decide +kernel
theorem dX12_way_94 : decode cX12_way 94 = .ok (.goto 10, 3) := by decide +kernel
theorem dX12_way_97 : decode cX12_way 97 = .ok (.aload_n 0, 1) := by decide +kernel
theorem dX12_way_98 : decode cX12_way 98 = .ok (.getfield 48, 3) := by decide +kernel
theorem dX12_way_101 : decode cX12_way 101 = .ok (.iload 4, 2) := by decide +kernel
theorem dX12_way_103 : decode cX12_way 103 = .ok (.laload, 1) := by decide +kernel
theorem dX12_way_104 : decode cX12_way 104 = .ok (.lreturn, 1) := by decide +kernel
theorem dX12_step_0 : decode cX12_step 0 = .ok (.aload_n 0, 1) := by decide +kernel
theorem dX12_step_1 : decode cX12_step 1 = .ok (.iload_n 1, 1) := by decide +kernel
theorem dX12_step_2 : decode cX12_step 2 = .ok (.iconst 3, 1) := by decide +kernel
theorem dX12_step_3 : decode cX12_step 3 = .ok (.invokevirtual 183, 3) := by decide +kernel
theorem dX12_step_6 : decode cX12_step 6 = .ok (.ifCond .eq 12, 3) := by decide +kernel
theorem dX12_step_9 : decode cX12_step 9 = .ok (.aload_n 0, 1) := by decide +kernel
theorem dX12_step_10 : decode cX12_step 10 = .ok (.iload_n 1, 1) := by decide +kernel
theorem dX12_step_11 : decode cX12_step 11 = .ok (.iload_n 2, 1) := by decide +kernel
theorem dX12_step_12 : decode cX12_step 12 = .ok (.invokevirtual 307, 3) := by decide +kernel
theorem dX12_step_15 : decode cX12_step 15 = .ok (.ifCond .ne 5, 3) := by decide +kernel
theorem dX12_step_18 : decode cX12_step 18 = .ok (.iconst 0, 1) := by decide +kernel
theorem dX12_step_19 : decode cX12_step 19 = .ok (.ireturn, 1) := by decide +kernel
theorem dX12_step_20 : decode cX12_step 20 = .ok (.iload_n 3, 1) := by decide +kernel
theorem dX12_step_21 : decode cX12_step 21 = .ok (.ifCond .lt 18, 3) := by decide +kernel
theorem dX12_step_24 : decode cX12_step 24 = .ok (.iload_n 3, 1) := by decide +kernel
theorem dX12_step_25 : decode cX12_step 25 = .ok (.aload_n 0, 1) := by decide +kernel
theorem dX12_step_26 : decode cX12_step 26 = .ok (.getfield 45, 3) := by decide +kernel
theorem dX12_step_29 : decode cX12_step 29 = .ok (.bipush 16, 2) := by decide +kernel
theorem dX12_step_31 : decode cX12_step 31 = .ok (.iload_n 1, 1) := by decide +kernel
theorem dX12_step_32 : decode cX12_step 32 = .ok (.imul, 1) := by decide +kernel
theorem dX12_step_33 : decode cX12_step 33 = .ok (.iload_n 2, 1) := by decide +kernel
theorem dX12_step_34 : decode cX12_step 34 = .ok (.iadd, 1) := by decide +kernel
theorem dX12_step_35 : decode cX12_step 35 = .ok (.iaload, 1) := by decide +kernel
theorem dX12_step_36 : decode cX12_step 36 = .ok (.if_icmp .lt 7, 3) := by decide +kernel
theorem dX12_step_39 : decode cX12_step 39 = .ok (.iconst (-1), 1) := by decide +kernel
theorem dX12_step_40 : decode cX12_step 40 = .ok (.goto 20, 3) := by decide +kernel
theorem dX12_step_43 : decode cX12_step 43 = .ok (.aload_n 0, 1) := by decide +kernel
theorem dX12_step_44 : decode cX12_step 44 = .ok (.getfield 51, 3) := by decide +kernel
theorem dX12_step_47 : decode cX12_step 47 = .ok (.sipush 256, 3) := by decide +kernel
theorem dX12_step_50 : decode cX12_step 50 = .ok (.iload_n 1, 1) := by decide +kernel
theorem dX12_step_51 : decode cX12_step 51 = .ok (.imul, 1) := by decide +kernel
theorem dX12_step_52 : decode cX12_step 52 = .ok (.bipush 16, 2) := by decide +kernel
theorem dX12_step_54 : decode cX12_step 54 = .ok (.iload_n 2, 1) := by decide +kernel
theorem dX12_step_55 : decode cX12_step 55 = .ok (.imul, 1) := by decide +kernel
theorem dX12_step_56 : decode cX12_step 56 = .ok (.iadd, 1) := by decide +kernel
theorem dX12_step_57 : decode cX12_step 57 = .ok (.iload_n 3, 1) := by decide +kernel
theorem dX12_step_58 : decode cX12_step 58 = .ok (.iadd, 1) := by decide +kernel
theorem dX12_step_59 : decode cX12_step 59 = .ok (.iaload, 1) := by decide +kernel
theorem dX12_step_60 : decode cX12_step 60 = .ok (.ireturn, 1) := by decide +kernel
theorem dX12_part_0 : decode cX12_part 0 = .ok (.aload_n 0, 1) := by decide +kernel
theorem dX12_part_1 : decode cX12_part 1 = .ok (.iload_n 1, 1) := by decide +kernel
theorem dX12_part_2 : decode cX12_part 2 = .ok (.iconst 4, 1) := by decide +kernel
theorem dX12_part_3 : decode cX12_part 3 = .ok (.invokevirtual 183, 3) := by decide +kernel
theorem dX12_part_6 : decode cX12_part 6 = .ok (.ifCond .ne 5, 3) := by decide +kernel
theorem dX12_part_9 : decode cX12_part 9 = .ok (.iconst 0, 1) := by decide +kernel
theorem dX12_part_10 : decode cX12_part 10 = .ok (.ireturn, 1) := by decide +kernel
theorem dX12_part_11 : decode cX12_part 11 = .ok (.iload_n 2, 1) := by decide +kernel
theorem dX12_part_12 : decode cX12_part 12 = .ok (.iconst (-1), 1) := by decide +kernel
theorem dX12_part_13 : decode cX12_part 13 = .ok (.if_icmp .ne 10, 3) := by decide +kernel
theorem dX12_part_16 : decode cX12_part 16 = .ok (.aload_n 0, 1) := by decide +kernel
theorem dX12_part_17 : decode cX12_part 17 = .ok (.getfield 57, 3) := by decide +kernel
theorem dX12_part_20 : decode cX12_part 20 = .ok (.iload_n 1, 1) := by decide +kernel
theorem dX12_part_21 : decode cX12_part 21 = .ok (.iaload, 1) := by decide +kernel
theorem dX12_part_22 : decode cX12_part 22 = .ok (.ireturn, 1) := by decide +kernel
theorem dX12_part_23 : decode cX12_part 23 = .ok (.aload_n 0, 1) := by decide +kernel
theorem dX12_part_24 : decode cX12_part 24 = .ok (.iload_n 1, 1) := by decide +kernel
theorem dX12_part_25 : decode cX12_part 25 = .ok (.iload_n 2, 1) := by decide +kernel
theorem dX12_part_26 : decode cX12_part 26 = .ok (.invokevirtual 307, 3) := by decide +kernel
theorem dX12_part_29 : decode cX12_part 29 = .ok (.ifCond .eq 17, 3) := by decide +kernel
theorem dX12_part_32 : decode cX12_part 32 = .ok (.aload_n 0, 1) := by decide +kernel
theorem dX12_part_33 : decode cX12_part 33 = .ok (.getfield 54, 3) := by decide +kernel
theorem dX12_part_36 : decode cX12_part 36 = .ok (.bipush 16, 2) := by decide +kernel
theorem dX12_part_38 : decode cX12_part 38 = .ok (.iload_n 1, 1) := by decide +kernel
theorem dX12_part_39 : decode cX12_part 39 = .ok (.imul, 1) := by decide +kernel
theorem dX12_part_40 : decode cX12_part 40 = .ok (.iload_n 2, 1) := by decide +kernel
theorem dX12_part_41 : decode cX12_part 41 = .ok (.iadd, 1) := by decide +kernel
theorem dX12_part_42 : decode cX12_part 42 = .ok (.iaload, 1) := by decide +kernel
theorem dX12_part_43 : decode cX12_part 43 = .ok (.goto 4, 3) := by decide +kernel
theorem dX12_part_46 : decode cX12_part 46 = .ok (.iconst 0, 1) := by decide +kernel
theorem dX12_part_47 : decode cX12_part 47 = .ok (.ireturn, 1) := by decide +kernel
theorem dX12_members_0 : decode cX12_members 0 = .ok (.aload_n 0, 1) := by decide +kernel
theorem dX12_members_1 : decode cX12_members 1 = .ok (.iload_n 1, 1) := by decide +kernel
theorem dX12_members_2 : decode cX12_members 2 = .ok (.iconst 4, 1) := by decide +kernel
theorem dX12_members_3 : decode cX12_members 3 = .ok (.invokevirtual 183, 3) := by decide +kernel
theorem dX12_members_6 : decode cX12_members 6 = .ok (.ifCond .ne 5, 3) := by decide +kernel
theorem dX12_members_9 : decode cX12_members 9 = .ok (.iconst 0, 1) := by decide +kernel
theorem dX12_members_10 : decode cX12_members 10 = .ok (.ireturn, 1) := by decide +kernel
theorem dX12_members_11 : decode cX12_members 11 = .ok (.iconst 0, 1) := by decide +kernel
theorem dX12_members_12 : decode cX12_members 12 = .ok (.istore_n 3, 1) := by decide +kernel
theorem dX12_members_13 : decode cX12_members 13 = .ok (.iconst 0, 1) := by decide +kernel
theorem dX12_members_14 : decode cX12_members 14 = .ok (.istore 4, 2) := by decide +kernel
theorem dX12_members_16 : decode cX12_members 16 = .ok (.iload 4, 2) := by decide +kernel
theorem dX12_members_18 : decode cX12_members 18 = .ok (.aload_n 0, 1) := by decide +kernel
theorem dX12_members_19 : decode cX12_members 19 = .ok (.getfield 13, 3) := by decide +kernel
theorem dX12_members_22 : decode cX12_members 22 = .ok (.iload_n 1, 1) := by decide +kernel
theorem dX12_members_23 : decode cX12_members 23 = .ok (.iaload, 1) := by decide +kernel
theorem dX12_members_24 : decode cX12_members 24 = .ok (.if_icmp .ge 36, 3) := by decide +kernel
theorem dX12_members_27 : decode cX12_members 27 = .ok (.iload_n 3, 1) := by decide +kernel
theorem dX12_members_28 : decode cX12_members 28 = .ok (.aload_n 0, 1) := by decide +kernel
theorem dX12_members_29 : decode cX12_members 29 = .ok (.getfield 54, 3) := by decide +kernel
theorem dX12_members_32 : decode cX12_members 32 = .ok (.bipush 16, 2) := by decide +kernel
theorem dX12_members_34 : decode cX12_members 34 = .ok (.iload_n 1, 1) := by decide +kernel
theorem dX12_members_35 : decode cX12_members 35 = .ok (.imul, 1) := by decide +kernel
theorem dX12_members_36 : decode cX12_members 36 = .ok (.iload 4, 2) := by decide +kernel
theorem dX12_members_38 : decode cX12_members 38 = .ok (.iadd, 1) := by decide +kernel
theorem dX12_members_39 : decode cX12_members 39 = .ok (.iaload, 1) := by decide +kernel
theorem dX12_members_40 : decode cX12_members 40 = .ok (.iload_n 2, 1) := by decide +kernel
theorem dX12_members_41 : decode cX12_members 41 = .ok (.if_icmp .ne 10, 3) := by decide +kernel
theorem dX12_members_44 : decode cX12_members 44 = .ok (.iconst 1, 1) := by decide +kernel
theorem dX12_members_45 : decode cX12_members 45 = .ok (.iload 4, 2) := by decide +kernel
theorem dX12_members_47 : decode cX12_members 47 = .ok (.ishl, 1) := by decide +kernel
theorem dX12_members_48 : decode cX12_members 48 = .ok (.goto 4, 3) := by decide +kernel
theorem dX12_members_51 : decode cX12_members 51 = .ok (.iconst 0, 1) := by decide +kernel
theorem dX12_members_52 : decode cX12_members 52 = .ok (.ior, 1) := by decide +kernel
theorem dX12_members_53 : decode cX12_members 53 = .ok (.istore_n 3, 1) := by decide +kernel
theorem dX12_members_54 : decode cX12_members 54 = .ok (.iinc 4 1, 3) := by decide +kernel
theorem dX12_members_57 : decode cX12_members 57 = .ok (.goto (-41), 3) := by decide +kernel
theorem dX12_members_60 : decode cX12_members 60 = .ok (.iload_n 3, 1) := by decide +kernel
theorem dX12_members_61 : decode cX12_members 61 = .ok (.ireturn, 1) := by decide +kernel
theorem dX12_ask_0 : decode cX12_ask 0 = .ok (.iload_n 2, 1) := by decide +kernel
theorem dX12_ask_1 : decode cX12_ask 1 = .ok (.bipush 16, 2) := by decide +kernel
theorem dX12_ask_3 : decode cX12_ask 3 = .ok (.if_icmp .eq 9, 3) := by decide +kernel
theorem dX12_ask_6 : decode cX12_ask 6 = .ok (.iload_n 2, 1) := by decide +kernel
theorem dX12_ask_7 : decode cX12_ask 7 = .ok (.bipush 17, 2) := by decide +kernel
theorem dX12_ask_9 : decode cX12_ask 9 = .ok (.if_icmp .ne 7, 3) := by decide +kernel
theorem dX12_ask_12 : decode cX12_ask 12 = .ok (.iconst 1, 1) := by decide +kernel
theorem dX12_ask_13 : decode cX12_ask 13 = .ok (.goto 4, 3) := by decide +kernel
theorem dX12_ask_16 : decode cX12_ask 16 = .ok (.iconst 0, 1) := by decide +kernel
theorem dX12_ask_17 : decode cX12_ask 17 = .ok (.istore 5, 2) := by decide +kernel
theorem dX12_ask_19 : decode cX12_ask 19 = .ok (.iload 5, 2) := by decide +kernel
theorem dX12_ask_21 : decode cX12_ask 21 = .ok (.ifCond .eq 18, 3) := by decide +kernel
theorem dX12_ask_24 : decode cX12_ask 24 = .ok (.aload_n 0, 1) := by decide +kernel
theorem dX12_ask_25 : decode cX12_ask 25 = .ok (.iload_n 1, 1) := by decide +kernel
theorem dX12_ask_26 : decode cX12_ask 26 = .ok (.iconst 1, 1) := by decide +kernel
theorem dX12_ask_27 : decode cX12_ask 27 = .ok (.iload 4, 2) := by decide +kernel
theorem dX12_ask_29 : decode cX12_ask 29 = .ok (.iconst 1, 1) := by decide +kernel
theorem dX12_ask_30 : decode cX12_ask 30 = .ok (.invokevirtual 209, 3) := by decide +kernel
theorem dX12_ask_33 : decode cX12_ask 33 = .ok (.ifCond .ne 17, 3) := by decide +kernel
theorem dX12_ask_36 : decode cX12_ask 36 = .ok (.goto 12, 3) := by decide +kernel
theorem dX12_ask_39 : decode cX12_ask 39 = .ok (.aload_n 0, 1) := by decide +kernel
theorem dX12_ask_40 : decode cX12_ask 40 = .ok (.iload_n 1, 1) := by decide +kernel
theorem dX12_ask_41 : decode cX12_ask 41 = .ok (.iconst 1, 1) := by decide +kernel
theorem dX12_ask_42 : decode cX12_ask 42 = .ok (.invokevirtual 183, 3) := by decide +kernel
theorem dX12_ask_45 : decode cX12_ask 45 = .ok (.ifCond .ne 5, 3) := by decide +kernel
theorem dX12_ask_48 : decode cX12_ask 48 = .ok (.lconst 0, 1) := by decide +kernel
theorem dX12_ask_49 : decode cX12_ask 49 = .ok (.lreturn, 1) := by decide +kernel
theorem dX12_ask_50 : decode cX12_ask 50 = .ok (.aload_n 0, 1) := by decide +kernel
theorem dX12_ask_51 : decode cX12_ask 51 = .ok (.getfield 13, 3) := by decide +kernel
theorem dX12_ask_54 : decode cX12_ask 54 = .ok (.iload_n 1, 1) := by decide +kernel
theorem dX12_ask_55 : decode cX12_ask 55 = .ok (.iaload, 1) := by decide +kernel
theorem dX12_ask_56 : decode cX12_ask 56 = .ok (.istore 6, 2) := by decide +kernel
theorem dX12_ask_58 : decode cX12_ask 58 = .ok (.iload_n 2, 1) := by decide +kernel
theorem dX12_ask_59 : decode cX12_ask 59 = .ok (.bipush 12, 2) := by decide +kernel
theorem dX12_ask_61 : decode cX12_ask 61 = .ok (.if_icmp .lt 13, 3) := by decide +kernel
theorem dX12_ask_64 : decode cX12_ask 64 = .ok (.iload_n 2, 1) := by decide +kernel
theorem dX12_ask_65 : decode cX12_ask 65 = .ok (.bipush 15, 2) := by decide +kernel
theorem dX12_ask_67 : decode cX12_ask 67 = .ok (.if_icmp .gt 7, 3) := by decide +kernel
theorem dX12_ask_70 : decode cX12_ask 70 = .ok (.iconst 1, 1) := by decide +kernel
theorem dX12_ask_71 : decode cX12_ask 71 = .ok (.goto 4, 3) := by decide +kernel
theorem dX12_ask_74 : decode cX12_ask 74 = .ok (.iconst 0, 1) := by decide +kernel
theorem dX12_ask_75 : decode cX12_ask 75 = .ok (.istore 7, 2) := by decide +kernel
theorem dX12_ask_77 : decode cX12_ask 77 = .ok (.iload_n 2, 1) := by decide +kernel
theorem dX12_ask_78 : decode cX12_ask 78 = .ok (.ifCond .eq 19, 3) := by decide +kernel
theorem dX12_ask_81 : decode cX12_ask 81 = .ok (.iload_n 2, 1) := by decide +kernel
theorem dX12_ask_82 : decode cX12_ask 82 = .ok (.iconst 2, 1) := by decide +kernel
theorem dX12_ask_83 : decode cX12_ask 83 = .ok (.if_icmp .eq 14, 3) := by decide +kernel
theorem dX12_ask_86 : decode cX12_ask 86 = .ok (.iload 7, 2) := by decide +kernel
theorem dX12_ask_88 : decode cX12_ask 88 = .ok (.ifCond .ne 9, 3) := by decide +kernel
theorem dX12_ask_91 : decode cX12_ask 91 = .ok (.iload_n 2, 1) := by decide +kernel
theorem dX12_ask_92 : decode cX12_ask 92 = .ok (.bipush 17, 2) := by decide +kernel
theorem dX12_ask_94 : decode cX12_ask 94 = .ok (.if_icmp .ne 7, 3) := by decide +kernel
theorem dX12_ask_97 : decode cX12_ask 97 = .ok (.iconst 1, 1) := by decide +kernel
theorem dX12_ask_98 : decode cX12_ask 98 = .ok (.goto 4, 3) := by decide +kernel
theorem dX12_ask_101 : decode cX12_ask 101 = .ok (.iconst 0, 1) := by decide +kernel
theorem dX12_ask_102 : decode cX12_ask 102 = .ok (.istore 8, 2) := by decide +kernel
theorem dX12_ask_104 : decode cX12_ask 104 = .ok (.iload_n 2, 1) := by decide +kernel
theorem dX12_ask_105 : decode cX12_ask 105 = .ok (.ifCond .lt 67, 3) := by decide +kernel
theorem dX12_ask_108 : decode cX12_ask 108 = .ok (.iload_n 2, 1) := by decide +kernel
theorem dX12_ask_109 : decode cX12_ask 109 = .ok (.bipush 17, 2) := by decide +kernel
theorem dX12_ask_111 : decode cX12_ask 111 = .ok (.if_icmp .gt 61, 3) := by decide +kernel
theorem dX12_ask_114 : decode cX12_ask 114 = .ok (.iload 8, 2) := by decide +kernel
theorem dX12_ask_116 : decode cX12_ask 116 = .ok (.ifCond .eq 13, 3) := by decide +kernel
theorem dX12_ask_119 : decode cX12_ask 119 = .ok (.iload_n 3, 1) := by decide +kernel
theorem dX12_ask_120 : decode cX12_ask 120 = .ok (.ifCond .lt 52, 3) := by decide +kernel
theorem dX12_ask_123 : decode cX12_ask 123 = .ok (.iload_n 3, 1) := by decide +kernel
theorem dX12_ask_124 : decode cX12_ask 124 = .ok (.iload 6, 2) := by decide +kernel
theorem dX12_ask_126 : decode cX12_ask 126 = .ok (.if_icmp .ge 46, 3) := by decide +kernel
theorem dX12_ask_129 : decode cX12_ask 129 = .ok (.iload 7, 2) := by decide +kernel
theorem dX12_ask_131 : decode cX12_ask 131 = .ok (.ifCond .eq 21, 3) := by decide +kernel
theorem dX12_ask_134 : decode cX12_ask 134 = .ok (.iload 4, 2) := by decide +kernel
theorem dX12_ask_136 : decode cX12_ask 136 = .ok (.ifCond .lt 36, 3) := by decide +kernel
theorem dX12_ask_139 : decode cX12_ask 139 = .ok (.iload 4, 2) := by decide +kernel
theorem dX12_ask_141 : decode cX12_ask 141 = .ok (.iload 6, 2) := by decide +kernel
theorem dX12_ask_143 : decode cX12_ask 143 = .ok (.if_icmp .ge 29, 3) := by decide +kernel
theorem dX12_ask_146 : decode cX12_ask 146 = .ok (.iload_n 3, 1) := by decide +kernel
theorem dX12_ask_147 : decode cX12_ask 147 = .ok (.iload 4, 2) := by decide +kernel
theorem dX12_ask_149 : decode cX12_ask 149 = .ok (.if_icmp .eq 23, 3) := by decide +kernel
theorem dX12_ask_152 : decode cX12_ask 152 = .ok (.iload_n 2, 1) := by decide +kernel
theorem dX12_ask_153 : decode cX12_ask 153 = .ok (.bipush 11, 2) := by decide +kernel
theorem dX12_ask_155 : decode cX12_ask 155 = .ok (.if_icmp .ne 26, 3) := by decide +kernel
theorem dX12_ask_158 : decode cX12_ask 158 = .ok (.iload_n 3, 1) := by decide +kernel
theorem dX12_ask_159 : decode cX12_ask 159 = .ok (.ifCond .lt 13, 3) := by decide +kernel
theorem dX12_ask_162 : decode cX12_ask 162 = .ok (.iload_n 3, 1) := by decide +kernel
theorem dX12_ask_163 : decode cX12_ask 163 = .ok (.aload_n 0, 1) := by decide +kernel
theorem dX12_ask_164 : decode cX12_ask 164 = .ok (.getfield 20, 3) := by decide +kernel
theorem dX12_ask_167 : decode cX12_ask 167 = .ok (.iload_n 1, 1) := by decide +kernel
theorem dX12_ask_168 : decode cX12_ask 168 = .ok (.iaload, 1) := by decide +kernel
theorem dX12_ask_169 : decode cX12_ask 169 = .ok (.if_icmp .lt 12, 3) := by decide +kernel
theorem dX12_ask_172 : decode cX12_ask 172 = .ok (.aload_n 0, 1) := by decide +kernel
theorem dX12_ask_173 : decode cX12_ask 173 = .ok (.bipush (-3), 2) := by decide +kernel
theorem dX12_ask_175 : decode cX12_ask 175 = .ok (.invokevirtual 153, 3) := by decide +kernel
theorem dX12_ask_178 : decode cX12_ask 178 = .ok (.pop, 1) := by decide +kernel
theorem dX12_ask_179 : decode cX12_ask 179 = .ok (.lconst 0, 1) := by decide +kernel
theorem dX12_ask_180 : decode cX12_ask 180 = .ok (.lreturn, 1) := by decide +kernel
theorem dX12_ask_181 : decode cX12_ask 181 = .ok (.aload_n 0, 1) := by decide +kernel
theorem dX12_ask_182 : decode cX12_ask 182 = .ok (.iload_n 1, 1) := by decide +kernel
theorem dX12_ask_183 : decode cX12_ask 183 = .ok (.iconst (-1), 1) := by decide +kernel
theorem dX12_ask_184 : decode cX12_ask 184 = .ok (.invokevirtual 234, 3) := by decide +kernel
theorem dX12_ask_187 : decode cX12_ask 187 = .ok (.iload_n 2, 1) := by decide +kernel
theorem dX12_ask_188 : decode cX12_ask 188 = .ok (.tableswitch 208 0 15 #[80, 87, 93, 100, 108, 116, 123, 130, 143, 150, 156, 163, 170, 180, 189, 198], 80) := by decide +kernel
theorem dX12_ask_268 : decode cX12_ask 268 = .ok (.aload_n 0, 1) := by decide +kernel
theorem dX12_ask_269 : decode cX12_ask 269 = .ok (.iload_n 1, 1) := by decide +kernel
theorem dX12_ask_270 : decode cX12_ask 270 = .ok (.iload_n 3, 1) := by decide +kernel
theorem dX12_ask_271 : decode cX12_ask 271 = .ok (.invokevirtual 310, 3) := by decide +kernel
theorem dX12_ask_274 : decode cX12_ask 274 = .ok (.lreturn, 1) := by decide +kernel
theorem dX12_ask_275 : decode cX12_ask 275 = .ok (.aload_n 0, 1) := by decide +kernel
theorem dX12_ask_276 : decode cX12_ask 276 = .ok (.iload_n 1, 1) := by decide +kernel
theorem dX12_ask_277 : decode cX12_ask 277 = .ok (.invokevirtual 314, 3) := by decide +kernel
theorem dX12_ask_280 : decode cX12_ask 280 = .ok (.lreturn, 1) := by decide +kernel
theorem dX12_ask_281 : decode cX12_ask 281 = .ok (.aload_n 0, 1) := by decide +kernel
theorem dX12_ask_282 : decode cX12_ask 282 = .ok (.iload_n 1, 1) := by decide +kernel
theorem dX12_ask_283 : decode cX12_ask 283 = .ok (.iload_n 3, 1) := by decide +kernel
theorem dX12_ask_284 : decode cX12_ask 284 = .ok (.invokevirtual 318, 3) := by decide +kernel
theorem dX12_ask_287 : decode cX12_ask 287 = .ok (.lreturn, 1) := by decide +kernel
theorem dX12_ask_288 : decode cX12_ask 288 = .ok (.aload_n 0, 1) := by decide +kernel
theorem dX12_ask_289 : decode cX12_ask 289 = .ok (.iload 6, 2) := by decide +kernel
theorem dX12_ask_291 : decode cX12_ask 291 = .ok (.iconst 1, 1) := by decide +kernel
theorem dX12_ask_292 : decode cX12_ask 292 = .ok (.invokevirtual 321, 3) := by decide +kernel
theorem dX12_ask_295 : decode cX12_ask 295 = .ok (.lreturn, 1) := by decide +kernel
theorem dX12_ask_296 : decode cX12_ask 296 = .ok (.aload_n 0, 1) := by decide +kernel
theorem dX12_ask_297 : decode cX12_ask 297 = .ok (.iload 6, 2) := by decide +kernel
theorem dX12_ask_299 : decode cX12_ask 299 = .ok (.iconst 0, 1) := by decide +kernel
theorem dX12_ask_300 : decode cX12_ask 300 = .ok (.invokevirtual 321, 3) := by decide +kernel
theorem dX12_ask_303 : decode cX12_ask 303 = .ok (.lreturn, 1) := by decide +kernel
theorem dX12_ask_304 : decode cX12_ask 304 = .ok (.aload_n 0, 1) := by decide +kernel
theorem dX12_ask_305 : decode cX12_ask 305 = .ok (.iload 6, 2) := by decide +kernel
theorem dX12_ask_307 : decode cX12_ask 307 = .ok (.invokevirtual 325, 3) := by decide +kernel
theorem dX12_ask_310 : decode cX12_ask 310 = .ok (.lreturn, 1) := by decide +kernel
theorem dX12_ask_311 : decode cX12_ask 311 = .ok (.aload_n 0, 1) := by decide +kernel
theorem dX12_ask_312 : decode cX12_ask 312 = .ok (.iload 6, 2) := by decide +kernel
theorem dX12_ask_314 : decode cX12_ask 314 = .ok (.invokevirtual 328, 3) := by decide +kernel
theorem dX12_ask_317 : decode cX12_ask 317 = .ok (.lreturn, 1) := by decide +kernel
theorem dX12_ask_318 : decode cX12_ask 318 = .ok (.aload_n 0, 1) := by decide +kernel
theorem dX12_ask_319 : decode cX12_ask 319 = .ok (.iconst 1, 1) := by decide +kernel
theorem dX12_ask_320 : decode cX12_ask 320 = .ok (.iload 6, 2) := by decide +kernel
theorem dX12_ask_322 : decode cX12_ask 322 = .ok (.ishl, 1) := by decide +kernel
theorem dX12_ask_323 : decode cX12_ask 323 = .ok (.iconst 1, 1) := by decide +kernel
theorem dX12_ask_324 : decode cX12_ask 324 = .ok (.isub, 1) := by decide +kernel
theorem dX12_ask_325 : decode cX12_ask 325 = .ok (.iload 6, 2) := by decide +kernel
theorem dX12_ask_327 : decode cX12_ask 327 = .ok (.invokevirtual 331, 3) := by decide +kernel
theorem dX12_ask_330 : decode cX12_ask 330 = .ok (.lreturn, 1) := by decide +kernel
theorem dX12_ask_331 : decode cX12_ask 331 = .ok (.aload_n 0, 1) := by decide +kernel
theorem dX12_ask_332 : decode cX12_ask 332 = .ok (.iload 6, 2) := by decide +kernel
theorem dX12_ask_334 : decode cX12_ask 334 = .ok (.invokevirtual 334, 3) := by decide +kernel
theorem dX12_ask_337 : decode cX12_ask 337 = .ok (.lreturn, 1) := by decide +kernel
theorem dX12_ask_338 : decode cX12_ask 338 = .ok (.aload_n 0, 1) := by decide +kernel
theorem dX12_ask_339 : decode cX12_ask 339 = .ok (.iload_n 1, 1) := by decide +kernel
theorem dX12_ask_340 : decode cX12_ask 340 = .ok (.invokevirtual 337, 3) := by decide +kernel
theorem dX12_ask_343 : decode cX12_ask 343 = .ok (.lreturn, 1) := by decide +kernel
theorem dX12_ask_344 : decode cX12_ask 344 = .ok (.aload_n 0, 1) := by decide +kernel
theorem dX12_ask_345 : decode cX12_ask 345 = .ok (.iload_n 1, 1) := by decide +kernel
theorem dX12_ask_346 : decode cX12_ask 346 = .ok (.iconst (-1), 1) := by decide +kernel
theorem dX12_ask_347 : decode cX12_ask 347 = .ok (.invokevirtual 340, 3) := by decide +kernel
theorem dX12_ask_350 : decode cX12_ask 350 = .ok (.lreturn, 1) := by decide +kernel
theorem dX12_ask_351 : decode cX12_ask 351 = .ok (.aload_n 0, 1) := by decide +kernel
theorem dX12_ask_352 : decode cX12_ask 352 = .ok (.iload_n 1, 1) := by decide +kernel
theorem dX12_ask_353 : decode cX12_ask 353 = .ok (.iload_n 3, 1) := by decide +kernel
theorem dX12_ask_354 : decode cX12_ask 354 = .ok (.invokevirtual 340, 3) := by decide +kernel
theorem dX12_ask_357 : decode cX12_ask 357 = .ok (.lreturn, 1) := by decide +kernel
theorem dX12_ask_358 : decode cX12_ask 358 = .ok (.aload_n 0, 1) := by decide +kernel
theorem dX12_ask_359 : decode cX12_ask 359 = .ok (.iload_n 1, 1) := by decide +kernel
theorem dX12_ask_360 : decode cX12_ask 360 = .ok (.iload_n 3, 1) := by decide +kernel
theorem dX12_ask_361 : decode cX12_ask 361 = .ok (.iload 4, 2) := by decide +kernel
theorem dX12_ask_363 : decode cX12_ask 363 = .ok (.iconst 0, 1) := by decide +kernel
theorem dX12_ask_364 : decode cX12_ask 364 = .ok (.invokevirtual 343, 3) := by decide +kernel
theorem dX12_ask_367 : decode cX12_ask 367 = .ok (.lreturn, 1) := by decide +kernel
theorem dX12_ask_368 : decode cX12_ask 368 = .ok (.aload_n 0, 1) := by decide +kernel
theorem dX12_ask_369 : decode cX12_ask 369 = .ok (.iload_n 1, 1) := by decide +kernel
theorem dX12_ask_370 : decode cX12_ask 370 = .ok (.iload_n 3, 1) := by decide +kernel
theorem dX12_ask_371 : decode cX12_ask 371 = .ok (.iload 4, 2) := by decide +kernel
theorem dX12_ask_373 : decode cX12_ask 373 = .ok (.invokevirtual 347, 3) := by decide +kernel
theorem dX12_ask_376 : decode cX12_ask 376 = .ok (.lreturn, 1) := by decide +kernel
theorem dX12_ask_377 : decode cX12_ask 377 = .ok (.aload_n 0, 1) := by decide +kernel
theorem dX12_ask_378 : decode cX12_ask 378 = .ok (.iload_n 1, 1) := by decide +kernel
theorem dX12_ask_379 : decode cX12_ask 379 = .ok (.iload_n 3, 1) := by decide +kernel
theorem dX12_ask_380 : decode cX12_ask 380 = .ok (.iload 4, 2) := by decide +kernel
theorem dX12_ask_382 : decode cX12_ask 382 = .ok (.invokevirtual 350, 3) := by decide +kernel
theorem dX12_ask_385 : decode cX12_ask 385 = .ok (.lreturn, 1) := by decide +kernel
theorem dX12_ask_386 : decode cX12_ask 386 = .ok (.aload_n 0, 1) := by decide +kernel
theorem dX12_ask_387 : decode cX12_ask 387 = .ok (.iload_n 1, 1) := by decide +kernel
theorem dX12_ask_388 : decode cX12_ask 388 = .ok (.iload_n 3, 1) := by decide +kernel
theorem dX12_ask_389 : decode cX12_ask 389 = .ok (.iload 4, 2) := by decide +kernel
theorem dX12_ask_391 : decode cX12_ask 391 = .ok (.iconst 1, 1) := by decide +kernel
theorem dX12_ask_392 : decode cX12_ask 392 = .ok (.invokevirtual 343, 3) := by decide +kernel
theorem dX12_ask_395 : decode cX12_ask 395 = .ok (.lreturn, 1) := by decide +kernel
theorem dX12_ask_396 : decode cX12_ask 396 = .ok (.aload_n 0, 1) := by decide +kernel
theorem dX12_ask_397 : decode cX12_ask 397 = .ok (.iload_n 1, 1) := by decide +kernel
theorem dX12_ask_398 : decode cX12_ask 398 = .ok (.iload 4, 2) := by decide +kernel
theorem dX12_ask_400 : decode cX12_ask 400 = .ok (.iload_n 2, 1) := by decide +kernel
theorem dX12_ask_401 : decode cX12_ask 401 = .ok (.bipush 16, 2) := by decide +kernel
theorem dX12_ask_403 : decode cX12_ask 403 = .ok (.if_icmp .ne 7, 3) := by decide +kernel
theorem dX12_ask_406 : decode cX12_ask 406 = .ok (.iconst 1, 1) := by decide +kernel
theorem dX12_ask_407 : decode cX12_ask 407 = .ok (.goto 4, 3) := by decide +kernel
theorem dX12_ask_410 : decode cX12_ask 410 = .ok (.iconst 0, 1) := by decide +kernel
theorem dX12_ask_411 : decode cX12_ask 411 = .ok (.iload_n 3, 1) := by decide +kernel
theorem dX12_ask_412 : decode cX12_ask 412 = .ok (.invokevirtual 353, 3) := by decide +kernel
theorem dX12_ask_415 : decode cX12_ask 415 = .ok (.lreturn, 1) := by decide +kernel
theorem kX12_310 : lkK (gS, X) RX12 310 mX12_order 2 ∧ Cond.instanceMethod yX12_order ∈ g_ws (gS, X) ∧ Cond.selects RX12 yX12_order yX12_order ∈ g_ws (gS, X) ∧ yX12_order.cls = RX12 := ⟨⟨tb_good, (tb_t (k := 1539) (w := Cond.methodLink RX12 310 yX12_order) (by decide +kernel)), (tb_t (k := 8) (w := Cond.initialized RX12) (by decide +kernel)), (tb_t (k := 1542) (w := Cond.code yX12_order cX12_order 9 (some .long)) (by decide +kernel)), by decide +kernel, by decide⟩, (tb_t (k := 1541) (w := Cond.instanceMethod yX12_order) (by decide +kernel)), (tb_p (k := 115) (q := (yX12_order, 45)) (by decide +kernel)), rfl⟩
theorem kX12_314 : lkK (gS, X) RX12 314 mX12_ring 1 ∧ Cond.instanceMethod yX12_ring ∈ g_ws (gS, X) ∧ Cond.selects RX12 yX12_ring yX12_ring ∈ g_ws (gS, X) ∧ yX12_ring.cls = RX12 := ⟨⟨tb_good, (tb_t (k := 1548) (w := Cond.methodLink RX12 314 yX12_ring) (by decide +kernel)), (tb_t (k := 8) (w := Cond.initialized RX12) (by decide +kernel)), (tb_t (k := 1551) (w := Cond.code yX12_ring cX12_ring 10 (some .long)) (by decide +kernel)), by decide +kernel, by decide⟩, (tb_t (k := 1550) (w := Cond.instanceMethod yX12_ring) (by decide +kernel)), (tb_p (k := 117) (q := (yX12_ring, 45)) (by decide +kernel)), rfl⟩
theorem kX12_318 : lkK (gS, X) RX12 318 mX12_side 2 ∧ Cond.instanceMethod yX12_side ∈ g_ws (gS, X) ∧ Cond.selects RX12 yX12_side yX12_side ∈ g_ws (gS, X) ∧ yX12_side.cls = RX12 := ⟨⟨tb_good, (tb_t (k := 1552) (w := Cond.methodLink RX12 318 yX12_side) (by decide +kernel)), (tb_t (k := 8) (w := Cond.initialized RX12) (by decide +kernel)), (tb_t (k := 1555) (w := Cond.code yX12_side cX12_side 11 (some .long)) (by decide +kernel)), by decide +kernel, by decide⟩, (tb_t (k := 1554) (w := Cond.instanceMethod yX12_side) (by decide +kernel)), (tb_p (k := 118) (q := (yX12_side, 45)) (by decide +kernel)), rfl⟩
theorem kX12_321 : lkK (gS, X) RX12 321 mX12_clique 2 ∧ Cond.instanceMethod yX12_clique ∈ g_ws (gS, X) ∧ Cond.selects RX12 yX12_clique yX12_clique ∈ g_ws (gS, X) ∧ yX12_clique.cls = RX12 := ⟨⟨tb_good, (tb_t (k := 1556) (w := Cond.methodLink RX12 321 yX12_clique) (by decide +kernel)), (tb_t (k := 8) (w := Cond.initialized RX12) (by decide +kernel)), (tb_t (k := 1559) (w := Cond.code yX12_clique cX12_clique 5 (some .long)) (by decide +kernel)), by decide +kernel, by decide⟩, (tb_t (k := 1558) (w := Cond.instanceMethod yX12_clique) (by decide +kernel)), (tb_p (k := 119) (q := (yX12_clique, 45)) (by decide +kernel)), rfl⟩
theorem kX12_325 : lkK (gS, X) RX12 325 mX12_colours 1 ∧ Cond.instanceMethod yX12_colours ∈ g_ws (gS, X) ∧ Cond.selects RX12 yX12_colours yX12_colours ∈ g_ws (gS, X) ∧ yX12_colours.cls = RX12 := ⟨⟨tb_good, (tb_t (k := 1564) (w := Cond.methodLink RX12 325 yX12_colours) (by decide +kernel)), (tb_t (k := 8) (w := Cond.initialized RX12) (by decide +kernel)), (tb_t (k := 1567) (w := Cond.code yX12_colours cX12_colours 5 (some .long)) (by decide +kernel)), by decide +kernel, by decide⟩, (tb_t (k := 1566) (w := Cond.instanceMethod yX12_colours) (by decide +kernel)), (tb_p (k := 121) (q := (yX12_colours, 45)) (by decide +kernel)), rfl⟩
theorem kX12_328 : lkK (gS, X) RX12 328 mX12_width 1 ∧ Cond.instanceMethod yX12_width ∈ g_ws (gS, X) ∧ Cond.selects RX12 yX12_width yX12_width ∈ g_ws (gS, X) ∧ yX12_width.cls = RX12 := ⟨⟨tb_good, (tb_t (k := 1568) (w := Cond.methodLink RX12 328 yX12_width) (by decide +kernel)), (tb_t (k := 8) (w := Cond.initialized RX12) (by decide +kernel)), (tb_t (k := 1571) (w := Cond.code yX12_width cX12_width 10 (some .long)) (by decide +kernel)), by decide +kernel, by decide⟩, (tb_t (k := 1570) (w := Cond.instanceMethod yX12_width) (by decide +kernel)), (tb_p (k := 122) (q := (yX12_width, 45)) (by decide +kernel)), rfl⟩
theorem kX12_331 : lkK (gS, X) RX12 331 mX12_pairs 2 ∧ Cond.instanceMethod yX12_pairs ∈ g_ws (gS, X) ∧ Cond.selects RX12 yX12_pairs yX12_pairs ∈ g_ws (gS, X) ∧ yX12_pairs.cls = RX12 := ⟨⟨tb_good, (tb_t (k := 1572) (w := Cond.methodLink RX12 331 yX12_pairs) (by decide +kernel)), (tb_t (k := 8) (w := Cond.initialized RX12) (by decide +kernel)), (tb_t (k := 1575) (w := Cond.code yX12_pairs cX12_pairs 7 (some .long)) (by decide +kernel)), by decide +kernel, by decide⟩, (tb_t (k := 1574) (w := Cond.instanceMethod yX12_pairs) (by decide +kernel)), (tb_p (k := 123) (q := (yX12_pairs, 45)) (by decide +kernel)), rfl⟩
theorem kX12_334 : lkK (gS, X) RX12 334 mX12_missed 1 ∧ Cond.instanceMethod yX12_missed ∈ g_ws (gS, X) ∧ Cond.selects RX12 yX12_missed yX12_missed ∈ g_ws (gS, X) ∧ yX12_missed.cls = RX12 := ⟨⟨tb_good, (tb_t (k := 1576) (w := Cond.methodLink RX12 334 yX12_missed) (by decide +kernel)), (tb_t (k := 8) (w := Cond.initialized RX12) (by decide +kernel)), (tb_t (k := 1579) (w := Cond.code yX12_missed cX12_missed 7 (some .long)) (by decide +kernel)), by decide +kernel, by decide⟩, (tb_t (k := 1578) (w := Cond.instanceMethod yX12_missed) (by decide +kernel)), (tb_p (k := 124) (q := (yX12_missed, 45)) (by decide +kernel)), rfl⟩
theorem kX12_337 : lkK (gS, X) RX12 337 mX12_trees 1 ∧ Cond.instanceMethod yX12_trees ∈ g_ws (gS, X) ∧ Cond.selects RX12 yX12_trees yX12_trees ∈ g_ws (gS, X) ∧ yX12_trees.cls = RX12 := ⟨⟨tb_good, (tb_t (k := 1580) (w := Cond.methodLink RX12 337 yX12_trees) (by decide +kernel)), (tb_t (k := 8) (w := Cond.initialized RX12) (by decide +kernel)), (tb_t (k := 1583) (w := Cond.code yX12_trees cX12_trees 13 (some .long)) (by decide +kernel)), by decide +kernel, by decide⟩, (tb_t (k := 1582) (w := Cond.instanceMethod yX12_trees) (by decide +kernel)), (tb_p (k := 125) (q := (yX12_trees, 45)) (by decide +kernel)), rfl⟩
theorem kX12_340 : lkK (gS, X) RX12 340 mX12_light 2 ∧ Cond.instanceMethod yX12_light ∈ g_ws (gS, X) ∧ Cond.selects RX12 yX12_light yX12_light ∈ g_ws (gS, X) ∧ yX12_light.cls = RX12 := ⟨⟨tb_good, (tb_t (k := 1585) (w := Cond.methodLink RX12 340 yX12_light) (by decide +kernel)), (tb_t (k := 8) (w := Cond.initialized RX12) (by decide +kernel)), (tb_t (k := 1588) (w := Cond.code yX12_light cX12_light 13 (some .long)) (by decide +kernel)), by decide +kernel, by decide⟩, (tb_t (k := 1587) (w := Cond.instanceMethod yX12_light) (by decide +kernel)), (tb_p (k := 126) (q := (yX12_light, 45)) (by decide +kernel)), rfl⟩
theorem kX12_343 : lkK (gS, X) RX12 343 mX12_cut 4 ∧ Cond.instanceMethod yX12_cut ∈ g_ws (gS, X) ∧ Cond.selects RX12 yX12_cut yX12_cut ∈ g_ws (gS, X) ∧ yX12_cut.cls = RX12 := ⟨⟨tb_good, (tb_t (k := 1589) (w := Cond.methodLink RX12 343 yX12_cut) (by decide +kernel)), (tb_t (k := 8) (w := Cond.initialized RX12) (by decide +kernel)), (tb_t (k := 1592) (w := Cond.code yX12_cut cX12_cut 10 (some .long)) (by decide +kernel)), by decide +kernel, by decide⟩, (tb_t (k := 1591) (w := Cond.instanceMethod yX12_cut) (by decide +kernel)), (tb_p (k := 127) (q := (yX12_cut, 45)) (by decide +kernel)), rfl⟩
theorem kX12_347 : lkK (gS, X) RX12 347 mX12_cutSet 3 ∧ Cond.instanceMethod yX12_cutSet ∈ g_ws (gS, X) ∧ Cond.selects RX12 yX12_cutSet yX12_cutSet ∈ g_ws (gS, X) ∧ yX12_cutSet.cls = RX12 := ⟨⟨tb_good, (tb_t (k := 1597) (w := Cond.methodLink RX12 347 yX12_cutSet) (by decide +kernel)), (tb_t (k := 8) (w := Cond.initialized RX12) (by decide +kernel)), (tb_t (k := 1600) (w := Cond.code yX12_cutSet cX12_cutSet 7 (some .long)) (by decide +kernel)), by decide +kernel, by decide⟩, (tb_t (k := 1599) (w := Cond.instanceMethod yX12_cutSet) (by decide +kernel)), (tb_p (k := 129) (q := (yX12_cutSet, 45)) (by decide +kernel)), rfl⟩
theorem kX12_350 : lkK (gS, X) RX12 350 mX12_price 3 ∧ Cond.instanceMethod yX12_price ∈ g_ws (gS, X) ∧ Cond.selects RX12 yX12_price yX12_price ∈ g_ws (gS, X) ∧ yX12_price.cls = RX12 := ⟨⟨tb_good, (tb_t (k := 1601) (w := Cond.methodLink RX12 350 yX12_price) (by decide +kernel)), (tb_t (k := 8) (w := Cond.initialized RX12) (by decide +kernel)), (tb_t (k := 1604) (w := Cond.code yX12_price cX12_price 11 (some .long)) (by decide +kernel)), by decide +kernel, by decide⟩, (tb_t (k := 1603) (w := Cond.instanceMethod yX12_price) (by decide +kernel)), (tb_p (k := 130) (q := (yX12_price, 45)) (by decide +kernel)), rfl⟩
theorem kX12_353 : lkK (gS, X) RX12 353 mX12_alike 4 ∧ Cond.instanceMethod yX12_alike ∈ g_ws (gS, X) ∧ Cond.selects RX12 yX12_alike yX12_alike ∈ g_ws (gS, X) ∧ yX12_alike.cls = RX12 := ⟨⟨tb_good, (tb_t (k := 1622) (w := Cond.methodLink RX12 353 yX12_alike) (by decide +kernel)), (tb_t (k := 8) (w := Cond.initialized RX12) (by decide +kernel)), (tb_t (k := 1625) (w := Cond.code yX12_alike cX12_alike 6 (some .long)) (by decide +kernel)), by decide +kernel, by decide⟩, (tb_t (k := 1624) (w := Cond.instanceMethod yX12_alike) (by decide +kernel)), (tb_p (k := 135) (q := (yX12_alike, 45)) (by decide +kernel)), rfl⟩
end NM
