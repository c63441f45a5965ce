theorem dX1_product_0 : decode cX1_product 0 = .ok (.aload_n 1, 1) := by decide +kernel
theorem dX1_product_1 : decode cX1_product 1 = .ok (.getfield 7, 3) := by decide +kernel
theorem dX1_product_4 : decode cX1_product 4 = .ok (.lstore_n 3, 1) := by decide +kernel
theorem dX1_product_5 : decode cX1_product 5 = .ok (.aload_n 1, 1) := by decide +kernel
theorem dX1_product_6 : decode cX1_product 6 = .ok (.getfield 13, 3) := by decide +kernel
theorem dX1_product_9 : decode cX1_product 9 = .ok (.lstore 5, 2) := by decide +kernel
theorem dX1_product_11 : decode cX1_product 11 = .ok (.aload_n 1, 1) := by decide +kernel
theorem dX1_product_12 : decode cX1_product 12 = .ok (.getfield 16, 3) := by decide +kernel
theorem dX1_product_15 : decode cX1_product 15 = .ok (.lstore 7, 2) := by decide +kernel
theorem dX1_product_17 : decode cX1_product 17 = .ok (.aload_n 1, 1) := by decide +kernel
theorem dX1_product_18 : decode cX1_product 18 = .ok (.getfield 19, 3) := by decide +kernel
theorem dX1_product_21 : decode cX1_product 21 = .ok (.lstore 9, 2) := by decide +kernel
theorem dX1_product_23 : decode cX1_product 23 = .ok (.aload_n 1, 1) := by decide +kernel
theorem dX1_product_24 : decode cX1_product 24 = .ok (.getfield 22, 3) := by decide +kernel
theorem dX1_product_27 : decode cX1_product 27 = .ok (.lstore 11, 2) := by decide +kernel
theorem dX1_product_29 : decode cX1_product 29 = .ok (.aload_n 1, 1) := by decide +kernel
theorem dX1_product_30 : decode cX1_product 30 = .ok (.getfield 25, 3) := by decide +kernel
theorem dX1_product_33 : decode cX1_product 33 = .ok (.lstore 13, 2) := by decide +kernel
theorem dX1_product_35 : decode cX1_product 35 = .ok (.aload_n 1, 1) := by decide +kernel
theorem dX1_product_36 : decode cX1_product 36 = .ok (.getfield 28, 3) := by decide +kernel
theorem dX1_product_39 : decode cX1_product 39 = .ok (.lstore 15, 2) := by decide +kernel
theorem dX1_product_41 : decode cX1_product 41 = .ok (.aload_n 1, 1) := by decide +kernel
theorem dX1_product_42 : decode cX1_product 42 = .ok (.getfield 31, 3) := by decide +kernel
theorem dX1_product_45 : decode cX1_product 45 = .ok (.lstore 17, 2) := by decide +kernel
theorem dX1_product_47 : decode cX1_product 47 = .ok (.aload_n 1, 1) := by decide +kernel
theorem dX1_product_48 : decode cX1_product 48 = .ok (.getfield 34, 3) := by decide +kernel
theorem dX1_product_51 : decode cX1_product 51 = .ok (.lstore 19, 2) := by decide +kernel
theorem dX1_product_53 : decode cX1_product 53 = .ok (.aload_n 2, 1) := by decide +kernel
theorem dX1_product_54 : decode cX1_product 54 = .ok (.getfield 7, 3) := by decide +kernel
theorem dX1_product_57 : decode cX1_product 57 = .ok (.lstore 21, 2) := by decide +kernel
theorem dX1_product_59 : decode cX1_product 59 = .ok (.aload_n 2, 1) := by decide +kernel
theorem dX1_product_60 : decode cX1_product 60 = .ok (.getfield 13, 3) := by decide +kernel
theorem dX1_product_63 : decode cX1_product 63 = .ok (.lstore 23, 2) := by decide +kernel
theorem dX1_product_65 : decode cX1_product 65 = .ok (.aload_n 2, 1) := by decide +kernel
theorem dX1_product_66 : decode cX1_product 66 = .ok (.getfield 16, 3) := by decide +kernel
theorem dX1_product_69 : decode cX1_product 69 = .ok (.lstore 25, 2) := by decide +kernel
theorem dX1_product_71 : decode cX1_product 71 = .ok (.aload_n 2, 1) := by decide +kernel
theorem dX1_product_72 : decode cX1_product 72 = .ok (.getfield 19, 3) := by decide +kernel
theorem dX1_product_75 : decode cX1_product 75 = .ok (.lstore 27, 2) := by decide +kernel
theorem dX1_product_77 : decode cX1_product 77 = .ok (.aload_n 2, 1) := by decide +kernel
theorem dX1_product_78 : decode cX1_product 78 = .ok (.getfield 22, 3) := by decide +kernel
theorem dX1_product_81 : decode cX1_product 81 = .ok (.lstore 29, 2) := by decide +kernel
theorem dX1_product_83 : decode cX1_product 83 = .ok (.aload_n 2, 1) := by decide +kernel
theorem dX1_product_84 : decode cX1_product 84 = .ok (.getfield 25, 3) := by decide +kernel
theorem dX1_product_87 : decode cX1_product 87 = .ok (.lstore 31, 2) := by decide +kernel
theorem dX1_product_89 : decode cX1_product 89 = .ok (.aload_n 2, 1) := by decide +kernel
theorem dX1_product_90 : decode cX1_product 90 = .ok (.getfield 28, 3) := by decide +kernel
theorem dX1_product_93 : decode cX1_product 93 = .ok (.lstore 33, 2) := by decide +kernel
theorem dX1_product_95 : decode cX1_product 95 = .ok (.aload_n 2, 1) := by decide +kernel
theorem dX1_product_96 : decode cX1_product 96 = .ok (.getfield 31, 3) := by decide +kernel
theorem dX1_product_99 : decode cX1_product 99 = .ok (.lstore 35, 2) := by decide +kernel
theorem dX1_product_101 : decode cX1_product 101 = .ok (.aload_n 2, 1) := by decide +kernel
theorem dX1_product_102 : decode cX1_product 102 = .ok (.getfield 34, 3) := by decide +kernel
theorem dX1_product_105 : decode cX1_product 105 = .ok (.lstore 37, 2) := by decide +kernel
theorem dX1_product_107 : decode cX1_product 107 = .ok (.lload 5, 2) := by decide +kernel
theorem dX1_product_109 : decode cX1_product 109 = .ok (.lload 37, 2) := by decide +kernel
theorem dX1_product_111 : decode cX1_product 111 = .ok (.lmul, 1) := by decide +kernel
theorem dX1_product_112 : decode cX1_product 112 = .ok (.lload 7, 2) := by decide +kernel
theorem dX1_product_114 : decode cX1_product 114 = .ok (.lload 35, 2) := by decide +kernel
theorem dX1_product_116 : decode cX1_product 116 = .ok (.lmul, 1) := by decide +kernel
theorem dX1_product_117 : decode cX1_product 117 = .ok (.ladd, 1) := by decide +kernel
theorem dX1_product_118 : decode cX1_product 118 = .ok (.lload 9, 2) := by decide +kernel
theorem dX1_product_120 : decode cX1_product 120 = .ok (.lload 33, 2) := by decide +kernel
theorem dX1_product_122 : decode cX1_product 122 = .ok (.lmul, 1) := by decide +kernel
theorem dX1_product_123 : decode cX1_product 123 = .ok (.ladd, 1) := by decide +kernel
theorem dX1_product_124 : decode cX1_product 124 = .ok (.lload 11, 2) := by decide +kernel
theorem dX1_product_126 : decode cX1_product 126 = .ok (.lload 31, 2) := by decide +kernel
theorem dX1_product_128 : decode cX1_product 128 = .ok (.lmul, 1) := by decide +kernel
theorem dX1_product_129 : decode cX1_product 129 = .ok (.ladd, 1) := by decide +kernel
theorem dX1_product_130 : decode cX1_product 130 = .ok (.lload 13, 2) := by decide +kernel
theorem dX1_product_132 : decode cX1_product 132 = .ok (.lload 29, 2) := by decide +kernel
theorem dX1_product_134 : decode cX1_product 134 = .ok (.lmul, 1) := by decide +kernel
theorem dX1_product_135 : decode cX1_product 135 = .ok (.ladd, 1) := by decide +kernel
theorem dX1_product_136 : decode cX1_product 136 = .ok (.lload 15, 2) := by decide +kernel
theorem dX1_product_138 : decode cX1_product 138 = .ok (.lload 27, 2) := by decide +kernel
theorem dX1_product_140 : decode cX1_product 140 = .ok (.lmul, 1) := by decide +kernel
theorem dX1_product_141 : decode cX1_product 141 = .ok (.ladd, 1) := by decide +kernel
theorem dX1_product_142 : decode cX1_product 142 = .ok (.lload 17, 2) := by decide +kernel
theorem dX1_product_144 : decode cX1_product 144 = .ok (.lload 25, 2) := by decide +kernel
theorem dX1_product_146 : decode cX1_product 146 = .ok (.lmul, 1) := by decide +kernel
theorem dX1_product_147 : decode cX1_product 147 = .ok (.ladd, 1) := by decide +kernel
theorem dX1_product_148 : decode cX1_product 148 = .ok (.lload 19, 2) := by decide +kernel
theorem dX1_product_150 : decode cX1_product 150 = .ok (.lload 23, 2) := by decide +kernel
theorem dX1_product_152 : decode cX1_product 152 = .ok (.lmul, 1) := by decide +kernel
theorem dX1_product_153 : decode cX1_product 153 = .ok (.ladd, 1) := by decide +kernel
theorem dX1_product_154 : decode cX1_product 154 = .ok (.lstore 39, 2) := by decide +kernel
theorem dX1_product_156 : decode cX1_product 156 = .ok (.lload 39, 2) := by decide +kernel
theorem dX1_product_158 : decode cX1_product 158 = .ok (.ldc2_w 37, 3) := by decide +kernel
theorem dX1_product_161 : decode cX1_product 161 = .ok (.land, 1) := by decide +kernel
theorem dX1_product_162 : decode cX1_product 162 = .ok (.lstore 41, 2) := by decide +kernel
theorem dX1_product_164 : decode cX1_product 164 = .ok (.lload 39, 2) := by decide +kernel
theorem dX1_product_166 : decode cX1_product 166 = .ok (.bipush 29, 2) := by decide +kernel
theorem dX1_product_168 : decode cX1_product 168 = .ok (.lshr, 1) := by decide +kernel
theorem dX1_product_169 : decode cX1_product 169 = .ok (.lload 7, 2) := by decide +kernel
theorem dX1_product_171 : decode cX1_product 171 = .ok (.lload 37, 2) := by decide +kernel
theorem dX1_product_173 : decode cX1_product 173 = .ok (.lmul, 1) := by decide +kernel
theorem dX1_product_174 : decode cX1_product 174 = .ok (.ladd, 1) := by decide +kernel
theorem dX1_product_175 : decode cX1_product 175 = .ok (.lload 9, 2) := by decide +kernel
theorem dX1_product_177 : decode cX1_product 177 = .ok (.lload 35, 2) := by decide +kernel
theorem dX1_product_179 : decode cX1_product 179 = .ok (.lmul, 1) := by decide +kernel
theorem dX1_product_180 : decode cX1_product 180 = .ok (.ladd, 1) := by decide +kernel
theorem dX1_product_181 : decode cX1_product 181 = .ok (.lload 11, 2) := by decide +kernel
theorem dX1_product_183 : decode cX1_product 183 = .ok (.lload 33, 2) := by decide +kernel
theorem dX1_product_185 : decode cX1_product 185 = .ok (.lmul, 1) := by decide +kernel
theorem dX1_product_186 : decode cX1_product 186 = .ok (.ladd, 1) := by decide +kernel
theorem dX1_product_187 : decode cX1_product 187 = .ok (.lload 13, 2) := by decide +kernel
theorem dX1_product_189 : decode cX1_product 189 = .ok (.lload 31, 2) := by decide +kernel
theorem dX1_product_191 : decode cX1_product 191 = .ok (.lmul, 1) := by decide +kernel
theorem dX1_product_192 : decode cX1_product 192 = .ok (.ladd, 1) := by decide +kernel
theorem dX1_product_193 : decode cX1_product 193 = .ok (.lload 15, 2) := by decide +kernel
theorem dX1_product_195 : decode cX1_product 195 = .ok (.lload 29, 2) := by decide +kernel
theorem dX1_product_197 : decode cX1_product 197 = .ok (.lmul, 1) := by decide +kernel
theorem dX1_product_198 : decode cX1_product 198 = .ok (.ladd, 1) := by decide +kernel
theorem dX1_product_199 : decode cX1_product 199 = .ok (.lload 17, 2) := by decide +kernel
theorem dX1_product_201 : decode cX1_product 201 = .ok (.lload 27, 2) := by decide +kernel
theorem dX1_product_203 : decode cX1_product 203 = .ok (.lmul, 1) := by decide +kernel
theorem dX1_product_204 : decode cX1_product 204 = .ok (.ladd, 1) := by decide +kernel
theorem dX1_product_205 : decode cX1_product 205 = .ok (.lload 19, 2) := by decide +kernel
theorem dX1_product_207 : decode cX1_product 207 = .ok (.lload 25, 2) := by decide +kernel
theorem dX1_product_209 : decode cX1_product 209 = .ok (.lmul, 1) := by decide +kernel
theorem dX1_product_210 : decode cX1_product 210 = .ok (.ladd, 1) := by decide +kernel
theorem dX1_product_211 : decode cX1_product 211 = .ok (.lstore 39, 2) := by decide +kernel
theorem dX1_product_213 : decode cX1_product 213 = .ok (.lload 39, 2) := by decide +kernel
theorem dX1_product_215 : decode cX1_product 215 = .ok (.ldc2_w 37, 3) := by decide +kernel
theorem dX1_product_218 : decode cX1_product 218 = .ok (.land, 1) := by decide +kernel
theorem dX1_product_219 : decode cX1_product 219 = .ok (.lstore 43, 2) := by decide +kernel
theorem dX1_product_221 : decode cX1_product 221 = .ok (.lload 39, 2) := by decide +kernel
theorem dX1_product_223 : decode cX1_product 223 = .ok (.bipush 29, 2) := by decide +kernel
theorem dX1_product_225 : decode cX1_product 225 = .ok (.lshr, 1) := by decide +kernel
theorem dX1_product_226 : decode cX1_product 226 = .ok (.lload 9, 2) := by decide +kernel
theorem dX1_product_228 : decode cX1_product 228 = .ok (.lload 37, 2) := by decide +kernel
theorem dX1_product_230 : decode cX1_product 230 = .ok (.lmul, 1) := by decide +kernel
theorem dX1_product_231 : decode cX1_product 231 = .ok (.ladd, 1) := by decide +kernel
theorem dX1_product_232 : decode cX1_product 232 = .ok (.lload 11, 2) := by decide +kernel
theorem dX1_product_234 : decode cX1_product 234 = .ok (.lload 35, 2) := by decide +kernel
theorem dX1_product_236 : decode cX1_product 236 = .ok (.lmul, 1) := by decide +kernel
theorem dX1_product_237 : decode cX1_product 237 = .ok (.ladd, 1) := by decide +kernel
theorem dX1_product_238 : decode cX1_product 238 = .ok (.lload 13, 2) := by decide +kernel
theorem dX1_product_240 : decode cX1_product 240 = .ok (.lload 33, 2) := by decide +kernel
theorem dX1_product_242 : decode cX1_product 242 = .ok (.lmul, 1) := by decide +kernel
theorem dX1_product_243 : decode cX1_product 243 = .ok (.ladd, 1) := by decide +kernel
theorem dX1_product_244 : decode cX1_product 244 = .ok (.lload 15, 2) := by decide +kernel
theorem dX1_product_246 : decode cX1_product 246 = .ok (.lload 31, 2) := by decide +kernel
theorem dX1_product_248 : decode cX1_product 248 = .ok (.lmul, 1) := by decide +kernel
theorem dX1_product_249 : decode cX1_product 249 = .ok (.ladd, 1) := by decide +kernel
theorem dX1_product_250 : decode cX1_product 250 = .ok (.lload 17, 2) := by decide +kernel
theorem dX1_product_252 : decode cX1_product 252 = .ok (.lload 29, 2) := by decide +kernel
theorem dX1_product_254 : decode cX1_product 254 = .ok (.lmul, 1) := by decide +kernel
theorem dX1_product_255 : decode cX1_product 255 = .ok (.ladd, 1) := by decide +kernel
theorem dX1_product_256 : decode cX1_product 256 = .ok (.lload 19, 2) := by decide +kernel
theorem dX1_product_258 : decode cX1_product 258 = .ok (.lload 27, 2) := by decide +kernel
theorem dX1_product_260 : decode cX1_product 260 = .ok (.lmul, 1) := by decide +kernel
theorem dX1_product_261 : decode cX1_product 261 = .ok (.ladd, 1) := by decide +kernel
theorem dX1_product_262 : decode cX1_product 262 = .ok (.lstore 39, 2) := by decide +kernel
theorem dX1_product_264 : decode cX1_product 264 = .ok (.lload 39, 2) := by decide +kernel
theorem dX1_product_266 : decode cX1_product 266 = .ok (.ldc2_w 37, 3) := by decide +kernel
theorem dX1_product_269 : decode cX1_product 269 = .ok (.land, 1) := by decide +kernel
theorem dX1_product_270 : decode cX1_product 270 = .ok (.lstore 45, 2) := by decide +kernel
theorem dX1_product_272 : decode cX1_product 272 = .ok (.lload 39, 2) := by decide +kernel
theorem dX1_product_274 : decode cX1_product 274 = .ok (.bipush 29, 2) := by decide +kernel
theorem dX1_product_276 : decode cX1_product 276 = .ok (.lshr, 1) := by decide +kernel
theorem dX1_product_277 : decode cX1_product 277 = .ok (.lload 11, 2) := by decide +kernel
theorem dX1_product_279 : decode cX1_product 279 = .ok (.lload 37, 2) := by decide +kernel
theorem dX1_product_281 : decode cX1_product 281 = .ok (.lmul, 1) := by decide +kernel
theorem dX1_product_282 : decode cX1_product 282 = .ok (.ladd, 1) := by decide +kernel
theorem dX1_product_283 : decode cX1_product 283 = .ok (.lload 13, 2) := by decide +kernel
theorem dX1_product_285 : decode cX1_product 285 = .ok (.lload 35, 2) := by decide +kernel
theorem dX1_product_287 : decode cX1_product 287 = .ok (.lmul, 1) := by decide +kernel
theorem dX1_product_288 : decode cX1_product 288 = .ok (.ladd, 1) := by decide +kernel
theorem dX1_product_289 : decode cX1_product 289 = .ok (.lload 15, 2) := by decide +kernel
theorem dX1_product_291 : decode cX1_product 291 = .ok (.lload 33, 2) := by decide +kernel
theorem dX1_product_293 : decode cX1_product 293 = .ok (.lmul, 1) := by decide +kernel
theorem dX1_product_294 : decode cX1_product 294 = .ok (.ladd, 1) := by decide +kernel
theorem dX1_product_295 : decode cX1_product 295 = .ok (.lload 17, 2) := by decide +kernel
theorem dX1_product_297 : decode cX1_product 297 = .ok (.lload 31, 2) := by decide +kernel
theorem dX1_product_299 : decode cX1_product 299 = .ok (.lmul, 1) := by decide +kernel
theorem dX1_product_300 : decode cX1_product 300 = .ok (.ladd, 1) := by decide +kernel
theorem dX1_product_301 : decode cX1_product 301 = .ok (.lload 19, 2) := by decide +kernel
theorem dX1_product_303 : decode cX1_product 303 = .ok (.lload 29, 2) := by decide +kernel
theorem dX1_product_305 : decode cX1_product 305 = .ok (.lmul, 1) := by decide +kernel
theorem dX1_product_306 : decode cX1_product 306 = .ok (.ladd, 1) := by decide +kernel
theorem dX1_product_307 : decode cX1_product 307 = .ok (.lstore 39, 2) := by decide +kernel
theorem dX1_product_309 : decode cX1_product 309 = .ok (.lload 39, 2) := by decide +kernel
theorem dX1_product_311 : decode cX1_product 311 = .ok (.ldc2_w 37, 3) := by decide +kernel
theorem dX1_product_314 : decode cX1_product 314 = .ok (.land, 1) := by decide +kernel
theorem dX1_product_315 : decode cX1_product 315 = .ok (.lstore 47, 2) := by decide +kernel
theorem dX1_product_317 : decode cX1_product 317 = .ok (.lload 39, 2) := by decide +kernel
theorem dX1_product_319 : decode cX1_product 319 = .ok (.bipush 29, 2) := by decide +kernel
theorem dX1_product_321 : decode cX1_product 321 = .ok (.lshr, 1) := by decide +kernel
theorem dX1_product_322 : decode cX1_product 322 = .ok (.lload 13, 2) := by decide +kernel
theorem dX1_product_324 : decode cX1_product 324 = .ok (.lload 37, 2) := by decide +kernel
theorem dX1_product_326 : decode cX1_product 326 = .ok (.lmul, 1) := by decide +kernel
theorem dX1_product_327 : decode cX1_product 327 = .ok (.ladd, 1) := by decide +kernel
theorem dX1_product_328 : decode cX1_product 328 = .ok (.lload 15, 2) := by decide +kernel
theorem dX1_product_330 : decode cX1_product 330 = .ok (.lload 35, 2) := by decide +kernel
theorem dX1_product_332 : decode cX1_product 332 = .ok (.lmul, 1) := by decide +kernel
theorem dX1_product_333 : decode cX1_product 333 = .ok (.ladd, 1) := by decide +kernel
theorem dX1_product_334 : decode cX1_product 334 = .ok (.lload 17, 2) := by decide +kernel
theorem dX1_product_336 : decode cX1_product 336 = .ok (.lload 33, 2) := by decide +kernel
theorem dX1_product_338 : decode cX1_product 338 = .ok (.lmul, 1) := by decide +kernel
theorem dX1_product_339 : decode cX1_product 339 = .ok (.ladd, 1) := by decide +kernel
theorem dX1_product_340 : decode cX1_product 340 = .ok (.lload 19, 2) := by decide +kernel
theorem dX1_product_342 : decode cX1_product 342 = .ok (.lload 31, 2) := by decide +kernel
theorem dX1_product_344 : decode cX1_product 344 = .ok (.lmul, 1) := by decide +kernel
theorem dX1_product_345 : decode cX1_product 345 = .ok (.ladd, 1) := by decide +kernel
theorem dX1_product_346 : decode cX1_product 346 = .ok (.lstore 39, 2) := by decide +kernel
theorem dX1_product_348 : decode cX1_product 348 = .ok (.lload 39, 2) := by decide +kernel
theorem dX1_product_350 : decode cX1_product 350 = .ok (.ldc2_w 37, 3) := by decide +kernel
theorem dX1_product_353 : decode cX1_product 353 = .ok (.land, 1) := by decide +kernel
theorem dX1_product_354 : decode cX1_product 354 = .ok (.lstore 49, 2) := by decide +kernel
theorem dX1_product_356 : decode cX1_product 356 = .ok (.lload 39, 2) := by decide +kernel
theorem dX1_product_358 : decode cX1_product 358 = .ok (.bipush 29, 2) := by decide +kernel
theorem dX1_product_360 : decode cX1_product 360 = .ok (.lshr, 1) := by decide +kernel
theorem dX1_product_361 : decode cX1_product 361 = .ok (.lload 15, 2) := by decide +kernel
theorem dX1_product_363 : decode cX1_product 363 = .ok (.lload 37, 2) := by decide +kernel
theorem dX1_product_365 : decode cX1_product 365 = .ok (.lmul, 1) := by decide +kernel
theorem dX1_product_366 : decode cX1_product 366 = .ok (.ladd, 1) := by decide +kernel
theorem dX1_product_367 : decode cX1_product 367 = .ok (.lload 17, 2) := by decide +kernel
theorem dX1_product_369 : decode cX1_product 369 = .ok (.lload 35, 2) := by decide +kernel
theorem dX1_product_371 : decode cX1_product 371 = .ok (.lmul, 1) := by decide +kernel
theorem dX1_product_372 : decode cX1_product 372 = .ok (.ladd, 1) := by decide +kernel
theorem dX1_product_373 : decode cX1_product 373 = .ok (.lload 19, 2) := by decide +kernel
theorem dX1_product_375 : decode cX1_product 375 = .ok (.lload 33, 2) := by decide +kernel
theorem dX1_product_377 : decode cX1_product 377 = .ok (.lmul, 1) := by decide +kernel
theorem dX1_product_378 : decode cX1_product 378 = .ok (.ladd, 1) := by decide +kernel
theorem dX1_product_379 : decode cX1_product 379 = .ok (.lstore 39, 2) := by decide +kernel
theorem dX1_product_381 : decode cX1_product 381 = .ok (.lload 39, 2) := by decide +kernel
theorem dX1_product_383 : decode cX1_product 383 = .ok (.ldc2_w 37, 3) := by decide +kernel
theorem dX1_product_386 : decode cX1_product 386 = .ok (.land, 1) := by decide +kernel
theorem dX1_product_387 : decode cX1_product 387 = .ok (.lstore 51, 2) := by decide +kernel
theorem dX1_product_389 : decode cX1_product 389 = .ok (.lload 39, 2) := by decide +kernel
theorem dX1_product_391 : decode cX1_product 391 = .ok (.bipush 29, 2) := by decide +kernel
theorem dX1_product_393 : decode cX1_product 393 = .ok (.lshr, 1) := by decide +kernel
theorem dX1_product_394 : decode cX1_product 394 = .ok (.lload 17, 2) := by decide +kernel
theorem dX1_product_396 : decode cX1_product 396 = .ok (.lload 37, 2) := by decide +kernel
theorem dX1_product_398 : decode cX1_product 398 = .ok (.lmul, 1) := by decide +kernel
theorem dX1_product_399 : decode cX1_product 399 = .ok (.ladd, 1) := by decide +kernel
theorem dX1_product_400 : decode cX1_product 400 = .ok (.lload 19, 2) := by decide +kernel
theorem dX1_product_402 : decode cX1_product 402 = .ok (.lload 35, 2) := by decide +kernel
theorem dX1_product_404 : decode cX1_product 404 = .ok (.lmul, 1) := by decide +kernel
theorem dX1_product_405 : decode cX1_product 405 = .ok (.ladd, 1) := by decide +kernel
theorem dX1_product_406 : decode cX1_product 406 = .ok (.lstore 39, 2) := by decide +kernel
theorem dX1_product_408 : decode cX1_product 408 = .ok (.lload 39, 2) := by decide +kernel
theorem dX1_product_410 : decode cX1_product 410 = .ok (.ldc2_w 37, 3) := by decide +kernel
theorem dX1_product_413 : decode cX1_product 413 = .ok (.land, 1) := by decide +kernel
theorem dX1_product_414 : decode cX1_product 414 = .ok (.lstore 53, 2) := by decide +kernel
theorem dX1_product_416 : decode cX1_product 416 = .ok (.lload 39, 2) := by decide +kernel
theorem dX1_product_418 : decode cX1_product 418 = .ok (.bipush 29, 2) := by decide +kernel
theorem dX1_product_420 : decode cX1_product 420 = .ok (.lshr, 1) := by decide +kernel
theorem dX1_product_421 : decode cX1_product 421 = .ok (.lload 19, 2) := by decide +kernel
theorem dX1_product_423 : decode cX1_product 423 = .ok (.lload 37, 2) := by decide +kernel
theorem dX1_product_425 : decode cX1_product 425 = .ok (.lmul, 1) := by decide +kernel
theorem dX1_product_426 : decode cX1_product 426 = .ok (.ladd, 1) := by decide +kernel
theorem dX1_product_427 : decode cX1_product 427 = .ok (.lstore 39, 2) := by decide +kernel
theorem dX1_product_429 : decode cX1_product 429 = .ok (.lload 39, 2) := by decide +kernel
theorem dX1_product_431 : decode cX1_product 431 = .ok (.ldc2_w 37, 3) := by decide +kernel
theorem dX1_product_434 : decode cX1_product 434 = .ok (.land, 1) := by decide +kernel
theorem dX1_product_435 : decode cX1_product 435 = .ok (.lstore 55, 2) := by decide +kernel
theorem dX1_product_437 : decode cX1_product 437 = .ok (.lload 39, 2) := by decide +kernel
theorem dX1_product_439 : decode cX1_product 439 = .ok (.bipush 29, 2) := by decide +kernel
theorem dX1_product_441 : decode cX1_product 441 = .ok (.lshr, 1) := by decide +kernel
theorem dX1_product_442 : decode cX1_product 442 = .ok (.lstore 57, 2) := by decide +kernel
theorem dX1_product_444 : decode cX1_product 444 = .ok (.lload 41, 2) := by decide +kernel
theorem dX1_product_446 : decode cX1_product 446 = .ok (.lload 57, 2) := by decide +kernel
theorem dX1_product_448 : decode cX1_product 448 = .ok (.bipush 8, 2) := by decide +kernel
theorem dX1_product_450 : decode cX1_product 450 = .ok (.lshl, 1) := by decide +kernel
theorem dX1_product_451 : decode cX1_product 451 = .ok (.ladd, 1) := by decide +kernel
theorem dX1_product_452 : decode cX1_product 452 = .ok (.lstore 41, 2) := by decide +kernel
theorem dX1_product_454 : decode cX1_product 454 = .ok (.lload_n 3, 1) := by decide +kernel
theorem dX1_product_455 : decode cX1_product 455 = .ok (.lload 21, 2) := by decide +kernel
theorem dX1_product_457 : decode cX1_product 457 = .ok (.lmul, 1) := by decide +kernel
theorem dX1_product_458 : decode cX1_product 458 = .ok (.ldc2_w 63, 3) := by decide +kernel
theorem dX1_product_461 : decode cX1_product 461 = .ok (.lload 41, 2) := by decide +kernel
theorem dX1_product_463 : decode cX1_product 463 = .ok (.lmul, 1) := by decide +kernel
theorem dX1_product_464 : decode cX1_product 464 = .ok (.ladd, 1) := by decide +kernel
theorem dX1_product_465 : decode cX1_product 465 = .ok (.lstore 39, 2) := by decide +kernel
theorem dX1_product_467 : decode cX1_product 467 = .ok (.aload_n 0, 1) := by decide +kernel
theorem dX1_product_468 : decode cX1_product 468 = .ok (.lload 39, 2) := by decide +kernel
theorem dX1_product_470 : decode cX1_product 470 = .ok (.ldc2_w 37, 3) := by decide +kernel
theorem dX1_product_473 : decode cX1_product 473 = .ok (.land, 1) := by decide +kernel
theorem dX1_product_474 : decode cX1_product 474 = .ok (.putfield 7, 3) := by decide +kernel
theorem dX1_product_477 : decode cX1_product 477 = .ok (.lload 39, 2) := by decide +kernel
theorem dX1_product_479 : decode cX1_product 479 = .ok (.bipush 29, 2) := by decide +kernel
theorem dX1_product_481 : decode cX1_product 481 = .ok (.lshr, 1) := by decide +kernel
theorem dX1_product_482 : decode cX1_product 482 = .ok (.lload_n 3, 1) := by decide +kernel
theorem dX1_product_483 : decode cX1_product 483 = .ok (.lload 23, 2) := by decide +kernel
theorem dX1_product_485 : decode cX1_product 485 = .ok (.lmul, 1) := by decide +kernel
theorem dX1_product_486 : decode cX1_product 486 = .ok (.ladd, 1) := by decide +kernel
theorem dX1_product_487 : decode cX1_product 487 = .ok (.lload 5, 2) := by decide +kernel
theorem dX1_product_489 : decode cX1_product 489 = .ok (.lload 21, 2) := by decide +kernel
theorem dX1_product_491 : decode cX1_product 491 = .ok (.lmul, 1) := by decide +kernel
theorem dX1_product_492 : decode cX1_product 492 = .ok (.ladd, 1) := by decide +kernel
theorem dX1_product_493 : decode cX1_product 493 = .ok (.ldc2_w 63, 3) := by decide +kernel
theorem dX1_product_496 : decode cX1_product 496 = .ok (.lload 43, 2) := by decide +kernel
theorem dX1_product_498 : decode cX1_product 498 = .ok (.lmul, 1) := by decide +kernel
theorem dX1_product_499 : decode cX1_product 499 = .ok (.ladd, 1) := by decide +kernel
theorem dX1_product_500 : decode cX1_product 500 = .ok (.lload 41, 2) := by decide +kernel
theorem dX1_product_502 : decode cX1_product 502 = .ok (.bipush 8, 2) := by decide +kernel
theorem dX1_product_504 : decode cX1_product 504 = .ok (.lshl, 1) := by decide +kernel
theorem dX1_product_505 : decode cX1_product 505 = .ok (.ladd, 1) := by decide +kernel
theorem dX1_product_506 : decode cX1_product 506 = .ok (.lstore 39, 2) := by decide +kernel
theorem dX1_product_508 : decode cX1_product 508 = .ok (.aload_n 0, 1) := by decide +kernel
theorem dX1_product_509 : decode cX1_product 509 = .ok (.lload 39, 2) := by decide +kernel
theorem dX1_product_511 : decode cX1_product 511 = .ok (.ldc2_w 37, 3) := by decide +kernel
theorem dX1_product_514 : decode cX1_product 514 = .ok (.land, 1) := by decide +kernel
theorem dX1_product_515 : decode cX1_product 515 = .ok (.putfield 13, 3) := by decide +kernel
theorem dX1_product_518 : decode cX1_product 518 = .ok (.lload 39, 2) := by decide +kernel
theorem dX1_product_520 : decode cX1_product 520 = .ok (.bipush 29, 2) := by decide +kernel
theorem dX1_product_522 : decode cX1_product 522 = .ok (.lshr, 1) := by decide +kernel
theorem dX1_product_523 : decode cX1_product 523 = .ok (.lload_n 3, 1) := by decide +kernel
theorem dX1_product_524 : decode cX1_product 524 = .ok (.lload 25, 2) := by decide +kernel
theorem dX1_product_526 : decode cX1_product 526 = .ok (.lmul, 1) := by decide +kernel
theorem dX1_product_527 : decode cX1_product 527 = .ok (.ladd, 1) := by decide +kernel
theorem dX1_product_528 : decode cX1_product 528 = .ok (.lload 5, 2) := by decide +kernel
theorem dX1_product_530 : decode cX1_product 530 = .ok (.lload 23, 2) := by decide +kernel
theorem dX1_product_532 : decode cX1_product 532 = .ok (.lmul, 1) := by decide +kernel
theorem dX1_product_533 : decode cX1_product 533 = .ok (.ladd, 1) := by decide +kernel
theorem dX1_product_534 : decode cX1_product 534 = .ok (.lload 7, 2) := by decide +kernel
theorem dX1_product_536 : decode cX1_product 536 = .ok (.lload 21, 2) := by decide +kernel
theorem dX1_product_538 : decode cX1_product 538 = .ok (.lmul, 1) := by decide +kernel
theorem dX1_product_539 : decode cX1_product 539 = .ok (.ladd, 1) := by decide +kernel
theorem dX1_product_540 : decode cX1_product 540 = .ok (.ldc2_w 63, 3) := by decide +kernel
theorem dX1_product_543 : decode cX1_product 543 = .ok (.lload 45, 2) := by decide +kernel
theorem dX1_product_545 : decode cX1_product 545 = .ok (.lmul, 1) := by decide +kernel
theorem dX1_product_546 : decode cX1_product 546 = .ok (.ladd, 1) := by decide +kernel
theorem dX1_product_547 : decode cX1_product 547 = .ok (.lload 43, 2) := by decide +kernel
theorem dX1_product_549 : decode cX1_product 549 = .ok (.bipush 8, 2) := by decide +kernel
theorem dX1_product_551 : decode cX1_product 551 = .ok (.lshl, 1) := by decide +kernel
theorem dX1_product_552 : decode cX1_product 552 = .ok (.ladd, 1) := by decide +kernel
theorem dX1_product_553 : decode cX1_product 553 = .ok (.lstore 39, 2) := by decide +kernel
theorem dX1_product_555 : decode cX1_product 555 = .ok (.aload_n 0, 1) := by decide +kernel
theorem dX1_product_556 : decode cX1_product 556 = .ok (.lload 39, 2) := by decide +kernel
theorem dX1_product_558 : decode cX1_product 558 = .ok (.ldc2_w 37, 3) := by decide +kernel
theorem dX1_product_561 : decode cX1_product 561 = .ok (.land, 1) := by decide +kernel
theorem dX1_product_562 : decode cX1_product 562 = .ok (.putfield 16, 3) := by decide +kernel
theorem dX1_product_565 : decode cX1_product 565 = .ok (.lload 39, 2) := by decide +kernel
theorem dX1_product_567 : decode cX1_product 567 = .ok (.bipush 29, 2) := by decide +kernel
theorem dX1_product_569 : decode cX1_product 569 = .ok (.lshr, 1) := by decide +kernel
theorem dX1_product_570 : decode cX1_product 570 = .ok (.lload_n 3, 1) := by decide +kernel
theorem dX1_product_571 : decode cX1_product 571 = .ok (.lload 27, 2) := by decide +kernel
theorem dX1_product_573 : decode cX1_product 573 = .ok (.lmul, 1) := by decide +kernel
theorem dX1_product_574 : decode cX1_product 574 = .ok (.ladd, 1) := by decide +kernel
theorem dX1_product_575 : decode cX1_product 575 = .ok (.lload 5, 2) := by decide +kernel
theorem dX1_product_577 : decode cX1_product 577 = .ok (.lload 25, 2) := by decide +kernel
theorem dX1_product_579 : decode cX1_product 579 = .ok (.lmul, 1) := by decide +kernel
theorem dX1_product_580 : decode cX1_product 580 = .ok (.ladd, 1) := by decide +kernel
theorem dX1_product_581 : decode cX1_product 581 = .ok (.lload 7, 2) := by decide +kernel
theorem dX1_product_583 : decode cX1_product 583 = .ok (.lload 23, 2) := by decide +kernel
theorem dX1_product_585 : decode cX1_product 585 = .ok (.lmul, 1) := by decide +kernel
theorem dX1_product_586 : decode cX1_product 586 = .ok (.ladd, 1) := by decide +kernel
theorem dX1_product_587 : decode cX1_product 587 = .ok (.lload 9, 2) := by decide +kernel
theorem dX1_product_589 : decode cX1_product 589 = .ok (.lload 21, 2) := by decide +kernel
theorem dX1_product_591 : decode cX1_product 591 = .ok (.lmul, 1) := by decide +kernel
theorem dX1_product_592 : decode cX1_product 592 = .ok (.ladd, 1) := by decide +kernel
theorem dX1_product_593 : decode cX1_product 593 = .ok (.ldc2_w 63, 3) := by decide +kernel
theorem dX1_product_596 : decode cX1_product 596 = .ok (.lload 47, 2) := by decide +kernel
theorem dX1_product_598 : decode cX1_product 598 = .ok (.lmul, 1) := by decide +kernel
theorem dX1_product_599 : decode cX1_product 599 = .ok (.ladd, 1) := by decide +kernel
theorem dX1_product_600 : decode cX1_product 600 = .ok (.lload 45, 2) := by decide +kernel
theorem dX1_product_602 : decode cX1_product 602 = .ok (.bipush 8, 2) := by decide +kernel
theorem dX1_product_604 : decode cX1_product 604 = .ok (.lshl, 1) := by decide +kernel
theorem dX1_product_605 : decode cX1_product 605 = .ok (.ladd, 1) := by decide +kernel
theorem dX1_product_606 : decode cX1_product 606 = .ok (.lstore 39, 2) := by decide +kernel
theorem dX1_product_608 : decode cX1_product 608 = .ok (.aload_n 0, 1) := by decide +kernel
theorem dX1_product_609 : decode cX1_product 609 = .ok (.lload 39, 2) := by decide +kernel
theorem dX1_product_611 : decode cX1_product 611 = .ok (.ldc2_w 37, 3) := by decide +kernel
theorem dX1_product_614 : decode cX1_product 614 = .ok (.land, 1) := by decide +kernel
theorem dX1_product_615 : decode cX1_product 615 = .ok (.putfield 19, 3) := by decide +kernel
theorem dX1_product_618 : decode cX1_product 618 = .ok (.lload 39, 2) := by decide +kernel
theorem dX1_product_620 : decode cX1_product 620 = .ok (.bipush 29, 2) := by decide +kernel
theorem dX1_product_622 : decode cX1_product 622 = .ok (.lshr, 1) := by decide +kernel
theorem dX1_product_623 : decode cX1_product 623 = .ok (.lload_n 3, 1) := by decide +kernel
theorem dX1_product_624 : decode cX1_product 624 = .ok (.lload 29, 2) := by decide +kernel
theorem dX1_product_626 : decode cX1_product 626 = .ok (.lmul, 1) := by decide +kernel
theorem dX1_product_627 : decode cX1_product 627 = .ok (.ladd, 1) := by decide +kernel
theorem dX1_product_628 : decode cX1_product 628 = .ok (.lload 5, 2) := by decide +kernel
theorem dX1_product_630 : decode cX1_product 630 = .ok (.lload 27, 2) := by decide +kernel
theorem dX1_product_632 : decode cX1_product 632 = .ok (.lmul, 1) := by decide +kernel
theorem dX1_product_633 : decode cX1_product 633 = .ok (.ladd, 1) := by decide +kernel
theorem dX1_product_634 : decode cX1_product 634 = .ok (.lload 7, 2) := by decide +kernel
theorem dX1_product_636 : decode cX1_product 636 = .ok (.lload 25, 2) := by decide +kernel
theorem dX1_product_638 : decode cX1_product 638 = .ok (.lmul, 1) := by decide +kernel
theorem dX1_product_639 : decode cX1_product 639 = .ok (.ladd, 1) := by decide +kernel
theorem dX1_product_640 : decode cX1_product 640 = .ok (.lload 9, 2) := by decide +kernel
theorem dX1_product_642 : decode cX1_product 642 = .ok (.lload 23, 2) := by decide +kernel
theorem dX1_product_644 : decode cX1_product 644 = .ok (.lmul, 1) := by decide +kernel
theorem dX1_product_645 : decode cX1_product 645 = .ok (.ladd, 1) := by decide +kernel
theorem dX1_product_646 : decode cX1_product 646 = .ok (.lload 11, 2) := by decide +kernel
theorem dX1_product_648 : decode cX1_product 648 = .ok (.lload 21, 2) := by decide +kernel
theorem dX1_product_650 : decode cX1_product 650 = .ok (.lmul, 1) := by decide +kernel
theorem dX1_product_651 : decode cX1_product 651 = .ok (.ladd, 1) := by decide +kernel
theorem dX1_product_652 : decode cX1_product 652 = .ok (.ldc2_w 63, 3) := by decide +kernel
theorem dX1_product_655 : decode cX1_product 655 = .ok (.lload 49, 2) := by decide +kernel
theorem dX1_product_657 : decode cX1_product 657 = .ok (.lmul, 1) := by decide +kernel
theorem dX1_product_658 : decode cX1_product 658 = .ok (.ladd, 1) := by decide +kernel
theorem dX1_product_659 : decode cX1_product 659 = .ok (.lload 47, 2) := by decide +kernel
theorem dX1_product_661 : decode cX1_product 661 = .ok (.bipush 8, 2) := by decide +kernel
theorem dX1_product_663 : decode cX1_product 663 = .ok (.lshl, 1) := by decide +kernel
theorem dX1_product_664 : decode cX1_product 664 = .ok (.ladd, 1) := by decide +kernel
theorem dX1_product_665 : decode cX1_product 665 = .ok (.lstore 39, 2) := by decide +kernel
theorem dX1_product_667 : decode cX1_product 667 = .ok (.aload_n 0, 1) := by decide +kernel
theorem dX1_product_668 : decode cX1_product 668 = .ok (.lload 39, 2) := by decide +kernel
theorem dX1_product_670 : decode cX1_product 670 = .ok (.ldc2_w 37, 3) := by decide +kernel
theorem dX1_product_673 : decode cX1_product 673 = .ok (.land, 1) := by decide +kernel
theorem dX1_product_674 : decode cX1_product 674 = .ok (.putfield 22, 3) := by decide +kernel
theorem dX1_product_677 : decode cX1_product 677 = .ok (.lload 39, 2) := by decide +kernel
theorem dX1_product_679 : decode cX1_product 679 = .ok (.bipush 29, 2) := by decide +kernel
theorem dX1_product_681 : decode cX1_product 681 = .ok (.lshr, 1) := by decide +kernel
theorem dX1_product_682 : decode cX1_product 682 = .ok (.lload_n 3, 1) := by decide +kernel
theorem dX1_product_683 : decode cX1_product 683 = .ok (.lload 31, 2) := by decide +kernel
theorem dX1_product_685 : decode cX1_product 685 = .ok (.lmul, 1) := by decide +kernel
theorem dX1_product_686 : decode cX1_product 686 = .ok (.ladd, 1) := by decide +kernel
theorem dX1_product_687 : decode cX1_product 687 = .ok (.lload 5, 2) := by decide +kernel
theorem dX1_product_689 : decode cX1_product 689 = .ok (.lload 29, 2) := by decide +kernel
theorem dX1_product_691 : decode cX1_product 691 = .ok (.lmul, 1) := by decide +kernel
theorem dX1_product_692 : decode cX1_product 692 = .ok (.ladd, 1) := by decide +kernel
theorem dX1_product_693 : decode cX1_product 693 = .ok (.lload 7, 2) := by decide +kernel
theorem dX1_product_695 : decode cX1_product 695 = .ok (.lload 27, 2) := by decide +kernel
theorem dX1_product_697 : decode cX1_product 697 = .ok (.lmul, 1) := by decide +kernel
theorem dX1_product_698 : decode cX1_product 698 = .ok (.ladd, 1) := by decide +kernel
theorem dX1_product_699 : decode cX1_product 699 = .ok (.lload 9, 2) := by decide +kernel
theorem dX1_product_701 : decode cX1_product 701 = .ok (.lload 25, 2) := by decide +kernel
theorem dX1_product_703 : decode cX1_product 703 = .ok (.lmul, 1) := by decide +kernel
theorem dX1_product_704 : decode cX1_product 704 = .ok (.ladd, 1) := by decide +kernel
theorem dX1_product_705 : decode cX1_product 705 = .ok (.lload 11, 2) := by decide +kernel
theorem dX1_product_707 : decode cX1_product 707 = .ok (.lload 23, 2) := by decide +kernel
theorem dX1_product_709 : decode cX1_product 709 = .ok (.lmul, 1) := by decide +kernel
theorem dX1_product_710 : decode cX1_product 710 = .ok (.ladd, 1) := by decide +kernel
theorem dX1_product_711 : decode cX1_product 711 = .ok (.lload 13, 2) := by decide +kernel
theorem dX1_product_713 : decode cX1_product 713 = .ok (.lload 21, 2) := by decide +kernel
theorem dX1_product_715 : decode cX1_product 715 = .ok (.lmul, 1) := by decide +kernel
theorem dX1_product_716 : decode cX1_product 716 = .ok (.ladd, 1) := by decide +kernel
theorem dX1_product_717 : decode cX1_product 717 = .ok (.ldc2_w 63, 3) := by decide +kernel
theorem dX1_product_720 : decode cX1_product 720 = .ok (.lload 51, 2) := by decide +kernel
theorem dX1_product_722 : decode cX1_product 722 = .ok (.lmul, 1) := by decide +kernel
theorem dX1_product_723 : decode cX1_product 723 = .ok (.ladd, 1) := by decide +kernel
theorem dX1_product_724 : decode cX1_product 724 = .ok (.lload 49, 2) := by decide +kernel
theorem dX1_product_726 : decode cX1_product 726 = .ok (.bipush 8, 2) := by decide +kernel
theorem dX1_product_728 : decode cX1_product 728 = .ok (.lshl, 1) := by decide +kernel
theorem dX1_product_729 : decode cX1_product 729 = .ok (.ladd, 1) := by decide +kernel
theorem dX1_product_730 : decode cX1_product 730 = .ok (.lstore 39, 2) := by decide +kernel
theorem dX1_product_732 : decode cX1_product 732 = .ok (.aload_n 0, 1) := by decide +kernel
theorem dX1_product_733 : decode cX1_product 733 = .ok (.lload 39, 2) := by decide +kernel
theorem dX1_product_735 : decode cX1_product 735 = .ok (.ldc2_w 37, 3) := by decide +kernel
theorem dX1_product_738 : decode cX1_product 738 = .ok (.land, 1) := by decide +kernel
theorem dX1_product_739 : decode cX1_product 739 = .ok (.putfield 25, 3) := by decide +kernel
theorem dX1_product_742 : decode cX1_product 742 = .ok (.lload 39, 2) := by decide +kernel
theorem dX1_product_744 : decode cX1_product 744 = .ok (.bipush 29, 2) := by decide +kernel
theorem dX1_product_746 : decode cX1_product 746 = .ok (.lshr, 1) := by decide +kernel
theorem dX1_product_747 : decode cX1_product 747 = .ok (.lload_n 3, 1) := by decide +kernel
theorem dX1_product_748 : decode cX1_product 748 = .ok (.lload 33, 2) := by decide +kernel
theorem dX1_product_750 : decode cX1_product 750 = .ok (.lmul, 1) := by decide +kernel
theorem dX1_product_751 : decode cX1_product 751 = .ok (.ladd, 1) := by decide +kernel
theorem dX1_product_752 : decode cX1_product 752 = .ok (.lload 5, 2) := by decide +kernel
theorem dX1_product_754 : decode cX1_product 754 = .ok (.lload 31, 2) := by decide +kernel
theorem dX1_product_756 : decode cX1_product 756 = .ok (.lmul, 1) := by decide +kernel
theorem dX1_product_757 : decode cX1_product 757 = .ok (.ladd, 1) := by decide +kernel
theorem dX1_product_758 : decode cX1_product 758 = .ok (.lload 7, 2) := by decide +kernel
theorem dX1_product_760 : decode cX1_product 760 = .ok (.lload 29, 2) := by decide +kernel
theorem dX1_product_762 : decode cX1_product 762 = .ok (.lmul, 1) := by decide +kernel
theorem dX1_product_763 : decode cX1_product 763 = .ok (.ladd, 1) := by decide +kernel
theorem dX1_product_764 : decode cX1_product 764 = .ok (.lload 9, 2) := by decide +kernel
theorem dX1_product_766 : decode cX1_product 766 = .ok (.lload 27, 2) := by decide +kernel
theorem dX1_product_768 : decode cX1_product 768 = .ok (.lmul, 1) := by decide +kernel
theorem dX1_product_769 : decode cX1_product 769 = .ok (.ladd, 1) := by decide +kernel
theorem dX1_product_770 : decode cX1_product 770 = .ok (.lload 11, 2) := by decide +kernel
theorem dX1_product_772 : decode cX1_product 772 = .ok (.lload 25, 2) := by decide +kernel
theorem dX1_product_774 : decode cX1_product 774 = .ok (.lmul, 1) := by decide +kernel
theorem dX1_product_775 : decode cX1_product 775 = .ok (.ladd, 1) := by decide +kernel
theorem dX1_product_776 : decode cX1_product 776 = .ok (.lload 13, 2) := by decide +kernel
theorem dX1_product_778 : decode cX1_product 778 = .ok (.lload 23, 2) := by decide +kernel
theorem dX1_product_780 : decode cX1_product 780 = .ok (.lmul, 1) := by decide +kernel
theorem dX1_product_781 : decode cX1_product 781 = .ok (.ladd, 1) := by decide +kernel
theorem dX1_product_782 : decode cX1_product 782 = .ok (.lload 15, 2) := by decide +kernel
theorem dX1_product_784 : decode cX1_product 784 = .ok (.lload 21, 2) := by decide +kernel
theorem dX1_product_786 : decode cX1_product 786 = .ok (.lmul, 1) := by decide +kernel
theorem dX1_product_787 : decode cX1_product 787 = .ok (.ladd, 1) := by decide +kernel
theorem dX1_product_788 : decode cX1_product 788 = .ok (.ldc2_w 63, 3) := by decide +kernel
theorem dX1_product_791 : decode cX1_product 791 = .ok (.lload 53, 2) := by decide +kernel
theorem dX1_product_793 : decode cX1_product 793 = .ok (.lmul, 1) := by decide +kernel
theorem dX1_product_794 : decode cX1_product 794 = .ok (.ladd, 1) := by decide +kernel
theorem dX1_product_795 : decode cX1_product 795 = .ok (.lload 51, 2) := by decide +kernel
theorem dX1_product_797 : decode cX1_product 797 = .ok (.bipush 8, 2) := by decide +kernel
theorem dX1_product_799 : decode cX1_product 799 = .ok (.lshl, 1) := by decide +kernel
theorem dX1_product_800 : decode cX1_product 800 = .ok (.ladd, 1) := by decide +kernel
theorem dX1_product_801 : decode cX1_product 801 = .ok (.lstore 39, 2) := by decide +kernel
theorem dX1_product_803 : decode cX1_product 803 = .ok (.aload_n 0, 1) := by decide +kernel
theorem dX1_product_804 : decode cX1_product 804 = .ok (.lload 39, 2) := by decide +kernel
theorem dX1_product_806 : decode cX1_product 806 = .ok (.ldc2_w 37, 3) := by decide +kernel
theorem dX1_product_809 : decode cX1_product 809 = .ok (.land, 1) := by decide +kernel
theorem dX1_product_810 : decode cX1_product 810 = .ok (.putfield 28, 3) := by decide +kernel
theorem dX1_product_813 : decode cX1_product 813 = .ok (.lload 39, 2) := by decide +kernel
theorem dX1_product_815 : decode cX1_product 815 = .ok (.bipush 29, 2) := by decide +kernel
theorem dX1_product_817 : decode cX1_product 817 = .ok (.lshr, 1) := by decide +kernel
theorem dX1_product_818 : decode cX1_product 818 = .ok (.lload_n 3, 1) := by decide +kernel
theorem dX1_product_819 : decode cX1_product 819 = .ok (.lload 35, 2) := by decide +kernel
theorem dX1_product_821 : decode cX1_product 821 = .ok (.lmul, 1) := by decide +kernel
theorem dX1_product_822 : decode cX1_product 822 = .ok (.ladd, 1) := by decide +kernel
theorem dX1_product_823 : decode cX1_product 823 = .ok (.lload 5, 2) := by decide +kernel
theorem dX1_product_825 : decode cX1_product 825 = .ok (.lload 33, 2) := by decide +kernel
theorem dX1_product_827 : decode cX1_product 827 = .ok (.lmul, 1) := by decide +kernel
theorem dX1_product_828 : decode cX1_product 828 = .ok (.ladd, 1) := by decide +kernel
theorem dX1_product_829 : decode cX1_product 829 = .ok (.lload 7, 2) := by decide +kernel
theorem dX1_product_831 : decode cX1_product 831 = .ok (.lload 31, 2) := by decide +kernel
theorem dX1_product_833 : decode cX1_product 833 = .ok (.lmul, 1) := by decide +kernel
theorem dX1_product_834 : decode cX1_product 834 = .ok (.ladd, 1) := by decide +kernel
theorem dX1_product_835 : decode cX1_product 835 = .ok (.lload 9, 2) := by decide +kernel
theorem dX1_product_837 : decode cX1_product 837 = .ok (.lload 29, 2) := by decide +kernel
theorem dX1_product_839 : decode cX1_product 839 = .ok (.lmul, 1) := by decide +kernel
theorem dX1_product_840 : decode cX1_product 840 = .ok (.ladd, 1) := by decide +kernel
theorem dX1_product_841 : decode cX1_product 841 = .ok (.lload 11, 2) := by decide +kernel
theorem dX1_product_843 : decode cX1_product 843 = .ok (.lload 27, 2) := by decide +kernel
theorem dX1_product_845 : decode cX1_product 845 = .ok (.lmul, 1) := by decide +kernel
theorem dX1_product_846 : decode cX1_product 846 = .ok (.ladd, 1) := by decide +kernel
theorem dX1_product_847 : decode cX1_product 847 = .ok (.lload 13, 2) := by decide +kernel
theorem dX1_product_849 : decode cX1_product 849 = .ok (.lload 25, 2) := by decide +kernel
theorem dX1_product_851 : decode cX1_product 851 = .ok (.lmul, 1) := by decide +kernel
theorem dX1_product_852 : decode cX1_product 852 = .ok (.ladd, 1) := by decide +kernel
theorem dX1_product_853 : decode cX1_product 853 = .ok (.lload 15, 2) := by decide +kernel
theorem dX1_product_855 : decode cX1_product 855 = .ok (.lload 23, 2) := by decide +kernel
theorem dX1_product_857 : decode cX1_product 857 = .ok (.lmul, 1) := by decide +kernel
theorem dX1_product_858 : decode cX1_product 858 = .ok (.ladd, 1) := by decide +kernel
theorem dX1_product_859 : decode cX1_product 859 = .ok (.lload 17, 2) := by decide +kernel
theorem dX1_product_861 : decode cX1_product 861 = .ok (.lload 21, 2) := by decide +kernel
theorem dX1_product_863 : decode cX1_product 863 = .ok (.lmul, 1) := by decide +kernel
theorem dX1_product_864 : decode cX1_product 864 = .ok (.ladd, 1) := by decide +kernel
theorem dX1_product_865 : decode cX1_product 865 = .ok (.ldc2_w 63, 3) := by decide +kernel
theorem dX1_product_868 : decode cX1_product 868 = .ok (.lload 55, 2) := by decide +kernel
theorem dX1_product_870 : decode cX1_product 870 = .ok (.lmul, 1) := by decide +kernel
theorem dX1_product_871 : decode cX1_product 871 = .ok (.ladd, 1) := by decide +kernel
theorem dX1_product_872 : decode cX1_product 872 = .ok (.lload 53, 2) := by decide +kernel
theorem dX1_product_874 : decode cX1_product 874 = .ok (.bipush 8, 2) := by decide +kernel
theorem dX1_product_876 : decode cX1_product 876 = .ok (.lshl, 1) := by decide +kernel
theorem dX1_product_877 : decode cX1_product 877 = .ok (.ladd, 1) := by decide +kernel
theorem dX1_product_878 : decode cX1_product 878 = .ok (.lstore 39, 2) := by decide +kernel
theorem dX1_product_880 : decode cX1_product 880 = .ok (.aload_n 0, 1) := by decide +kernel
theorem dX1_product_881 : decode cX1_product 881 = .ok (.lload 39, 2) := by decide +kernel
theorem dX1_product_883 : decode cX1_product 883 = .ok (.ldc2_w 37, 3) := by decide +kernel
theorem dX1_product_886 : decode cX1_product 886 = .ok (.land, 1) := by decide +kernel
theorem dX1_product_887 : decode cX1_product 887 = .ok (.putfield 31, 3) := by decide +kernel
theorem dX1_product_890 : decode cX1_product 890 = .ok (.lload 39, 2) := by decide +kernel
theorem dX1_product_892 : decode cX1_product 892 = .ok (.bipush 29, 2) := by decide +kernel
theorem dX1_product_894 : decode cX1_product 894 = .ok (.lshr, 1) := by decide +kernel
theorem dX1_product_895 : decode cX1_product 895 = .ok (.lload_n 3, 1) := by decide +kernel
theorem dX1_product_896 : decode cX1_product 896 = .ok (.lload 37, 2) := by decide +kernel
theorem dX1_product_898 : decode cX1_product 898 = .ok (.lmul, 1) := by decide +kernel
theorem dX1_product_899 : decode cX1_product 899 = .ok (.ladd, 1) := by decide +kernel
theorem dX1_product_900 : decode cX1_product 900 = .ok (.lload 5, 2) := by decide +kernel
theorem dX1_product_902 : decode cX1_product 902 = .ok (.lload 35, 2) := by decide +kernel
theorem dX1_product_904 : decode cX1_product 904 = .ok (.lmul, 1) := by decide +kernel
theorem dX1_product_905 : decode cX1_product 905 = .ok (.ladd, 1) := by decide +kernel
theorem dX1_product_906 : decode cX1_product 906 = .ok (.lload 7, 2) := by decide +kernel
theorem dX1_product_908 : decode cX1_product 908 = .ok (.lload 33, 2) := by decide +kernel
theorem dX1_product_910 : decode cX1_product 910 = .ok (.lmul, 1) := by decide +kernel
theorem dX1_product_911 : decode cX1_product 911 = .ok (.ladd, 1) := by decide +kernel
theorem dX1_product_912 : decode cX1_product 912 = .ok (.lload 9, 2) := by decide +kernel
theorem dX1_product_914 : decode cX1_product 914 = .ok (.lload 31, 2) := by decide +kernel
theorem dX1_product_916 : decode cX1_product 916 = .ok (.lmul, 1) := by decide +kernel
theorem dX1_product_917 : decode cX1_product 917 = .ok (.ladd, 1) := by decide +kernel
theorem dX1_product_918 : decode cX1_product 918 = .ok (.lload 11, 2) := by decide +kernel
theorem dX1_product_920 : decode cX1_product 920 = .ok (.lload 29, 2) := by decide +kernel
theorem dX1_product_922 : decode cX1_product 922 = .ok (.lmul, 1) := by decide +kernel
theorem dX1_product_923 : decode cX1_product 923 = .ok (.ladd, 1) := by decide +kernel
theorem dX1_product_924 : decode cX1_product 924 = .ok (.lload 13, 2) := by decide +kernel
theorem dX1_product_926 : decode cX1_product 926 = .ok (.lload 27, 2) := by decide +kernel
theorem dX1_product_928 : decode cX1_product 928 = .ok (.lmul, 1) := by decide +kernel
theorem dX1_product_929 : decode cX1_product 929 = .ok (.ladd, 1) := by decide +kernel
theorem dX1_product_930 : decode cX1_product 930 = .ok (.lload 15, 2) := by decide +kernel
theorem dX1_product_932 : decode cX1_product 932 = .ok (.lload 25, 2) := by decide +kernel
theorem dX1_product_934 : decode cX1_product 934 = .ok (.lmul, 1) := by decide +kernel
theorem dX1_product_935 : decode cX1_product 935 = .ok (.ladd, 1) := by decide +kernel
theorem dX1_product_936 : decode cX1_product 936 = .ok (.lload 17, 2) := by decide +kernel
theorem dX1_product_938 : decode cX1_product 938 = .ok (.lload 23, 2) := by decide +kernel
theorem dX1_product_940 : decode cX1_product 940 = .ok (.lmul, 1) := by decide +kernel
theorem dX1_product_941 : decode cX1_product 941 = .ok (.ladd, 1) := by decide +kernel
theorem dX1_product_942 : decode cX1_product 942 = .ok (.lload 19, 2) := by decide +kernel
theorem dX1_product_944 : decode cX1_product 944 = .ok (.lload 21, 2) := by decide +kernel
theorem dX1_product_946 : decode cX1_product 946 = .ok (.lmul, 1) := by decide +kernel
theorem dX1_product_947 : decode cX1_product 947 = .ok (.ladd, 1) := by decide +kernel
theorem dX1_product_948 : decode cX1_product 948 = .ok (.ldc2_w 63, 3) := by decide +kernel
theorem dX1_product_951 : decode cX1_product 951 = .ok (.lload 57, 2) := by decide +kernel
theorem dX1_product_953 : decode cX1_product 953 = .ok (.lmul, 1) := by decide +kernel
theorem dX1_product_954 : decode cX1_product 954 = .ok (.ladd, 1) := by decide +kernel
theorem dX1_product_955 : decode cX1_product 955 = .ok (.lload 55, 2) := by decide +kernel
theorem dX1_product_957 : decode cX1_product 957 = .ok (.bipush 8, 2) := by decide +kernel
theorem dX1_product_959 : decode cX1_product 959 = .ok (.lshl, 1) := by decide +kernel
theorem dX1_product_960 : decode cX1_product 960 = .ok (.ladd, 1) := by decide +kernel
theorem dX1_product_961 : decode cX1_product 961 = .ok (.lstore 39, 2) := by decide +kernel
theorem dX1_product_963 : decode cX1_product 963 = .ok (.aload_n 0, 1) := by decide +kernel
theorem dX1_product_964 : decode cX1_product 964 = .ok (.lload 39, 2) := by decide +kernel
theorem dX1_product_966 : decode cX1_product 966 = .ok (.ldc2_w 65, 3) := by decide +kernel
theorem dX1_product_969 : decode cX1_product 969 = .ok (.land, 1) := by decide +kernel
theorem dX1_product_970 : decode cX1_product 970 = .ok (.putfield 34, 3) := by decide +kernel
theorem dX1_product_973 : decode cX1_product 973 = .ok (.lload 39, 2) := by decide +kernel
theorem dX1_product_975 : decode cX1_product 975 = .ok (.bipush 24, 2) := by decide +kernel
theorem dX1_product_977 : decode cX1_product 977 = .ok (.lshr, 1) := by decide +kernel
theorem dX1_product_978 : decode cX1_product 978 = .ok (.lstore 59, 2) := by decide +kernel
theorem dX1_product_980 : decode cX1_product 980 = .ok (.aload_n 0, 1) := by decide +kernel
theorem dX1_product_981 : decode cX1_product 981 = .ok (.getfield 7, 3) := by decide +kernel
theorem dX1_product_984 : decode cX1_product 984 = .ok (.lload 59, 2) := by decide +kernel
theorem dX1_product_986 : decode cX1_product 986 = .ok (.ldc2_w 67, 3) := by decide +kernel
theorem dX1_product_989 : decode cX1_product 989 = .ok (.lmul, 1) := by decide +kernel
theorem dX1_product_990 : decode cX1_product 990 = .ok (.ladd, 1) := by decide +kernel
theorem dX1_product_991 : decode cX1_product 991 = .ok (.lstore 39, 2) := by decide +kernel
theorem dX1_product_993 : decode cX1_product 993 = .ok (.aload_n 0, 1) := by decide +kernel
theorem dX1_product_994 : decode cX1_product 994 = .ok (.lload 39, 2) := by decide +kernel
theorem dX1_product_996 : decode cX1_product 996 = .ok (.ldc2_w 37, 3) := by decide +kernel
theorem dX1_product_999 : decode cX1_product 999 = .ok (.land, 1) := by decide +kernel
theorem dX1_product_1000 : decode cX1_product 1000 = .ok (.putfield 7, 3) := by decide +kernel
theorem dX1_product_1003 : decode cX1_product 1003 = .ok (.lload 39, 2) := by decide +kernel
theorem dX1_product_1005 : decode cX1_product 1005 = .ok (.bipush 29, 2) := by decide +kernel
theorem dX1_product_1007 : decode cX1_product 1007 = .ok (.lshr, 1) := by decide +kernel
theorem dX1_product_1008 : decode cX1_product 1008 = .ok (.aload_n 0, 1) := by decide +kernel
theorem dX1_product_1009 : decode cX1_product 1009 = .ok (.getfield 13, 3) := by decide +kernel
theorem dX1_product_1012 : decode cX1_product 1012 = .ok (.ladd, 1) := by decide +kernel
theorem dX1_product_1013 : decode cX1_product 1013 = .ok (.lload 59, 2) := by decide +kernel
theorem dX1_product_1015 : decode cX1_product 1015 = .ok (.iconst 3, 1) := by decide +kernel
theorem dX1_product_1016 : decode cX1_product 1016 = .ok (.lshl, 1) := by decide +kernel
theorem dX1_product_1017 : decode cX1_product 1017 = .ok (.ladd, 1) := by decide +kernel
theorem dX1_product_1018 : decode cX1_product 1018 = .ok (.lstore 39, 2) := by decide +kernel
theorem dX1_product_1020 : decode cX1_product 1020 = .ok (.aload_n 0, 1) := by decide +kernel
theorem dX1_product_1021 : decode cX1_product 1021 = .ok (.lload 39, 2) := by decide +kernel
theorem dX1_product_1023 : decode cX1_product 1023 = .ok (.ldc2_w 37, 3) := by decide +kernel
theorem dX1_product_1026 : decode cX1_product 1026 = .ok (.land, 1) := by decide +kernel
theorem dX1_product_1027 : decode cX1_product 1027 = .ok (.putfield 13, 3) := by decide +kernel
theorem dX1_product_1030 : decode cX1_product 1030 = .ok (.aload_n 0, 1) := by decide +kernel
theorem dX1_product_1031 : decode cX1_product 1031 = .ok (.dup, 1) := by decide +kernel
theorem dX1_product_1032 : decode cX1_product 1032 = .ok (.getfield 16, 3) := by decide +kernel
theorem dX1_product_1035 : decode cX1_product 1035 = .ok (.lload 39, 2) := by decide +kernel
theorem dX1_product_1037 : decode cX1_product 1037 = .ok (.bipush 29, 2) := by decide +kernel
theorem dX1_product_1039 : decode cX1_product 1039 = .ok (.lshr, 1) := by decide +kernel
theorem dX1_product_1040 : decode cX1_product 1040 = .ok (.ladd, 1) := by decide +kernel
theorem dX1_product_1041 : decode cX1_product 1041 = .ok (.putfield 16, 3) := by decide +kernel
theorem dX1_product_1044 : decode cX1_product 1044 = .ok (.return_, 1) := by decide +kernel
