set_option maxRecDepth 20000 in
theorem ggX12_twice_X12_isNull : GoodIn wsX12_twice wsX12_isNull := goodIn_r _ [13] rfl (by decide +kernel)
set_option maxRecDepth 20000 in
theorem gX12_twice_X12_isNull : GoodIn wsX12_twice (va_wsS RX12 377 yX12_isNull wsX12_isNull) := goodIn_app (goodIn_of _ (by decide +kernel)) ggX12_twice_X12_isNull
set_option maxRecDepth 20000 in
theorem ggX12_twice_X12_times : GoodIn wsX12_twice wsX12_times := goodIn_r _ [17, 18, 19, 20, 21, 22, 12, 23, 24, 25, 26, 27, 28, 29, 30, 31, 32, 33, 34, 47, 48, 49, 50, 51, 52, 53, 54, 55, 56, 57, 58, 59, 60, 61, 62, 63, 64, 65, 66, 67, 68, 69, 70, 71, 72, 73, 74, 75, 76, 77, 78, 79, 80, 81, 82, 83, 84, 85, 86, 87, 88, 89, 90, 91, 92, 93, 94, 95, 96, 97, 98, 99, 100, 101, 102, 103, 104, 105, 106, 107, 108, 109, 110, 111, 112, 113, 114, 115, 116, 117, 118, 119, 120, 121, 122, 123, 124, 125, 126, 127] rfl (by decide +kernel)
set_option maxRecDepth 20000 in
theorem gX12_twice_X12_times : GoodIn wsX12_twice (wsV RX12 393 RX12 yX12_times wsX12_times) := goodIn_app (goodIn_of _ (by decide +kernel)) ggX12_twice_X12_times
set_option maxRecDepth 20000 in
theorem ggX12_twice_X12_add : GoodIn wsX12_twice wsX12_add := goodIn_r _ [38, 18, 19, 20, 21, 22, 12, 23, 24, 25, 26, 27, 28, 29, 30, 31, 32, 33, 34, 47, 48, 49, 50, 51, 52, 53, 54, 55, 56, 57, 58, 59, 60, 61, 62, 63, 64, 65, 66, 67, 68, 69, 70, 71, 72, 73, 74, 75, 76, 77, 78, 79, 80, 81, 82, 83, 84, 85, 86, 87, 88, 89, 90, 91, 92, 93, 94, 95, 96, 97, 98, 99, 100, 101, 102, 103, 104, 105, 106, 107, 108, 109, 110, 111, 112, 113, 114, 115, 116, 117, 118, 119, 120, 121, 122, 123, 124, 125, 126, 127] rfl (by decide +kernel)
set_option maxRecDepth 20000 in
theorem gX12_twice_X12_add : GoodIn wsX12_twice (wsV RX12 385 RX12 yX12_add wsX12_add) := goodIn_app (goodIn_of _ (by decide +kernel)) ggX12_twice_X12_add
set_option maxRecDepth 20000 in
theorem ggX12_twice_X12_less : GoodIn wsX12_twice wsX12_less := goodIn_r _ [42, 43, 27, 28, 10, 11, 12, 13, 44, 45, 46, 32, 33, 34, 19, 35, 36, 37, 38, 18, 20, 21, 22, 23, 24, 25, 26, 29, 30, 31, 47, 48, 49, 50, 51, 52, 53, 54, 55, 56, 57, 58, 59, 60, 61, 62, 63, 64, 65, 66, 67, 68, 69, 70, 71, 72, 73, 74, 75, 76, 77, 78, 79, 80, 81, 82, 83, 84, 85, 86, 87, 88, 89, 90, 91, 92, 93, 94, 95, 96, 97, 98, 99, 100, 101, 102, 103, 104, 105, 106, 107, 108, 109, 110, 111, 112, 113, 114, 115, 116, 117, 118, 119, 120, 121, 122, 123, 124, 125, 126, 127] rfl (by decide +kernel)
set_option maxRecDepth 20000 in
theorem gX12_twice_X12_less : GoodIn wsX12_twice (wsV RX12 396 RX12 yX12_less wsX12_less) := goodIn_app (goodIn_of _ (by decide +kernel)) ggX12_twice_X12_less
theorem dX12_twice_0 : decode cX12_twice 0 = .ok (.aload_n 0, 1) := by decide +kernel
theorem dX12_twice_1 : decode cX12_twice 1 = .ok (.getfield 173, 3) := by decide +kernel
theorem dX12_twice_4 : decode cX12_twice 4 = .ok (.invokestatic 377, 3) := by decide +kernel
theorem dX12_twice_7 : decode cX12_twice 7 = .ok (.ifCond .eq 4, 3) := by decide +kernel
theorem dX12_twice_10 : decode cX12_twice 10 = .ok (.return_, 1) := by decide +kernel
theorem dX12_twice_11 : decode cX12_twice 11 = .ok (.aload_n 0, 1) := by decide +kernel
theorem dX12_twice_12 : decode cX12_twice 12 = .ok (.aload_n 0, 1) := by decide +kernel
theorem dX12_twice_13 : decode cX12_twice 13 = .ok (.getfield 182, 3) := by decide +kernel
theorem dX12_twice_16 : decode cX12_twice 16 = .ok (.aload_n 0, 1) := by decide +kernel
theorem dX12_twice_17 : decode cX12_twice 17 = .ok (.getfield 167, 3) := by decide +kernel
theorem dX12_twice_20 : decode cX12_twice 20 = .ok (.aload_n 0, 1) := by decide +kernel
theorem dX12_twice_21 : decode cX12_twice 21 = .ok (.getfield 167, 3) := by decide +kernel
theorem dX12_twice_24 : decode cX12_twice 24 = .ok (.iconst 0, 1) := by decide +kernel
theorem dX12_twice_25 : decode cX12_twice 25 = .ok (.invokevirtual 393, 3) := by decide +kernel
theorem dX12_twice_28 : decode cX12_twice 28 = .ok (.aload_n 0, 1) := by decide +kernel
theorem dX12_twice_29 : decode cX12_twice 29 = .ok (.aload_n 0, 1) := by decide +kernel
theorem dX12_twice_30 : decode cX12_twice 30 = .ok (.getfield 185, 3) := by decide +kernel
theorem dX12_twice_33 : decode cX12_twice 33 = .ok (.aload_n 0, 1) := by decide +kernel
theorem dX12_twice_34 : decode cX12_twice 34 = .ok (.getfield 170, 3) := by decide +kernel
theorem dX12_twice_37 : decode cX12_twice 37 = .ok (.aload_n 0, 1) := by decide +kernel
theorem dX12_twice_38 : decode cX12_twice 38 = .ok (.getfield 170, 3) := by decide +kernel
theorem dX12_twice_41 : decode cX12_twice 41 = .ok (.iconst 0, 1) := by decide +kernel
theorem dX12_twice_42 : decode cX12_twice 42 = .ok (.invokevirtual 393, 3) := by decide +kernel
theorem dX12_twice_45 : decode cX12_twice 45 = .ok (.aload_n 0, 1) := by decide +kernel
theorem dX12_twice_46 : decode cX12_twice 46 = .ok (.aload_n 0, 1) := by decide +kernel
theorem dX12_twice_47 : decode cX12_twice 47 = .ok (.getfield 188, 3) := by decide +kernel
theorem dX12_twice_50 : decode cX12_twice 50 = .ok (.aload_n 0, 1) := by decide +kernel
theorem dX12_twice_51 : decode cX12_twice 51 = .ok (.getfield 185, 3) := by decide +kernel
theorem dX12_twice_54 : decode cX12_twice 54 = .ok (.aload_n 0, 1) := by decide +kernel
theorem dX12_twice_55 : decode cX12_twice 55 = .ok (.getfield 185, 3) := by decide +kernel
theorem dX12_twice_58 : decode cX12_twice 58 = .ok (.iconst 0, 1) := by decide +kernel
theorem dX12_twice_59 : decode cX12_twice 59 = .ok (.invokevirtual 393, 3) := by decide +kernel
theorem dX12_twice_62 : decode cX12_twice 62 = .ok (.aload_n 0, 1) := by decide +kernel
theorem dX12_twice_63 : decode cX12_twice 63 = .ok (.aload_n 0, 1) := by decide +kernel
theorem dX12_twice_64 : decode cX12_twice 64 = .ok (.getfield 191, 3) := by decide +kernel
theorem dX12_twice_67 : decode cX12_twice 67 = .ok (.aload_n 0, 1) := by decide +kernel
theorem dX12_twice_68 : decode cX12_twice 68 = .ok (.getfield 167, 3) := by decide +kernel
theorem dX12_twice_71 : decode cX12_twice 71 = .ok (.aload_n 0, 1) := by decide +kernel
theorem dX12_twice_72 : decode cX12_twice 72 = .ok (.getfield 185, 3) := by decide +kernel
theorem dX12_twice_75 : decode cX12_twice 75 = .ok (.iconst 0, 1) := by decide +kernel
theorem dX12_twice_76 : decode cX12_twice 76 = .ok (.invokevirtual 385, 3) := by decide +kernel
theorem dX12_twice_79 : decode cX12_twice 79 = .ok (.aload_n 0, 1) := by decide +kernel
theorem dX12_twice_80 : decode cX12_twice 80 = .ok (.aload_n 0, 1) := by decide +kernel
theorem dX12_twice_81 : decode cX12_twice 81 = .ok (.getfield 191, 3) := by decide +kernel
theorem dX12_twice_84 : decode cX12_twice 84 = .ok (.aload_n 0, 1) := by decide +kernel
theorem dX12_twice_85 : decode cX12_twice 85 = .ok (.getfield 191, 3) := by decide +kernel
theorem dX12_twice_88 : decode cX12_twice 88 = .ok (.aload_n 0, 1) := by decide +kernel
theorem dX12_twice_89 : decode cX12_twice 89 = .ok (.getfield 191, 3) := by decide +kernel
theorem dX12_twice_92 : decode cX12_twice 92 = .ok (.iconst 0, 1) := by decide +kernel
theorem dX12_twice_93 : decode cX12_twice 93 = .ok (.invokevirtual 393, 3) := by decide +kernel
theorem dX12_twice_96 : decode cX12_twice 96 = .ok (.aload_n 0, 1) := by decide +kernel
theorem dX12_twice_97 : decode cX12_twice 97 = .ok (.aload_n 0, 1) := by decide +kernel
theorem dX12_twice_98 : decode cX12_twice 98 = .ok (.getfield 191, 3) := by decide +kernel
theorem dX12_twice_101 : decode cX12_twice 101 = .ok (.aload_n 0, 1) := by decide +kernel
theorem dX12_twice_102 : decode cX12_twice 102 = .ok (.getfield 191, 3) := by decide +kernel
theorem dX12_twice_105 : decode cX12_twice 105 = .ok (.aload_n 0, 1) := by decide +kernel
theorem dX12_twice_106 : decode cX12_twice 106 = .ok (.getfield 182, 3) := by decide +kernel
theorem dX12_twice_109 : decode cX12_twice 109 = .ok (.iconst 0, 1) := by decide +kernel
theorem dX12_twice_110 : decode cX12_twice 110 = .ok (.invokevirtual 396, 3) := by decide +kernel
theorem dX12_twice_113 : decode cX12_twice 113 = .ok (.aload_n 0, 1) := by decide +kernel
theorem dX12_twice_114 : decode cX12_twice 114 = .ok (.aload_n 0, 1) := by decide +kernel
theorem dX12_twice_115 : decode cX12_twice 115 = .ok (.getfield 191, 3) := by decide +kernel
theorem dX12_twice_118 : decode cX12_twice 118 = .ok (.aload_n 0, 1) := by decide +kernel
theorem dX12_twice_119 : decode cX12_twice 119 = .ok (.getfield 191, 3) := by decide +kernel
theorem dX12_twice_122 : decode cX12_twice 122 = .ok (.aload_n 0, 1) := by decide +kernel
theorem dX12_twice_123 : decode cX12_twice 123 = .ok (.getfield 188, 3) := by decide +kernel
theorem dX12_twice_126 : decode cX12_twice 126 = .ok (.iconst 0, 1) := by decide +kernel
theorem dX12_twice_127 : decode cX12_twice 127 = .ok (.invokevirtual 396, 3) := by decide +kernel
theorem dX12_twice_130 : decode cX12_twice 130 = .ok (.aload_n 0, 1) := by decide +kernel
theorem dX12_twice_131 : decode cX12_twice 131 = .ok (.aload_n 0, 1) := by decide +kernel
theorem dX12_twice_132 : decode cX12_twice 132 = .ok (.getfield 191, 3) := by decide +kernel
theorem dX12_twice_135 : decode cX12_twice 135 = .ok (.aload_n 0, 1) := by decide +kernel
theorem dX12_twice_136 : decode cX12_twice 136 = .ok (.getfield 191, 3) := by decide +kernel
theorem dX12_twice_139 : decode cX12_twice 139 = .ok (.aload_n 0, 1) := by decide +kernel
theorem dX12_twice_140 : decode cX12_twice 140 = .ok (.getfield 191, 3) := by decide +kernel
theorem dX12_twice_143 : decode cX12_twice 143 = .ok (.iconst 0, 1) := by decide +kernel
theorem dX12_twice_144 : decode cX12_twice 144 = .ok (.invokevirtual 385, 3) := by decide +kernel
theorem dX12_twice_147 : decode cX12_twice 147 = .ok (.aload_n 0, 1) := by decide +kernel
theorem dX12_twice_148 : decode cX12_twice 148 = .ok (.aload_n 0, 1) := by decide +kernel
theorem dX12_twice_149 : decode cX12_twice 149 = .ok (.getfield 194, 3) := by decide +kernel
theorem dX12_twice_152 : decode cX12_twice 152 = .ok (.aload_n 0, 1) := by decide +kernel
theorem dX12_twice_153 : decode cX12_twice 153 = .ok (.getfield 182, 3) := by decide +kernel
theorem dX12_twice_156 : decode cX12_twice 156 = .ok (.aload_n 0, 1) := by decide +kernel
theorem dX12_twice_157 : decode cX12_twice 157 = .ok (.getfield 182, 3) := by decide +kernel
theorem dX12_twice_160 : decode cX12_twice 160 = .ok (.iconst 0, 1) := by decide +kernel
theorem dX12_twice_161 : decode cX12_twice 161 = .ok (.invokevirtual 385, 3) := by decide +kernel
theorem dX12_twice_164 : decode cX12_twice 164 = .ok (.aload_n 0, 1) := by decide +kernel
theorem dX12_twice_165 : decode cX12_twice 165 = .ok (.aload_n 0, 1) := by decide +kernel
theorem dX12_twice_166 : decode cX12_twice 166 = .ok (.getfield 194, 3) := by decide +kernel
theorem dX12_twice_169 : decode cX12_twice 169 = .ok (.aload_n 0, 1) := by decide +kernel
theorem dX12_twice_170 : decode cX12_twice 170 = .ok (.getfield 194, 3) := by decide +kernel
theorem dX12_twice_173 : decode cX12_twice 173 = .ok (.aload_n 0, 1) := by decide +kernel
theorem dX12_twice_174 : decode cX12_twice 174 = .ok (.getfield 182, 3) := by decide +kernel
theorem dX12_twice_177 : decode cX12_twice 177 = .ok (.iconst 0, 1) := by decide +kernel
theorem dX12_twice_178 : decode cX12_twice 178 = .ok (.invokevirtual 385, 3) := by decide +kernel
theorem dX12_twice_181 : decode cX12_twice 181 = .ok (.aload_n 0, 1) := by decide +kernel
theorem dX12_twice_182 : decode cX12_twice 182 = .ok (.aload_n 0, 1) := by decide +kernel
theorem dX12_twice_183 : decode cX12_twice 183 = .ok (.getfield 173, 3) := by decide +kernel
theorem dX12_twice_186 : decode cX12_twice 186 = .ok (.aload_n 0, 1) := by decide +kernel
theorem dX12_twice_187 : decode cX12_twice 187 = .ok (.getfield 170, 3) := by decide +kernel
theorem dX12_twice_190 : decode cX12_twice 190 = .ok (.aload_n 0, 1) := by decide +kernel
theorem dX12_twice_191 : decode cX12_twice 191 = .ok (.getfield 173, 3) := by decide +kernel
theorem dX12_twice_194 : decode cX12_twice 194 = .ok (.iconst 0, 1) := by decide +kernel
theorem dX12_twice_195 : decode cX12_twice 195 = .ok (.invokevirtual 393, 3) := by decide +kernel
theorem dX12_twice_198 : decode cX12_twice 198 = .ok (.aload_n 0, 1) := by decide +kernel
theorem dX12_twice_199 : decode cX12_twice 199 = .ok (.aload_n 0, 1) := by decide +kernel
theorem dX12_twice_200 : decode cX12_twice 200 = .ok (.getfield 173, 3) := by decide +kernel
theorem dX12_twice_203 : decode cX12_twice 203 = .ok (.aload_n 0, 1) := by decide +kernel
theorem dX12_twice_204 : decode cX12_twice 204 = .ok (.getfield 173, 3) := by decide +kernel
theorem dX12_twice_207 : decode cX12_twice 207 = .ok (.aload_n 0, 1) := by decide +kernel
theorem dX12_twice_208 : decode cX12_twice 208 = .ok (.getfield 173, 3) := by decide +kernel
theorem dX12_twice_211 : decode cX12_twice 211 = .ok (.iconst 0, 1) := by decide +kernel
theorem dX12_twice_212 : decode cX12_twice 212 = .ok (.invokevirtual 385, 3) := by decide +kernel
theorem dX12_twice_215 : decode cX12_twice 215 = .ok (.aload_n 0, 1) := by decide +kernel
theorem dX12_twice_216 : decode cX12_twice 216 = .ok (.aload_n 0, 1) := by decide +kernel
theorem dX12_twice_217 : decode cX12_twice 217 = .ok (.getfield 197, 3) := by decide +kernel
theorem dX12_twice_220 : decode cX12_twice 220 = .ok (.aload_n 0, 1) := by decide +kernel
theorem dX12_twice_221 : decode cX12_twice 221 = .ok (.getfield 194, 3) := by decide +kernel
theorem dX12_twice_224 : decode cX12_twice 224 = .ok (.aload_n 0, 1) := by decide +kernel
theorem dX12_twice_225 : decode cX12_twice 225 = .ok (.getfield 194, 3) := by decide +kernel
theorem dX12_twice_228 : decode cX12_twice 228 = .ok (.iconst 0, 1) := by decide +kernel
theorem dX12_twice_229 : decode cX12_twice 229 = .ok (.invokevirtual 393, 3) := by decide +kernel
theorem dX12_twice_232 : decode cX12_twice 232 = .ok (.aload_n 0, 1) := by decide +kernel
theorem dX12_twice_233 : decode cX12_twice 233 = .ok (.aload_n 0, 1) := by decide +kernel
theorem dX12_twice_234 : decode cX12_twice 234 = .ok (.getfield 197, 3) := by decide +kernel
theorem dX12_twice_237 : decode cX12_twice 237 = .ok (.aload_n 0, 1) := by decide +kernel
theorem dX12_twice_238 : decode cX12_twice 238 = .ok (.getfield 197, 3) := by decide +kernel
theorem dX12_twice_241 : decode cX12_twice 241 = .ok (.aload_n 0, 1) := by decide +kernel
theorem dX12_twice_242 : decode cX12_twice 242 = .ok (.getfield 191, 3) := by decide +kernel
theorem dX12_twice_245 : decode cX12_twice 245 = .ok (.iconst 0, 1) := by decide +kernel
theorem dX12_twice_246 : decode cX12_twice 246 = .ok (.invokevirtual 396, 3) := by decide +kernel
theorem dX12_twice_249 : decode cX12_twice 249 = .ok (.aload_n 0, 1) := by decide +kernel
theorem dX12_twice_250 : decode cX12_twice 250 = .ok (.aload_n 0, 1) := by decide +kernel
theorem dX12_twice_251 : decode cX12_twice 251 = .ok (.getfield 167, 3) := by decide +kernel
theorem dX12_twice_254 : decode cX12_twice 254 = .ok (.aload_n 0, 1) := by decide +kernel
theorem dX12_twice_255 : decode cX12_twice 255 = .ok (.getfield 197, 3) := by decide +kernel
theorem dX12_twice_258 : decode cX12_twice 258 = .ok (.aload_n 0, 1) := by decide +kernel
theorem dX12_twice_259 : decode cX12_twice 259 = .ok (.getfield 191, 3) := by decide +kernel
theorem dX12_twice_262 : decode cX12_twice 262 = .ok (.iconst 0, 1) := by decide +kernel
theorem dX12_twice_263 : decode cX12_twice 263 = .ok (.invokevirtual 396, 3) := by decide +kernel
theorem dX12_twice_266 : decode cX12_twice 266 = .ok (.aload_n 0, 1) := by decide +kernel
theorem dX12_twice_267 : decode cX12_twice 267 = .ok (.aload_n 0, 1) := by decide +kernel
theorem dX12_twice_268 : decode cX12_twice 268 = .ok (.getfield 191, 3) := by decide +kernel
theorem dX12_twice_271 : decode cX12_twice 271 = .ok (.aload_n 0, 1) := by decide +kernel
theorem dX12_twice_272 : decode cX12_twice 272 = .ok (.getfield 191, 3) := by decide +kernel
theorem dX12_twice_275 : decode cX12_twice 275 = .ok (.aload_n 0, 1) := by decide +kernel
theorem dX12_twice_276 : decode cX12_twice 276 = .ok (.getfield 167, 3) := by decide +kernel
theorem dX12_twice_279 : decode cX12_twice 279 = .ok (.iconst 0, 1) := by decide +kernel
theorem dX12_twice_280 : decode cX12_twice 280 = .ok (.invokevirtual 396, 3) := by decide +kernel
theorem dX12_twice_283 : decode cX12_twice 283 = .ok (.aload_n 0, 1) := by decide +kernel
theorem dX12_twice_284 : decode cX12_twice 284 = .ok (.aload_n 0, 1) := by decide +kernel
theorem dX12_twice_285 : decode cX12_twice 285 = .ok (.getfield 170, 3) := by decide +kernel
theorem dX12_twice_288 : decode cX12_twice 288 = .ok (.aload_n 0, 1) := by decide +kernel
theorem dX12_twice_289 : decode cX12_twice 289 = .ok (.getfield 194, 3) := by decide +kernel
theorem dX12_twice_292 : decode cX12_twice 292 = .ok (.aload_n 0, 1) := by decide +kernel
theorem dX12_twice_293 : decode cX12_twice 293 = .ok (.getfield 191, 3) := by decide +kernel
theorem dX12_twice_296 : decode cX12_twice 296 = .ok (.iconst 0, 1) := by decide +kernel
theorem dX12_twice_297 : decode cX12_twice 297 = .ok (.invokevirtual 393, 3) := by decide +kernel
theorem dX12_twice_300 : decode cX12_twice 300 = .ok (.aload_n 0, 1) := by decide +kernel
theorem dX12_twice_301 : decode cX12_twice 301 = .ok (.aload_n 0, 1) := by decide +kernel
theorem dX12_twice_302 : decode cX12_twice 302 = .ok (.getfield 188, 3) := by decide +kernel
theorem dX12_twice_305 : decode cX12_twice 305 = .ok (.aload_n 0, 1) := by decide +kernel
theorem dX12_twice_306 : decode cX12_twice 306 = .ok (.getfield 188, 3) := by decide +kernel
theorem dX12_twice_309 : decode cX12_twice 309 = .ok (.aload_n 0, 1) := by decide +kernel
theorem dX12_twice_310 : decode cX12_twice 310 = .ok (.getfield 188, 3) := by decide +kernel
theorem dX12_twice_313 : decode cX12_twice 313 = .ok (.iconst 0, 1) := by decide +kernel
theorem dX12_twice_314 : decode cX12_twice 314 = .ok (.invokevirtual 385, 3) := by decide +kernel
theorem dX12_twice_317 : decode cX12_twice 317 = .ok (.aload_n 0, 1) := by decide +kernel
theorem dX12_twice_318 : decode cX12_twice 318 = .ok (.aload_n 0, 1) := by decide +kernel
theorem dX12_twice_319 : decode cX12_twice 319 = .ok (.getfield 188, 3) := by decide +kernel
theorem dX12_twice_322 : decode cX12_twice 322 = .ok (.aload_n 0, 1) := by decide +kernel
theorem dX12_twice_323 : decode cX12_twice 323 = .ok (.getfield 188, 3) := by decide +kernel
theorem dX12_twice_326 : decode cX12_twice 326 = .ok (.aload_n 0, 1) := by decide +kernel
theorem dX12_twice_327 : decode cX12_twice 327 = .ok (.getfield 188, 3) := by decide +kernel
theorem dX12_twice_330 : decode cX12_twice 330 = .ok (.iconst 0, 1) := by decide +kernel
theorem dX12_twice_331 : decode cX12_twice 331 = .ok (.invokevirtual 385, 3) := by decide +kernel
theorem dX12_twice_334 : decode cX12_twice 334 = .ok (.aload_n 0, 1) := by decide +kernel
theorem dX12_twice_335 : decode cX12_twice 335 = .ok (.aload_n 0, 1) := by decide +kernel
theorem dX12_twice_336 : decode cX12_twice 336 = .ok (.getfield 188, 3) := by decide +kernel
theorem dX12_twice_339 : decode cX12_twice 339 = .ok (.aload_n 0, 1) := by decide +kernel
theorem dX12_twice_340 : decode cX12_twice 340 = .ok (.getfield 188, 3) := by decide +kernel
theorem dX12_twice_343 : decode cX12_twice 343 = .ok (.aload_n 0, 1) := by decide +kernel
theorem dX12_twice_344 : decode cX12_twice 344 = .ok (.getfield 188, 3) := by decide +kernel
theorem dX12_twice_347 : decode cX12_twice 347 = .ok (.iconst 0, 1) := by decide +kernel
theorem dX12_twice_348 : decode cX12_twice 348 = .ok (.invokevirtual 385, 3) := by decide +kernel
theorem dX12_twice_351 : decode cX12_twice 351 = .ok (.aload_n 0, 1) := by decide +kernel
theorem dX12_twice_352 : decode cX12_twice 352 = .ok (.aload_n 0, 1) := by decide +kernel
theorem dX12_twice_353 : decode cX12_twice 353 = .ok (.getfield 170, 3) := by decide +kernel
theorem dX12_twice_356 : decode cX12_twice 356 = .ok (.aload_n 0, 1) := by decide +kernel
theorem dX12_twice_357 : decode cX12_twice 357 = .ok (.getfield 170, 3) := by decide +kernel
theorem dX12_twice_360 : decode cX12_twice 360 = .ok (.aload_n 0, 1) := by decide +kernel
theorem dX12_twice_361 : decode cX12_twice 361 = .ok (.getfield 188, 3) := by decide +kernel
theorem dX12_twice_364 : decode cX12_twice 364 = .ok (.iconst 0, 1) := by decide +kernel
theorem dX12_twice_365 : decode cX12_twice 365 = .ok (.invokevirtual 396, 3) := by decide +kernel
theorem dX12_twice_368 : decode cX12_twice 368 = .ok (.return_, 1) := by decide +kernel
set_option maxRecDepth 20000 in
theorem ggX12_plus_X12_isNull : GoodIn wsX12_plus wsX12_isNull := goodIn_r _ [15] rfl (by decide +kernel)
set_option maxRecDepth 20000 in
theorem gX12_plus_X12_isNull : GoodIn wsX12_plus (va_wsS RX12 377 yX12_isNull wsX12_isNull) := goodIn_app (goodIn_of _ (by decide +kernel)) ggX12_plus_X12_isNull
set_option maxRecDepth 20000 in
theorem ggX12_plus_X12_set : GoodIn wsX12_plus wsX12_set := goodIn_r _ [18] rfl (by decide +kernel)
set_option maxRecDepth 20000 in
theorem gX12_plus_X12_set : GoodIn wsX12_plus (va_wsS RX12 381 yX12_set wsX12_set) := goodIn_app (goodIn_of _ (by decide +kernel)) ggX12_plus_X12_set
set_option maxRecDepth 20000 in
theorem ggX12_plus_X12_small : GoodIn wsX12_plus wsX12_small := goodIn_r _ [21, 22] rfl (by decide +kernel)
set_option maxRecDepth 20000 in
theorem gX12_plus_X12_small : GoodIn wsX12_plus (va_wsS RX12 389 yX12_small wsX12_small) := goodIn_app (goodIn_of _ (by decide +kernel)) ggX12_plus_X12_small
set_option maxRecDepth 20000 in
theorem ggX12_plus_X12_times : GoodIn wsX12_plus wsX12_times := goodIn_r _ [26, 27, 22, 28, 29, 30, 14, 31, 32, 33, 34, 35, 36, 37, 38, 39, 40, 41, 42, 56, 57, 58, 59, 60, 61, 62, 63, 64, 65, 66, 67, 68, 69, 70, 71, 72, 73, 74, 75, 76, 77, 78, 79, 80, 81, 82, 83, 84, 85, 86, 87, 88, 89, 90, 91, 92, 93, 94, 95, 96, 97, 98, 99, 100, 101, 102, 103, 104, 105, 106, 107, 108, 109, 110, 111, 112, 113, 114, 115, 116, 117, 118, 119, 120, 121, 122, 123, 124, 125, 126, 127, 128, 129, 130, 131, 132, 133, 134, 135, 136] rfl (by decide +kernel)
set_option maxRecDepth 20000 in
theorem gX12_plus_X12_times : GoodIn wsX12_plus (wsV RX12 393 RX12 yX12_times wsX12_times) := goodIn_app (goodIn_of _ (by decide +kernel)) ggX12_plus_X12_times
set_option maxRecDepth 20000 in
theorem ggX12_plus_X12_less : GoodIn wsX12_plus wsX12_less := goodIn_r _ [46, 47, 35, 36, 12, 13, 14, 15, 16, 17, 18, 40, 41, 42, 22, 48, 49, 50, 51, 27, 28, 29, 30, 31, 32, 33, 34, 37, 38, 39, 56, 57, 58, 59, 60, 61, 62, 63, 64, 65, 66, 67, 68, 69, 70, 71, 72, 73, 74, 75, 76, 77, 78, 79, 80, 81, 82, 83, 84, 85, 86, 87, 88, 89, 90, 91, 92, 93, 94, 95, 96, 97, 98, 99, 100, 101, 102, 103, 104, 105, 106, 107, 108, 109, 110, 111, 112, 113, 114, 115, 116, 117, 118, 119, 120, 121, 122, 123, 124, 125, 126, 127, 128, 129, 130, 131, 132, 133, 134, 135, 136] rfl (by decide +kernel)
set_option maxRecDepth 20000 in
theorem gX12_plus_X12_less : GoodIn wsX12_plus (wsV RX12 396 RX12 yX12_less wsX12_less) := goodIn_app (goodIn_of _ (by decide +kernel)) ggX12_plus_X12_less
set_option maxRecDepth 20000 in
theorem ggX12_plus_X12_twice : GoodIn wsX12_plus wsX12_twice := goodIn_r _ [55, 1, 6, 2, 7, 4, 8, 9, 10, 11, 12, 13, 14, 15, 23, 24, 25, 26, 27, 22, 28, 29, 30, 31, 32, 33, 34, 35, 36, 37, 38, 39, 40, 41, 42, 48, 49, 50, 51, 43, 44, 45, 46, 47, 16, 17, 18, 56, 57, 58, 59, 60, 61, 62, 63, 64, 65, 66, 67, 68, 69, 70, 71, 72, 73, 74, 75, 76, 77, 78, 79, 80, 81, 82, 83, 84, 85, 86, 87, 88, 89, 90, 91, 92, 93, 94, 95, 96, 97, 98, 99, 100, 101, 102, 103, 104, 105, 106, 107, 108, 109, 110, 111, 112, 113, 114, 115, 116, 117, 118, 119, 120, 121, 122, 123, 124, 125, 126, 127, 128, 129, 130, 131, 132, 133, 134, 135, 136] rfl (by decide +kernel)
set_option maxRecDepth 20000 in
theorem gX12_plus_X12_twice : GoodIn wsX12_plus (wsV RX12 399 RX12 yX12_twice wsX12_twice) := goodIn_app (goodIn_of _ (by decide +kernel)) ggX12_plus_X12_twice
theorem dX12_plus_0 : decode cX12_plus 0 = .ok (.aload_n 0, 1) := by decide +kernel
theorem dX12_plus_1 : decode cX12_plus 1 = .ok (.getfield 173, 3) := by decide +kernel
theorem dX12_plus_4 : decode cX12_plus 4 = .ok (.invokestatic 377, 3) := by decide +kernel
theorem dX12_plus_7 : decode cX12_plus 7 = .ok (.ifCond .eq 34, 3) := by decide +kernel
theorem dX12_plus_10 : decode cX12_plus 10 = .ok (.aload_n 0, 1) := by decide +kernel
theorem dX12_plus_11 : decode cX12_plus 11 = .ok (.getfield 167, 3) := by decide +kernel
theorem dX12_plus_14 : decode cX12_plus 14 = .ok (.aload_n 0, 1) := by decide +kernel
theorem dX12_plus_15 : decode cX12_plus 15 = .ok (.getfield 176, 3) := by decide +kernel
theorem dX12_plus_18 : decode cX12_plus 18 = .ok (.invokestatic 381, 3) := by decide +kernel
theorem dX12_plus_21 : decode cX12_plus 21 = .ok (.aload_n 0, 1) := by decide +kernel
theorem dX12_plus_22 : decode cX12_plus 22 = .ok (.getfield 170, 3) := by decide +kernel
theorem dX12_plus_25 : decode cX12_plus 25 = .ok (.aload_n 0, 1) := by decide +kernel
theorem dX12_plus_26 : decode cX12_plus 26 = .ok (.getfield 179, 3) := by decide +kernel
theorem dX12_plus_29 : decode cX12_plus 29 = .ok (.invokestatic 381, 3) := by decide +kernel
theorem dX12_plus_32 : decode cX12_plus 32 = .ok (.aload_n 0, 1) := by decide +kernel
theorem dX12_plus_33 : decode cX12_plus 33 = .ok (.getfield 173, 3) := by decide +kernel
theorem dX12_plus_36 : decode cX12_plus 36 = .ok (.lconst 1, 1) := by decide +kernel
theorem dX12_plus_37 : decode cX12_plus 37 = .ok (.invokestatic 389, 3) := by decide +kernel
theorem dX12_plus_40 : decode cX12_plus 40 = .ok (.return_, 1) := by decide +kernel
theorem dX12_plus_41 : decode cX12_plus 41 = .ok (.aload_n 0, 1) := by decide +kernel
theorem dX12_plus_42 : decode cX12_plus 42 = .ok (.aload_n 0, 1) := by decide +kernel
theorem dX12_plus_43 : decode cX12_plus 43 = .ok (.getfield 182, 3) := by decide +kernel
theorem dX12_plus_46 : decode cX12_plus 46 = .ok (.aload_n 0, 1) := by decide +kernel
theorem dX12_plus_47 : decode cX12_plus 47 = .ok (.getfield 173, 3) := by decide +kernel
theorem dX12_plus_50 : decode cX12_plus 50 = .ok (.aload_n 0, 1) := by decide +kernel
theorem dX12_plus_51 : decode cX12_plus 51 = .ok (.getfield 173, 3) := by decide +kernel
theorem dX12_plus_54 : decode cX12_plus 54 = .ok (.iconst 0, 1) := by decide +kernel
theorem dX12_plus_55 : decode cX12_plus 55 = .ok (.invokevirtual 393, 3) := by decide +kernel
theorem dX12_plus_58 : decode cX12_plus 58 = .ok (.aload_n 0, 1) := by decide +kernel
theorem dX12_plus_59 : decode cX12_plus 59 = .ok (.aload_n 0, 1) := by decide +kernel
theorem dX12_plus_60 : decode cX12_plus 60 = .ok (.getfield 185, 3) := by decide +kernel
theorem dX12_plus_63 : decode cX12_plus 63 = .ok (.aload_n 0, 1) := by decide +kernel
theorem dX12_plus_64 : decode cX12_plus 64 = .ok (.getfield 176, 3) := by decide +kernel
theorem dX12_plus_67 : decode cX12_plus 67 = .ok (.aload_n 0, 1) := by decide +kernel
theorem dX12_plus_68 : decode cX12_plus 68 = .ok (.getfield 182, 3) := by decide +kernel
theorem dX12_plus_71 : decode cX12_plus 71 = .ok (.iconst 0, 1) := by decide +kernel
theorem dX12_plus_72 : decode cX12_plus 72 = .ok (.invokevirtual 393, 3) := by decide +kernel
theorem dX12_plus_75 : decode cX12_plus 75 = .ok (.aload_n 0, 1) := by decide +kernel
theorem dX12_plus_76 : decode cX12_plus 76 = .ok (.aload_n 0, 1) := by decide +kernel
theorem dX12_plus_77 : decode cX12_plus 77 = .ok (.getfield 182, 3) := by decide +kernel
theorem dX12_plus_80 : decode cX12_plus 80 = .ok (.aload_n 0, 1) := by decide +kernel
theorem dX12_plus_81 : decode cX12_plus 81 = .ok (.getfield 182, 3) := by decide +kernel
theorem dX12_plus_84 : decode cX12_plus 84 = .ok (.aload_n 0, 1) := by decide +kernel
theorem dX12_plus_85 : decode cX12_plus 85 = .ok (.getfield 173, 3) := by decide +kernel
theorem dX12_plus_88 : decode cX12_plus 88 = .ok (.iconst 0, 1) := by decide +kernel
theorem dX12_plus_89 : decode cX12_plus 89 = .ok (.invokevirtual 393, 3) := by decide +kernel
theorem dX12_plus_92 : decode cX12_plus 92 = .ok (.aload_n 0, 1) := by decide +kernel
theorem dX12_plus_93 : decode cX12_plus 93 = .ok (.aload_n 0, 1) := by decide +kernel
theorem dX12_plus_94 : decode cX12_plus 94 = .ok (.getfield 188, 3) := by decide +kernel
theorem dX12_plus_97 : decode cX12_plus 97 = .ok (.aload_n 0, 1) := by decide +kernel
theorem dX12_plus_98 : decode cX12_plus 98 = .ok (.getfield 179, 3) := by decide +kernel
theorem dX12_plus_101 : decode cX12_plus 101 = .ok (.aload_n 0, 1) := by decide +kernel
theorem dX12_plus_102 : decode cX12_plus 102 = .ok (.getfield 182, 3) := by decide +kernel
theorem dX12_plus_105 : decode cX12_plus 105 = .ok (.iconst 0, 1) := by decide +kernel
theorem dX12_plus_106 : decode cX12_plus 106 = .ok (.invokevirtual 393, 3) := by decide +kernel
theorem dX12_plus_109 : decode cX12_plus 109 = .ok (.aload_n 0, 1) := by decide +kernel
theorem dX12_plus_110 : decode cX12_plus 110 = .ok (.aload_n 0, 1) := by decide +kernel
theorem dX12_plus_111 : decode cX12_plus 111 = .ok (.getfield 185, 3) := by decide +kernel
theorem dX12_plus_114 : decode cX12_plus 114 = .ok (.aload_n 0, 1) := by decide +kernel
theorem dX12_plus_115 : decode cX12_plus 115 = .ok (.getfield 185, 3) := by decide +kernel
theorem dX12_plus_118 : decode cX12_plus 118 = .ok (.aload_n 0, 1) := by decide +kernel
theorem dX12_plus_119 : decode cX12_plus 119 = .ok (.getfield 167, 3) := by decide +kernel
theorem dX12_plus_122 : decode cX12_plus 122 = .ok (.iconst 0, 1) := by decide +kernel
theorem dX12_plus_123 : decode cX12_plus 123 = .ok (.invokevirtual 396, 3) := by decide +kernel
theorem dX12_plus_126 : decode cX12_plus 126 = .ok (.aload_n 0, 1) := by decide +kernel
theorem dX12_plus_127 : decode cX12_plus 127 = .ok (.aload_n 0, 1) := by decide +kernel
theorem dX12_plus_128 : decode cX12_plus 128 = .ok (.getfield 188, 3) := by decide +kernel
theorem dX12_plus_131 : decode cX12_plus 131 = .ok (.aload_n 0, 1) := by decide +kernel
theorem dX12_plus_132 : decode cX12_plus 132 = .ok (.getfield 188, 3) := by decide +kernel
theorem dX12_plus_135 : decode cX12_plus 135 = .ok (.aload_n 0, 1) := by decide +kernel
theorem dX12_plus_136 : decode cX12_plus 136 = .ok (.getfield 170, 3) := by decide +kernel
theorem dX12_plus_139 : decode cX12_plus 139 = .ok (.iconst 0, 1) := by decide +kernel
theorem dX12_plus_140 : decode cX12_plus 140 = .ok (.invokevirtual 396, 3) := by decide +kernel
theorem dX12_plus_143 : decode cX12_plus 143 = .ok (.aload_n 0, 1) := by decide +kernel
theorem dX12_plus_144 : decode cX12_plus 144 = .ok (.getfield 185, 3) := by decide +kernel
theorem dX12_plus_147 : decode cX12_plus 147 = .ok (.invokestatic 377, 3) := by decide +kernel
theorem dX12_plus_150 : decode cX12_plus 150 = .ok (.ifCond .eq 29, 3) := by decide +kernel
theorem dX12_plus_153 : decode cX12_plus 153 = .ok (.aload_n 0, 1) := by decide +kernel
theorem dX12_plus_154 : decode cX12_plus 154 = .ok (.getfield 188, 3) := by decide +kernel
theorem dX12_plus_157 : decode cX12_plus 157 = .ok (.invokestatic 377, 3) := by decide +kernel
theorem dX12_plus_160 : decode cX12_plus 160 = .ok (.ifCond .eq 10, 3) := by decide +kernel
theorem dX12_plus_163 : decode cX12_plus 163 = .ok (.aload_n 0, 1) := by decide +kernel
theorem dX12_plus_164 : decode cX12_plus 164 = .ok (.invokevirtual 399, 3) := by decide +kernel
theorem dX12_plus_167 : decode cX12_plus 167 = .ok (.goto 11, 3) := by decide +kernel
theorem dX12_plus_170 : decode cX12_plus 170 = .ok (.aload_n 0, 1) := by decide +kernel
theorem dX12_plus_171 : decode cX12_plus 171 = .ok (.getfield 173, 3) := by decide +kernel
theorem dX12_plus_174 : decode cX12_plus 174 = .ok (.lconst 0, 1) := by decide +kernel
theorem dX12_plus_175 : decode cX12_plus 175 = .ok (.invokestatic 389, 3) := by decide +kernel
theorem dX12_plus_178 : decode cX12_plus 178 = .ok (.return_, 1) := by decide +kernel
theorem dX12_plus_179 : decode cX12_plus 179 = .ok (.aload_n 0, 1) := by decide +kernel
theorem dX12_plus_180 : decode cX12_plus 180 = .ok (.aload_n 0, 1) := by decide +kernel
theorem dX12_plus_181 : decode cX12_plus 181 = .ok (.getfield 173, 3) := by decide +kernel
theorem dX12_plus_184 : decode cX12_plus 184 = .ok (.aload_n 0, 1) := by decide +kernel
theorem dX12_plus_185 : decode cX12_plus 185 = .ok (.getfield 173, 3) := by decide +kernel
theorem dX12_plus_188 : decode cX12_plus 188 = .ok (.aload_n 0, 1) := by decide +kernel
theorem dX12_plus_189 : decode cX12_plus 189 = .ok (.getfield 185, 3) := by decide +kernel
theorem dX12_plus_192 : decode cX12_plus 192 = .ok (.iconst 0, 1) := by decide +kernel
theorem dX12_plus_193 : decode cX12_plus 193 = .ok (.invokevirtual 393, 3) := by decide +kernel
theorem dX12_plus_196 : decode cX12_plus 196 = .ok (.aload_n 0, 1) := by decide +kernel
theorem dX12_plus_197 : decode cX12_plus 197 = .ok (.aload_n 0, 1) := by decide +kernel
theorem dX12_plus_198 : decode cX12_plus 198 = .ok (.getfield 191, 3) := by decide +kernel
theorem dX12_plus_201 : decode cX12_plus 201 = .ok (.aload_n 0, 1) := by decide +kernel
theorem dX12_plus_202 : decode cX12_plus 202 = .ok (.getfield 185, 3) := by decide +kernel
theorem dX12_plus_205 : decode cX12_plus 205 = .ok (.aload_n 0, 1) := by decide +kernel
theorem dX12_plus_206 : decode cX12_plus 206 = .ok (.getfield 185, 3) := by decide +kernel
theorem dX12_plus_209 : decode cX12_plus 209 = .ok (.iconst 0, 1) := by decide +kernel
theorem dX12_plus_210 : decode cX12_plus 210 = .ok (.invokevirtual 393, 3) := by decide +kernel
theorem dX12_plus_213 : decode cX12_plus 213 = .ok (.aload_n 0, 1) := by decide +kernel
theorem dX12_plus_214 : decode cX12_plus 214 = .ok (.aload_n 0, 1) := by decide +kernel
theorem dX12_plus_215 : decode cX12_plus 215 = .ok (.getfield 194, 3) := by decide +kernel
theorem dX12_plus_218 : decode cX12_plus 218 = .ok (.aload_n 0, 1) := by decide +kernel
theorem dX12_plus_219 : decode cX12_plus 219 = .ok (.getfield 191, 3) := by decide +kernel
theorem dX12_plus_222 : decode cX12_plus 222 = .ok (.aload_n 0, 1) := by decide +kernel
theorem dX12_plus_223 : decode cX12_plus 223 = .ok (.getfield 185, 3) := by decide +kernel
theorem dX12_plus_226 : decode cX12_plus 226 = .ok (.iconst 0, 1) := by decide +kernel
theorem dX12_plus_227 : decode cX12_plus 227 = .ok (.invokevirtual 393, 3) := by decide +kernel
theorem dX12_plus_230 : decode cX12_plus 230 = .ok (.aload_n 0, 1) := by decide +kernel
theorem dX12_plus_231 : decode cX12_plus 231 = .ok (.aload_n 0, 1) := by decide +kernel
theorem dX12_plus_232 : decode cX12_plus 232 = .ok (.getfield 191, 3) := by decide +kernel
theorem dX12_plus_235 : decode cX12_plus 235 = .ok (.aload_n 0, 1) := by decide +kernel
theorem dX12_plus_236 : decode cX12_plus 236 = .ok (.getfield 191, 3) := by decide +kernel
theorem dX12_plus_239 : decode cX12_plus 239 = .ok (.aload_n 0, 1) := by decide +kernel
theorem dX12_plus_240 : decode cX12_plus 240 = .ok (.getfield 167, 3) := by decide +kernel
theorem dX12_plus_243 : decode cX12_plus 243 = .ok (.iconst 0, 1) := by decide +kernel
theorem dX12_plus_244 : decode cX12_plus 244 = .ok (.invokevirtual 393, 3) := by decide +kernel
theorem dX12_plus_247 : decode cX12_plus 247 = .ok (.aload_n 0, 1) := by decide +kernel
theorem dX12_plus_248 : decode cX12_plus 248 = .ok (.aload_n 0, 1) := by decide +kernel
theorem dX12_plus_249 : decode cX12_plus 249 = .ok (.getfield 197, 3) := by decide +kernel
theorem dX12_plus_252 : decode cX12_plus 252 = .ok (.aload_n 0, 1) := by decide +kernel
theorem dX12_plus_253 : decode cX12_plus 253 = .ok (.getfield 188, 3) := by decide +kernel
theorem dX12_plus_256 : decode cX12_plus 256 = .ok (.aload_n 0, 1) := by decide +kernel
theorem dX12_plus_257 : decode cX12_plus 257 = .ok (.getfield 188, 3) := by decide +kernel
theorem dX12_plus_260 : decode cX12_plus 260 = .ok (.iconst 0, 1) := by decide +kernel
theorem dX12_plus_261 : decode cX12_plus 261 = .ok (.invokevirtual 393, 3) := by decide +kernel
theorem dX12_plus_264 : decode cX12_plus 264 = .ok (.aload_n 0, 1) := by decide +kernel
theorem dX12_plus_265 : decode cX12_plus 265 = .ok (.aload_n 0, 1) := by decide +kernel
theorem dX12_plus_266 : decode cX12_plus 266 = .ok (.getfield 197, 3) := by decide +kernel
theorem dX12_plus_269 : decode cX12_plus 269 = .ok (.aload_n 0, 1) := by decide +kernel
theorem dX12_plus_270 : decode cX12_plus 270 = .ok (.getfield 197, 3) := by decide +kernel
theorem dX12_plus_273 : decode cX12_plus 273 = .ok (.aload_n 0, 1) := by decide +kernel
theorem dX12_plus_274 : decode cX12_plus 274 = .ok (.getfield 194, 3) := by decide +kernel
theorem dX12_plus_277 : decode cX12_plus 277 = .ok (.iconst 0, 1) := by decide +kernel
theorem dX12_plus_278 : decode cX12_plus 278 = .ok (.invokevirtual 396, 3) := by decide +kernel
theorem dX12_plus_281 : decode cX12_plus 281 = .ok (.aload_n 0, 1) := by decide +kernel
theorem dX12_plus_282 : decode cX12_plus 282 = .ok (.aload_n 0, 1) := by decide +kernel
theorem dX12_plus_283 : decode cX12_plus 283 = .ok (.getfield 197, 3) := by decide +kernel
theorem dX12_plus_286 : decode cX12_plus 286 = .ok (.aload_n 0, 1) := by decide +kernel
theorem dX12_plus_287 : decode cX12_plus 287 = .ok (.getfield 197, 3) := by decide +kernel
theorem dX12_plus_290 : decode cX12_plus 290 = .ok (.aload_n 0, 1) := by decide +kernel
theorem dX12_plus_291 : decode cX12_plus 291 = .ok (.getfield 191, 3) := by decide +kernel
theorem dX12_plus_294 : decode cX12_plus 294 = .ok (.iconst 0, 1) := by decide +kernel
theorem dX12_plus_295 : decode cX12_plus 295 = .ok (.invokevirtual 396, 3) := by decide +kernel
theorem dX12_plus_298 : decode cX12_plus 298 = .ok (.aload_n 0, 1) := by decide +kernel
theorem dX12_plus_299 : decode cX12_plus 299 = .ok (.aload_n 0, 1) := by decide +kernel
theorem dX12_plus_300 : decode cX12_plus 300 = .ok (.getfield 167, 3) := by decide +kernel
theorem dX12_plus_303 : decode cX12_plus 303 = .ok (.aload_n 0, 1) := by decide +kernel
theorem dX12_plus_304 : decode cX12_plus 304 = .ok (.getfield 197, 3) := by decide +kernel
theorem dX12_plus_307 : decode cX12_plus 307 = .ok (.aload_n 0, 1) := by decide +kernel
theorem dX12_plus_308 : decode cX12_plus 308 = .ok (.getfield 191, 3) := by decide +kernel
theorem dX12_plus_311 : decode cX12_plus 311 = .ok (.iconst 0, 1) := by decide +kernel
theorem dX12_plus_312 : decode cX12_plus 312 = .ok (.invokevirtual 396, 3) := by decide +kernel
theorem dX12_plus_315 : decode cX12_plus 315 = .ok (.aload_n 0, 1) := by decide +kernel
theorem dX12_plus_316 : decode cX12_plus 316 = .ok (.aload_n 0, 1) := by decide +kernel
theorem dX12_plus_317 : decode cX12_plus 317 = .ok (.getfield 191, 3) := by decide +kernel
theorem dX12_plus_320 : decode cX12_plus 320 = .ok (.aload_n 0, 1) := by decide +kernel
theorem dX12_plus_321 : decode cX12_plus 321 = .ok (.getfield 191, 3) := by decide +kernel
theorem dX12_plus_324 : decode cX12_plus 324 = .ok (.aload_n 0, 1) := by decide +kernel
theorem dX12_plus_325 : decode cX12_plus 325 = .ok (.getfield 167, 3) := by decide +kernel
theorem dX12_plus_328 : decode cX12_plus 328 = .ok (.iconst 0, 1) := by decide +kernel
theorem dX12_plus_329 : decode cX12_plus 329 = .ok (.invokevirtual 396, 3) := by decide +kernel
theorem dX12_plus_332 : decode cX12_plus 332 = .ok (.aload_n 0, 1) := by decide +kernel
theorem dX12_plus_333 : decode cX12_plus 333 = .ok (.aload_n 0, 1) := by decide +kernel
theorem dX12_plus_334 : decode cX12_plus 334 = .ok (.getfield 191, 3) := by decide +kernel
theorem dX12_plus_337 : decode cX12_plus 337 = .ok (.aload_n 0, 1) := by decide +kernel
theorem dX12_plus_338 : decode cX12_plus 338 = .ok (.getfield 191, 3) := by decide +kernel
theorem dX12_plus_341 : decode cX12_plus 341 = .ok (.aload_n 0, 1) := by decide +kernel
theorem dX12_plus_342 : decode cX12_plus 342 = .ok (.getfield 188, 3) := by decide +kernel
theorem dX12_plus_345 : decode cX12_plus 345 = .ok (.iconst 0, 1) := by decide +kernel
theorem dX12_plus_346 : decode cX12_plus 346 = .ok (.invokevirtual 393, 3) := by decide +kernel
theorem dX12_plus_349 : decode cX12_plus 349 = .ok (.aload_n 0, 1) := by decide +kernel
theorem dX12_plus_350 : decode cX12_plus 350 = .ok (.aload_n 0, 1) := by decide +kernel
theorem dX12_plus_351 : decode cX12_plus 351 = .ok (.getfield 194, 3) := by decide +kernel
theorem dX12_plus_354 : decode cX12_plus 354 = .ok (.aload_n 0, 1) := by decide +kernel
theorem dX12_plus_355 : decode cX12_plus 355 = .ok (.getfield 194, 3) := by decide +kernel
theorem dX12_plus_358 : decode cX12_plus 358 = .ok (.aload_n 0, 1) := by decide +kernel
theorem dX12_plus_359 : decode cX12_plus 359 = .ok (.getfield 170, 3) := by decide +kernel
theorem dX12_plus_362 : decode cX12_plus 362 = .ok (.iconst 0, 1) := by decide +kernel
theorem dX12_plus_363 : decode cX12_plus 363 = .ok (.invokevirtual 393, 3) := by decide +kernel
theorem dX12_plus_366 : decode cX12_plus 366 = .ok (.aload_n 0, 1) := by decide +kernel
theorem dX12_plus_367 : decode cX12_plus 367 = .ok (.aload_n 0, 1) := by decide +kernel
theorem dX12_plus_368 : decode cX12_plus 368 = .ok (.getfield 170, 3) := by decide +kernel
theorem dX12_plus_371 : decode cX12_plus 371 = .ok (.aload_n 0, 1) := by decide +kernel
theorem dX12_plus_372 : decode cX12_plus 372 = .ok (.getfield 191, 3) := by decide +kernel
theorem dX12_plus_375 : decode cX12_plus 375 = .ok (.aload_n 0, 1) := by decide +kernel
theorem dX12_plus_376 : decode cX12_plus 376 = .ok (.getfield 194, 3) := by decide +kernel
theorem dX12_plus_379 : decode cX12_plus 379 = .ok (.iconst 0, 1) := by decide +kernel
theorem dX12_plus_380 : decode cX12_plus 380 = .ok (.invokevirtual 396, 3) := by decide +kernel
theorem dX12_plus_383 : decode cX12_plus 383 = .ok (.return_, 1) := by decide +kernel
set_option maxRecDepth 20000 in
theorem ggX12_plain_X12_isNull : GoodIn wsX12_plain wsX12_isNull := goodIn_r _ [10] rfl (by decide +kernel)
set_option maxRecDepth 20000 in
theorem gX12_plain_X12_isNull : GoodIn wsX12_plain (va_wsS RX12 377 yX12_isNull wsX12_isNull) := goodIn_app (goodIn_of _ (by decide +kernel)) ggX12_plain_X12_isNull
set_option maxRecDepth 20000 in
theorem ggX12_plain_X12_raise : GoodIn wsX12_plain wsX12_raise := goodIn_r _ [14, 15, 16, 17, 18, 9, 19, 20, 21, 22, 23, 24, 25, 26, 27, 28, 29, 30, 31, 32, 33, 34, 35, 36, 37, 38, 39, 40, 41, 42, 43, 44, 45, 46, 47, 48, 49, 50, 51, 52, 53, 54, 55, 56, 57, 58, 59, 60, 61, 62, 63, 64, 65, 66, 67, 68, 69, 70, 71, 72, 73, 74, 75, 76, 77, 78, 79, 80, 81, 82, 83, 84, 85, 86, 87, 88, 89, 90, 91, 92, 93, 94, 95, 96, 97, 98, 99, 100, 101, 102, 103, 104, 105, 106, 107, 108, 109, 110, 111, 112, 113, 114, 115, 116, 117, 118, 119, 120, 121, 122, 123, 124] rfl (by decide +kernel)
set_option maxRecDepth 20000 in
theorem gX12_plain_X12_raise : GoodIn wsX12_plain (wsV RX12 402 RX12 yX12_raise wsX12_raise) := goodIn_app (goodIn_of _ (by decide +kernel)) ggX12_plain_X12_raise
set_option maxRecDepth 20000 in
theorem ggX12_plain_X12_times : GoodIn wsX12_plain wsX12_times := goodIn_r _ [27, 28, 23, 29, 30, 31, 9, 32, 33, 34, 35, 36, 37, 38, 39, 40, 41, 42, 43, 44, 45, 46, 47, 48, 49, 50, 51, 52, 53, 54, 55, 56, 57, 58, 59, 60, 61, 62, 63, 64, 65, 66, 67, 68, 69, 70, 71, 72, 73, 74, 75, 76, 77, 78, 79, 80, 81, 82, 83, 84, 85, 86, 87, 88, 89, 90, 91, 92, 93, 94, 95, 96, 97, 98, 99, 100, 101, 102, 103, 104, 105, 106, 107, 108, 109, 110, 111, 112, 113, 114, 115, 116, 117, 118, 119, 120, 121, 122, 123, 124] rfl (by decide +kernel)
set_option maxRecDepth 20000 in
theorem gX12_plain_X12_times : GoodIn wsX12_plain (wsV RX12 393 RX12 yX12_times wsX12_times) := goodIn_app (goodIn_of _ (by decide +kernel)) ggX12_plain_X12_times
set_option maxRecDepth 20000 in
theorem ggX12_plain_X12_small : GoodIn wsX12_plain wsX12_small := goodIn_r _ [22, 23] rfl (by decide +kernel)
set_option maxRecDepth 20000 in
theorem gX12_plain_X12_small : GoodIn wsX12_plain (va_wsS RX12 389 yX12_small wsX12_small) := goodIn_app (goodIn_of _ (by decide +kernel)) ggX12_plain_X12_small
theorem dX12_plain_0 : decode cX12_plain 0 = .ok (.aload_n 0, 1) := by decide +kernel
theorem dX12_plain_1 : decode cX12_plain 1 = .ok (.getfield 173, 3) := by decide +kernel
theorem dX12_plain_4 : decode cX12_plain 4 = .ok (.invokestatic 377, 3) := by decide +kernel
theorem dX12_plain_7 : decode cX12_plain 7 = .ok (.ifCond .eq 4, 3) := by decide +kernel
theorem dX12_plain_10 : decode cX12_plain 10 = .ok (.return_, 1) := by decide +kernel
theorem dX12_plain_11 : decode cX12_plain 11 = .ok (.aload_n 0, 1) := by decide +kernel
theorem dX12_plain_12 : decode cX12_plain 12 = .ok (.aload_n 0, 1) := by decide +kernel
theorem dX12_plain_13 : decode cX12_plain 13 = .ok (.getfield 182, 3) := by decide +kernel
theorem dX12_plain_16 : decode cX12_plain 16 = .ok (.aload_n 0, 1) := by decide +kernel
theorem dX12_plain_17 : decode cX12_plain 17 = .ok (.getfield 173, 3) := by decide +kernel
theorem dX12_plain_20 : decode cX12_plain 20 = .ok (.aload_n 0, 1) := by decide +kernel
theorem dX12_plain_21 : decode cX12_plain 21 = .ok (.getfield 48, 3) := by decide +kernel
theorem dX12_plain_24 : decode cX12_plain 24 = .ok (.invokevirtual 402, 3) := by decide +kernel
theorem dX12_plain_27 : decode cX12_plain 27 = .ok (.aload_n 0, 1) := by decide +kernel
theorem dX12_plain_28 : decode cX12_plain 28 = .ok (.aload_n 0, 1) := by decide +kernel
theorem dX12_plain_29 : decode cX12_plain 29 = .ok (.getfield 185, 3) := by decide +kernel
theorem dX12_plain_32 : decode cX12_plain 32 = .ok (.aload_n 0, 1) := by decide +kernel
theorem dX12_plain_33 : decode cX12_plain 33 = .ok (.getfield 182, 3) := by decide +kernel
theorem dX12_plain_36 : decode cX12_plain 36 = .ok (.aload_n 0, 1) := by decide +kernel
theorem dX12_plain_37 : decode cX12_plain 37 = .ok (.getfield 182, 3) := by decide +kernel
theorem dX12_plain_40 : decode cX12_plain 40 = .ok (.iconst 0, 1) := by decide +kernel
theorem dX12_plain_41 : decode cX12_plain 41 = .ok (.invokevirtual 393, 3) := by decide +kernel
theorem dX12_plain_44 : decode cX12_plain 44 = .ok (.aload_n 0, 1) := by decide +kernel
theorem dX12_plain_45 : decode cX12_plain 45 = .ok (.aload_n 0, 1) := by decide +kernel
theorem dX12_plain_46 : decode cX12_plain 46 = .ok (.getfield 167, 3) := by decide +kernel
theorem dX12_plain_49 : decode cX12_plain 49 = .ok (.aload_n 0, 1) := by decide +kernel
theorem dX12_plain_50 : decode cX12_plain 50 = .ok (.getfield 167, 3) := by decide +kernel
theorem dX12_plain_53 : decode cX12_plain 53 = .ok (.aload_n 0, 1) := by decide +kernel
theorem dX12_plain_54 : decode cX12_plain 54 = .ok (.getfield 185, 3) := by decide +kernel
theorem dX12_plain_57 : decode cX12_plain 57 = .ok (.iconst 0, 1) := by decide +kernel
theorem dX12_plain_58 : decode cX12_plain 58 = .ok (.invokevirtual 393, 3) := by decide +kernel
theorem dX12_plain_61 : decode cX12_plain 61 = .ok (.aload_n 0, 1) := by decide +kernel
theorem dX12_plain_62 : decode cX12_plain 62 = .ok (.aload_n 0, 1) := by decide +kernel
theorem dX12_plain_63 : decode cX12_plain 63 = .ok (.getfield 185, 3) := by decide +kernel
theorem dX12_plain_66 : decode cX12_plain 66 = .ok (.aload_n 0, 1) := by decide +kernel
theorem dX12_plain_67 : decode cX12_plain 67 = .ok (.getfield 185, 3) := by decide +kernel
theorem dX12_plain_70 : decode cX12_plain 70 = .ok (.aload_n 0, 1) := by decide +kernel
theorem dX12_plain_71 : decode cX12_plain 71 = .ok (.getfield 182, 3) := by decide +kernel
theorem dX12_plain_74 : decode cX12_plain 74 = .ok (.iconst 0, 1) := by decide +kernel
theorem dX12_plain_75 : decode cX12_plain 75 = .ok (.invokevirtual 393, 3) := by decide +kernel
theorem dX12_plain_78 : decode cX12_plain 78 = .ok (.aload_n 0, 1) := by decide +kernel
theorem dX12_plain_79 : decode cX12_plain 79 = .ok (.aload_n 0, 1) := by decide +kernel
theorem dX12_plain_80 : decode cX12_plain 80 = .ok (.getfield 170, 3) := by decide +kernel
theorem dX12_plain_83 : decode cX12_plain 83 = .ok (.aload_n 0, 1) := by decide +kernel
theorem dX12_plain_84 : decode cX12_plain 84 = .ok (.getfield 170, 3) := by decide +kernel
theorem dX12_plain_87 : decode cX12_plain 87 = .ok (.aload_n 0, 1) := by decide +kernel
theorem dX12_plain_88 : decode cX12_plain 88 = .ok (.getfield 185, 3) := by decide +kernel
theorem dX12_plain_91 : decode cX12_plain 91 = .ok (.iconst 0, 1) := by decide +kernel
theorem dX12_plain_92 : decode cX12_plain 92 = .ok (.invokevirtual 393, 3) := by decide +kernel
theorem dX12_plain_95 : decode cX12_plain 95 = .ok (.aload_n 0, 1) := by decide +kernel
theorem dX12_plain_96 : decode cX12_plain 96 = .ok (.getfield 173, 3) := by decide +kernel
theorem dX12_plain_99 : decode cX12_plain 99 = .ok (.lconst 1, 1) := by decide +kernel
theorem dX12_plain_100 : decode cX12_plain 100 = .ok (.invokestatic 389, 3) := by decide +kernel
theorem dX12_plain_103 : decode cX12_plain 103 = .ok (.return_, 1) := by decide +kernel
set_option maxRecDepth 20000 in
theorem ggX12_multiply_X12_small : GoodIn wsX12_multiply wsX12_small := goodIn_r _ [5, 6] rfl (by decide +kernel)
set_option maxRecDepth 20000 in
theorem gX12_multiply_X12_small : GoodIn wsX12_multiply (va_wsS RX12 389 yX12_small wsX12_small) := goodIn_app (goodIn_of _ (by decide +kernel)) ggX12_multiply_X12_small
set_option maxRecDepth 20000 in
theorem ggX12_multiply_X12_twice : GoodIn wsX12_multiply wsX12_twice := goodIn_r _ [10, 1, 11, 12, 13, 14, 15, 16, 17, 18, 19, 20, 4, 21, 22, 23, 24, 25, 26, 6, 27, 28, 29, 30, 31, 32, 33, 34, 35, 36, 37, 38, 39, 40, 41, 42, 43, 44, 45, 46, 47, 48, 49, 50, 51, 52, 53, 71, 72, 73, 74, 75, 76, 77, 78, 79, 80, 81, 82, 83, 84, 85, 86, 87, 88, 89, 90, 91, 92, 93, 94, 95, 96, 97, 98, 99, 100, 101, 102, 103, 104, 105, 106, 107, 108, 109, 110, 111, 112, 113, 114, 115, 116, 117, 118, 119, 120, 121, 122, 123, 124, 125, 126, 127, 128, 129, 130, 131, 132, 133, 134, 135, 136, 137, 138, 139, 140, 141, 142, 143, 144, 145, 146, 147, 148, 149, 150, 151] rfl (by decide +kernel)
set_option maxRecDepth 20000 in
theorem gX12_multiply_X12_twice : GoodIn wsX12_multiply (wsV RX12 399 RX12 yX12_twice wsX12_twice) := goodIn_app (goodIn_of _ (by decide +kernel)) ggX12_multiply_X12_twice
set_option maxRecDepth 20000 in
theorem ggX12_multiply_X12_plus : GoodIn wsX12_multiply wsX12_plus := goodIn_r _ [57, 1, 12, 58, 14, 59, 11, 13, 15, 16, 17, 18, 19, 20, 4, 21, 51, 52, 53, 2, 3, 5, 6, 22, 23, 24, 25, 26, 27, 28, 29, 30, 31, 32, 33, 34, 35, 36, 37, 38, 39, 40, 41, 46, 47, 48, 49, 50, 42, 43, 44, 45, 7, 8, 9, 10, 71, 72, 73, 74, 75, 76, 77, 78, 79, 80, 81, 82, 83, 84, 85, 86, 87, 88, 89, 90, 91, 92, 93, 94, 95, 96, 97, 98, 99, 100, 101, 102, 103, 104, 105, 106, 107, 108, 109, 110, 111, 112, 113, 114, 115, 116, 117, 118, 119, 120, 121, 122, 123, 124, 125, 126, 127, 128, 129, 130, 131, 132, 133, 134, 135, 136, 137, 138, 139, 140, 141, 142, 143, 144, 145, 146, 147, 148, 149, 150, 151] rfl (by decide +kernel)
set_option maxRecDepth 20000 in
theorem gX12_multiply_X12_plus : GoodIn wsX12_multiply (wsV RX12 405 RX12 yX12_plus wsX12_plus) := goodIn_app (goodIn_of _ (by decide +kernel)) ggX12_multiply_X12_plus
set_option maxRecDepth 20000 in
theorem ggX12_multiply_X12_plain : GoodIn wsX12_multiply wsX12_plain := goodIn_r _ [63, 1, 11, 64, 13, 12, 14, 19, 20, 4, 21, 65, 66, 67, 68, 69, 70, 51, 52, 53, 2, 3, 5, 6, 22, 23, 24, 25, 26, 27, 28, 29, 30, 31, 32, 33, 34, 35, 36, 37, 38, 39, 40, 41, 71, 72, 73, 74, 75, 76, 77, 78, 79, 80, 81, 82, 83, 84, 85, 86, 87, 88, 89, 90, 91, 92, 93, 94, 95, 96, 97, 98, 99, 100, 101, 102, 103, 104, 105, 106, 107, 108, 109, 110, 111, 112, 113, 114, 115, 116, 117, 118, 119, 120, 121, 122, 123, 124, 125, 126, 127, 128, 129, 130, 131, 132, 133, 134, 135, 136, 137, 138, 139, 140, 141, 142, 143, 144, 145, 146, 147, 148, 149, 150, 151] rfl (by decide +kernel)
set_option maxRecDepth 20000 in
theorem gX12_multiply_X12_plain : GoodIn wsX12_multiply (wsV RX12 408 RX12 yX12_plain wsX12_plain) := goodIn_app (goodIn_of _ (by decide +kernel)) ggX12_multiply_X12_plain
theorem dX12_multiply_0 : decode cX12_multiply 0 = .ok (.aload_n 0, 1) := by decide +kernel
theorem dX12_multiply_1 : decode cX12_multiply 1 = .ok (.getfield 173, 3) := by decide +kernel
theorem dX12_multiply_4 : decode cX12_multiply 4 = .ok (.lconst 0, 1) := by decide +kernel
theorem dX12_multiply_5 : decode cX12_multiply 5 = .ok (.invokestatic 389, 3) := by decide +kernel
theorem dX12_multiply_8 : decode cX12_multiply 8 = .ok (.sipush 255, 3) := by decide +kernel
theorem dX12_multiply_11 : decode cX12_multiply 11 = .ok (.istore_n 2, 1) := by decide +kernel
theorem dX12_multiply_12 : decode cX12_multiply 12 = .ok (.iload_n 2, 1) := by decide +kernel
theorem dX12_multiply_13 : decode cX12_multiply 13 = .ok (.ifCond .lt 34, 3) := by decide +kernel
theorem dX12_multiply_16 : decode cX12_multiply 16 = .ok (.aload_n 0, 1) := by decide +kernel
theorem dX12_multiply_17 : decode cX12_multiply 17 = .ok (.invokevirtual 399, 3) := by decide +kernel
theorem dX12_multiply_20 : decode cX12_multiply 20 = .ok (.aload_n 1, 1) := by decide +kernel
theorem dX12_multiply_21 : decode cX12_multiply 21 = .ok (.iload_n 2, 1) := by decide +kernel
theorem dX12_multiply_22 : decode cX12_multiply 22 = .ok (.iconst 5, 1) := by decide +kernel
theorem dX12_multiply_23 : decode cX12_multiply 23 = .ok (.ishr, 1) := by decide +kernel
theorem dX12_multiply_24 : decode cX12_multiply 24 = .ok (.laload, 1) := by decide +kernel
theorem dX12_multiply_25 : decode cX12_multiply 25 = .ok (.iload_n 2, 1) := by decide +kernel
theorem dX12_multiply_26 : decode cX12_multiply 26 = .ok (.bipush 31, 2) := by decide +kernel
theorem dX12_multiply_28 : decode cX12_multiply 28 = .ok (.iand, 1) := by decide +kernel
theorem dX12_multiply_29 : decode cX12_multiply 29 = .ok (.lshr, 1) := by decide +kernel
theorem dX12_multiply_30 : decode cX12_multiply 30 = .ok (.lconst 1, 1) := by decide +kernel
theorem dX12_multiply_31 : decode cX12_multiply 31 = .ok (.land, 1) := by decide +kernel
theorem dX12_multiply_32 : decode cX12_multiply 32 = .ok (.lconst 1, 1) := by decide +kernel
theorem dX12_multiply_33 : decode cX12_multiply 33 = .ok (.lcmp, 1) := by decide +kernel
theorem dX12_multiply_34 : decode cX12_multiply 34 = .ok (.ifCond .ne 7, 3) := by decide +kernel
theorem dX12_multiply_37 : decode cX12_multiply 37 = .ok (.aload_n 0, 1) := by decide +kernel
theorem dX12_multiply_38 : decode cX12_multiply 38 = .ok (.invokevirtual 405, 3) := by decide +kernel
theorem dX12_multiply_41 : decode cX12_multiply 41 = .ok (.iinc 2 (-1), 3) := by decide +kernel
theorem dX12_multiply_44 : decode cX12_multiply 44 = .ok (.goto (-32), 3) := by decide +kernel
theorem dX12_multiply_47 : decode cX12_multiply 47 = .ok (.aload_n 0, 1) := by decide +kernel
theorem dX12_multiply_48 : decode cX12_multiply 48 = .ok (.invokevirtual 408, 3) := by decide +kernel
theorem dX12_multiply_51 : decode cX12_multiply 51 = .ok (.return_, 1) := by decide +kernel
set_option maxRecDepth 20000 in
theorem ggX12_generator_X12_set : GoodIn wsX12_generator wsX12_set := goodIn_r _ [8] rfl (by decide +kernel)
set_option maxRecDepth 20000 in
theorem gX12_generator_X12_set : GoodIn wsX12_generator (va_wsS RX12 381 yX12_set wsX12_set) := goodIn_app (goodIn_of _ (by decide +kernel)) ggX12_generator_X12_set
theorem dX12_generator_0 : decode cX12_generator 0 = .ok (.aload_n 0, 1) := by decide +kernel
theorem dX12_generator_1 : decode cX12_generator 1 = .ok (.getfield 176, 3) := by decide +kernel
theorem dX12_generator_4 : decode cX12_generator 4 = .ok (.aload_n 0, 1) := by decide +kernel
theorem dX12_generator_5 : decode cX12_generator 5 = .ok (.getfield 74, 3) := by decide +kernel
theorem dX12_generator_8 : decode cX12_generator 8 = .ok (.invokestatic 381, 3) := by decide +kernel
theorem dX12_generator_11 : decode cX12_generator 11 = .ok (.aload_n 0, 1) := by decide +kernel
theorem dX12_generator_12 : decode cX12_generator 12 = .ok (.getfield 179, 3) := by decide +kernel
theorem dX12_generator_15 : decode cX12_generator 15 = .ok (.aload_n 0, 1) := by decide +kernel
theorem dX12_generator_16 : decode cX12_generator 16 = .ok (.getfield 93, 3) := by decide +kernel
theorem dX12_generator_19 : decode cX12_generator 19 = .ok (.invokestatic 381, 3) := by decide +kernel
theorem dX12_generator_22 : decode cX12_generator 22 = .ok (.return_, 1) := by decide +kernel
set_option maxRecDepth 20000 in
theorem ggX12_turnIn_X12_set : GoodIn wsX12_turnIn wsX12_set := goodIn_r _ [8] rfl (by decide +kernel)
set_option maxRecDepth 20000 in
theorem gX12_turnIn_X12_set : GoodIn wsX12_turnIn (va_wsS RX12 381 yX12_set wsX12_set) := goodIn_app (goodIn_of _ (by decide +kernel)) ggX12_turnIn_X12_set
theorem dX12_turnIn_0 : decode cX12_turnIn 0 = .ok (.aload_n 0, 1) := by decide +kernel
theorem dX12_turnIn_1 : decode cX12_turnIn 1 = .ok (.getfield 176, 3) := by decide +kernel
theorem dX12_turnIn_4 : decode cX12_turnIn 4 = .ok (.aload_n 0, 1) := by decide +kernel
theorem dX12_turnIn_5 : decode cX12_turnIn 5 = .ok (.getfield 167, 3) := by decide +kernel
theorem dX12_turnIn_8 : decode cX12_turnIn 8 = .ok (.invokestatic 381, 3) := by decide +kernel
theorem dX12_turnIn_11 : decode cX12_turnIn 11 = .ok (.aload_n 0, 1) := by decide +kernel
theorem dX12_turnIn_12 : decode cX12_turnIn 12 = .ok (.getfield 179, 3) := by decide +kernel
theorem dX12_turnIn_15 : decode cX12_turnIn 15 = .ok (.aload_n 0, 1) := by decide +kernel
theorem dX12_turnIn_16 : decode cX12_turnIn 16 = .ok (.getfield 170, 3) := by decide +kernel
theorem dX12_turnIn_19 : decode cX12_turnIn 19 = .ok (.invokestatic 381, 3) := by decide +kernel
theorem dX12_turnIn_22 : decode cX12_turnIn 22 = .ok (.return_, 1) := by decide +kernel
set_option maxRecDepth 20000 in
theorem ggX12_negateQ_X12_isNull : GoodIn wsX12_negateQ wsX12_isNull := goodIn_r _ [6] rfl (by decide +kernel)
set_option maxRecDepth 20000 in
theorem gX12_negateQ_X12_isNull : GoodIn wsX12_negateQ (va_wsS RX12 377 yX12_isNull wsX12_isNull) := goodIn_app (goodIn_of _ (by decide +kernel)) ggX12_negateQ_X12_isNull
set_option maxRecDepth 20000 in
theorem ggX12_negateQ_X12_take : GoodIn wsX12_negateQ wsX12_take := goodIn_r _ [9, 10] rfl (by decide +kernel)
set_option maxRecDepth 20000 in
theorem gX12_negateQ_X12_take : GoodIn wsX12_negateQ (va_wsS RX12 369 yX12_take wsX12_take) := goodIn_app (goodIn_of _ (by decide +kernel)) ggX12_negateQ_X12_take
theorem dX12_negateQ_0 : decode cX12_negateQ 0 = .ok (.aload_n 0, 1) := by decide +kernel
theorem dX12_negateQ_1 : decode cX12_negateQ 1 = .ok (.getfield 179, 3) := by decide +kernel
theorem dX12_negateQ_4 : decode cX12_negateQ 4 = .ok (.invokestatic 377, 3) := by decide +kernel
theorem dX12_negateQ_7 : decode cX12_negateQ 7 = .ok (.ifCond .ne 18, 3) := by decide +kernel
theorem dX12_negateQ_10 : decode cX12_negateQ 10 = .ok (.aload_n 0, 1) := by decide +kernel
theorem dX12_negateQ_11 : decode cX12_negateQ 11 = .ok (.getfield 179, 3) := by decide +kernel
theorem dX12_negateQ_14 : decode cX12_negateQ 14 = .ok (.aload_n 0, 1) := by decide +kernel
theorem dX12_negateQ_15 : decode cX12_negateQ 15 = .ok (.getfield 15, 3) := by decide +kernel
theorem dX12_negateQ_18 : decode cX12_negateQ 18 = .ok (.aload_n 0, 1) := by decide +kernel
theorem dX12_negateQ_19 : decode cX12_negateQ 19 = .ok (.getfield 179, 3) := by decide +kernel
theorem dX12_negateQ_22 : decode cX12_negateQ 22 = .ok (.invokestatic 369, 3) := by decide +kernel
theorem dX12_negateQ_25 : decode cX12_negateQ 25 = .ok (.return_, 1) := by decide +kernel
set_option maxRecDepth 20000 in
theorem ggX12_lift_X12_isBelow : GoodIn wsX12_lift wsX12_isBelow := goodIn_r _ [11] rfl (by decide +kernel)
set_option maxRecDepth 20000 in
theorem gX12_lift_X12_isBelow : GoodIn wsX12_lift (va_wsS RX12 365 yX12_isBelow wsX12_isBelow) := goodIn_app (goodIn_of _ (by decide +kernel)) ggX12_lift_X12_isBelow
set_option maxRecDepth 20000 in
theorem ggX12_lift_X12_set : GoodIn wsX12_lift wsX12_set := goodIn_r _ [14] rfl (by decide +kernel)
set_option maxRecDepth 20000 in
theorem gX12_lift_X12_set : GoodIn wsX12_lift (va_wsS RX12 381 yX12_set wsX12_set) := goodIn_app (goodIn_of _ (by decide +kernel)) ggX12_lift_X12_set
set_option maxRecDepth 20000 in
theorem ggX12_lift_X12_times : GoodIn wsX12_lift wsX12_times := goodIn_r _ [18, 19, 20, 21, 22, 23, 10, 24, 25, 26, 27, 28, 1, 8, 9, 11, 29, 30, 31, 55, 56, 57, 58, 59, 60, 61, 62, 63, 64, 65, 66, 67, 68, 69, 70, 71, 72, 73, 74, 75, 76, 77, 78, 79, 80, 81, 82, 83, 84, 85, 86, 87, 88, 89, 90, 91, 92, 93, 94, 95, 96, 97, 98, 99, 100, 101, 102, 103, 104, 105, 106, 107, 108, 109, 110, 111, 112, 113, 114, 115, 116, 117, 118, 119, 120, 121, 122, 123, 124, 125, 126, 127, 128, 129, 130, 131, 132, 133, 134, 135] rfl (by decide +kernel)
set_option maxRecDepth 20000 in
theorem gX12_lift_X12_times : GoodIn wsX12_lift (wsV RX12 393 RX12 yX12_times wsX12_times) := goodIn_app (goodIn_of _ (by decide +kernel)) ggX12_lift_X12_times
set_option maxRecDepth 20000 in
theorem ggX12_lift_X12_add : GoodIn wsX12_lift wsX12_add := goodIn_r _ [35, 19, 20, 21, 22, 23, 10, 24, 25, 26, 27, 28, 1, 8, 9, 11, 29, 30, 31, 55, 56, 57, 58, 59, 60, 61, 62, 63, 64, 65, 66, 67, 68, 69, 70, 71, 72, 73, 74, 75, 76, 77, 78, 79, 80, 81, 82, 83, 84, 85, 86, 87, 88, 89, 90, 91, 92, 93, 94, 95, 96, 97, 98, 99, 100, 101, 102, 103, 104, 105, 106, 107, 108, 109, 110, 111, 112, 113, 114, 115, 116, 117, 118, 119, 120, 121, 122, 123, 124, 125, 126, 127, 128, 129, 130, 131, 132, 133, 134, 135] rfl (by decide +kernel)
set_option maxRecDepth 20000 in
theorem gX12_lift_X12_add : GoodIn wsX12_lift (wsV RX12 385 RX12 yX12_add wsX12_add) := goodIn_app (goodIn_of _ (by decide +kernel)) ggX12_lift_X12_add
set_option maxRecDepth 20000 in
theorem ggX12_lift_X12_raise : GoodIn wsX12_lift wsX12_raise := goodIn_r _ [39, 40, 41, 12, 13, 10, 14, 42, 43, 44, 20, 15, 16, 17, 18, 19, 21, 22, 23, 24, 25, 26, 27, 28, 1, 8, 9, 11, 29, 30, 31, 55, 56, 57, 58, 59, 60, 61, 62, 63, 64, 65, 66, 67, 68, 69, 70, 71, 72, 73, 74, 75, 76, 77, 78, 79, 80, 81, 82, 83, 84, 85, 86, 87, 88, 89, 90, 91, 92, 93, 94, 95, 96, 97, 98, 99, 100, 101, 102, 103, 104, 105, 106, 107, 108, 109, 110, 111, 112, 113, 114, 115, 116, 117, 118, 119, 120, 121, 122, 123, 124, 125, 126, 127, 128, 129, 130, 131, 132, 133, 134, 135] rfl (by decide +kernel)
set_option maxRecDepth 20000 in
theorem gX12_lift_X12_raise : GoodIn wsX12_lift (wsV RX12 402 RX12 yX12_raise wsX12_raise) := goodIn_app (goodIn_of _ (by decide +kernel)) ggX12_lift_X12_raise
set_option maxRecDepth 20000 in
theorem ggX12_lift_X12_isSame : GoodIn wsX12_lift wsX12_isSame := goodIn_r _ [47] rfl (by decide +kernel)
set_option maxRecDepth 20000 in
theorem gX12_lift_X12_isSame : GoodIn wsX12_lift (va_wsS RX12 411 yX12_isSame wsX12_isSame) := goodIn_app (goodIn_of _ (by decide +kernel)) ggX12_lift_X12_isSame
set_option maxRecDepth 20000 in
theorem ggX12_lift_X12_negateQ : GoodIn wsX12_lift wsX12_negateQ := goodIn_r _ [51, 5, 1, 52, 53, 10, 54, 29, 30, 31, 20, 55, 56, 57, 58, 59, 60, 61, 62, 63, 64, 65, 66, 67, 68, 69, 70, 71, 72, 73, 74, 75, 76, 77, 78, 79, 80, 81, 82, 83, 84, 85, 86, 87, 88, 89, 90, 91, 92, 93, 94, 95, 96, 97, 98, 99, 100, 101, 102, 103, 104, 105, 106, 107, 108, 109, 110, 111, 112, 113, 114, 115, 116, 117, 118, 119, 120, 121, 122, 123, 124, 125, 126, 127, 128, 129, 130, 131, 132, 133, 134, 135] rfl (by decide +kernel)
set_option maxRecDepth 20000 in
theorem gX12_lift_X12_negateQ : GoodIn wsX12_lift (wsV RX12 414 RX12 yX12_negateQ wsX12_negateQ) := goodIn_app (goodIn_of _ (by decide +kernel)) ggX12_lift_X12_negateQ
theorem dX12_lift_0 : decode cX12_lift 0 = .ok (.aload_n 1, 1) := by decide +kernel
theorem dX12_lift_1 : decode cX12_lift 1 = .ok (.aload_n 0, 1) := by decide +kernel
theorem dX12_lift_2 : decode cX12_lift 2 = .ok (.getfield 15, 3) := by decide +kernel
theorem dX12_lift_5 : decode cX12_lift 5 = .ok (.invokestatic 365, 3) := by decide +kernel
theorem dX12_lift_8 : decode cX12_lift 8 = .ok (.ifCond .ne 5, 3) := by decide +kernel
theorem dX12_lift_11 : decode cX12_lift 11 = .ok (.iconst 0, 1) := by decide +kernel
theorem dX12_lift_12 : decode cX12_lift 12 = .ok (.ireturn, 1) := by decide +kernel
theorem dX12_lift_13 : decode cX12_lift 13 = .ok (.aload_n 0, 1) := by decide +kernel
theorem dX12_lift_14 : decode cX12_lift 14 = .ok (.getfield 176, 3) := by decide +kernel
theorem dX12_lift_17 : decode cX12_lift 17 = .ok (.aload_n 1, 1) := by decide +kernel
theorem dX12_lift_18 : decode cX12_lift 18 = .ok (.invokestatic 381, 3) := by decide +kernel
theorem dX12_lift_21 : decode cX12_lift 21 = .ok (.aload_n 0, 1) := by decide +kernel
theorem dX12_lift_22 : decode cX12_lift 22 = .ok (.aload_n 0, 1) := by decide +kernel
theorem dX12_lift_23 : decode cX12_lift 23 = .ok (.getfield 182, 3) := by decide +kernel
theorem dX12_lift_26 : decode cX12_lift 26 = .ok (.aload_n 1, 1) := by decide +kernel
theorem dX12_lift_27 : decode cX12_lift 27 = .ok (.aload_n 1, 1) := by decide +kernel
theorem dX12_lift_28 : decode cX12_lift 28 = .ok (.iconst 0, 1) := by decide +kernel
theorem dX12_lift_29 : decode cX12_lift 29 = .ok (.invokevirtual 393, 3) := by decide +kernel
theorem dX12_lift_32 : decode cX12_lift 32 = .ok (.aload_n 0, 1) := by decide +kernel
theorem dX12_lift_33 : decode cX12_lift 33 = .ok (.aload_n 0, 1) := by decide +kernel
theorem dX12_lift_34 : decode cX12_lift 34 = .ok (.getfield 182, 3) := by decide +kernel
theorem dX12_lift_37 : decode cX12_lift 37 = .ok (.aload_n 0, 1) := by decide +kernel
theorem dX12_lift_38 : decode cX12_lift 38 = .ok (.getfield 182, 3) := by decide +kernel
theorem dX12_lift_41 : decode cX12_lift 41 = .ok (.aload_n 1, 1) := by decide +kernel
theorem dX12_lift_42 : decode cX12_lift 42 = .ok (.iconst 0, 1) := by decide +kernel
theorem dX12_lift_43 : decode cX12_lift 43 = .ok (.invokevirtual 393, 3) := by decide +kernel
theorem dX12_lift_46 : decode cX12_lift 46 = .ok (.aload_n 0, 1) := by decide +kernel
theorem dX12_lift_47 : decode cX12_lift 47 = .ok (.aload_n 0, 1) := by decide +kernel
theorem dX12_lift_48 : decode cX12_lift 48 = .ok (.getfield 182, 3) := by decide +kernel
theorem dX12_lift_51 : decode cX12_lift 51 = .ok (.aload_n 0, 1) := by decide +kernel
theorem dX12_lift_52 : decode cX12_lift 52 = .ok (.getfield 182, 3) := by decide +kernel
theorem dX12_lift_55 : decode cX12_lift 55 = .ok (.aload_n 0, 1) := by decide +kernel
theorem dX12_lift_56 : decode cX12_lift 56 = .ok (.getfield 202, 3) := by decide +kernel
theorem dX12_lift_59 : decode cX12_lift 59 = .ok (.iconst 0, 1) := by decide +kernel
theorem dX12_lift_60 : decode cX12_lift 60 = .ok (.invokevirtual 385, 3) := by decide +kernel
theorem dX12_lift_63 : decode cX12_lift 63 = .ok (.aload_n 0, 1) := by decide +kernel
theorem dX12_lift_64 : decode cX12_lift 64 = .ok (.aload_n 0, 1) := by decide +kernel
theorem dX12_lift_65 : decode cX12_lift 65 = .ok (.getfield 179, 3) := by decide +kernel
theorem dX12_lift_68 : decode cX12_lift 68 = .ok (.aload_n 0, 1) := by decide +kernel
theorem dX12_lift_69 : decode cX12_lift 69 = .ok (.getfield 182, 3) := by decide +kernel
theorem dX12_lift_72 : decode cX12_lift 72 = .ok (.aload_n 0, 1) := by decide +kernel
theorem dX12_lift_73 : decode cX12_lift 73 = .ok (.getfield 55, 3) := by decide +kernel
theorem dX12_lift_76 : decode cX12_lift 76 = .ok (.invokevirtual 402, 3) := by decide +kernel
theorem dX12_lift_79 : decode cX12_lift 79 = .ok (.aload_n 0, 1) := by decide +kernel
theorem dX12_lift_80 : decode cX12_lift 80 = .ok (.aload_n 0, 1) := by decide +kernel
theorem dX12_lift_81 : decode cX12_lift 81 = .ok (.getfield 185, 3) := by decide +kernel
theorem dX12_lift_84 : decode cX12_lift 84 = .ok (.aload_n 0, 1) := by decide +kernel
theorem dX12_lift_85 : decode cX12_lift 85 = .ok (.getfield 179, 3) := by decide +kernel
theorem dX12_lift_88 : decode cX12_lift 88 = .ok (.aload_n 0, 1) := by decide +kernel
theorem dX12_lift_89 : decode cX12_lift 89 = .ok (.getfield 179, 3) := by decide +kernel
theorem dX12_lift_92 : decode cX12_lift 92 = .ok (.iconst 0, 1) := by decide +kernel
theorem dX12_lift_93 : decode cX12_lift 93 = .ok (.invokevirtual 393, 3) := by decide +kernel
theorem dX12_lift_96 : decode cX12_lift 96 = .ok (.aload_n 0, 1) := by decide +kernel
theorem dX12_lift_97 : decode cX12_lift 97 = .ok (.getfield 182, 3) := by decide +kernel
theorem dX12_lift_100 : decode cX12_lift 100 = .ok (.aload_n 0, 1) := by decide +kernel
theorem dX12_lift_101 : decode cX12_lift 101 = .ok (.getfield 185, 3) := by decide +kernel
theorem dX12_lift_104 : decode cX12_lift 104 = .ok (.invokestatic 411, 3) := by decide +kernel
theorem dX12_lift_107 : decode cX12_lift 107 = .ok (.ifCond .ne 5, 3) := by decide +kernel
theorem dX12_lift_110 : decode cX12_lift 110 = .ok (.iconst 0, 1) := by decide +kernel
theorem dX12_lift_111 : decode cX12_lift 111 = .ok (.ireturn, 1) := by decide +kernel
theorem dX12_lift_112 : decode cX12_lift 112 = .ok (.aload_n 0, 1) := by decide +kernel
theorem dX12_lift_113 : decode cX12_lift 113 = .ok (.getfield 179, 3) := by decide +kernel
theorem dX12_lift_116 : decode cX12_lift 116 = .ok (.iconst 0, 1) := by decide +kernel
theorem dX12_lift_117 : decode cX12_lift 117 = .ok (.laload, 1) := by decide +kernel
theorem dX12_lift_118 : decode cX12_lift 118 = .ok (.lconst 1, 1) := by decide +kernel
theorem dX12_lift_119 : decode cX12_lift 119 = .ok (.land, 1) := by decide +kernel
theorem dX12_lift_120 : decode cX12_lift 120 = .ok (.lconst 1, 1) := by decide +kernel
theorem dX12_lift_121 : decode cX12_lift 121 = .ok (.lcmp, 1) := by decide +kernel
theorem dX12_lift_122 : decode cX12_lift 122 = .ok (.ifCond .ne 7, 3) := by decide +kernel
theorem dX12_lift_125 : decode cX12_lift 125 = .ok (.aload_n 0, 1) := by decide +kernel
theorem dX12_lift_126 : decode cX12_lift 126 = .ok (.invokevirtual 414, 3) := by decide +kernel
theorem dX12_lift_129 : decode cX12_lift 129 = .ok (.iconst 1, 1) := by decide +kernel
theorem dX12_lift_130 : decode cX12_lift 130 = .ok (.ireturn, 1) := by decide +kernel
