theorem dX12_init_0 : decode cX12_init 0 = .ok (.aload_n 0, 1) := by decide +kernel
theorem dX12_init_1 : decode cX12_init 1 = .ok (.invokespecial 1, 3) := by decide +kernel
theorem dX12_init_4 : decode cX12_init 4 = .ok (.aload_n 0, 1) := by decide +kernel
theorem dX12_init_5 : decode cX12_init 5 = .ok (.bipush 8, 2) := by decide +kernel
theorem dX12_init_7 : decode cX12_init 7 = .ok (.newarray .long, 2) := by decide +kernel
theorem dX12_init_9 : decode cX12_init 9 = .ok (.dup, 1) := by decide +kernel
theorem dX12_init_10 : decode cX12_init 10 = .ok (.iconst 0, 1) := by decide +kernel
theorem dX12_init_11 : decode cX12_init 11 = .ok (.ldc2_w 7, 3) := by decide +kernel
theorem dX12_init_14 : decode cX12_init 14 = .ok (.lastore, 1) := by decide +kernel
theorem dX12_init_15 : decode cX12_init 15 = .ok (.dup, 1) := by decide +kernel
theorem dX12_init_16 : decode cX12_init 16 = .ok (.iconst 1, 1) := by decide +kernel
theorem dX12_init_17 : decode cX12_init 17 = .ok (.ldc2_w 9, 3) := by decide +kernel
theorem dX12_init_20 : decode cX12_init 20 = .ok (.lastore, 1) := by decide +kernel
theorem dX12_init_21 : decode cX12_init 21 = .ok (.dup, 1) := by decide +kernel
theorem dX12_init_22 : decode cX12_init 22 = .ok (.iconst 2, 1) := by decide +kernel
theorem dX12_init_23 : decode cX12_init 23 = .ok (.ldc2_w 13, 3) := by decide +kernel
theorem dX12_init_26 : decode cX12_init 26 = .ok (.lastore, 1) := by decide +kernel
theorem dX12_init_27 : decode cX12_init 27 = .ok (.dup, 1) := by decide +kernel
theorem dX12_init_28 : decode cX12_init 28 = .ok (.iconst 3, 1) := by decide +kernel
theorem dX12_init_29 : decode cX12_init 29 = .ok (.ldc2_w 13, 3) := by decide +kernel
theorem dX12_init_32 : decode cX12_init 32 = .ok (.lastore, 1) := by decide +kernel
theorem dX12_init_33 : decode cX12_init 33 = .ok (.dup, 1) := by decide +kernel
theorem dX12_init_34 : decode cX12_init 34 = .ok (.iconst 4, 1) := by decide +kernel
theorem dX12_init_35 : decode cX12_init 35 = .ok (.ldc2_w 13, 3) := by decide +kernel
theorem dX12_init_38 : decode cX12_init 38 = .ok (.lastore, 1) := by decide +kernel
theorem dX12_init_39 : decode cX12_init 39 = .ok (.dup, 1) := by decide +kernel
theorem dX12_init_40 : decode cX12_init 40 = .ok (.iconst 5, 1) := by decide +kernel
theorem dX12_init_41 : decode cX12_init 41 = .ok (.ldc2_w 13, 3) := by decide +kernel
theorem dX12_init_44 : decode cX12_init 44 = .ok (.lastore, 1) := by decide +kernel
theorem dX12_init_45 : decode cX12_init 45 = .ok (.dup, 1) := by decide +kernel
theorem dX12_init_46 : decode cX12_init 46 = .ok (.bipush 6, 2) := by decide +kernel
theorem dX12_init_48 : decode cX12_init 48 = .ok (.ldc2_w 13, 3) := by decide +kernel
theorem dX12_init_51 : decode cX12_init 51 = .ok (.lastore, 1) := by decide +kernel
theorem dX12_init_52 : decode cX12_init 52 = .ok (.dup, 1) := by decide +kernel
theorem dX12_init_53 : decode cX12_init 53 = .ok (.bipush 7, 2) := by decide +kernel
theorem dX12_init_55 : decode cX12_init 55 = .ok (.ldc2_w 13, 3) := by decide +kernel
theorem dX12_init_58 : decode cX12_init 58 = .ok (.lastore, 1) := by decide +kernel
theorem dX12_init_59 : decode cX12_init 59 = .ok (.putfield 15, 3) := by decide +kernel
theorem dX12_init_62 : decode cX12_init 62 = .ok (.aload_n 0, 1) := by decide +kernel
theorem dX12_init_63 : decode cX12_init 63 = .ok (.bipush 8, 2) := by decide +kernel
theorem dX12_init_65 : decode cX12_init 65 = .ok (.newarray .long, 2) := by decide +kernel
theorem dX12_init_67 : decode cX12_init 67 = .ok (.dup, 1) := by decide +kernel
theorem dX12_init_68 : decode cX12_init 68 = .ok (.iconst 0, 1) := by decide +kernel
theorem dX12_init_69 : decode cX12_init 69 = .ok (.ldc2_w 19, 3) := by decide +kernel
theorem dX12_init_72 : decode cX12_init 72 = .ok (.lastore, 1) := by decide +kernel
theorem dX12_init_73 : decode cX12_init 73 = .ok (.dup, 1) := by decide +kernel
theorem dX12_init_74 : decode cX12_init 74 = .ok (.iconst 1, 1) := by decide +kernel
theorem dX12_init_75 : decode cX12_init 75 = .ok (.ldc2_w 21, 3) := by decide +kernel
theorem dX12_init_78 : decode cX12_init 78 = .ok (.lastore, 1) := by decide +kernel
theorem dX12_init_79 : decode cX12_init 79 = .ok (.dup, 1) := by decide +kernel
theorem dX12_init_80 : decode cX12_init 80 = .ok (.iconst 2, 1) := by decide +kernel
theorem dX12_init_81 : decode cX12_init 81 = .ok (.ldc2_w 23, 3) := by decide +kernel
theorem dX12_init_84 : decode cX12_init 84 = .ok (.lastore, 1) := by decide +kernel
theorem dX12_init_85 : decode cX12_init 85 = .ok (.dup, 1) := by decide +kernel
theorem dX12_init_86 : decode cX12_init 86 = .ok (.iconst 3, 1) := by decide +kernel
theorem dX12_init_87 : decode cX12_init 87 = .ok (.ldc2_w 25, 3) := by decide +kernel
theorem dX12_init_90 : decode cX12_init 90 = .ok (.lastore, 1) := by decide +kernel
theorem dX12_init_91 : decode cX12_init 91 = .ok (.dup, 1) := by decide +kernel
theorem dX12_init_92 : decode cX12_init 92 = .ok (.iconst 4, 1) := by decide +kernel
theorem dX12_init_93 : decode cX12_init 93 = .ok (.ldc2_w 9, 3) := by decide +kernel
theorem dX12_init_96 : decode cX12_init 96 = .ok (.lastore, 1) := by decide +kernel
theorem dX12_init_97 : decode cX12_init 97 = .ok (.dup, 1) := by decide +kernel
theorem dX12_init_98 : decode cX12_init 98 = .ok (.iconst 5, 1) := by decide +kernel
theorem dX12_init_99 : decode cX12_init 99 = .ok (.ldc2_w 13, 3) := by decide +kernel
theorem dX12_init_102 : decode cX12_init 102 = .ok (.lastore, 1) := by decide +kernel
theorem dX12_init_103 : decode cX12_init 103 = .ok (.dup, 1) := by decide +kernel
theorem dX12_init_104 : decode cX12_init 104 = .ok (.bipush 6, 2) := by decide +kernel
theorem dX12_init_106 : decode cX12_init 106 = .ok (.ldc2_w 13, 3) := by decide +kernel
theorem dX12_init_109 : decode cX12_init 109 = .ok (.lastore, 1) := by decide +kernel
theorem dX12_init_110 : decode cX12_init 110 = .ok (.dup, 1) := by decide +kernel
theorem dX12_init_111 : decode cX12_init 111 = .ok (.bipush 7, 2) := by decide +kernel
theorem dX12_init_113 : decode cX12_init 113 = .ok (.ldc2_w 13, 3) := by decide +kernel
theorem dX12_init_116 : decode cX12_init 116 = .ok (.lastore, 1) := by decide +kernel
theorem dX12_init_117 : decode cX12_init 117 = .ok (.putfield 27, 3) := by decide +kernel
theorem dX12_init_120 : decode cX12_init 120 = .ok (.aload_n 0, 1) := by decide +kernel
theorem dX12_init_121 : decode cX12_init 121 = .ok (.iconst 5, 1) := by decide +kernel
theorem dX12_init_122 : decode cX12_init 122 = .ok (.newarray .long, 2) := by decide +kernel
theorem dX12_init_124 : decode cX12_init 124 = .ok (.dup, 1) := by decide +kernel
theorem dX12_init_125 : decode cX12_init 125 = .ok (.iconst 0, 1) := by decide +kernel
theorem dX12_init_126 : decode cX12_init 126 = .ok (.ldc2_w 30, 3) := by decide +kernel
theorem dX12_init_129 : decode cX12_init 129 = .ok (.lastore, 1) := by decide +kernel
theorem dX12_init_130 : decode cX12_init 130 = .ok (.dup, 1) := by decide +kernel
theorem dX12_init_131 : decode cX12_init 131 = .ok (.iconst 1, 1) := by decide +kernel
theorem dX12_init_132 : decode cX12_init 132 = .ok (.lconst 1, 1) := by decide +kernel
theorem dX12_init_133 : decode cX12_init 133 = .ok (.lastore, 1) := by decide +kernel
theorem dX12_init_134 : decode cX12_init 134 = .ok (.dup, 1) := by decide +kernel
theorem dX12_init_135 : decode cX12_init 135 = .ok (.iconst 2, 1) := by decide +kernel
theorem dX12_init_136 : decode cX12_init 136 = .ok (.lconst 0, 1) := by decide +kernel
theorem dX12_init_137 : decode cX12_init 137 = .ok (.lastore, 1) := by decide +kernel
theorem dX12_init_138 : decode cX12_init 138 = .ok (.dup, 1) := by decide +kernel
theorem dX12_init_139 : decode cX12_init 139 = .ok (.iconst 3, 1) := by decide +kernel
theorem dX12_init_140 : decode cX12_init 140 = .ok (.lconst 0, 1) := by decide +kernel
theorem dX12_init_141 : decode cX12_init 141 = .ok (.lastore, 1) := by decide +kernel
theorem dX12_init_142 : decode cX12_init 142 = .ok (.dup, 1) := by decide +kernel
theorem dX12_init_143 : decode cX12_init 143 = .ok (.iconst 4, 1) := by decide +kernel
theorem dX12_init_144 : decode cX12_init 144 = .ok (.lconst 0, 1) := by decide +kernel
theorem dX12_init_145 : decode cX12_init 145 = .ok (.lastore, 1) := by decide +kernel
theorem dX12_init_146 : decode cX12_init 146 = .ok (.putfield 32, 3) := by decide +kernel
theorem dX12_init_149 : decode cX12_init 149 = .ok (.aload_n 0, 1) := by decide +kernel
theorem dX12_init_150 : decode cX12_init 150 = .ok (.iconst 5, 1) := by decide +kernel
theorem dX12_init_151 : decode cX12_init 151 = .ok (.newarray .long, 2) := by decide +kernel
theorem dX12_init_153 : decode cX12_init 153 = .ok (.dup, 1) := by decide +kernel
theorem dX12_init_154 : decode cX12_init 154 = .ok (.iconst 0, 1) := by decide +kernel
theorem dX12_init_155 : decode cX12_init 155 = .ok (.ldc2_w 35, 3) := by decide +kernel
theorem dX12_init_158 : decode cX12_init 158 = .ok (.lastore, 1) := by decide +kernel
theorem dX12_init_159 : decode cX12_init 159 = .ok (.dup, 1) := by decide +kernel
theorem dX12_init_160 : decode cX12_init 160 = .ok (.iconst 1, 1) := by decide +kernel
theorem dX12_init_161 : decode cX12_init 161 = .ok (.ldc2_w 37, 3) := by decide +kernel
theorem dX12_init_164 : decode cX12_init 164 = .ok (.lastore, 1) := by decide +kernel
theorem dX12_init_165 : decode cX12_init 165 = .ok (.dup, 1) := by decide +kernel
theorem dX12_init_166 : decode cX12_init 166 = .ok (.iconst 2, 1) := by decide +kernel
theorem dX12_init_167 : decode cX12_init 167 = .ok (.ldc2_w 39, 3) := by decide +kernel
theorem dX12_init_170 : decode cX12_init 170 = .ok (.lastore, 1) := by decide +kernel
theorem dX12_init_171 : decode cX12_init 171 = .ok (.dup, 1) := by decide +kernel
theorem dX12_init_172 : decode cX12_init 172 = .ok (.iconst 3, 1) := by decide +kernel
theorem dX12_init_173 : decode cX12_init 173 = .ok (.ldc2_w 41, 3) := by decide +kernel
theorem dX12_init_176 : decode cX12_init 176 = .ok (.lastore, 1) := by decide +kernel
theorem dX12_init_177 : decode cX12_init 177 = .ok (.dup, 1) := by decide +kernel
theorem dX12_init_178 : decode cX12_init 178 = .ok (.iconst 4, 1) := by decide +kernel
theorem dX12_init_179 : decode cX12_init 179 = .ok (.lconst 1, 1) := by decide +kernel
theorem dX12_init_180 : decode cX12_init 180 = .ok (.lastore, 1) := by decide +kernel
theorem dX12_init_181 : decode cX12_init 181 = .ok (.putfield 43, 3) := by decide +kernel
theorem dX12_init_184 : decode cX12_init 184 = .ok (.aload_n 0, 1) := by decide +kernel
theorem dX12_init_185 : decode cX12_init 185 = .ok (.bipush 8, 2) := by decide +kernel
theorem dX12_init_187 : decode cX12_init 187 = .ok (.newarray .long, 2) := by decide +kernel
theorem dX12_init_189 : decode cX12_init 189 = .ok (.dup, 1) := by decide +kernel
theorem dX12_init_190 : decode cX12_init 190 = .ok (.iconst 0, 1) := by decide +kernel
theorem dX12_init_191 : decode cX12_init 191 = .ok (.ldc2_w 46, 3) := by decide +kernel
theorem dX12_init_194 : decode cX12_init 194 = .ok (.lastore, 1) := by decide +kernel
theorem dX12_init_195 : decode cX12_init 195 = .ok (.dup, 1) := by decide +kernel
theorem dX12_init_196 : decode cX12_init 196 = .ok (.iconst 1, 1) := by decide +kernel
theorem dX12_init_197 : decode cX12_init 197 = .ok (.ldc2_w 9, 3) := by decide +kernel
theorem dX12_init_200 : decode cX12_init 200 = .ok (.lastore, 1) := by decide +kernel
theorem dX12_init_201 : decode cX12_init 201 = .ok (.dup, 1) := by decide +kernel
theorem dX12_init_202 : decode cX12_init 202 = .ok (.iconst 2, 1) := by decide +kernel
theorem dX12_init_203 : decode cX12_init 203 = .ok (.ldc2_w 13, 3) := by decide +kernel
theorem dX12_init_206 : decode cX12_init 206 = .ok (.lastore, 1) := by decide +kernel
theorem dX12_init_207 : decode cX12_init 207 = .ok (.dup, 1) := by decide +kernel
theorem dX12_init_208 : decode cX12_init 208 = .ok (.iconst 3, 1) := by decide +kernel
theorem dX12_init_209 : decode cX12_init 209 = .ok (.ldc2_w 13, 3) := by decide +kernel
theorem dX12_init_212 : decode cX12_init 212 = .ok (.lastore, 1) := by decide +kernel
theorem dX12_init_213 : decode cX12_init 213 = .ok (.dup, 1) := by decide +kernel
theorem dX12_init_214 : decode cX12_init 214 = .ok (.iconst 4, 1) := by decide +kernel
theorem dX12_init_215 : decode cX12_init 215 = .ok (.ldc2_w 13, 3) := by decide +kernel
theorem dX12_init_218 : decode cX12_init 218 = .ok (.lastore, 1) := by decide +kernel
theorem dX12_init_219 : decode cX12_init 219 = .ok (.dup, 1) := by decide +kernel
theorem dX12_init_220 : decode cX12_init 220 = .ok (.iconst 5, 1) := by decide +kernel
theorem dX12_init_221 : decode cX12_init 221 = .ok (.ldc2_w 13, 3) := by decide +kernel
theorem dX12_init_224 : decode cX12_init 224 = .ok (.lastore, 1) := by decide +kernel
theorem dX12_init_225 : decode cX12_init 225 = .ok (.dup, 1) := by decide +kernel
theorem dX12_init_226 : decode cX12_init 226 = .ok (.bipush 6, 2) := by decide +kernel
theorem dX12_init_228 : decode cX12_init 228 = .ok (.ldc2_w 13, 3) := by decide +kernel
theorem dX12_init_231 : decode cX12_init 231 = .ok (.lastore, 1) := by decide +kernel
theorem dX12_init_232 : decode cX12_init 232 = .ok (.dup, 1) := by decide +kernel
theorem dX12_init_233 : decode cX12_init 233 = .ok (.bipush 7, 2) := by decide +kernel
theorem dX12_init_235 : decode cX12_init 235 = .ok (.ldc2_w 13, 3) := by decide +kernel
theorem dX12_init_238 : decode cX12_init 238 = .ok (.lastore, 1) := by decide +kernel
theorem dX12_init_239 : decode cX12_init 239 = .ok (.putfield 48, 3) := by decide +kernel
theorem dX12_init_242 : decode cX12_init 242 = .ok (.aload_n 0, 1) := by decide +kernel
theorem dX12_init_243 : decode cX12_init 243 = .ok (.bipush 8, 2) := by decide +kernel
theorem dX12_init_245 : decode cX12_init 245 = .ok (.newarray .long, 2) := by decide +kernel
theorem dX12_init_247 : decode cX12_init 247 = .ok (.dup, 1) := by decide +kernel
theorem dX12_init_248 : decode cX12_init 248 = .ok (.iconst 0, 1) := by decide +kernel
theorem dX12_init_249 : decode cX12_init 249 = .ok (.ldc2_w 51, 3) := by decide +kernel
theorem dX12_init_252 : decode cX12_init 252 = .ok (.lastore, 1) := by decide +kernel
theorem dX12_init_253 : decode cX12_init 253 = .ok (.dup, 1) := by decide +kernel
theorem dX12_init_254 : decode cX12_init 254 = .ok (.iconst 1, 1) := by decide +kernel
theorem dX12_init_255 : decode cX12_init 255 = .ok (.ldc2_w 13, 3) := by decide +kernel
theorem dX12_init_258 : decode cX12_init 258 = .ok (.lastore, 1) := by decide +kernel
theorem dX12_init_259 : decode cX12_init 259 = .ok (.dup, 1) := by decide +kernel
theorem dX12_init_260 : decode cX12_init 260 = .ok (.iconst 2, 1) := by decide +kernel
theorem dX12_init_261 : decode cX12_init 261 = .ok (.ldc2_w 13, 3) := by decide +kernel
theorem dX12_init_264 : decode cX12_init 264 = .ok (.lastore, 1) := by decide +kernel
theorem dX12_init_265 : decode cX12_init 265 = .ok (.dup, 1) := by decide +kernel
theorem dX12_init_266 : decode cX12_init 266 = .ok (.iconst 3, 1) := by decide +kernel
theorem dX12_init_267 : decode cX12_init 267 = .ok (.ldc2_w 13, 3) := by decide +kernel
theorem dX12_init_270 : decode cX12_init 270 = .ok (.lastore, 1) := by decide +kernel
theorem dX12_init_271 : decode cX12_init 271 = .ok (.dup, 1) := by decide +kernel
theorem dX12_init_272 : decode cX12_init 272 = .ok (.iconst 4, 1) := by decide +kernel
theorem dX12_init_273 : decode cX12_init 273 = .ok (.ldc2_w 13, 3) := by decide +kernel
theorem dX12_init_276 : decode cX12_init 276 = .ok (.lastore, 1) := by decide +kernel
theorem dX12_init_277 : decode cX12_init 277 = .ok (.dup, 1) := by decide +kernel
theorem dX12_init_278 : decode cX12_init 278 = .ok (.iconst 5, 1) := by decide +kernel
theorem dX12_init_279 : decode cX12_init 279 = .ok (.ldc2_w 13, 3) := by decide +kernel
theorem dX12_init_282 : decode cX12_init 282 = .ok (.lastore, 1) := by decide +kernel
theorem dX12_init_283 : decode cX12_init 283 = .ok (.dup, 1) := by decide +kernel
theorem dX12_init_284 : decode cX12_init 284 = .ok (.bipush 6, 2) := by decide +kernel
theorem dX12_init_286 : decode cX12_init 286 = .ok (.ldc2_w 13, 3) := by decide +kernel
theorem dX12_init_289 : decode cX12_init 289 = .ok (.lastore, 1) := by decide +kernel
theorem dX12_init_290 : decode cX12_init 290 = .ok (.dup, 1) := by decide +kernel
theorem dX12_init_291 : decode cX12_init 291 = .ok (.bipush 7, 2) := by decide +kernel
theorem dX12_init_293 : decode cX12_init 293 = .ok (.ldc2_w 53, 3) := by decide +kernel
theorem dX12_init_296 : decode cX12_init 296 = .ok (.lastore, 1) := by decide +kernel
theorem dX12_init_297 : decode cX12_init 297 = .ok (.putfield 55, 3) := by decide +kernel
theorem dX12_init_300 : decode cX12_init 300 = .ok (.aload_n 0, 1) := by decide +kernel
theorem dX12_init_301 : decode cX12_init 301 = .ok (.bipush 8, 2) := by decide +kernel
theorem dX12_init_303 : decode cX12_init 303 = .ok (.newarray .long, 2) := by decide +kernel
theorem dX12_init_305 : decode cX12_init 305 = .ok (.dup, 1) := by decide +kernel
theorem dX12_init_306 : decode cX12_init 306 = .ok (.iconst 0, 1) := by decide +kernel
theorem dX12_init_307 : decode cX12_init 307 = .ok (.ldc2_w 58, 3) := by decide +kernel
theorem dX12_init_310 : decode cX12_init 310 = .ok (.lastore, 1) := by decide +kernel
theorem dX12_init_311 : decode cX12_init 311 = .ok (.dup, 1) := by decide +kernel
theorem dX12_init_312 : decode cX12_init 312 = .ok (.iconst 1, 1) := by decide +kernel
theorem dX12_init_313 : decode cX12_init 313 = .ok (.ldc2_w 60, 3) := by decide +kernel
theorem dX12_init_316 : decode cX12_init 316 = .ok (.lastore, 1) := by decide +kernel
theorem dX12_init_317 : decode cX12_init 317 = .ok (.dup, 1) := by decide +kernel
theorem dX12_init_318 : decode cX12_init 318 = .ok (.iconst 2, 1) := by decide +kernel
theorem dX12_init_319 : decode cX12_init 319 = .ok (.ldc2_w 62, 3) := by decide +kernel
theorem dX12_init_322 : decode cX12_init 322 = .ok (.lastore, 1) := by decide +kernel
theorem dX12_init_323 : decode cX12_init 323 = .ok (.dup, 1) := by decide +kernel
theorem dX12_init_324 : decode cX12_init 324 = .ok (.iconst 3, 1) := by decide +kernel
theorem dX12_init_325 : decode cX12_init 325 = .ok (.ldc2_w 64, 3) := by decide +kernel
theorem dX12_init_328 : decode cX12_init 328 = .ok (.lastore, 1) := by decide +kernel
theorem dX12_init_329 : decode cX12_init 329 = .ok (.dup, 1) := by decide +kernel
theorem dX12_init_330 : decode cX12_init 330 = .ok (.iconst 4, 1) := by decide +kernel
theorem dX12_init_331 : decode cX12_init 331 = .ok (.ldc2_w 66, 3) := by decide +kernel
theorem dX12_init_334 : decode cX12_init 334 = .ok (.lastore, 1) := by decide +kernel
theorem dX12_init_335 : decode cX12_init 335 = .ok (.dup, 1) := by decide +kernel
theorem dX12_init_336 : decode cX12_init 336 = .ok (.iconst 5, 1) := by decide +kernel
theorem dX12_init_337 : decode cX12_init 337 = .ok (.ldc2_w 68, 3) := by decide +kernel
theorem dX12_init_340 : decode cX12_init 340 = .ok (.lastore, 1) := by decide +kernel
theorem dX12_init_341 : decode cX12_init 341 = .ok (.dup, 1) := by decide +kernel
theorem dX12_init_342 : decode cX12_init 342 = .ok (.bipush 6, 2) := by decide +kernel
theorem dX12_init_344 : decode cX12_init 344 = .ok (.ldc2_w 70, 3) := by decide +kernel
theorem dX12_init_347 : decode cX12_init 347 = .ok (.lastore, 1) := by decide +kernel
theorem dX12_init_348 : decode cX12_init 348 = .ok (.dup, 1) := by decide +kernel
theorem dX12_init_349 : decode cX12_init 349 = .ok (.bipush 7, 2) := by decide +kernel
theorem dX12_init_351 : decode cX12_init 351 = .ok (.ldc2_w 72, 3) := by decide +kernel
theorem dX12_init_354 : decode cX12_init 354 = .ok (.lastore, 1) := by decide +kernel
theorem dX12_init_355 : decode cX12_init 355 = .ok (.putfield 74, 3) := by decide +kernel
theorem dX12_init_358 : decode cX12_init 358 = .ok (.aload_n 0, 1) := by decide +kernel
theorem dX12_init_359 : decode cX12_init 359 = .ok (.bipush 8, 2) := by decide +kernel
theorem dX12_init_361 : decode cX12_init 361 = .ok (.newarray .long, 2) := by decide +kernel
theorem dX12_init_363 : decode cX12_init 363 = .ok (.dup, 1) := by decide +kernel
theorem dX12_init_364 : decode cX12_init 364 = .ok (.iconst 0, 1) := by decide +kernel
theorem dX12_init_365 : decode cX12_init 365 = .ok (.ldc2_w 77, 3) := by decide +kernel
theorem dX12_init_368 : decode cX12_init 368 = .ok (.lastore, 1) := by decide +kernel
theorem dX12_init_369 : decode cX12_init 369 = .ok (.dup, 1) := by decide +kernel
theorem dX12_init_370 : decode cX12_init 370 = .ok (.iconst 1, 1) := by decide +kernel
theorem dX12_init_371 : decode cX12_init 371 = .ok (.ldc2_w 79, 3) := by decide +kernel
theorem dX12_init_374 : decode cX12_init 374 = .ok (.lastore, 1) := by decide +kernel
theorem dX12_init_375 : decode cX12_init 375 = .ok (.dup, 1) := by decide +kernel
theorem dX12_init_376 : decode cX12_init 376 = .ok (.iconst 2, 1) := by decide +kernel
theorem dX12_init_377 : decode cX12_init 377 = .ok (.ldc2_w 81, 3) := by decide +kernel
theorem dX12_init_380 : decode cX12_init 380 = .ok (.lastore, 1) := by decide +kernel
theorem dX12_init_381 : decode cX12_init 381 = .ok (.dup, 1) := by decide +kernel
theorem dX12_init_382 : decode cX12_init 382 = .ok (.iconst 3, 1) := by decide +kernel
theorem dX12_init_383 : decode cX12_init 383 = .ok (.ldc2_w 83, 3) := by decide +kernel
theorem dX12_init_386 : decode cX12_init 386 = .ok (.lastore, 1) := by decide +kernel
theorem dX12_init_387 : decode cX12_init 387 = .ok (.dup, 1) := by decide +kernel
theorem dX12_init_388 : decode cX12_init 388 = .ok (.iconst 4, 1) := by decide +kernel
theorem dX12_init_389 : decode cX12_init 389 = .ok (.ldc2_w 85, 3) := by decide +kernel
theorem dX12_init_392 : decode cX12_init 392 = .ok (.lastore, 1) := by decide +kernel
theorem dX12_init_393 : decode cX12_init 393 = .ok (.dup, 1) := by decide +kernel
theorem dX12_init_394 : decode cX12_init 394 = .ok (.iconst 5, 1) := by decide +kernel
theorem dX12_init_395 : decode cX12_init 395 = .ok (.ldc2_w 87, 3) := by decide +kernel
theorem dX12_init_398 : decode cX12_init 398 = .ok (.lastore, 1) := by decide +kernel
theorem dX12_init_399 : decode cX12_init 399 = .ok (.dup, 1) := by decide +kernel
theorem dX12_init_400 : decode cX12_init 400 = .ok (.bipush 6, 2) := by decide +kernel
theorem dX12_init_402 : decode cX12_init 402 = .ok (.ldc2_w 89, 3) := by decide +kernel
theorem dX12_init_405 : decode cX12_init 405 = .ok (.lastore, 1) := by decide +kernel
theorem dX12_init_406 : decode cX12_init 406 = .ok (.dup, 1) := by decide +kernel
theorem dX12_init_407 : decode cX12_init 407 = .ok (.bipush 7, 2) := by decide +kernel
theorem dX12_init_409 : decode cX12_init 409 = .ok (.ldc2_w 91, 3) := by decide +kernel
theorem dX12_init_412 : decode cX12_init 412 = .ok (.lastore, 1) := by decide +kernel
theorem dX12_init_413 : decode cX12_init 413 = .ok (.putfield 93, 3) := by decide +kernel
theorem dX12_init_416 : decode cX12_init 416 = .ok (.aload_n 0, 1) := by decide +kernel
theorem dX12_init_417 : decode cX12_init 417 = .ok (.bipush 16, 2) := by decide +kernel
theorem dX12_init_419 : decode cX12_init 419 = .ok (.newarray .int, 2) := by decide +kernel
theorem dX12_init_421 : decode cX12_init 421 = .ok (.putfield 96, 3) := by decide +kernel
theorem dX12_init_424 : decode cX12_init 424 = .ok (.aload_n 0, 1) := by decide +kernel
theorem dX12_init_425 : decode cX12_init 425 = .ok (.sipush 1600, 3) := by decide +kernel
theorem dX12_init_428 : decode cX12_init 428 = .ok (.newarray .int, 2) := by decide +kernel
theorem dX12_init_430 : decode cX12_init 430 = .ok (.putfield 100, 3) := by decide +kernel
theorem dX12_init_433 : decode cX12_init 433 = .ok (.aload_n 0, 1) := by decide +kernel
theorem dX12_init_434 : decode cX12_init 434 = .ok (.sipush 128, 3) := by decide +kernel
theorem dX12_init_437 : decode cX12_init 437 = .ok (.newarray .int, 2) := by decide +kernel
theorem dX12_init_439 : decode cX12_init 439 = .ok (.putfield 103, 3) := by decide +kernel
theorem dX12_init_442 : decode cX12_init 442 = .ok (.aload_n 0, 1) := by decide +kernel
theorem dX12_init_443 : decode cX12_init 443 = .ok (.sipush 160, 3) := by decide +kernel
theorem dX12_init_446 : decode cX12_init 446 = .ok (.newarray .int, 2) := by decide +kernel
theorem dX12_init_448 : decode cX12_init 448 = .ok (.putfield 106, 3) := by decide +kernel
theorem dX12_init_451 : decode cX12_init 451 = .ok (.aload_n 0, 1) := by decide +kernel
theorem dX12_init_452 : decode cX12_init 452 = .ok (.iconst 4, 1) := by decide +kernel
theorem dX12_init_453 : decode cX12_init 453 = .ok (.newarray .int, 2) := by decide +kernel
theorem dX12_init_455 : decode cX12_init 455 = .ok (.putfield 109, 3) := by decide +kernel
theorem dX12_init_458 : decode cX12_init 458 = .ok (.aload_n 0, 1) := by decide +kernel
theorem dX12_init_459 : decode cX12_init 459 = .ok (.sipush 256, 3) := by decide +kernel
theorem dX12_init_462 : decode cX12_init 462 = .ok (.newarray .int, 2) := by decide +kernel
theorem dX12_init_464 : decode cX12_init 464 = .ok (.putfield 112, 3) := by decide +kernel
theorem dX12_init_467 : decode cX12_init 467 = .ok (.aload_n 0, 1) := by decide +kernel
theorem dX12_init_468 : decode cX12_init 468 = .ok (.iconst 4, 1) := by decide +kernel
theorem dX12_init_469 : decode cX12_init 469 = .ok (.newarray .long, 2) := by decide +kernel
theorem dX12_init_471 : decode cX12_init 471 = .ok (.putfield 115, 3) := by decide +kernel
theorem dX12_init_474 : decode cX12_init 474 = .ok (.aload_n 0, 1) := by decide +kernel
theorem dX12_init_475 : decode cX12_init 475 = .ok (.sipush 132, 3) := by decide +kernel
theorem dX12_init_478 : decode cX12_init 478 = .ok (.newarray .int, 2) := by decide +kernel
theorem dX12_init_480 : decode cX12_init 480 = .ok (.putfield 118, 3) := by decide +kernel
theorem dX12_init_483 : decode cX12_init 483 = .ok (.aload_n 0, 1) := by decide +kernel
theorem dX12_init_484 : decode cX12_init 484 = .ok (.iconst 4, 1) := by decide +kernel
theorem dX12_init_485 : decode cX12_init 485 = .ok (.newarray .boolean, 2) := by decide +kernel
theorem dX12_init_487 : decode cX12_init 487 = .ok (.putfield 121, 3) := by decide +kernel
theorem dX12_init_490 : decode cX12_init 490 = .ok (.aload_n 0, 1) := by decide +kernel
theorem dX12_init_491 : decode cX12_init 491 = .ok (.bipush 32, 2) := by decide +kernel
theorem dX12_init_493 : decode cX12_init 493 = .ok (.newarray .long, 2) := by decide +kernel
theorem dX12_init_495 : decode cX12_init 495 = .ok (.putfield 125, 3) := by decide +kernel
theorem dX12_init_498 : decode cX12_init 498 = .ok (.aload_n 0, 1) := by decide +kernel
theorem dX12_init_499 : decode cX12_init 499 = .ok (.bipush 32, 2) := by decide +kernel
theorem dX12_init_501 : decode cX12_init 501 = .ok (.newarray .long, 2) := by decide +kernel
theorem dX12_init_503 : decode cX12_init 503 = .ok (.putfield 128, 3) := by decide +kernel
theorem dX12_init_506 : decode cX12_init 506 = .ok (.aload_n 0, 1) := by decide +kernel
theorem dX12_init_507 : decode cX12_init 507 = .ok (.sipush 264, 3) := by decide +kernel
theorem dX12_init_510 : decode cX12_init 510 = .ok (.newarray .int, 2) := by decide +kernel
theorem dX12_init_512 : decode cX12_init 512 = .ok (.putfield 131, 3) := by decide +kernel
theorem dX12_init_515 : decode cX12_init 515 = .ok (.aload_n 0, 1) := by decide +kernel
theorem dX12_init_516 : decode cX12_init 516 = .ok (.iconst 4, 1) := by decide +kernel
theorem dX12_init_517 : decode cX12_init 517 = .ok (.newarray .boolean, 2) := by decide +kernel
theorem dX12_init_519 : decode cX12_init 519 = .ok (.putfield 134, 3) := by decide +kernel
theorem dX12_init_522 : decode cX12_init 522 = .ok (.aload_n 0, 1) := by decide +kernel
theorem dX12_init_523 : decode cX12_init 523 = .ok (.sipush 264, 3) := by decide +kernel
theorem dX12_init_526 : decode cX12_init 526 = .ok (.newarray .int, 2) := by decide +kernel
theorem dX12_init_528 : decode cX12_init 528 = .ok (.putfield 137, 3) := by decide +kernel
theorem dX12_init_531 : decode cX12_init 531 = .ok (.aload_n 0, 1) := by decide +kernel
theorem dX12_init_532 : decode cX12_init 532 = .ok (.bipush 66, 2) := by decide +kernel
theorem dX12_init_534 : decode cX12_init 534 = .ok (.newarray .int, 2) := by decide +kernel
theorem dX12_init_536 : decode cX12_init 536 = .ok (.putfield 140, 3) := by decide +kernel
theorem dX12_init_539 : decode cX12_init 539 = .ok (.aload_n 0, 1) := by decide +kernel
theorem dX12_init_540 : decode cX12_init 540 = .ok (.bipush 8, 2) := by decide +kernel
theorem dX12_init_542 : decode cX12_init 542 = .ok (.newarray .long, 2) := by decide +kernel
theorem dX12_init_544 : decode cX12_init 544 = .ok (.putfield 143, 3) := by decide +kernel
theorem dX12_init_547 : decode cX12_init 547 = .ok (.aload_n 0, 1) := by decide +kernel
theorem dX12_init_548 : decode cX12_init 548 = .ok (.bipush 8, 2) := by decide +kernel
theorem dX12_init_550 : decode cX12_init 550 = .ok (.newarray .long, 2) := by decide +kernel
theorem dX12_init_552 : decode cX12_init 552 = .ok (.putfield 146, 3) := by decide +kernel
theorem dX12_init_555 : decode cX12_init 555 = .ok (.aload_n 0, 1) := by decide +kernel
theorem dX12_init_556 : decode cX12_init 556 = .ok (.bipush 8, 2) := by decide +kernel
theorem dX12_init_558 : decode cX12_init 558 = .ok (.newarray .long, 2) := by decide +kernel
theorem dX12_init_560 : decode cX12_init 560 = .ok (.putfield 149, 3) := by decide +kernel
theorem dX12_init_563 : decode cX12_init 563 = .ok (.aload_n 0, 1) := by decide +kernel
theorem dX12_init_564 : decode cX12_init 564 = .ok (.bipush 18, 2) := by decide +kernel
theorem dX12_init_566 : decode cX12_init 566 = .ok (.newarray .long, 2) := by decide +kernel
theorem dX12_init_568 : decode cX12_init 568 = .ok (.putfield 152, 3) := by decide +kernel
theorem dX12_init_571 : decode cX12_init 571 = .ok (.aload_n 0, 1) := by decide +kernel
theorem dX12_init_572 : decode cX12_init 572 = .ok (.bipush 18, 2) := by decide +kernel
theorem dX12_init_574 : decode cX12_init 574 = .ok (.newarray .long, 2) := by decide +kernel
theorem dX12_init_576 : decode cX12_init 576 = .ok (.putfield 155, 3) := by decide +kernel
theorem dX12_init_579 : decode cX12_init 579 = .ok (.aload_n 0, 1) := by decide +kernel
theorem dX12_init_580 : decode cX12_init 580 = .ok (.bipush 8, 2) := by decide +kernel
theorem dX12_init_582 : decode cX12_init 582 = .ok (.newarray .long, 2) := by decide +kernel
theorem dX12_init_584 : decode cX12_init 584 = .ok (.putfield 158, 3) := by decide +kernel
theorem dX12_init_587 : decode cX12_init 587 = .ok (.aload_n 0, 1) := by decide +kernel
theorem dX12_init_588 : decode cX12_init 588 = .ok (.bipush 8, 2) := by decide +kernel
theorem dX12_init_590 : decode cX12_init 590 = .ok (.newarray .long, 2) := by decide +kernel
theorem dX12_init_592 : decode cX12_init 592 = .ok (.putfield 161, 3) := by decide +kernel
theorem dX12_init_595 : decode cX12_init 595 = .ok (.aload_n 0, 1) := by decide +kernel
theorem dX12_init_596 : decode cX12_init 596 = .ok (.bipush 8, 2) := by decide +kernel
theorem dX12_init_598 : decode cX12_init 598 = .ok (.newarray .long, 2) := by decide +kernel
theorem dX12_init_600 : decode cX12_init 600 = .ok (.putfield 164, 3) := by decide +kernel
theorem dX12_init_603 : decode cX12_init 603 = .ok (.aload_n 0, 1) := by decide +kernel
theorem dX12_init_604 : decode cX12_init 604 = .ok (.bipush 8, 2) := by decide +kernel
theorem dX12_init_606 : decode cX12_init 606 = .ok (.newarray .long, 2) := by decide +kernel
theorem dX12_init_608 : decode cX12_init 608 = .ok (.putfield 167, 3) := by decide +kernel
theorem dX12_init_611 : decode cX12_init 611 = .ok (.aload_n 0, 1) := by decide +kernel
theorem dX12_init_612 : decode cX12_init 612 = .ok (.bipush 8, 2) := by decide +kernel
theorem dX12_init_614 : decode cX12_init 614 = .ok (.newarray .long, 2) := by decide +kernel
theorem dX12_init_616 : decode cX12_init 616 = .ok (.putfield 170, 3) := by decide +kernel
theorem dX12_init_619 : decode cX12_init 619 = .ok (.aload_n 0, 1) := by decide +kernel
theorem dX12_init_620 : decode cX12_init 620 = .ok (.bipush 8, 2) := by decide +kernel
theorem dX12_init_622 : decode cX12_init 622 = .ok (.newarray .long, 2) := by decide +kernel
theorem dX12_init_624 : decode cX12_init 624 = .ok (.putfield 173, 3) := by decide +kernel
theorem dX12_init_627 : decode cX12_init 627 = .ok (.aload_n 0, 1) := by decide +kernel
theorem dX12_init_628 : decode cX12_init 628 = .ok (.bipush 8, 2) := by decide +kernel
theorem dX12_init_630 : decode cX12_init 630 = .ok (.newarray .long, 2) := by decide +kernel
theorem dX12_init_632 : decode cX12_init 632 = .ok (.putfield 176, 3) := by decide +kernel
theorem dX12_init_635 : decode cX12_init 635 = .ok (.aload_n 0, 1) := by decide +kernel
theorem dX12_init_636 : decode cX12_init 636 = .ok (.bipush 8, 2) := by decide +kernel
theorem dX12_init_638 : decode cX12_init 638 = .ok (.newarray .long, 2) := by decide +kernel
theorem dX12_init_640 : decode cX12_init 640 = .ok (.putfield 179, 3) := by decide +kernel
theorem dX12_init_643 : decode cX12_init 643 = .ok (.aload_n 0, 1) := by decide +kernel
theorem dX12_init_644 : decode cX12_init 644 = .ok (.bipush 8, 2) := by decide +kernel
theorem dX12_init_646 : decode cX12_init 646 = .ok (.newarray .long, 2) := by decide +kernel
theorem dX12_init_648 : decode cX12_init 648 = .ok (.putfield 182, 3) := by decide +kernel
theorem dX12_init_651 : decode cX12_init 651 = .ok (.aload_n 0, 1) := by decide +kernel
theorem dX12_init_652 : decode cX12_init 652 = .ok (.bipush 8, 2) := by decide +kernel
theorem dX12_init_654 : decode cX12_init 654 = .ok (.newarray .long, 2) := by decide +kernel
theorem dX12_init_656 : decode cX12_init 656 = .ok (.putfield 185, 3) := by decide +kernel
theorem dX12_init_659 : decode cX12_init 659 = .ok (.aload_n 0, 1) := by decide +kernel
theorem dX12_init_660 : decode cX12_init 660 = .ok (.bipush 8, 2) := by decide +kernel
theorem dX12_init_662 : decode cX12_init 662 = .ok (.newarray .long, 2) := by decide +kernel
theorem dX12_init_664 : decode cX12_init 664 = .ok (.putfield 188, 3) := by decide +kernel
theorem dX12_init_667 : decode cX12_init 667 = .ok (.aload_n 0, 1) := by decide +kernel
theorem dX12_init_668 : decode cX12_init 668 = .ok (.bipush 8, 2) := by decide +kernel
theorem dX12_init_670 : decode cX12_init 670 = .ok (.newarray .long, 2) := by decide +kernel
theorem dX12_init_672 : decode cX12_init 672 = .ok (.putfield 191, 3) := by decide +kernel
theorem dX12_init_675 : decode cX12_init 675 = .ok (.aload_n 0, 1) := by decide +kernel
theorem dX12_init_676 : decode cX12_init 676 = .ok (.bipush 8, 2) := by decide +kernel
theorem dX12_init_678 : decode cX12_init 678 = .ok (.newarray .long, 2) := by decide +kernel
theorem dX12_init_680 : decode cX12_init 680 = .ok (.putfield 194, 3) := by decide +kernel
theorem dX12_init_683 : decode cX12_init 683 = .ok (.aload_n 0, 1) := by decide +kernel
theorem dX12_init_684 : decode cX12_init 684 = .ok (.bipush 8, 2) := by decide +kernel
theorem dX12_init_686 : decode cX12_init 686 = .ok (.newarray .long, 2) := by decide +kernel
theorem dX12_init_688 : decode cX12_init 688 = .ok (.putfield 197, 3) := by decide +kernel
theorem dX12_init_691 : decode cX12_init 691 = .ok (.aload_n 0, 1) := by decide +kernel
theorem dX12_init_692 : decode cX12_init 692 = .ok (.bipush 8, 2) := by decide +kernel
theorem dX12_init_694 : decode cX12_init 694 = .ok (.newarray .long, 2) := by decide +kernel
theorem dX12_init_696 : decode cX12_init 696 = .ok (.dup, 1) := by decide +kernel
theorem dX12_init_697 : decode cX12_init 697 = .ok (.iconst 0, 1) := by decide +kernel
theorem dX12_init_698 : decode cX12_init 698 = .ok (.ldc2_w 200, 3) := by decide +kernel
theorem dX12_init_701 : decode cX12_init 701 = .ok (.lastore, 1) := by decide +kernel
theorem dX12_init_702 : decode cX12_init 702 = .ok (.dup, 1) := by decide +kernel
theorem dX12_init_703 : decode cX12_init 703 = .ok (.iconst 1, 1) := by decide +kernel
theorem dX12_init_704 : decode cX12_init 704 = .ok (.lconst 0, 1) := by decide +kernel
theorem dX12_init_705 : decode cX12_init 705 = .ok (.lastore, 1) := by decide +kernel
theorem dX12_init_706 : decode cX12_init 706 = .ok (.dup, 1) := by decide +kernel
theorem dX12_init_707 : decode cX12_init 707 = .ok (.iconst 2, 1) := by decide +kernel
theorem dX12_init_708 : decode cX12_init 708 = .ok (.lconst 0, 1) := by decide +kernel
theorem dX12_init_709 : decode cX12_init 709 = .ok (.lastore, 1) := by decide +kernel
theorem dX12_init_710 : decode cX12_init 710 = .ok (.dup, 1) := by decide +kernel
theorem dX12_init_711 : decode cX12_init 711 = .ok (.iconst 3, 1) := by decide +kernel
theorem dX12_init_712 : decode cX12_init 712 = .ok (.lconst 0, 1) := by decide +kernel
theorem dX12_init_713 : decode cX12_init 713 = .ok (.lastore, 1) := by decide +kernel
theorem dX12_init_714 : decode cX12_init 714 = .ok (.dup, 1) := by decide +kernel
theorem dX12_init_715 : decode cX12_init 715 = .ok (.iconst 4, 1) := by decide +kernel
theorem dX12_init_716 : decode cX12_init 716 = .ok (.lconst 0, 1) := by decide +kernel
theorem dX12_init_717 : decode cX12_init 717 = .ok (.lastore, 1) := by decide +kernel
theorem dX12_init_718 : decode cX12_init 718 = .ok (.dup, 1) := by decide +kernel
theorem dX12_init_719 : decode cX12_init 719 = .ok (.iconst 5, 1) := by decide +kernel
theorem dX12_init_720 : decode cX12_init 720 = .ok (.lconst 0, 1) := by decide +kernel
theorem dX12_init_721 : decode cX12_init 721 = .ok (.lastore, 1) := by decide +kernel
theorem dX12_init_722 : decode cX12_init 722 = .ok (.dup, 1) := by decide +kernel
theorem dX12_init_723 : decode cX12_init 723 = .ok (.bipush 6, 2) := by decide +kernel
theorem dX12_init_725 : decode cX12_init 725 = .ok (.lconst 0, 1) := by decide +kernel
theorem dX12_init_726 : decode cX12_init 726 = .ok (.lastore, 1) := by decide +kernel
theorem dX12_init_727 : decode cX12_init 727 = .ok (.dup, 1) := by decide +kernel
theorem dX12_init_728 : decode cX12_init 728 = .ok (.bipush 7, 2) := by decide +kernel
theorem dX12_init_730 : decode cX12_init 730 = .ok (.lconst 0, 1) := by decide +kernel
theorem dX12_init_731 : decode cX12_init 731 = .ok (.lastore, 1) := by decide +kernel
theorem dX12_init_732 : decode cX12_init 732 = .ok (.putfield 202, 3) := by decide +kernel
theorem dX12_init_735 : decode cX12_init 735 = .ok (.aload_n 0, 1) := by decide +kernel
theorem dX12_init_736 : decode cX12_init 736 = .ok (.bipush 8, 2) := by decide +kernel
theorem dX12_init_738 : decode cX12_init 738 = .ok (.newarray .long, 2) := by decide +kernel
theorem dX12_init_740 : decode cX12_init 740 = .ok (.putfield 205, 3) := by decide +kernel
theorem dX12_init_743 : decode cX12_init 743 = .ok (.aload_n 0, 1) := by decide +kernel
theorem dX12_init_744 : decode cX12_init 744 = .ok (.bipush 9, 2) := by decide +kernel
theorem dX12_init_746 : decode cX12_init 746 = .ok (.newarray .int, 2) := by decide +kernel
theorem dX12_init_748 : decode cX12_init 748 = .ok (.dup, 1) := by decide +kernel
theorem dX12_init_749 : decode cX12_init 749 = .ok (.iconst 0, 1) := by decide +kernel
theorem dX12_init_750 : decode cX12_init 750 = .ok (.iconst 0, 1) := by decide +kernel
theorem dX12_init_751 : decode cX12_init 751 = .ok (.iastore, 1) := by decide +kernel
theorem dX12_init_752 : decode cX12_init 752 = .ok (.dup, 1) := by decide +kernel
theorem dX12_init_753 : decode cX12_init 753 = .ok (.iconst 1, 1) := by decide +kernel
theorem dX12_init_754 : decode cX12_init 754 = .ok (.bipush 11, 2) := by decide +kernel
theorem dX12_init_756 : decode cX12_init 756 = .ok (.iastore, 1) := by decide +kernel
theorem dX12_init_757 : decode cX12_init 757 = .ok (.dup, 1) := by decide +kernel
theorem dX12_init_758 : decode cX12_init 758 = .ok (.iconst 2, 1) := by decide +kernel
theorem dX12_init_759 : decode cX12_init 759 = .ok (.bipush 24, 2) := by decide +kernel
theorem dX12_init_761 : decode cX12_init 761 = .ok (.iastore, 1) := by decide +kernel
theorem dX12_init_762 : decode cX12_init 762 = .ok (.dup, 1) := by decide +kernel
theorem dX12_init_763 : decode cX12_init 763 = .ok (.iconst 3, 1) := by decide +kernel
theorem dX12_init_764 : decode cX12_init 764 = .ok (.bipush 41, 2) := by decide +kernel
theorem dX12_init_766 : decode cX12_init 766 = .ok (.iastore, 1) := by decide +kernel
theorem dX12_init_767 : decode cX12_init 767 = .ok (.dup, 1) := by decide +kernel
theorem dX12_init_768 : decode cX12_init 768 = .ok (.iconst 4, 1) := by decide +kernel
theorem dX12_init_769 : decode cX12_init 769 = .ok (.bipush 52, 2) := by decide +kernel
theorem dX12_init_771 : decode cX12_init 771 = .ok (.iastore, 1) := by decide +kernel
theorem dX12_init_772 : decode cX12_init 772 = .ok (.dup, 1) := by decide +kernel
theorem dX12_init_773 : decode cX12_init 773 = .ok (.iconst 5, 1) := by decide +kernel
theorem dX12_init_774 : decode cX12_init 774 = .ok (.bipush 70, 2) := by decide +kernel
theorem dX12_init_776 : decode cX12_init 776 = .ok (.iastore, 1) := by decide +kernel
theorem dX12_init_777 : decode cX12_init 777 = .ok (.dup, 1) := by decide +kernel
theorem dX12_init_778 : decode cX12_init 778 = .ok (.bipush 6, 2) := by decide +kernel
theorem dX12_init_780 : decode cX12_init 780 = .ok (.bipush 79, 2) := by decide +kernel
theorem dX12_init_782 : decode cX12_init 782 = .ok (.iastore, 1) := by decide +kernel
theorem dX12_init_783 : decode cX12_init 783 = .ok (.dup, 1) := by decide +kernel
theorem dX12_init_784 : decode cX12_init 784 = .ok (.bipush 7, 2) := by decide +kernel
theorem dX12_init_786 : decode cX12_init 786 = .ok (.bipush 90, 2) := by decide +kernel
theorem dX12_init_788 : decode cX12_init 788 = .ok (.iastore, 1) := by decide +kernel
theorem dX12_init_789 : decode cX12_init 789 = .ok (.dup, 1) := by decide +kernel
theorem dX12_init_790 : decode cX12_init 790 = .ok (.bipush 8, 2) := by decide +kernel
theorem dX12_init_792 : decode cX12_init 792 = .ok (.bipush 105, 2) := by decide +kernel
theorem dX12_init_794 : decode cX12_init 794 = .ok (.iastore, 1) := by decide +kernel
theorem dX12_init_795 : decode cX12_init 795 = .ok (.putfield 208, 3) := by decide +kernel
theorem dX12_init_798 : decode cX12_init 798 = .ok (.aload_n 0, 1) := by decide +kernel
theorem dX12_init_799 : decode cX12_init 799 = .ok (.bipush 105, 2) := by decide +kernel
theorem dX12_init_801 : decode cX12_init 801 = .ok (.newarray .int, 2) := by decide +kernel
theorem dX12_init_803 : decode cX12_init 803 = .ok (.dup, 1) := by decide +kernel
theorem dX12_init_804 : decode cX12_init 804 = .ok (.iconst 0, 1) := by decide +kernel
theorem dX12_init_805 : decode cX12_init 805 = .ok (.bipush 66, 2) := by decide +kernel
theorem dX12_init_807 : decode cX12_init 807 = .ok (.iastore, 1) := by decide +kernel
theorem dX12_init_808 : decode cX12_init 808 = .ok (.dup, 1) := by decide +kernel
theorem dX12_init_809 : decode cX12_init 809 = .ok (.iconst 1, 1) := by decide +kernel
theorem dX12_init_810 : decode cX12_init 810 = .ok (.bipush 73, 2) := by decide +kernel
theorem dX12_init_812 : decode cX12_init 812 = .ok (.iastore, 1) := by decide +kernel
theorem dX12_init_813 : decode cX12_init 813 = .ok (.dup, 1) := by decide +kernel
theorem dX12_init_814 : decode cX12_init 814 = .ok (.iconst 2, 1) := by decide +kernel
theorem dX12_init_815 : decode cX12_init 815 = .ok (.bipush 80, 2) := by decide +kernel
theorem dX12_init_817 : decode cX12_init 817 = .ok (.iastore, 1) := by decide +kernel
theorem dX12_init_818 : decode cX12_init 818 = .ok (.dup, 1) := by decide +kernel
theorem dX12_init_819 : decode cX12_init 819 = .ok (.iconst 3, 1) := by decide +kernel
theorem dX12_init_820 : decode cX12_init 820 = .ok (.bipush 48, 2) := by decide +kernel
theorem dX12_init_822 : decode cX12_init 822 = .ok (.iastore, 1) := by decide +kernel
theorem dX12_init_823 : decode cX12_init 823 = .ok (.dup, 1) := by decide +kernel
theorem dX12_init_824 : decode cX12_init 824 = .ok (.iconst 4, 1) := by decide +kernel
theorem dX12_init_825 : decode cX12_init 825 = .ok (.bipush 51, 2) := by decide +kernel
theorem dX12_init_827 : decode cX12_init 827 = .ok (.iastore, 1) := by decide +kernel
theorem dX12_init_828 : decode cX12_init 828 = .ok (.dup, 1) := by decide +kernel
theorem dX12_init_829 : decode cX12_init 829 = .ok (.iconst 5, 1) := by decide +kernel
theorem dX12_init_830 : decode cX12_init 830 = .ok (.bipush 52, 2) := by decide +kernel
theorem dX12_init_832 : decode cX12_init 832 = .ok (.iastore, 1) := by decide +kernel
theorem dX12_init_833 : decode cX12_init 833 = .ok (.dup, 1) := by decide +kernel
theorem dX12_init_834 : decode cX12_init 834 = .ok (.bipush 6, 2) := by decide +kernel
theorem dX12_init_836 : decode cX12_init 836 = .ok (.bipush 48, 2) := by decide +kernel
theorem dX12_init_838 : decode cX12_init 838 = .ok (.iastore, 1) := by decide +kernel
theorem dX12_init_839 : decode cX12_init 839 = .ok (.dup, 1) := by decide +kernel
theorem dX12_init_840 : decode cX12_init 840 = .ok (.bipush 7, 2) := by decide +kernel
theorem dX12_init_842 : decode cX12_init 842 = .ok (.bipush 47, 2) := by decide +kernel
theorem dX12_init_844 : decode cX12_init 844 = .ok (.iastore, 1) := by decide +kernel
theorem dX12_init_845 : decode cX12_init 845 = .ok (.dup, 1) := by decide +kernel
theorem dX12_init_846 : decode cX12_init 846 = .ok (.bipush 8, 2) := by decide +kernel
theorem dX12_init_848 : decode cX12_init 848 = .ok (.bipush 97, 2) := by decide +kernel
theorem dX12_init_850 : decode cX12_init 850 = .ok (.iastore, 1) := by decide +kernel
theorem dX12_init_851 : decode cX12_init 851 = .ok (.dup, 1) := by decide +kernel
theorem dX12_init_852 : decode cX12_init 852 = .ok (.bipush 9, 2) := by decide +kernel
theorem dX12_init_854 : decode cX12_init 854 = .ok (.bipush 117, 2) := by decide +kernel
theorem dX12_init_856 : decode cX12_init 856 = .ok (.iastore, 1) := by decide +kernel
theorem dX12_init_857 : decode cX12_init 857 = .ok (.dup, 1) := by decide +kernel
theorem dX12_init_858 : decode cX12_init 858 = .ok (.bipush 10, 2) := by decide +kernel
theorem dX12_init_860 : decode cX12_init 860 = .ok (.bipush 120, 2) := by decide +kernel
theorem dX12_init_862 : decode cX12_init 862 = .ok (.iastore, 1) := by decide +kernel
theorem dX12_init_863 : decode cX12_init 863 = .ok (.dup, 1) := by decide +kernel
theorem dX12_init_864 : decode cX12_init 864 = .ok (.bipush 11, 2) := by decide +kernel
theorem dX12_init_866 : decode cX12_init 866 = .ok (.bipush 66, 2) := by decide +kernel
theorem dX12_init_868 : decode cX12_init 868 = .ok (.iastore, 1) := by decide +kernel
theorem dX12_init_869 : decode cX12_init 869 = .ok (.dup, 1) := by decide +kernel
theorem dX12_init_870 : decode cX12_init 870 = .ok (.bipush 12, 2) := by decide +kernel
theorem dX12_init_872 : decode cX12_init 872 = .ok (.bipush 73, 2) := by decide +kernel
theorem dX12_init_874 : decode cX12_init 874 = .ok (.iastore, 1) := by decide +kernel
theorem dX12_init_875 : decode cX12_init 875 = .ok (.dup, 1) := by decide +kernel
theorem dX12_init_876 : decode cX12_init 876 = .ok (.bipush 13, 2) := by decide +kernel
theorem dX12_init_878 : decode cX12_init 878 = .ok (.bipush 80, 2) := by decide +kernel
theorem dX12_init_880 : decode cX12_init 880 = .ok (.iastore, 1) := by decide +kernel
theorem dX12_init_881 : decode cX12_init 881 = .ok (.dup, 1) := by decide +kernel
theorem dX12_init_882 : decode cX12_init 882 = .ok (.bipush 14, 2) := by decide +kernel
theorem dX12_init_884 : decode cX12_init 884 = .ok (.bipush 48, 2) := by decide +kernel
theorem dX12_init_886 : decode cX12_init 886 = .ok (.iastore, 1) := by decide +kernel
theorem dX12_init_887 : decode cX12_init 887 = .ok (.dup, 1) := by decide +kernel
theorem dX12_init_888 : decode cX12_init 888 = .ok (.bipush 15, 2) := by decide +kernel
theorem dX12_init_890 : decode cX12_init 890 = .ok (.bipush 51, 2) := by decide +kernel
theorem dX12_init_892 : decode cX12_init 892 = .ok (.iastore, 1) := by decide +kernel
theorem dX12_init_893 : decode cX12_init 893 = .ok (.dup, 1) := by decide +kernel
theorem dX12_init_894 : decode cX12_init 894 = .ok (.bipush 16, 2) := by decide +kernel
theorem dX12_init_896 : decode cX12_init 896 = .ok (.bipush 52, 2) := by decide +kernel
theorem dX12_init_898 : decode cX12_init 898 = .ok (.iastore, 1) := by decide +kernel
theorem dX12_init_899 : decode cX12_init 899 = .ok (.dup, 1) := by decide +kernel
theorem dX12_init_900 : decode cX12_init 900 = .ok (.bipush 17, 2) := by decide +kernel
theorem dX12_init_902 : decode cX12_init 902 = .ok (.bipush 48, 2) := by decide +kernel
theorem dX12_init_904 : decode cX12_init 904 = .ok (.iastore, 1) := by decide +kernel
theorem dX12_init_905 : decode cX12_init 905 = .ok (.dup, 1) := by decide +kernel
theorem dX12_init_906 : decode cX12_init 906 = .ok (.bipush 18, 2) := by decide +kernel
theorem dX12_init_908 : decode cX12_init 908 = .ok (.bipush 47, 2) := by decide +kernel
theorem dX12_init_910 : decode cX12_init 910 = .ok (.iastore, 1) := by decide +kernel
theorem dX12_init_911 : decode cX12_init 911 = .ok (.dup, 1) := by decide +kernel
theorem dX12_init_912 : decode cX12_init 912 = .ok (.bipush 19, 2) := by decide +kernel
theorem dX12_init_914 : decode cX12_init 914 = .ok (.bipush 110, 2) := by decide +kernel
theorem dX12_init_916 : decode cX12_init 916 = .ok (.iastore, 1) := by decide +kernel
theorem dX12_init_917 : decode cX12_init 917 = .ok (.dup, 1) := by decide +kernel
theorem dX12_init_918 : decode cX12_init 918 = .ok (.bipush 20, 2) := by decide +kernel
theorem dX12_init_920 : decode cX12_init 920 = .ok (.bipush 111, 2) := by decide +kernel
theorem dX12_init_922 : decode cX12_init 922 = .ok (.iastore, 1) := by decide +kernel
theorem dX12_init_923 : decode cX12_init 923 = .ok (.dup, 1) := by decide +kernel
theorem dX12_init_924 : decode cX12_init 924 = .ok (.bipush 21, 2) := by decide +kernel
theorem dX12_init_926 : decode cX12_init 926 = .ok (.bipush 110, 2) := by decide +kernel
theorem dX12_init_928 : decode cX12_init 928 = .ok (.iastore, 1) := by decide +kernel
theorem dX12_init_929 : decode cX12_init 929 = .ok (.dup, 1) := by decide +kernel
theorem dX12_init_930 : decode cX12_init 930 = .ok (.bipush 22, 2) := by decide +kernel
theorem dX12_init_932 : decode cX12_init 932 = .ok (.bipush 99, 2) := by decide +kernel
theorem dX12_init_934 : decode cX12_init 934 = .ok (.iastore, 1) := by decide +kernel
theorem dX12_init_935 : decode cX12_init 935 = .ok (.dup, 1) := by decide +kernel
theorem dX12_init_936 : decode cX12_init 936 = .ok (.bipush 23, 2) := by decide +kernel
theorem dX12_init_938 : decode cX12_init 938 = .ok (.bipush 101, 2) := by decide +kernel
theorem dX12_init_940 : decode cX12_init 940 = .ok (.iastore, 1) := by decide +kernel
theorem dX12_init_941 : decode cX12_init 941 = .ok (.dup, 1) := by decide +kernel
theorem dX12_init_942 : decode cX12_init 942 = .ok (.bipush 24, 2) := by decide +kernel
theorem dX12_init_944 : decode cX12_init 944 = .ok (.bipush 66, 2) := by decide +kernel
theorem dX12_init_946 : decode cX12_init 946 = .ok (.iastore, 1) := by decide +kernel
theorem dX12_init_947 : decode cX12_init 947 = .ok (.dup, 1) := by decide +kernel
theorem dX12_init_948 : decode cX12_init 948 = .ok (.bipush 25, 2) := by decide +kernel
theorem dX12_init_950 : decode cX12_init 950 = .ok (.bipush 73, 2) := by decide +kernel
theorem dX12_init_952 : decode cX12_init 952 = .ok (.iastore, 1) := by decide +kernel
theorem dX12_init_953 : decode cX12_init 953 = .ok (.dup, 1) := by decide +kernel
theorem dX12_init_954 : decode cX12_init 954 = .ok (.bipush 26, 2) := by decide +kernel
theorem dX12_init_956 : decode cX12_init 956 = .ok (.bipush 80, 2) := by decide +kernel
theorem dX12_init_958 : decode cX12_init 958 = .ok (.iastore, 1) := by decide +kernel
theorem dX12_init_959 : decode cX12_init 959 = .ok (.dup, 1) := by decide +kernel
theorem dX12_init_960 : decode cX12_init 960 = .ok (.bipush 27, 2) := by decide +kernel
theorem dX12_init_962 : decode cX12_init 962 = .ok (.bipush 48, 2) := by decide +kernel
theorem dX12_init_964 : decode cX12_init 964 = .ok (.iastore, 1) := by decide +kernel
theorem dX12_init_965 : decode cX12_init 965 = .ok (.dup, 1) := by decide +kernel
theorem dX12_init_966 : decode cX12_init 966 = .ok (.bipush 28, 2) := by decide +kernel
theorem dX12_init_968 : decode cX12_init 968 = .ok (.bipush 51, 2) := by decide +kernel
theorem dX12_init_970 : decode cX12_init 970 = .ok (.iastore, 1) := by decide +kernel
theorem dX12_init_971 : decode cX12_init 971 = .ok (.dup, 1) := by decide +kernel
theorem dX12_init_972 : decode cX12_init 972 = .ok (.bipush 29, 2) := by decide +kernel
theorem dX12_init_974 : decode cX12_init 974 = .ok (.bipush 52, 2) := by decide +kernel
theorem dX12_init_976 : decode cX12_init 976 = .ok (.iastore, 1) := by decide +kernel
theorem dX12_init_977 : decode cX12_init 977 = .ok (.dup, 1) := by decide +kernel
theorem dX12_init_978 : decode cX12_init 978 = .ok (.bipush 30, 2) := by decide +kernel
theorem dX12_init_980 : decode cX12_init 980 = .ok (.bipush 48, 2) := by decide +kernel
theorem dX12_init_982 : decode cX12_init 982 = .ok (.iastore, 1) := by decide +kernel
theorem dX12_init_983 : decode cX12_init 983 = .ok (.dup, 1) := by decide +kernel
theorem dX12_init_984 : decode cX12_init 984 = .ok (.bipush 31, 2) := by decide +kernel
theorem dX12_init_986 : decode cX12_init 986 = .ok (.bipush 47, 2) := by decide +kernel
theorem dX12_init_988 : decode cX12_init 988 = .ok (.iastore, 1) := by decide +kernel
theorem dX12_init_989 : decode cX12_init 989 = .ok (.dup, 1) := by decide +kernel
theorem dX12_init_990 : decode cX12_init 990 = .ok (.bipush 32, 2) := by decide +kernel
theorem dX12_init_992 : decode cX12_init 992 = .ok (.bipush 99, 2) := by decide +kernel
theorem dX12_init_994 : decode cX12_init 994 = .ok (.iastore, 1) := by decide +kernel
theorem dX12_init_995 : decode cX12_init 995 = .ok (.dup, 1) := by decide +kernel
theorem dX12_init_996 : decode cX12_init 996 = .ok (.bipush 33, 2) := by decide +kernel
theorem dX12_init_998 : decode cX12_init 998 = .ok (.bipush 104, 2) := by decide +kernel
theorem dX12_init_1000 : decode cX12_init 1000 = .ok (.iastore, 1) := by decide +kernel
theorem dX12_init_1001 : decode cX12_init 1001 = .ok (.dup, 1) := by decide +kernel
theorem dX12_init_1002 : decode cX12_init 1002 = .ok (.bipush 34, 2) := by decide +kernel
theorem dX12_init_1004 : decode cX12_init 1004 = .ok (.bipush 97, 2) := by decide +kernel
theorem dX12_init_1006 : decode cX12_init 1006 = .ok (.iastore, 1) := by decide +kernel
theorem dX12_init_1007 : decode cX12_init 1007 = .ok (.dup, 1) := by decide +kernel
theorem dX12_init_1008 : decode cX12_init 1008 = .ok (.bipush 35, 2) := by decide +kernel
theorem dX12_init_1010 : decode cX12_init 1010 = .ok (.bipush 108, 2) := by decide +kernel
theorem dX12_init_1012 : decode cX12_init 1012 = .ok (.iastore, 1) := by decide +kernel
theorem dX12_init_1013 : decode cX12_init 1013 = .ok (.dup, 1) := by decide +kernel
theorem dX12_init_1014 : decode cX12_init 1014 = .ok (.bipush 36, 2) := by decide +kernel
theorem dX12_init_1016 : decode cX12_init 1016 = .ok (.bipush 108, 2) := by decide +kernel
theorem dX12_init_1018 : decode cX12_init 1018 = .ok (.iastore, 1) := by decide +kernel
theorem dX12_init_1019 : decode cX12_init 1019 = .ok (.dup, 1) := by decide +kernel
theorem dX12_init_1020 : decode cX12_init 1020 = .ok (.bipush 37, 2) := by decide +kernel
theorem dX12_init_1022 : decode cX12_init 1022 = .ok (.bipush 101, 2) := by decide +kernel
theorem dX12_init_1024 : decode cX12_init 1024 = .ok (.iastore, 1) := by decide +kernel
theorem dX12_init_1025 : decode cX12_init 1025 = .ok (.dup, 1) := by decide +kernel
theorem dX12_init_1026 : decode cX12_init 1026 = .ok (.bipush 38, 2) := by decide +kernel
theorem dX12_init_1028 : decode cX12_init 1028 = .ok (.bipush 110, 2) := by decide +kernel
theorem dX12_init_1030 : decode cX12_init 1030 = .ok (.iastore, 1) := by decide +kernel
theorem dX12_init_1031 : decode cX12_init 1031 = .ok (.dup, 1) := by decide +kernel
theorem dX12_init_1032 : decode cX12_init 1032 = .ok (.bipush 39, 2) := by decide +kernel
theorem dX12_init_1034 : decode cX12_init 1034 = .ok (.bipush 103, 2) := by decide +kernel
theorem dX12_init_1036 : decode cX12_init 1036 = .ok (.iastore, 1) := by decide +kernel
theorem dX12_init_1037 : decode cX12_init 1037 = .ok (.dup, 1) := by decide +kernel
theorem dX12_init_1038 : decode cX12_init 1038 = .ok (.bipush 40, 2) := by decide +kernel
theorem dX12_init_1040 : decode cX12_init 1040 = .ok (.bipush 101, 2) := by decide +kernel
theorem dX12_init_1042 : decode cX12_init 1042 = .ok (.iastore, 1) := by decide +kernel
theorem dX12_init_1043 : decode cX12_init 1043 = .ok (.dup, 1) := by decide +kernel
theorem dX12_init_1044 : decode cX12_init 1044 = .ok (.bipush 41, 2) := by decide +kernel
theorem dX12_init_1046 : decode cX12_init 1046 = .ok (.bipush 75, 2) := by decide +kernel
theorem dX12_init_1048 : decode cX12_init 1048 = .ok (.iastore, 1) := by decide +kernel
theorem dX12_init_1049 : decode cX12_init 1049 = .ok (.dup, 1) := by decide +kernel
theorem dX12_init_1050 : decode cX12_init 1050 = .ok (.bipush 42, 2) := by decide +kernel
theorem dX12_init_1052 : decode cX12_init 1052 = .ok (.bipush 101, 2) := by decide +kernel
theorem dX12_init_1054 : decode cX12_init 1054 = .ok (.iastore, 1) := by decide +kernel
theorem dX12_init_1055 : decode cX12_init 1055 = .ok (.dup, 1) := by decide +kernel
theorem dX12_init_1056 : decode cX12_init 1056 = .ok (.bipush 43, 2) := by decide +kernel
theorem dX12_init_1058 : decode cX12_init 1058 = .ok (.bipush 121, 2) := by decide +kernel
theorem dX12_init_1060 : decode cX12_init 1060 = .ok (.iastore, 1) := by decide +kernel
theorem dX12_init_1061 : decode cX12_init 1061 = .ok (.dup, 1) := by decide +kernel
theorem dX12_init_1062 : decode cX12_init 1062 = .ok (.bipush 44, 2) := by decide +kernel
theorem dX12_init_1064 : decode cX12_init 1064 = .ok (.bipush 65, 2) := by decide +kernel
theorem dX12_init_1066 : decode cX12_init 1066 = .ok (.iastore, 1) := by decide +kernel
theorem dX12_init_1067 : decode cX12_init 1067 = .ok (.dup, 1) := by decide +kernel
theorem dX12_init_1068 : decode cX12_init 1068 = .ok (.bipush 45, 2) := by decide +kernel
theorem dX12_init_1070 : decode cX12_init 1070 = .ok (.bipush 103, 2) := by decide +kernel
theorem dX12_init_1072 : decode cX12_init 1072 = .ok (.iastore, 1) := by decide +kernel
theorem dX12_init_1073 : decode cX12_init 1073 = .ok (.dup, 1) := by decide +kernel
theorem dX12_init_1074 : decode cX12_init 1074 = .ok (.bipush 46, 2) := by decide +kernel
theorem dX12_init_1076 : decode cX12_init 1076 = .ok (.bipush 103, 2) := by decide +kernel
theorem dX12_init_1078 : decode cX12_init 1078 = .ok (.iastore, 1) := by decide +kernel
theorem dX12_init_1079 : decode cX12_init 1079 = .ok (.dup, 1) := by decide +kernel
theorem dX12_init_1080 : decode cX12_init 1080 = .ok (.bipush 47, 2) := by decide +kernel
theorem dX12_init_1082 : decode cX12_init 1082 = .ok (.bipush 32, 2) := by decide +kernel
theorem dX12_init_1084 : decode cX12_init 1084 = .ok (.iastore, 1) := by decide +kernel
theorem dX12_init_1085 : decode cX12_init 1085 = .ok (.dup, 1) := by decide +kernel
theorem dX12_init_1086 : decode cX12_init 1086 = .ok (.bipush 48, 2) := by decide +kernel
theorem dX12_init_1088 : decode cX12_init 1088 = .ok (.bipush 108, 2) := by decide +kernel
theorem dX12_init_1090 : decode cX12_init 1090 = .ok (.iastore, 1) := by decide +kernel
theorem dX12_init_1091 : decode cX12_init 1091 = .ok (.dup, 1) := by decide +kernel
theorem dX12_init_1092 : decode cX12_init 1092 = .ok (.bipush 49, 2) := by decide +kernel
theorem dX12_init_1094 : decode cX12_init 1094 = .ok (.bipush 105, 2) := by decide +kernel
theorem dX12_init_1096 : decode cX12_init 1096 = .ok (.iastore, 1) := by decide +kernel
theorem dX12_init_1097 : decode cX12_init 1097 = .ok (.dup, 1) := by decide +kernel
theorem dX12_init_1098 : decode cX12_init 1098 = .ok (.bipush 50, 2) := by decide +kernel
theorem dX12_init_1100 : decode cX12_init 1100 = .ok (.bipush 115, 2) := by decide +kernel
theorem dX12_init_1102 : decode cX12_init 1102 = .ok (.iastore, 1) := by decide +kernel
theorem dX12_init_1103 : decode cX12_init 1103 = .ok (.dup, 1) := by decide +kernel
theorem dX12_init_1104 : decode cX12_init 1104 = .ok (.bipush 51, 2) := by decide +kernel
theorem dX12_init_1106 : decode cX12_init 1106 = .ok (.bipush 116, 2) := by decide +kernel
theorem dX12_init_1108 : decode cX12_init 1108 = .ok (.iastore, 1) := by decide +kernel
theorem dX12_init_1109 : decode cX12_init 1109 = .ok (.dup, 1) := by decide +kernel
theorem dX12_init_1110 : decode cX12_init 1110 = .ok (.bipush 52, 2) := by decide +kernel
theorem dX12_init_1112 : decode cX12_init 1112 = .ok (.bipush 75, 2) := by decide +kernel
theorem dX12_init_1114 : decode cX12_init 1114 = .ok (.iastore, 1) := by decide +kernel
theorem dX12_init_1115 : decode cX12_init 1115 = .ok (.dup, 1) := by decide +kernel
theorem dX12_init_1116 : decode cX12_init 1116 = .ok (.bipush 53, 2) := by decide +kernel
theorem dX12_init_1118 : decode cX12_init 1118 = .ok (.bipush 101, 2) := by decide +kernel
theorem dX12_init_1120 : decode cX12_init 1120 = .ok (.iastore, 1) := by decide +kernel
theorem dX12_init_1121 : decode cX12_init 1121 = .ok (.dup, 1) := by decide +kernel
theorem dX12_init_1122 : decode cX12_init 1122 = .ok (.bipush 54, 2) := by decide +kernel
theorem dX12_init_1124 : decode cX12_init 1124 = .ok (.bipush 121, 2) := by decide +kernel
theorem dX12_init_1126 : decode cX12_init 1126 = .ok (.iastore, 1) := by decide +kernel
theorem dX12_init_1127 : decode cX12_init 1127 = .ok (.dup, 1) := by decide +kernel
theorem dX12_init_1128 : decode cX12_init 1128 = .ok (.bipush 55, 2) := by decide +kernel
theorem dX12_init_1130 : decode cX12_init 1130 = .ok (.bipush 65, 2) := by decide +kernel
theorem dX12_init_1132 : decode cX12_init 1132 = .ok (.iastore, 1) := by decide +kernel
theorem dX12_init_1133 : decode cX12_init 1133 = .ok (.dup, 1) := by decide +kernel
theorem dX12_init_1134 : decode cX12_init 1134 = .ok (.bipush 56, 2) := by decide +kernel
theorem dX12_init_1136 : decode cX12_init 1136 = .ok (.bipush 103, 2) := by decide +kernel
theorem dX12_init_1138 : decode cX12_init 1138 = .ok (.iastore, 1) := by decide +kernel
theorem dX12_init_1139 : decode cX12_init 1139 = .ok (.dup, 1) := by decide +kernel
theorem dX12_init_1140 : decode cX12_init 1140 = .ok (.bipush 57, 2) := by decide +kernel
theorem dX12_init_1142 : decode cX12_init 1142 = .ok (.bipush 103, 2) := by decide +kernel
theorem dX12_init_1144 : decode cX12_init 1144 = .ok (.iastore, 1) := by decide +kernel
theorem dX12_init_1145 : decode cX12_init 1145 = .ok (.dup, 1) := by decide +kernel
theorem dX12_init_1146 : decode cX12_init 1146 = .ok (.bipush 58, 2) := by decide +kernel
theorem dX12_init_1148 : decode cX12_init 1148 = .ok (.bipush 32, 2) := by decide +kernel
theorem dX12_init_1150 : decode cX12_init 1150 = .ok (.iastore, 1) := by decide +kernel
theorem dX12_init_1151 : decode cX12_init 1151 = .ok (.dup, 1) := by decide +kernel
theorem dX12_init_1152 : decode cX12_init 1152 = .ok (.bipush 59, 2) := by decide +kernel
theorem dX12_init_1154 : decode cX12_init 1154 = .ok (.bipush 99, 2) := by decide +kernel
theorem dX12_init_1156 : decode cX12_init 1156 = .ok (.iastore, 1) := by decide +kernel
theorem dX12_init_1157 : decode cX12_init 1157 = .ok (.dup, 1) := by decide +kernel
theorem dX12_init_1158 : decode cX12_init 1158 = .ok (.bipush 60, 2) := by decide +kernel
theorem dX12_init_1160 : decode cX12_init 1160 = .ok (.bipush 111, 2) := by decide +kernel
theorem dX12_init_1162 : decode cX12_init 1162 = .ok (.iastore, 1) := by decide +kernel
theorem dX12_init_1163 : decode cX12_init 1163 = .ok (.dup, 1) := by decide +kernel
theorem dX12_init_1164 : decode cX12_init 1164 = .ok (.bipush 61, 2) := by decide +kernel
theorem dX12_init_1166 : decode cX12_init 1166 = .ok (.bipush 101, 2) := by decide +kernel
theorem dX12_init_1168 : decode cX12_init 1168 = .ok (.iastore, 1) := by decide +kernel
theorem dX12_init_1169 : decode cX12_init 1169 = .ok (.dup, 1) := by decide +kernel
theorem dX12_init_1170 : decode cX12_init 1170 = .ok (.bipush 62, 2) := by decide +kernel
theorem dX12_init_1172 : decode cX12_init 1172 = .ok (.bipush 102, 2) := by decide +kernel
theorem dX12_init_1174 : decode cX12_init 1174 = .ok (.iastore, 1) := by decide +kernel
theorem dX12_init_1175 : decode cX12_init 1175 = .ok (.dup, 1) := by decide +kernel
theorem dX12_init_1176 : decode cX12_init 1176 = .ok (.bipush 63, 2) := by decide +kernel
theorem dX12_init_1178 : decode cX12_init 1178 = .ok (.bipush 102, 2) := by decide +kernel
theorem dX12_init_1180 : decode cX12_init 1180 = .ok (.iastore, 1) := by decide +kernel
theorem dX12_init_1181 : decode cX12_init 1181 = .ok (.dup, 1) := by decide +kernel
theorem dX12_init_1182 : decode cX12_init 1182 = .ok (.bipush 64, 2) := by decide +kernel
theorem dX12_init_1184 : decode cX12_init 1184 = .ok (.bipush 105, 2) := by decide +kernel
theorem dX12_init_1186 : decode cX12_init 1186 = .ok (.iastore, 1) := by decide +kernel
theorem dX12_init_1187 : decode cX12_init 1187 = .ok (.dup, 1) := by decide +kernel
theorem dX12_init_1188 : decode cX12_init 1188 = .ok (.bipush 65, 2) := by decide +kernel
theorem dX12_init_1190 : decode cX12_init 1190 = .ok (.bipush 99, 2) := by decide +kernel
theorem dX12_init_1192 : decode cX12_init 1192 = .ok (.iastore, 1) := by decide +kernel
theorem dX12_init_1193 : decode cX12_init 1193 = .ok (.dup, 1) := by decide +kernel
theorem dX12_init_1194 : decode cX12_init 1194 = .ok (.bipush 66, 2) := by decide +kernel
theorem dX12_init_1196 : decode cX12_init 1196 = .ok (.bipush 105, 2) := by decide +kernel
theorem dX12_init_1198 : decode cX12_init 1198 = .ok (.iastore, 1) := by decide +kernel
theorem dX12_init_1199 : decode cX12_init 1199 = .ok (.dup, 1) := by decide +kernel
theorem dX12_init_1200 : decode cX12_init 1200 = .ok (.bipush 67, 2) := by decide +kernel
theorem dX12_init_1202 : decode cX12_init 1202 = .ok (.bipush 101, 2) := by decide +kernel
theorem dX12_init_1204 : decode cX12_init 1204 = .ok (.iastore, 1) := by decide +kernel
theorem dX12_init_1205 : decode cX12_init 1205 = .ok (.dup, 1) := by decide +kernel
theorem dX12_init_1206 : decode cX12_init 1206 = .ok (.bipush 68, 2) := by decide +kernel
theorem dX12_init_1208 : decode cX12_init 1208 = .ok (.bipush 110, 2) := by decide +kernel
theorem dX12_init_1210 : decode cX12_init 1210 = .ok (.iastore, 1) := by decide +kernel
theorem dX12_init_1211 : decode cX12_init 1211 = .ok (.dup, 1) := by decide +kernel
theorem dX12_init_1212 : decode cX12_init 1212 = .ok (.bipush 69, 2) := by decide +kernel
theorem dX12_init_1214 : decode cX12_init 1214 = .ok (.bipush 116, 2) := by decide +kernel
theorem dX12_init_1216 : decode cX12_init 1216 = .ok (.iastore, 1) := by decide +kernel
theorem dX12_init_1217 : decode cX12_init 1217 = .ok (.dup, 1) := by decide +kernel
theorem dX12_init_1218 : decode cX12_init 1218 = .ok (.bipush 70, 2) := by decide +kernel
theorem dX12_init_1220 : decode cX12_init 1220 = .ok (.bipush 77, 2) := by decide +kernel
theorem dX12_init_1222 : decode cX12_init 1222 = .ok (.iastore, 1) := by decide +kernel
theorem dX12_init_1223 : decode cX12_init 1223 = .ok (.dup, 1) := by decide +kernel
theorem dX12_init_1224 : decode cX12_init 1224 = .ok (.bipush 71, 2) := by decide +kernel
theorem dX12_init_1226 : decode cX12_init 1226 = .ok (.bipush 117, 2) := by decide +kernel
theorem dX12_init_1228 : decode cX12_init 1228 = .ok (.iastore, 1) := by decide +kernel
theorem dX12_init_1229 : decode cX12_init 1229 = .ok (.dup, 1) := by decide +kernel
theorem dX12_init_1230 : decode cX12_init 1230 = .ok (.bipush 72, 2) := by decide +kernel
theorem dX12_init_1232 : decode cX12_init 1232 = .ok (.bipush 83, 2) := by decide +kernel
theorem dX12_init_1234 : decode cX12_init 1234 = .ok (.iastore, 1) := by decide +kernel
theorem dX12_init_1235 : decode cX12_init 1235 = .ok (.dup, 1) := by decide +kernel
theorem dX12_init_1236 : decode cX12_init 1236 = .ok (.bipush 73, 2) := by decide +kernel
theorem dX12_init_1238 : decode cX12_init 1238 = .ok (.bipush 105, 2) := by decide +kernel
theorem dX12_init_1240 : decode cX12_init 1240 = .ok (.iastore, 1) := by decide +kernel
theorem dX12_init_1241 : decode cX12_init 1241 = .ok (.dup, 1) := by decide +kernel
theorem dX12_init_1242 : decode cX12_init 1242 = .ok (.bipush 74, 2) := by decide +kernel
theorem dX12_init_1244 : decode cX12_init 1244 = .ok (.bipush 103, 2) := by decide +kernel
theorem dX12_init_1246 : decode cX12_init 1246 = .ok (.iastore, 1) := by decide +kernel
theorem dX12_init_1247 : decode cX12_init 1247 = .ok (.dup, 1) := by decide +kernel
theorem dX12_init_1248 : decode cX12_init 1248 = .ok (.bipush 75, 2) := by decide +kernel
theorem dX12_init_1250 : decode cX12_init 1250 = .ok (.bipush 47, 2) := by decide +kernel
theorem dX12_init_1252 : decode cX12_init 1252 = .ok (.iastore, 1) := by decide +kernel
theorem dX12_init_1253 : decode cX12_init 1253 = .ok (.dup, 1) := by decide +kernel
theorem dX12_init_1254 : decode cX12_init 1254 = .ok (.bipush 76, 2) := by decide +kernel
theorem dX12_init_1256 : decode cX12_init 1256 = .ok (.bipush 97, 2) := by decide +kernel
theorem dX12_init_1258 : decode cX12_init 1258 = .ok (.iastore, 1) := by decide +kernel
theorem dX12_init_1259 : decode cX12_init 1259 = .ok (.dup, 1) := by decide +kernel
theorem dX12_init_1260 : decode cX12_init 1260 = .ok (.bipush 77, 2) := by decide +kernel
theorem dX12_init_1262 : decode cX12_init 1262 = .ok (.bipush 117, 2) := by decide +kernel
theorem dX12_init_1264 : decode cX12_init 1264 = .ok (.iastore, 1) := by decide +kernel
theorem dX12_init_1265 : decode cX12_init 1265 = .ok (.dup, 1) := by decide +kernel
theorem dX12_init_1266 : decode cX12_init 1266 = .ok (.bipush 78, 2) := by decide +kernel
theorem dX12_init_1268 : decode cX12_init 1268 = .ok (.bipush 120, 2) := by decide +kernel
theorem dX12_init_1270 : decode cX12_init 1270 = .ok (.iastore, 1) := by decide +kernel
theorem dX12_init_1271 : decode cX12_init 1271 = .ok (.dup, 1) := by decide +kernel
theorem dX12_init_1272 : decode cX12_init 1272 = .ok (.bipush 79, 2) := by decide +kernel
theorem dX12_init_1274 : decode cX12_init 1274 = .ok (.bipush 77, 2) := by decide +kernel
theorem dX12_init_1276 : decode cX12_init 1276 = .ok (.iastore, 1) := by decide +kernel
theorem dX12_init_1277 : decode cX12_init 1277 = .ok (.dup, 1) := by decide +kernel
theorem dX12_init_1278 : decode cX12_init 1278 = .ok (.bipush 80, 2) := by decide +kernel
theorem dX12_init_1280 : decode cX12_init 1280 = .ok (.bipush 117, 2) := by decide +kernel
theorem dX12_init_1282 : decode cX12_init 1282 = .ok (.iastore, 1) := by decide +kernel
theorem dX12_init_1283 : decode cX12_init 1283 = .ok (.dup, 1) := by decide +kernel
theorem dX12_init_1284 : decode cX12_init 1284 = .ok (.bipush 81, 2) := by decide +kernel
theorem dX12_init_1286 : decode cX12_init 1286 = .ok (.bipush 83, 2) := by decide +kernel
theorem dX12_init_1288 : decode cX12_init 1288 = .ok (.iastore, 1) := by decide +kernel
theorem dX12_init_1289 : decode cX12_init 1289 = .ok (.dup, 1) := by decide +kernel
theorem dX12_init_1290 : decode cX12_init 1290 = .ok (.bipush 82, 2) := by decide +kernel
theorem dX12_init_1292 : decode cX12_init 1292 = .ok (.bipush 105, 2) := by decide +kernel
theorem dX12_init_1294 : decode cX12_init 1294 = .ok (.iastore, 1) := by decide +kernel
theorem dX12_init_1295 : decode cX12_init 1295 = .ok (.dup, 1) := by decide +kernel
theorem dX12_init_1296 : decode cX12_init 1296 = .ok (.bipush 83, 2) := by decide +kernel
theorem dX12_init_1298 : decode cX12_init 1298 = .ok (.bipush 103, 2) := by decide +kernel
theorem dX12_init_1300 : decode cX12_init 1300 = .ok (.iastore, 1) := by decide +kernel
theorem dX12_init_1301 : decode cX12_init 1301 = .ok (.dup, 1) := by decide +kernel
theorem dX12_init_1302 : decode cX12_init 1302 = .ok (.bipush 84, 2) := by decide +kernel
theorem dX12_init_1304 : decode cX12_init 1304 = .ok (.bipush 47, 2) := by decide +kernel
theorem dX12_init_1306 : decode cX12_init 1306 = .ok (.iastore, 1) := by decide +kernel
theorem dX12_init_1307 : decode cX12_init 1307 = .ok (.dup, 1) := by decide +kernel
theorem dX12_init_1308 : decode cX12_init 1308 = .ok (.bipush 85, 2) := by decide +kernel
theorem dX12_init_1310 : decode cX12_init 1310 = .ok (.bipush 110, 2) := by decide +kernel
theorem dX12_init_1312 : decode cX12_init 1312 = .ok (.iastore, 1) := by decide +kernel
theorem dX12_init_1313 : decode cX12_init 1313 = .ok (.dup, 1) := by decide +kernel
theorem dX12_init_1314 : decode cX12_init 1314 = .ok (.bipush 86, 2) := by decide +kernel
theorem dX12_init_1316 : decode cX12_init 1316 = .ok (.bipush 111, 2) := by decide +kernel
theorem dX12_init_1318 : decode cX12_init 1318 = .ok (.iastore, 1) := by decide +kernel
theorem dX12_init_1319 : decode cX12_init 1319 = .ok (.dup, 1) := by decide +kernel
theorem dX12_init_1320 : decode cX12_init 1320 = .ok (.bipush 87, 2) := by decide +kernel
theorem dX12_init_1322 : decode cX12_init 1322 = .ok (.bipush 110, 2) := by decide +kernel
theorem dX12_init_1324 : decode cX12_init 1324 = .ok (.iastore, 1) := by decide +kernel
theorem dX12_init_1325 : decode cX12_init 1325 = .ok (.dup, 1) := by decide +kernel
theorem dX12_init_1326 : decode cX12_init 1326 = .ok (.bipush 88, 2) := by decide +kernel
theorem dX12_init_1328 : decode cX12_init 1328 = .ok (.bipush 99, 2) := by decide +kernel
theorem dX12_init_1330 : decode cX12_init 1330 = .ok (.iastore, 1) := by decide +kernel
theorem dX12_init_1331 : decode cX12_init 1331 = .ok (.dup, 1) := by decide +kernel
theorem dX12_init_1332 : decode cX12_init 1332 = .ok (.bipush 89, 2) := by decide +kernel
theorem dX12_init_1334 : decode cX12_init 1334 = .ok (.bipush 101, 2) := by decide +kernel
theorem dX12_init_1336 : decode cX12_init 1336 = .ok (.iastore, 1) := by decide +kernel
theorem dX12_init_1337 : decode cX12_init 1337 = .ok (.dup, 1) := by decide +kernel
theorem dX12_init_1338 : decode cX12_init 1338 = .ok (.bipush 90, 2) := by decide +kernel
theorem dX12_init_1340 : decode cX12_init 1340 = .ok (.bipush 77, 2) := by decide +kernel
theorem dX12_init_1342 : decode cX12_init 1342 = .ok (.iastore, 1) := by decide +kernel
theorem dX12_init_1343 : decode cX12_init 1343 = .ok (.dup, 1) := by decide +kernel
theorem dX12_init_1344 : decode cX12_init 1344 = .ok (.bipush 91, 2) := by decide +kernel
theorem dX12_init_1346 : decode cX12_init 1346 = .ok (.bipush 117, 2) := by decide +kernel
theorem dX12_init_1348 : decode cX12_init 1348 = .ok (.iastore, 1) := by decide +kernel
theorem dX12_init_1349 : decode cX12_init 1349 = .ok (.dup, 1) := by decide +kernel
theorem dX12_init_1350 : decode cX12_init 1350 = .ok (.bipush 92, 2) := by decide +kernel
theorem dX12_init_1352 : decode cX12_init 1352 = .ok (.bipush 83, 2) := by decide +kernel
theorem dX12_init_1354 : decode cX12_init 1354 = .ok (.iastore, 1) := by decide +kernel
theorem dX12_init_1355 : decode cX12_init 1355 = .ok (.dup, 1) := by decide +kernel
theorem dX12_init_1356 : decode cX12_init 1356 = .ok (.bipush 93, 2) := by decide +kernel
theorem dX12_init_1358 : decode cX12_init 1358 = .ok (.bipush 105, 2) := by decide +kernel
theorem dX12_init_1360 : decode cX12_init 1360 = .ok (.iastore, 1) := by decide +kernel
theorem dX12_init_1361 : decode cX12_init 1361 = .ok (.dup, 1) := by decide +kernel
theorem dX12_init_1362 : decode cX12_init 1362 = .ok (.bipush 94, 2) := by decide +kernel
theorem dX12_init_1364 : decode cX12_init 1364 = .ok (.bipush 103, 2) := by decide +kernel
theorem dX12_init_1366 : decode cX12_init 1366 = .ok (.iastore, 1) := by decide +kernel
theorem dX12_init_1367 : decode cX12_init 1367 = .ok (.dup, 1) := by decide +kernel
theorem dX12_init_1368 : decode cX12_init 1368 = .ok (.bipush 95, 2) := by decide +kernel
theorem dX12_init_1370 : decode cX12_init 1370 = .ok (.bipush 47, 2) := by decide +kernel
theorem dX12_init_1372 : decode cX12_init 1372 = .ok (.iastore, 1) := by decide +kernel
theorem dX12_init_1373 : decode cX12_init 1373 = .ok (.dup, 1) := by decide +kernel
theorem dX12_init_1374 : decode cX12_init 1374 = .ok (.bipush 96, 2) := by decide +kernel
theorem dX12_init_1376 : decode cX12_init 1376 = .ok (.bipush 110, 2) := by decide +kernel
theorem dX12_init_1378 : decode cX12_init 1378 = .ok (.iastore, 1) := by decide +kernel
theorem dX12_init_1379 : decode cX12_init 1379 = .ok (.dup, 1) := by decide +kernel
theorem dX12_init_1380 : decode cX12_init 1380 = .ok (.bipush 97, 2) := by decide +kernel
theorem dX12_init_1382 : decode cX12_init 1382 = .ok (.bipush 111, 2) := by decide +kernel
theorem dX12_init_1384 : decode cX12_init 1384 = .ok (.iastore, 1) := by decide +kernel
theorem dX12_init_1385 : decode cX12_init 1385 = .ok (.dup, 1) := by decide +kernel
theorem dX12_init_1386 : decode cX12_init 1386 = .ok (.bipush 98, 2) := by decide +kernel
theorem dX12_init_1388 : decode cX12_init 1388 = .ok (.bipush 110, 2) := by decide +kernel
theorem dX12_init_1390 : decode cX12_init 1390 = .ok (.iastore, 1) := by decide +kernel
theorem dX12_init_1391 : decode cX12_init 1391 = .ok (.dup, 1) := by decide +kernel
theorem dX12_init_1392 : decode cX12_init 1392 = .ok (.bipush 99, 2) := by decide +kernel
theorem dX12_init_1394 : decode cX12_init 1394 = .ok (.bipush 99, 2) := by decide +kernel
theorem dX12_init_1396 : decode cX12_init 1396 = .ok (.iastore, 1) := by decide +kernel
theorem dX12_init_1397 : decode cX12_init 1397 = .ok (.dup, 1) := by decide +kernel
theorem dX12_init_1398 : decode cX12_init 1398 = .ok (.bipush 100, 2) := by decide +kernel
theorem dX12_init_1400 : decode cX12_init 1400 = .ok (.bipush 101, 2) := by decide +kernel
theorem dX12_init_1402 : decode cX12_init 1402 = .ok (.iastore, 1) := by decide +kernel
theorem dX12_init_1403 : decode cX12_init 1403 = .ok (.dup, 1) := by decide +kernel
theorem dX12_init_1404 : decode cX12_init 1404 = .ok (.bipush 101, 2) := by decide +kernel
theorem dX12_init_1406 : decode cX12_init 1406 = .ok (.bipush 99, 2) := by decide +kernel
theorem dX12_init_1408 : decode cX12_init 1408 = .ok (.iastore, 1) := by decide +kernel
theorem dX12_init_1409 : decode cX12_init 1409 = .ok (.dup, 1) := by decide +kernel
theorem dX12_init_1410 : decode cX12_init 1410 = .ok (.bipush 102, 2) := by decide +kernel
theorem dX12_init_1412 : decode cX12_init 1412 = .ok (.bipush 111, 2) := by decide +kernel
theorem dX12_init_1414 : decode cX12_init 1414 = .ok (.iastore, 1) := by decide +kernel
theorem dX12_init_1415 : decode cX12_init 1415 = .ok (.dup, 1) := by decide +kernel
theorem dX12_init_1416 : decode cX12_init 1416 = .ok (.bipush 103, 2) := by decide +kernel
theorem dX12_init_1418 : decode cX12_init 1418 = .ok (.bipush 101, 2) := by decide +kernel
theorem dX12_init_1420 : decode cX12_init 1420 = .ok (.iastore, 1) := by decide +kernel
theorem dX12_init_1421 : decode cX12_init 1421 = .ok (.dup, 1) := by decide +kernel
theorem dX12_init_1422 : decode cX12_init 1422 = .ok (.bipush 104, 2) := by decide +kernel
theorem dX12_init_1424 : decode cX12_init 1424 = .ok (.bipush 102, 2) := by decide +kernel
theorem dX12_init_1426 : decode cX12_init 1426 = .ok (.iastore, 1) := by decide +kernel
theorem dX12_init_1427 : decode cX12_init 1427 = .ok (.putfield 211, 3) := by decide +kernel
theorem dX12_init_1430 : decode cX12_init 1430 = .ok (.aload_n 0, 1) := by decide +kernel
theorem dX12_init_1431 : decode cX12_init 1431 = .ok (.bipush 64, 2) := by decide +kernel
theorem dX12_init_1433 : decode cX12_init 1433 = .ok (.newarray .int, 2) := by decide +kernel
theorem dX12_init_1435 : decode cX12_init 1435 = .ok (.dup, 1) := by decide +kernel
theorem dX12_init_1436 : decode cX12_init 1436 = .ok (.iconst 0, 1) := by decide +kernel
theorem dX12_init_1437 : decode cX12_init 1437 = .ok (.ldc 214, 2) := by decide +kernel
theorem dX12_init_1439 : decode cX12_init 1439 = .ok (.iastore, 1) := by decide +kernel
theorem dX12_init_1440 : decode cX12_init 1440 = .ok (.dup, 1) := by decide +kernel
theorem dX12_init_1441 : decode cX12_init 1441 = .ok (.iconst 1, 1) := by decide +kernel
theorem dX12_init_1442 : decode cX12_init 1442 = .ok (.ldc 215, 2) := by decide +kernel
theorem dX12_init_1444 : decode cX12_init 1444 = .ok (.iastore, 1) := by decide +kernel
theorem dX12_init_1445 : decode cX12_init 1445 = .ok (.dup, 1) := by decide +kernel
theorem dX12_init_1446 : decode cX12_init 1446 = .ok (.iconst 2, 1) := by decide +kernel
theorem dX12_init_1447 : decode cX12_init 1447 = .ok (.ldc 216, 2) := by decide +kernel
theorem dX12_init_1449 : decode cX12_init 1449 = .ok (.iastore, 1) := by decide +kernel
theorem dX12_init_1450 : decode cX12_init 1450 = .ok (.dup, 1) := by decide +kernel
theorem dX12_init_1451 : decode cX12_init 1451 = .ok (.iconst 3, 1) := by decide +kernel
theorem dX12_init_1452 : decode cX12_init 1452 = .ok (.ldc 217, 2) := by decide +kernel
theorem dX12_init_1454 : decode cX12_init 1454 = .ok (.iastore, 1) := by decide +kernel
theorem dX12_init_1455 : decode cX12_init 1455 = .ok (.dup, 1) := by decide +kernel
theorem dX12_init_1456 : decode cX12_init 1456 = .ok (.iconst 4, 1) := by decide +kernel
theorem dX12_init_1457 : decode cX12_init 1457 = .ok (.ldc 218, 2) := by decide +kernel
theorem dX12_init_1459 : decode cX12_init 1459 = .ok (.iastore, 1) := by decide +kernel
theorem dX12_init_1460 : decode cX12_init 1460 = .ok (.dup, 1) := by decide +kernel
theorem dX12_init_1461 : decode cX12_init 1461 = .ok (.iconst 5, 1) := by decide +kernel
theorem dX12_init_1462 : decode cX12_init 1462 = .ok (.ldc 219, 2) := by decide +kernel
theorem dX12_init_1464 : decode cX12_init 1464 = .ok (.iastore, 1) := by decide +kernel
theorem dX12_init_1465 : decode cX12_init 1465 = .ok (.dup, 1) := by decide +kernel
theorem dX12_init_1466 : decode cX12_init 1466 = .ok (.bipush 6, 2) := by decide +kernel
theorem dX12_init_1468 : decode cX12_init 1468 = .ok (.ldc 220, 2) := by decide +kernel
theorem dX12_init_1470 : decode cX12_init 1470 = .ok (.iastore, 1) := by decide +kernel
theorem dX12_init_1471 : decode cX12_init 1471 = .ok (.dup, 1) := by decide +kernel
theorem dX12_init_1472 : decode cX12_init 1472 = .ok (.bipush 7, 2) := by decide +kernel
theorem dX12_init_1474 : decode cX12_init 1474 = .ok (.ldc 221, 2) := by decide +kernel
theorem dX12_init_1476 : decode cX12_init 1476 = .ok (.iastore, 1) := by decide +kernel
theorem dX12_init_1477 : decode cX12_init 1477 = .ok (.dup, 1) := by decide +kernel
theorem dX12_init_1478 : decode cX12_init 1478 = .ok (.bipush 8, 2) := by decide +kernel
theorem dX12_init_1480 : decode cX12_init 1480 = .ok (.ldc 222, 2) := by decide +kernel
theorem dX12_init_1482 : decode cX12_init 1482 = .ok (.iastore, 1) := by decide +kernel
theorem dX12_init_1483 : decode cX12_init 1483 = .ok (.dup, 1) := by decide +kernel
theorem dX12_init_1484 : decode cX12_init 1484 = .ok (.bipush 9, 2) := by decide +kernel
theorem dX12_init_1486 : decode cX12_init 1486 = .ok (.ldc 223, 2) := by decide +kernel
theorem dX12_init_1488 : decode cX12_init 1488 = .ok (.iastore, 1) := by decide +kernel
theorem dX12_init_1489 : decode cX12_init 1489 = .ok (.dup, 1) := by decide +kernel
theorem dX12_init_1490 : decode cX12_init 1490 = .ok (.bipush 10, 2) := by decide +kernel
theorem dX12_init_1492 : decode cX12_init 1492 = .ok (.ldc 224, 2) := by decide +kernel
theorem dX12_init_1494 : decode cX12_init 1494 = .ok (.iastore, 1) := by decide +kernel
theorem dX12_init_1495 : decode cX12_init 1495 = .ok (.dup, 1) := by decide +kernel
theorem dX12_init_1496 : decode cX12_init 1496 = .ok (.bipush 11, 2) := by decide +kernel
theorem dX12_init_1498 : decode cX12_init 1498 = .ok (.ldc 225, 2) := by decide +kernel
theorem dX12_init_1500 : decode cX12_init 1500 = .ok (.iastore, 1) := by decide +kernel
theorem dX12_init_1501 : decode cX12_init 1501 = .ok (.dup, 1) := by decide +kernel
theorem dX12_init_1502 : decode cX12_init 1502 = .ok (.bipush 12, 2) := by decide +kernel
theorem dX12_init_1504 : decode cX12_init 1504 = .ok (.ldc 226, 2) := by decide +kernel
theorem dX12_init_1506 : decode cX12_init 1506 = .ok (.iastore, 1) := by decide +kernel
theorem dX12_init_1507 : decode cX12_init 1507 = .ok (.dup, 1) := by decide +kernel
theorem dX12_init_1508 : decode cX12_init 1508 = .ok (.bipush 13, 2) := by decide +kernel
theorem dX12_init_1510 : decode cX12_init 1510 = .ok (.ldc 227, 2) := by decide +kernel
theorem dX12_init_1512 : decode cX12_init 1512 = .ok (.iastore, 1) := by decide +kernel
theorem dX12_init_1513 : decode cX12_init 1513 = .ok (.dup, 1) := by decide +kernel
theorem dX12_init_1514 : decode cX12_init 1514 = .ok (.bipush 14, 2) := by decide +kernel
theorem dX12_init_1516 : decode cX12_init 1516 = .ok (.ldc 228, 2) := by decide +kernel
theorem dX12_init_1518 : decode cX12_init 1518 = .ok (.iastore, 1) := by decide +kernel
theorem dX12_init_1519 : decode cX12_init 1519 = .ok (.dup, 1) := by decide +kernel
theorem dX12_init_1520 : decode cX12_init 1520 = .ok (.bipush 15, 2) := by decide +kernel
theorem dX12_init_1522 : decode cX12_init 1522 = .ok (.ldc 229, 2) := by decide +kernel
theorem dX12_init_1524 : decode cX12_init 1524 = .ok (.iastore, 1) := by decide +kernel
theorem dX12_init_1525 : decode cX12_init 1525 = .ok (.dup, 1) := by decide +kernel
theorem dX12_init_1526 : decode cX12_init 1526 = .ok (.bipush 16, 2) := by decide +kernel
theorem dX12_init_1528 : decode cX12_init 1528 = .ok (.ldc 230, 2) := by decide +kernel
theorem dX12_init_1530 : decode cX12_init 1530 = .ok (.iastore, 1) := by decide +kernel
theorem dX12_init_1531 : decode cX12_init 1531 = .ok (.dup, 1) := by decide +kernel
theorem dX12_init_1532 : decode cX12_init 1532 = .ok (.bipush 17, 2) := by decide +kernel
theorem dX12_init_1534 : decode cX12_init 1534 = .ok (.ldc 231, 2) := by decide +kernel
theorem dX12_init_1536 : decode cX12_init 1536 = .ok (.iastore, 1) := by decide +kernel
theorem dX12_init_1537 : decode cX12_init 1537 = .ok (.dup, 1) := by decide +kernel
theorem dX12_init_1538 : decode cX12_init 1538 = .ok (.bipush 18, 2) := by decide +kernel
theorem dX12_init_1540 : decode cX12_init 1540 = .ok (.ldc 232, 2) := by decide +kernel
theorem dX12_init_1542 : decode cX12_init 1542 = .ok (.iastore, 1) := by decide +kernel
theorem dX12_init_1543 : decode cX12_init 1543 = .ok (.dup, 1) := by decide +kernel
theorem dX12_init_1544 : decode cX12_init 1544 = .ok (.bipush 19, 2) := by decide +kernel
theorem dX12_init_1546 : decode cX12_init 1546 = .ok (.ldc 233, 2) := by decide +kernel
theorem dX12_init_1548 : decode cX12_init 1548 = .ok (.iastore, 1) := by decide +kernel
theorem dX12_init_1549 : decode cX12_init 1549 = .ok (.dup, 1) := by decide +kernel
theorem dX12_init_1550 : decode cX12_init 1550 = .ok (.bipush 20, 2) := by decide +kernel
theorem dX12_init_1552 : decode cX12_init 1552 = .ok (.ldc 234, 2) := by decide +kernel
theorem dX12_init_1554 : decode cX12_init 1554 = .ok (.iastore, 1) := by decide +kernel
theorem dX12_init_1555 : decode cX12_init 1555 = .ok (.dup, 1) := by decide +kernel
theorem dX12_init_1556 : decode cX12_init 1556 = .ok (.bipush 21, 2) := by decide +kernel
theorem dX12_init_1558 : decode cX12_init 1558 = .ok (.ldc 235, 2) := by decide +kernel
theorem dX12_init_1560 : decode cX12_init 1560 = .ok (.iastore, 1) := by decide +kernel
theorem dX12_init_1561 : decode cX12_init 1561 = .ok (.dup, 1) := by decide +kernel
theorem dX12_init_1562 : decode cX12_init 1562 = .ok (.bipush 22, 2) := by decide +kernel
theorem dX12_init_1564 : decode cX12_init 1564 = .ok (.ldc 236, 2) := by decide +kernel
theorem dX12_init_1566 : decode cX12_init 1566 = .ok (.iastore, 1) := by decide +kernel
theorem dX12_init_1567 : decode cX12_init 1567 = .ok (.dup, 1) := by decide +kernel
theorem dX12_init_1568 : decode cX12_init 1568 = .ok (.bipush 23, 2) := by decide +kernel
theorem dX12_init_1570 : decode cX12_init 1570 = .ok (.ldc 237, 2) := by decide +kernel
theorem dX12_init_1572 : decode cX12_init 1572 = .ok (.iastore, 1) := by decide +kernel
theorem dX12_init_1573 : decode cX12_init 1573 = .ok (.dup, 1) := by decide +kernel
theorem dX12_init_1574 : decode cX12_init 1574 = .ok (.bipush 24, 2) := by decide +kernel
theorem dX12_init_1576 : decode cX12_init 1576 = .ok (.ldc 238, 2) := by decide +kernel
theorem dX12_init_1578 : decode cX12_init 1578 = .ok (.iastore, 1) := by decide +kernel
theorem dX12_init_1579 : decode cX12_init 1579 = .ok (.dup, 1) := by decide +kernel
theorem dX12_init_1580 : decode cX12_init 1580 = .ok (.bipush 25, 2) := by decide +kernel
theorem dX12_init_1582 : decode cX12_init 1582 = .ok (.ldc 239, 2) := by decide +kernel
theorem dX12_init_1584 : decode cX12_init 1584 = .ok (.iastore, 1) := by decide +kernel
theorem dX12_init_1585 : decode cX12_init 1585 = .ok (.dup, 1) := by decide +kernel
theorem dX12_init_1586 : decode cX12_init 1586 = .ok (.bipush 26, 2) := by decide +kernel
theorem dX12_init_1588 : decode cX12_init 1588 = .ok (.ldc 240, 2) := by decide +kernel
theorem dX12_init_1590 : decode cX12_init 1590 = .ok (.iastore, 1) := by decide +kernel
theorem dX12_init_1591 : decode cX12_init 1591 = .ok (.dup, 1) := by decide +kernel
theorem dX12_init_1592 : decode cX12_init 1592 = .ok (.bipush 27, 2) := by decide +kernel
theorem dX12_init_1594 : decode cX12_init 1594 = .ok (.ldc 241, 2) := by decide +kernel
theorem dX12_init_1596 : decode cX12_init 1596 = .ok (.iastore, 1) := by decide +kernel
theorem dX12_init_1597 : decode cX12_init 1597 = .ok (.dup, 1) := by decide +kernel
theorem dX12_init_1598 : decode cX12_init 1598 = .ok (.bipush 28, 2) := by decide +kernel
theorem dX12_init_1600 : decode cX12_init 1600 = .ok (.ldc 242, 2) := by decide +kernel
theorem dX12_init_1602 : decode cX12_init 1602 = .ok (.iastore, 1) := by decide +kernel
theorem dX12_init_1603 : decode cX12_init 1603 = .ok (.dup, 1) := by decide +kernel
theorem dX12_init_1604 : decode cX12_init 1604 = .ok (.bipush 29, 2) := by decide +kernel
theorem dX12_init_1606 : decode cX12_init 1606 = .ok (.ldc 243, 2) := by decide +kernel
theorem dX12_init_1608 : decode cX12_init 1608 = .ok (.iastore, 1) := by decide +kernel
theorem dX12_init_1609 : decode cX12_init 1609 = .ok (.dup, 1) := by decide +kernel
theorem dX12_init_1610 : decode cX12_init 1610 = .ok (.bipush 30, 2) := by decide +kernel
theorem dX12_init_1612 : decode cX12_init 1612 = .ok (.ldc 244, 2) := by decide +kernel
theorem dX12_init_1614 : decode cX12_init 1614 = .ok (.iastore, 1) := by decide +kernel
theorem dX12_init_1615 : decode cX12_init 1615 = .ok (.dup, 1) := by decide +kernel
theorem dX12_init_1616 : decode cX12_init 1616 = .ok (.bipush 31, 2) := by decide +kernel
theorem dX12_init_1618 : decode cX12_init 1618 = .ok (.ldc 245, 2) := by decide +kernel
theorem dX12_init_1620 : decode cX12_init 1620 = .ok (.iastore, 1) := by decide +kernel
theorem dX12_init_1621 : decode cX12_init 1621 = .ok (.dup, 1) := by decide +kernel
theorem dX12_init_1622 : decode cX12_init 1622 = .ok (.bipush 32, 2) := by decide +kernel
theorem dX12_init_1624 : decode cX12_init 1624 = .ok (.ldc 246, 2) := by decide +kernel
theorem dX12_init_1626 : decode cX12_init 1626 = .ok (.iastore, 1) := by decide +kernel
theorem dX12_init_1627 : decode cX12_init 1627 = .ok (.dup, 1) := by decide +kernel
theorem dX12_init_1628 : decode cX12_init 1628 = .ok (.bipush 33, 2) := by decide +kernel
theorem dX12_init_1630 : decode cX12_init 1630 = .ok (.ldc 247, 2) := by decide +kernel
theorem dX12_init_1632 : decode cX12_init 1632 = .ok (.iastore, 1) := by decide +kernel
theorem dX12_init_1633 : decode cX12_init 1633 = .ok (.dup, 1) := by decide +kernel
theorem dX12_init_1634 : decode cX12_init 1634 = .ok (.bipush 34, 2) := by decide +kernel
theorem dX12_init_1636 : decode cX12_init 1636 = .ok (.ldc 248, 2) := by decide +kernel
theorem dX12_init_1638 : decode cX12_init 1638 = .ok (.iastore, 1) := by decide +kernel
theorem dX12_init_1639 : decode cX12_init 1639 = .ok (.dup, 1) := by decide +kernel
theorem dX12_init_1640 : decode cX12_init 1640 = .ok (.bipush 35, 2) := by decide +kernel
theorem dX12_init_1642 : decode cX12_init 1642 = .ok (.ldc 249, 2) := by decide +kernel
theorem dX12_init_1644 : decode cX12_init 1644 = .ok (.iastore, 1) := by decide +kernel
theorem dX12_init_1645 : decode cX12_init 1645 = .ok (.dup, 1) := by decide +kernel
theorem dX12_init_1646 : decode cX12_init 1646 = .ok (.bipush 36, 2) := by decide +kernel
theorem dX12_init_1648 : decode cX12_init 1648 = .ok (.ldc 250, 2) := by decide +kernel
theorem dX12_init_1650 : decode cX12_init 1650 = .ok (.iastore, 1) := by decide +kernel
theorem dX12_init_1651 : decode cX12_init 1651 = .ok (.dup, 1) := by decide +kernel
theorem dX12_init_1652 : decode cX12_init 1652 = .ok (.bipush 37, 2) := by decide +kernel
theorem dX12_init_1654 : decode cX12_init 1654 = .ok (.ldc 251, 2) := by decide +kernel
theorem dX12_init_1656 : decode cX12_init 1656 = .ok (.iastore, 1) := by decide +kernel
theorem dX12_init_1657 : decode cX12_init 1657 = .ok (.dup, 1) := by decide +kernel
theorem dX12_init_1658 : decode cX12_init 1658 = .ok (.bipush 38, 2) := by decide +kernel
theorem dX12_init_1660 : decode cX12_init 1660 = .ok (.ldc 252, 2) := by decide +kernel
theorem dX12_init_1662 : decode cX12_init 1662 = .ok (.iastore, 1) := by decide +kernel
theorem dX12_init_1663 : decode cX12_init 1663 = .ok (.dup, 1) := by decide +kernel
theorem dX12_init_1664 : decode cX12_init 1664 = .ok (.bipush 39, 2) := by decide +kernel
theorem dX12_init_1666 : decode cX12_init 1666 = .ok (.ldc 253, 2) := by decide +kernel
theorem dX12_init_1668 : decode cX12_init 1668 = .ok (.iastore, 1) := by decide +kernel
theorem dX12_init_1669 : decode cX12_init 1669 = .ok (.dup, 1) := by decide +kernel
theorem dX12_init_1670 : decode cX12_init 1670 = .ok (.bipush 40, 2) := by decide +kernel
theorem dX12_init_1672 : decode cX12_init 1672 = .ok (.ldc 254, 2) := by decide +kernel
theorem dX12_init_1674 : decode cX12_init 1674 = .ok (.iastore, 1) := by decide +kernel
theorem dX12_init_1675 : decode cX12_init 1675 = .ok (.dup, 1) := by decide +kernel
theorem dX12_init_1676 : decode cX12_init 1676 = .ok (.bipush 41, 2) := by decide +kernel
theorem dX12_init_1678 : decode cX12_init 1678 = .ok (.ldc 255, 2) := by decide +kernel
theorem dX12_init_1680 : decode cX12_init 1680 = .ok (.iastore, 1) := by decide +kernel
theorem dX12_init_1681 : decode cX12_init 1681 = .ok (.dup, 1) := by decide +kernel
theorem dX12_init_1682 : decode cX12_init 1682 = .ok (.bipush 42, 2) := by decide +kernel
theorem dX12_init_1684 : decode cX12_init 1684 = .ok (.ldc_w 256, 3) := by decide +kernel
theorem dX12_init_1687 : decode cX12_init 1687 = .ok (.iastore, 1) := by decide +kernel
theorem dX12_init_1688 : decode cX12_init 1688 = .ok (.dup, 1) := by decide +kernel
theorem dX12_init_1689 : decode cX12_init 1689 = .ok (.bipush 43, 2) := by decide +kernel
theorem dX12_init_1691 : decode cX12_init 1691 = .ok (.ldc_w 257, 3) := by decide +kernel
theorem dX12_init_1694 : decode cX12_init 1694 = .ok (.iastore, 1) := by decide +kernel
theorem dX12_init_1695 : decode cX12_init 1695 = .ok (.dup, 1) := by decide +kernel
theorem dX12_init_1696 : decode cX12_init 1696 = .ok (.bipush 44, 2) := by decide +kernel
theorem dX12_init_1698 : decode cX12_init 1698 = .ok (.ldc_w 258, 3) := by decide +kernel
theorem dX12_init_1701 : decode cX12_init 1701 = .ok (.iastore, 1) := by decide +kernel
theorem dX12_init_1702 : decode cX12_init 1702 = .ok (.dup, 1) := by decide +kernel
theorem dX12_init_1703 : decode cX12_init 1703 = .ok (.bipush 45, 2) := by decide +kernel
theorem dX12_init_1705 : decode cX12_init 1705 = .ok (.ldc_w 259, 3) := by decide +kernel
theorem dX12_init_1708 : decode cX12_init 1708 = .ok (.iastore, 1) := by decide +kernel
theorem dX12_init_1709 : decode cX12_init 1709 = .ok (.dup, 1) := by decide +kernel
theorem dX12_init_1710 : decode cX12_init 1710 = .ok (.bipush 46, 2) := by decide +kernel
theorem dX12_init_1712 : decode cX12_init 1712 = .ok (.ldc_w 260, 3) := by decide +kernel
theorem dX12_init_1715 : decode cX12_init 1715 = .ok (.iastore, 1) := by decide +kernel
theorem dX12_init_1716 : decode cX12_init 1716 = .ok (.dup, 1) := by decide +kernel
theorem dX12_init_1717 : decode cX12_init 1717 = .ok (.bipush 47, 2) := by decide +kernel
theorem dX12_init_1719 : decode cX12_init 1719 = .ok (.ldc_w 261, 3) := by decide +kernel
theorem dX12_init_1722 : decode cX12_init 1722 = .ok (.iastore, 1) := by decide +kernel
theorem dX12_init_1723 : decode cX12_init 1723 = .ok (.dup, 1) := by decide +kernel
theorem dX12_init_1724 : decode cX12_init 1724 = .ok (.bipush 48, 2) := by decide +kernel
theorem dX12_init_1726 : decode cX12_init 1726 = .ok (.ldc_w 262, 3) := by decide +kernel
theorem dX12_init_1729 : decode cX12_init 1729 = .ok (.iastore, 1) := by decide +kernel
theorem dX12_init_1730 : decode cX12_init 1730 = .ok (.dup, 1) := by decide +kernel
theorem dX12_init_1731 : decode cX12_init 1731 = .ok (.bipush 49, 2) := by decide +kernel
theorem dX12_init_1733 : decode cX12_init 1733 = .ok (.ldc_w 263, 3) := by decide +kernel
theorem dX12_init_1736 : decode cX12_init 1736 = .ok (.iastore, 1) := by decide +kernel
theorem dX12_init_1737 : decode cX12_init 1737 = .ok (.dup, 1) := by decide +kernel
theorem dX12_init_1738 : decode cX12_init 1738 = .ok (.bipush 50, 2) := by decide +kernel
theorem dX12_init_1740 : decode cX12_init 1740 = .ok (.ldc_w 264, 3) := by decide +kernel
theorem dX12_init_1743 : decode cX12_init 1743 = .ok (.iastore, 1) := by decide +kernel
theorem dX12_init_1744 : decode cX12_init 1744 = .ok (.dup, 1) := by decide +kernel
theorem dX12_init_1745 : decode cX12_init 1745 = .ok (.bipush 51, 2) := by decide +kernel
theorem dX12_init_1747 : decode cX12_init 1747 = .ok (.ldc_w 265, 3) := by decide +kernel
theorem dX12_init_1750 : decode cX12_init 1750 = .ok (.iastore, 1) := by decide +kernel
theorem dX12_init_1751 : decode cX12_init 1751 = .ok (.dup, 1) := by decide +kernel
theorem dX12_init_1752 : decode cX12_init 1752 = .ok (.bipush 52, 2) := by decide +kernel
theorem dX12_init_1754 : decode cX12_init 1754 = .ok (.ldc_w 266, 3) := by decide +kernel
theorem dX12_init_1757 : decode cX12_init 1757 = .ok (.iastore, 1) := by decide +kernel
theorem dX12_init_1758 : decode cX12_init 1758 = .ok (.dup, 1) := by decide +kernel
theorem dX12_init_1759 : decode cX12_init 1759 = .ok (.bipush 53, 2) := by decide +kernel
theorem dX12_init_1761 : decode cX12_init 1761 = .ok (.ldc_w 267, 3) := by decide +kernel
theorem dX12_init_1764 : decode cX12_init 1764 = .ok (.iastore, 1) := by decide +kernel
theorem dX12_init_1765 : decode cX12_init 1765 = .ok (.dup, 1) := by decide +kernel
theorem dX12_init_1766 : decode cX12_init 1766 = .ok (.bipush 54, 2) := by decide +kernel
theorem dX12_init_1768 : decode cX12_init 1768 = .ok (.ldc_w 268, 3) := by decide +kernel
theorem dX12_init_1771 : decode cX12_init 1771 = .ok (.iastore, 1) := by decide +kernel
theorem dX12_init_1772 : decode cX12_init 1772 = .ok (.dup, 1) := by decide +kernel
theorem dX12_init_1773 : decode cX12_init 1773 = .ok (.bipush 55, 2) := by decide +kernel
theorem dX12_init_1775 : decode cX12_init 1775 = .ok (.ldc_w 269, 3) := by decide +kernel
theorem dX12_init_1778 : decode cX12_init 1778 = .ok (.iastore, 1) := by decide +kernel
theorem dX12_init_1779 : decode cX12_init 1779 = .ok (.dup, 1) := by decide +kernel
theorem dX12_init_1780 : decode cX12_init 1780 = .ok (.bipush 56, 2) := by decide +kernel
theorem dX12_init_1782 : decode cX12_init 1782 = .ok (.ldc_w 270, 3) := by decide +kernel
theorem dX12_init_1785 : decode cX12_init 1785 = .ok (.iastore, 1) := by decide +kernel
theorem dX12_init_1786 : decode cX12_init 1786 = .ok (.dup, 1) := by decide +kernel
theorem dX12_init_1787 : decode cX12_init 1787 = .ok (.bipush 57, 2) := by decide +kernel
theorem dX12_init_1789 : decode cX12_init 1789 = .ok (.ldc_w 271, 3) := by decide +kernel
theorem dX12_init_1792 : decode cX12_init 1792 = .ok (.iastore, 1) := by decide +kernel
theorem dX12_init_1793 : decode cX12_init 1793 = .ok (.dup, 1) := by decide +kernel
theorem dX12_init_1794 : decode cX12_init 1794 = .ok (.bipush 58, 2) := by decide +kernel
theorem dX12_init_1796 : decode cX12_init 1796 = .ok (.ldc_w 272, 3) := by decide +kernel
theorem dX12_init_1799 : decode cX12_init 1799 = .ok (.iastore, 1) := by decide +kernel
theorem dX12_init_1800 : decode cX12_init 1800 = .ok (.dup, 1) := by decide +kernel
theorem dX12_init_1801 : decode cX12_init 1801 = .ok (.bipush 59, 2) := by decide +kernel
theorem dX12_init_1803 : decode cX12_init 1803 = .ok (.ldc_w 273, 3) := by decide +kernel
theorem dX12_init_1806 : decode cX12_init 1806 = .ok (.iastore, 1) := by decide +kernel
theorem dX12_init_1807 : decode cX12_init 1807 = .ok (.dup, 1) := by decide +kernel
theorem dX12_init_1808 : decode cX12_init 1808 = .ok (.bipush 60, 2) := by decide +kernel
theorem dX12_init_1810 : decode cX12_init 1810 = .ok (.ldc_w 274, 3) := by decide +kernel
theorem dX12_init_1813 : decode cX12_init 1813 = .ok (.iastore, 1) := by decide +kernel
theorem dX12_init_1814 : decode cX12_init 1814 = .ok (.dup, 1) := by decide +kernel
theorem dX12_init_1815 : decode cX12_init 1815 = .ok (.bipush 61, 2) := by decide +kernel
theorem dX12_init_1817 : decode cX12_init 1817 = .ok (.ldc_w 275, 3) := by decide +kernel
theorem dX12_init_1820 : decode cX12_init 1820 = .ok (.iastore, 1) := by decide +kernel
theorem dX12_init_1821 : decode cX12_init 1821 = .ok (.dup, 1) := by decide +kernel
theorem dX12_init_1822 : decode cX12_init 1822 = .ok (.bipush 62, 2) := by decide +kernel
theorem dX12_init_1824 : decode cX12_init 1824 = .ok (.ldc_w 276, 3) := by decide +kernel
theorem dX12_init_1827 : decode cX12_init 1827 = .ok (.iastore, 1) := by decide +kernel
theorem dX12_init_1828 : decode cX12_init 1828 = .ok (.dup, 1) := by decide +kernel
theorem dX12_init_1829 : decode cX12_init 1829 = .ok (.bipush 63, 2) := by decide +kernel
theorem dX12_init_1831 : decode cX12_init 1831 = .ok (.ldc_w 277, 3) := by decide +kernel
theorem dX12_init_1834 : decode cX12_init 1834 = .ok (.iastore, 1) := by decide +kernel
theorem dX12_init_1835 : decode cX12_init 1835 = .ok (.putfield 278, 3) := by decide +kernel
theorem dX12_init_1838 : decode cX12_init 1838 = .ok (.aload_n 0, 1) := by decide +kernel
theorem dX12_init_1839 : decode cX12_init 1839 = .ok (.bipush 8, 2) := by decide +kernel
theorem dX12_init_1841 : decode cX12_init 1841 = .ok (.newarray .int, 2) := by decide +kernel
theorem dX12_init_1843 : decode cX12_init 1843 = .ok (.putfield 281, 3) := by decide +kernel
theorem dX12_init_1846 : decode cX12_init 1846 = .ok (.aload_n 0, 1) := by decide +kernel
theorem dX12_init_1847 : decode cX12_init 1847 = .ok (.bipush 64, 2) := by decide +kernel
theorem dX12_init_1849 : decode cX12_init 1849 = .ok (.newarray .int, 2) := by decide +kernel
theorem dX12_init_1851 : decode cX12_init 1851 = .ok (.putfield 284, 3) := by decide +kernel
theorem dX12_init_1854 : decode cX12_init 1854 = .ok (.aload_n 0, 1) := by decide +kernel
theorem dX12_init_1855 : decode cX12_init 1855 = .ok (.sipush 512, 3) := by decide +kernel
theorem dX12_init_1858 : decode cX12_init 1858 = .ok (.newarray .int, 2) := by decide +kernel
theorem dX12_init_1860 : decode cX12_init 1860 = .ok (.putfield 287, 3) := by decide +kernel
theorem dX12_init_1863 : decode cX12_init 1863 = .ok (.aload_n 0, 1) := by decide +kernel
theorem dX12_init_1864 : decode cX12_init 1864 = .ok (.sipush 400, 3) := by decide +kernel
theorem dX12_init_1867 : decode cX12_init 1867 = .ok (.newarray .int, 2) := by decide +kernel
theorem dX12_init_1869 : decode cX12_init 1869 = .ok (.putfield 290, 3) := by decide +kernel
theorem dX12_init_1872 : decode cX12_init 1872 = .ok (.aload_n 0, 1) := by decide +kernel
theorem dX12_init_1873 : decode cX12_init 1873 = .ok (.bipush 32, 2) := by decide +kernel
theorem dX12_init_1875 : decode cX12_init 1875 = .ok (.newarray .int, 2) := by decide +kernel
theorem dX12_init_1877 : decode cX12_init 1877 = .ok (.putfield 293, 3) := by decide +kernel
theorem dX12_init_1880 : decode cX12_init 1880 = .ok (.aload_n 0, 1) := by decide +kernel
theorem dX12_init_1881 : decode cX12_init 1881 = .ok (.bipush 20, 2) := by decide +kernel
theorem dX12_init_1883 : decode cX12_init 1883 = .ok (.newarray .int, 2) := by decide +kernel
theorem dX12_init_1885 : decode cX12_init 1885 = .ok (.putfield 296, 3) := by decide +kernel
theorem dX12_init_1888 : decode cX12_init 1888 = .ok (.aload_n 0, 1) := by decide +kernel
theorem dX12_init_1889 : decode cX12_init 1889 = .ok (.bipush 100, 2) := by decide +kernel
theorem dX12_init_1891 : decode cX12_init 1891 = .ok (.newarray .int, 2) := by decide +kernel
theorem dX12_init_1893 : decode cX12_init 1893 = .ok (.putfield 299, 3) := by decide +kernel
theorem dX12_init_1896 : decode cX12_init 1896 = .ok (.aload_n 0, 1) := by decide +kernel
theorem dX12_init_1897 : decode cX12_init 1897 = .ok (.bipush 66, 2) := by decide +kernel
theorem dX12_init_1899 : decode cX12_init 1899 = .ok (.newarray .int, 2) := by decide +kernel
theorem dX12_init_1901 : decode cX12_init 1901 = .ok (.putfield 302, 3) := by decide +kernel
theorem dX12_init_1904 : decode cX12_init 1904 = .ok (.aload_n 0, 1) := by decide +kernel
theorem dX12_init_1905 : decode cX12_init 1905 = .ok (.bipush 8, 2) := by decide +kernel
theorem dX12_init_1907 : decode cX12_init 1907 = .ok (.newarray .long, 2) := by decide +kernel
theorem dX12_init_1909 : decode cX12_init 1909 = .ok (.putfield 305, 3) := by decide +kernel
theorem dX12_init_1912 : decode cX12_init 1912 = .ok (.aload_n 0, 1) := by decide +kernel
theorem dX12_init_1913 : decode cX12_init 1913 = .ok (.bipush 8, 2) := by decide +kernel
theorem dX12_init_1915 : decode cX12_init 1915 = .ok (.newarray .long, 2) := by decide +kernel
theorem dX12_init_1917 : decode cX12_init 1917 = .ok (.putfield 308, 3) := by decide +kernel
theorem dX12_init_1920 : decode cX12_init 1920 = .ok (.aload_n 0, 1) := by decide +kernel
theorem dX12_init_1921 : decode cX12_init 1921 = .ok (.bipush 8, 2) := by decide +kernel
theorem dX12_init_1923 : decode cX12_init 1923 = .ok (.newarray .long, 2) := by decide +kernel
theorem dX12_init_1925 : decode cX12_init 1925 = .ok (.putfield 311, 3) := by decide +kernel
theorem dX12_init_1928 : decode cX12_init 1928 = .ok (.aload_n 0, 1) := by decide +kernel
theorem dX12_init_1929 : decode cX12_init 1929 = .ok (.bipush 8, 2) := by decide +kernel
theorem dX12_init_1931 : decode cX12_init 1931 = .ok (.newarray .long, 2) := by decide +kernel
theorem dX12_init_1933 : decode cX12_init 1933 = .ok (.putfield 314, 3) := by decide +kernel
theorem dX12_init_1936 : decode cX12_init 1936 = .ok (.aload_n 0, 1) := by decide +kernel
theorem dX12_init_1937 : decode cX12_init 1937 = .ok (.bipush 8, 2) := by decide +kernel
theorem dX12_init_1939 : decode cX12_init 1939 = .ok (.newarray .long, 2) := by decide +kernel
theorem dX12_init_1941 : decode cX12_init 1941 = .ok (.putfield 317, 3) := by decide +kernel
theorem dX12_init_1944 : decode cX12_init 1944 = .ok (.aload_n 0, 1) := by decide +kernel
theorem dX12_init_1945 : decode cX12_init 1945 = .ok (.bipush 32, 2) := by decide +kernel
theorem dX12_init_1947 : decode cX12_init 1947 = .ok (.newarray .int, 2) := by decide +kernel
theorem dX12_init_1949 : decode cX12_init 1949 = .ok (.putfield 320, 3) := by decide +kernel
theorem dX12_init_1952 : decode cX12_init 1952 = .ok (.aload_n 0, 1) := by decide +kernel
theorem dX12_init_1953 : decode cX12_init 1953 = .ok (.bipush 8, 2) := by decide +kernel
theorem dX12_init_1955 : decode cX12_init 1955 = .ok (.newarray .long, 2) := by decide +kernel
theorem dX12_init_1957 : decode cX12_init 1957 = .ok (.putfield 323, 3) := by decide +kernel
theorem dX12_init_1960 : decode cX12_init 1960 = .ok (.aload_n 0, 1) := by decide +kernel
theorem dX12_init_1961 : decode cX12_init 1961 = .ok (.bipush 8, 2) := by decide +kernel
theorem dX12_init_1963 : decode cX12_init 1963 = .ok (.newarray .long, 2) := by decide +kernel
theorem dX12_init_1965 : decode cX12_init 1965 = .ok (.putfield 326, 3) := by decide +kernel
theorem dX12_init_1968 : decode cX12_init 1968 = .ok (.aload_n 0, 1) := by decide +kernel
theorem dX12_init_1969 : decode cX12_init 1969 = .ok (.bipush 8, 2) := by decide +kernel
theorem dX12_init_1971 : decode cX12_init 1971 = .ok (.newarray .long, 2) := by decide +kernel
theorem dX12_init_1973 : decode cX12_init 1973 = .ok (.putfield 329, 3) := by decide +kernel
theorem dX12_init_1976 : decode cX12_init 1976 = .ok (.aload_n 0, 1) := by decide +kernel
theorem dX12_init_1977 : decode cX12_init 1977 = .ok (.bipush 8, 2) := by decide +kernel
theorem dX12_init_1979 : decode cX12_init 1979 = .ok (.newarray .long, 2) := by decide +kernel
theorem dX12_init_1981 : decode cX12_init 1981 = .ok (.putfield 332, 3) := by decide +kernel
theorem dX12_init_1984 : decode cX12_init 1984 = .ok (.aload_n 0, 1) := by decide +kernel
theorem dX12_init_1985 : decode cX12_init 1985 = .ok (.bipush 8, 2) := by decide +kernel
theorem dX12_init_1987 : decode cX12_init 1987 = .ok (.newarray .long, 2) := by decide +kernel
theorem dX12_init_1989 : decode cX12_init 1989 = .ok (.putfield 335, 3) := by decide +kernel
theorem dX12_init_1992 : decode cX12_init 1992 = .ok (.aload_n 0, 1) := by decide +kernel
theorem dX12_init_1993 : decode cX12_init 1993 = .ok (.bipush 8, 2) := by decide +kernel
theorem dX12_init_1995 : decode cX12_init 1995 = .ok (.newarray .long, 2) := by decide +kernel
theorem dX12_init_1997 : decode cX12_init 1997 = .ok (.putfield 338, 3) := by decide +kernel
theorem dX12_init_2000 : decode cX12_init 2000 = .ok (.aload_n 0, 1) := by decide +kernel
theorem dX12_init_2001 : decode cX12_init 2001 = .ok (.bipush 8, 2) := by decide +kernel
theorem dX12_init_2003 : decode cX12_init 2003 = .ok (.newarray .long, 2) := by decide +kernel
theorem dX12_init_2005 : decode cX12_init 2005 = .ok (.putfield 341, 3) := by decide +kernel
theorem dX12_init_2008 : decode cX12_init 2008 = .ok (.aload_n 0, 1) := by decide +kernel
theorem dX12_init_2009 : decode cX12_init 2009 = .ok (.bipush 32, 2) := by decide +kernel
theorem dX12_init_2011 : decode cX12_init 2011 = .ok (.newarray .int, 2) := by decide +kernel
theorem dX12_init_2013 : decode cX12_init 2013 = .ok (.putfield 344, 3) := by decide +kernel
theorem dX12_init_2016 : decode cX12_init 2016 = .ok (.aload_n 0, 1) := by decide +kernel
theorem dX12_init_2017 : decode cX12_init 2017 = .ok (.bipush 8, 2) := by decide +kernel
theorem dX12_init_2019 : decode cX12_init 2019 = .ok (.newarray .long, 2) := by decide +kernel
theorem dX12_init_2021 : decode cX12_init 2021 = .ok (.putfield 347, 3) := by decide +kernel
theorem dX12_init_2024 : decode cX12_init 2024 = .ok (.aload_n 0, 1) := by decide +kernel
theorem dX12_init_2025 : decode cX12_init 2025 = .ok (.bipush 8, 2) := by decide +kernel
theorem dX12_init_2027 : decode cX12_init 2027 = .ok (.newarray .long, 2) := by decide +kernel
theorem dX12_init_2029 : decode cX12_init 2029 = .ok (.putfield 350, 3) := by decide +kernel
theorem dX12_init_2032 : decode cX12_init 2032 = .ok (.aload_n 0, 1) := by decide +kernel
theorem dX12_init_2033 : decode cX12_init 2033 = .ok (.bipush 33, 2) := by decide +kernel
theorem dX12_init_2035 : decode cX12_init 2035 = .ok (.newarray .int, 2) := by decide +kernel
theorem dX12_init_2037 : decode cX12_init 2037 = .ok (.putfield 353, 3) := by decide +kernel
theorem dX12_init_2040 : decode cX12_init 2040 = .ok (.aload_n 0, 1) := by decide +kernel
theorem dX12_init_2041 : decode cX12_init 2041 = .ok (.bipush 66, 2) := by decide +kernel
theorem dX12_init_2043 : decode cX12_init 2043 = .ok (.newarray .int, 2) := by decide +kernel
theorem dX12_init_2045 : decode cX12_init 2045 = .ok (.putfield 356, 3) := by decide +kernel
theorem dX12_init_2048 : decode cX12_init 2048 = .ok (.return_, 1) := by decide +kernel
