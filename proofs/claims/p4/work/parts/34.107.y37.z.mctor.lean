theorem dfX13 : ∀ j, j < 70 → defaultValue (tyX13 j) = vp_V [.int 0, .int 0, .null, .null, .null, .null, .null, .null, .int 0, .null, .null, .int 0, .null, .int 0, .int 0, .int 0, .int 0, .long 0, .int 0, .int 0, .int 0, .int 0, .null, .int 0, .null, .null, .int 0, .null, .null, .int 0, .int 0, .null, .null, .null, .int 0, .null, .null, .null, .int 0, .long 0, .long 0, .int 0, .null, .null, .null, .null, .null, .long 0, .null, .null, .null, .null, .null, .int 0, .int 0, .null, .null, .int 0, .int 0, .null, .int 0, .null, .int 0, .int 0, .int 0, .int 0, .null, .null, .null, .int 0] j := by decide +kernel
theorem dX13_init_0 : decode cX13_init 0 = .ok (.aload_n 0, 1) := by decide +kernel
theorem dX13_init_1 : decode cX13_init 1 = .ok (.invokespecial 1, 3) := by decide +kernel
theorem dX13_init_4 : decode cX13_init 4 = .ok (.aload_n 0, 1) := by decide +kernel
theorem dX13_init_5 : decode cX13_init 5 = .ok (.bipush 7, 2) := by decide +kernel
theorem dX13_init_7 : decode cX13_init 7 = .ok (.newarray .int, 2) := by decide +kernel
theorem dX13_init_9 : decode cX13_init 9 = .ok (.putfield 7, 3) := by decide +kernel
theorem dX13_init_12 : decode cX13_init 12 = .ok (.aload_n 0, 1) := by decide +kernel
theorem dX13_init_13 : decode cX13_init 13 = .ok (.sipush 5560, 3) := by decide +kernel
theorem dX13_init_16 : decode cX13_init 16 = .ok (.newarray .int, 2) := by decide +kernel
theorem dX13_init_18 : decode cX13_init 18 = .ok (.putfield 13, 3) := by decide +kernel
theorem dX13_init_21 : decode cX13_init 21 = .ok (.aload_n 0, 1) := by decide +kernel
theorem dX13_init_22 : decode cX13_init 22 = .ok (.sipush 11120, 3) := by decide +kernel
theorem dX13_init_25 : decode cX13_init 25 = .ok (.newarray .int, 2) := by decide +kernel
theorem dX13_init_27 : decode cX13_init 27 = .ok (.putfield 16, 3) := by decide +kernel
theorem dX13_init_30 : decode cX13_init 30 = .ok (.aload_n 0, 1) := by decide +kernel
theorem dX13_init_31 : decode cX13_init 31 = .ok (.iconst 2, 1) := by decide +kernel
theorem dX13_init_32 : decode cX13_init 32 = .ok (.newarray .boolean, 2) := by decide +kernel
theorem dX13_init_34 : decode cX13_init 34 = .ok (.putfield 19, 3) := by decide +kernel
theorem dX13_init_37 : decode cX13_init 37 = .ok (.aload_n 0, 1) := by decide +kernel
theorem dX13_init_38 : decode cX13_init 38 = .ok (.sipush 1196, 3) := by decide +kernel
theorem dX13_init_41 : decode cX13_init 41 = .ok (.newarray .int, 2) := by decide +kernel
theorem dX13_init_43 : decode cX13_init 43 = .ok (.putfield 23, 3) := by decide +kernel
theorem dX13_init_46 : decode cX13_init 46 = .ok (.aload_n 0, 1) := by decide +kernel
theorem dX13_init_47 : decode cX13_init 47 = .ok (.bipush 16, 2) := by decide +kernel
theorem dX13_init_49 : decode cX13_init 49 = .ok (.newarray .int, 2) := by decide +kernel
theorem dX13_init_51 : decode cX13_init 51 = .ok (.putfield 26, 3) := by decide +kernel
theorem dX13_init_54 : decode cX13_init 54 = .ok (.aload_n 0, 1) := by decide +kernel
theorem dX13_init_55 : decode cX13_init 55 = .ok (.sipush 832, 3) := by decide +kernel
theorem dX13_init_58 : decode cX13_init 58 = .ok (.newarray .int, 2) := by decide +kernel
theorem dX13_init_60 : decode cX13_init 60 = .ok (.putfield 29, 3) := by decide +kernel
theorem dX13_init_63 : decode cX13_init 63 = .ok (.aload_n 0, 1) := by decide +kernel
theorem dX13_init_64 : decode cX13_init 64 = .ok (.bipush 16, 2) := by decide +kernel
theorem dX13_init_66 : decode cX13_init 66 = .ok (.newarray .int, 2) := by decide +kernel
theorem dX13_init_68 : decode cX13_init 68 = .ok (.putfield 32, 3) := by decide +kernel
theorem dX13_init_71 : decode cX13_init 71 = .ok (.aload_n 0, 1) := by decide +kernel
theorem dX13_init_72 : decode cX13_init 72 = .ok (.sipush 400, 3) := by decide +kernel
theorem dX13_init_75 : decode cX13_init 75 = .ok (.newarray .int, 2) := by decide +kernel
theorem dX13_init_77 : decode cX13_init 77 = .ok (.putfield 35, 3) := by decide +kernel
theorem dX13_init_80 : decode cX13_init 80 = .ok (.aload_n 0, 1) := by decide +kernel
theorem dX13_init_81 : decode cX13_init 81 = .ok (.iconst (-1), 1) := by decide +kernel
theorem dX13_init_82 : decode cX13_init 82 = .ok (.putfield 38, 3) := by decide +kernel
theorem dX13_init_85 : decode cX13_init 85 = .ok (.aload_n 0, 1) := by decide +kernel
theorem dX13_init_86 : decode cX13_init 86 = .ok (.bipush 96, 2) := by decide +kernel
theorem dX13_init_88 : decode cX13_init 88 = .ok (.newarray .int, 2) := by decide +kernel
theorem dX13_init_90 : decode cX13_init 90 = .ok (.putfield 42, 3) := by decide +kernel
theorem dX13_init_93 : decode cX13_init 93 = .ok (.aload_n 0, 1) := by decide +kernel
theorem dX13_init_94 : decode cX13_init 94 = .ok (.sipush 400, 3) := by decide +kernel
theorem dX13_init_97 : decode cX13_init 97 = .ok (.newarray .int, 2) := by decide +kernel
theorem dX13_init_99 : decode cX13_init 99 = .ok (.putfield 45, 3) := by decide +kernel
theorem dX13_init_102 : decode cX13_init 102 = .ok (.aload_n 0, 1) := by decide +kernel
theorem dX13_init_103 : decode cX13_init 103 = .ok (.sipush 400, 3) := by decide +kernel
theorem dX13_init_106 : decode cX13_init 106 = .ok (.newarray .int, 2) := by decide +kernel
theorem dX13_init_108 : decode cX13_init 108 = .ok (.putfield 48, 3) := by decide +kernel
theorem dX13_init_111 : decode cX13_init 111 = .ok (.aload_n 0, 1) := by decide +kernel
theorem dX13_init_112 : decode cX13_init 112 = .ok (.sipush 400, 3) := by decide +kernel
theorem dX13_init_115 : decode cX13_init 115 = .ok (.newarray .int, 2) := by decide +kernel
theorem dX13_init_117 : decode cX13_init 117 = .ok (.putfield 51, 3) := by decide +kernel
theorem dX13_init_120 : decode cX13_init 120 = .ok (.aload_n 0, 1) := by decide +kernel
theorem dX13_init_121 : decode cX13_init 121 = .ok (.sipush 400, 3) := by decide +kernel
theorem dX13_init_124 : decode cX13_init 124 = .ok (.newarray .int, 2) := by decide +kernel
theorem dX13_init_126 : decode cX13_init 126 = .ok (.putfield 54, 3) := by decide +kernel
theorem dX13_init_129 : decode cX13_init 129 = .ok (.aload_n 0, 1) := by decide +kernel
theorem dX13_init_130 : decode cX13_init 130 = .ok (.bipush 9, 2) := by decide +kernel
theorem dX13_init_132 : decode cX13_init 132 = .ok (.newarray .long, 2) := by decide +kernel
theorem dX13_init_134 : decode cX13_init 134 = .ok (.dup, 1) := by decide +kernel
theorem dX13_init_135 : decode cX13_init 135 = .ok (.iconst 0, 1) := by decide +kernel
theorem dX13_init_136 : decode cX13_init 136 = .ok (.ldc2_w 57, 3) := by decide +kernel
theorem dX13_init_139 : decode cX13_init 139 = .ok (.lastore, 1) := by decide +kernel
theorem dX13_init_140 : decode cX13_init 140 = .ok (.dup, 1) := by decide +kernel
theorem dX13_init_141 : decode cX13_init 141 = .ok (.iconst 1, 1) := by decide +kernel
theorem dX13_init_142 : decode cX13_init 142 = .ok (.ldc2_w 59, 3) := by decide +kernel
theorem dX13_init_145 : decode cX13_init 145 = .ok (.lastore, 1) := by decide +kernel
theorem dX13_init_146 : decode cX13_init 146 = .ok (.dup, 1) := by decide +kernel
theorem dX13_init_147 : decode cX13_init 147 = .ok (.iconst 2, 1) := by decide +kernel
theorem dX13_init_148 : decode cX13_init 148 = .ok (.ldc2_w 61, 3) := by decide +kernel
theorem dX13_init_151 : decode cX13_init 151 = .ok (.lastore, 1) := by decide +kernel
theorem dX13_init_152 : decode cX13_init 152 = .ok (.dup, 1) := by decide +kernel
theorem dX13_init_153 : decode cX13_init 153 = .ok (.iconst 3, 1) := by decide +kernel
theorem dX13_init_154 : decode cX13_init 154 = .ok (.ldc2_w 63, 3) := by decide +kernel
theorem dX13_init_157 : decode cX13_init 157 = .ok (.lastore, 1) := by decide +kernel
theorem dX13_init_158 : decode cX13_init 158 = .ok (.dup, 1) := by decide +kernel
theorem dX13_init_159 : decode cX13_init 159 = .ok (.iconst 4, 1) := by decide +kernel
theorem dX13_init_160 : decode cX13_init 160 = .ok (.ldc2_w 65, 3) := by decide +kernel
theorem dX13_init_163 : decode cX13_init 163 = .ok (.lastore, 1) := by decide +kernel
theorem dX13_init_164 : decode cX13_init 164 = .ok (.dup, 1) := by decide +kernel
theorem dX13_init_165 : decode cX13_init 165 = .ok (.iconst 5, 1) := by decide +kernel
theorem dX13_init_166 : decode cX13_init 166 = .ok (.ldc2_w 67, 3) := by decide +kernel
theorem dX13_init_169 : decode cX13_init 169 = .ok (.lastore, 1) := by decide +kernel
theorem dX13_init_170 : decode cX13_init 170 = .ok (.dup, 1) := by decide +kernel
theorem dX13_init_171 : decode cX13_init 171 = .ok (.bipush 6, 2) := by decide +kernel
theorem dX13_init_173 : decode cX13_init 173 = .ok (.ldc2_w 69, 3) := by decide +kernel
theorem dX13_init_176 : decode cX13_init 176 = .ok (.lastore, 1) := by decide +kernel
theorem dX13_init_177 : decode cX13_init 177 = .ok (.dup, 1) := by decide +kernel
theorem dX13_init_178 : decode cX13_init 178 = .ok (.bipush 7, 2) := by decide +kernel
theorem dX13_init_180 : decode cX13_init 180 = .ok (.ldc2_w 71, 3) := by decide +kernel
theorem dX13_init_183 : decode cX13_init 183 = .ok (.lastore, 1) := by decide +kernel
theorem dX13_init_184 : decode cX13_init 184 = .ok (.dup, 1) := by decide +kernel
theorem dX13_init_185 : decode cX13_init 185 = .ok (.bipush 8, 2) := by decide +kernel
theorem dX13_init_187 : decode cX13_init 187 = .ok (.ldc2_w 73, 3) := by decide +kernel
theorem dX13_init_190 : decode cX13_init 190 = .ok (.lastore, 1) := by decide +kernel
theorem dX13_init_191 : decode cX13_init 191 = .ok (.putfield 75, 3) := by decide +kernel
theorem dX13_init_194 : decode cX13_init 194 = .ok (.aload_n 0, 1) := by decide +kernel
theorem dX13_init_195 : decode cX13_init 195 = .ok (.bipush 7, 2) := by decide +kernel
theorem dX13_init_197 : decode cX13_init 197 = .ok (.newarray .long, 2) := by decide +kernel
theorem dX13_init_199 : decode cX13_init 199 = .ok (.dup, 1) := by decide +kernel
theorem dX13_init_200 : decode cX13_init 200 = .ok (.iconst 0, 1) := by decide +kernel
theorem dX13_init_201 : decode cX13_init 201 = .ok (.ldc2_w 71, 3) := by decide +kernel
theorem dX13_init_204 : decode cX13_init 204 = .ok (.lastore, 1) := by decide +kernel
theorem dX13_init_205 : decode cX13_init 205 = .ok (.dup, 1) := by decide +kernel
theorem dX13_init_206 : decode cX13_init 206 = .ok (.iconst 1, 1) := by decide +kernel
theorem dX13_init_207 : decode cX13_init 207 = .ok (.ldc2_w 65, 3) := by decide +kernel
theorem dX13_init_210 : decode cX13_init 210 = .ok (.lastore, 1) := by decide +kernel
theorem dX13_init_211 : decode cX13_init 211 = .ok (.dup, 1) := by decide +kernel
theorem dX13_init_212 : decode cX13_init 212 = .ok (.iconst 2, 1) := by decide +kernel
theorem dX13_init_213 : decode cX13_init 213 = .ok (.ldc2_w 79, 3) := by decide +kernel
theorem dX13_init_216 : decode cX13_init 216 = .ok (.lastore, 1) := by decide +kernel
theorem dX13_init_217 : decode cX13_init 217 = .ok (.dup, 1) := by decide +kernel
theorem dX13_init_218 : decode cX13_init 218 = .ok (.iconst 3, 1) := by decide +kernel
theorem dX13_init_219 : decode cX13_init 219 = .ok (.ldc2_w 81, 3) := by decide +kernel
theorem dX13_init_222 : decode cX13_init 222 = .ok (.lastore, 1) := by decide +kernel
theorem dX13_init_223 : decode cX13_init 223 = .ok (.dup, 1) := by decide +kernel
theorem dX13_init_224 : decode cX13_init 224 = .ok (.iconst 4, 1) := by decide +kernel
theorem dX13_init_225 : decode cX13_init 225 = .ok (.ldc2_w 83, 3) := by decide +kernel
theorem dX13_init_228 : decode cX13_init 228 = .ok (.lastore, 1) := by decide +kernel
theorem dX13_init_229 : decode cX13_init 229 = .ok (.dup, 1) := by decide +kernel
theorem dX13_init_230 : decode cX13_init 230 = .ok (.iconst 5, 1) := by decide +kernel
theorem dX13_init_231 : decode cX13_init 231 = .ok (.ldc2_w 67, 3) := by decide +kernel
theorem dX13_init_234 : decode cX13_init 234 = .ok (.lastore, 1) := by decide +kernel
theorem dX13_init_235 : decode cX13_init 235 = .ok (.dup, 1) := by decide +kernel
theorem dX13_init_236 : decode cX13_init 236 = .ok (.bipush 6, 2) := by decide +kernel
theorem dX13_init_238 : decode cX13_init 238 = .ok (.ldc2_w 85, 3) := by decide +kernel
theorem dX13_init_241 : decode cX13_init 241 = .ok (.lastore, 1) := by decide +kernel
theorem dX13_init_242 : decode cX13_init 242 = .ok (.putfield 87, 3) := by decide +kernel
theorem dX13_init_245 : decode cX13_init 245 = .ok (.aload_n 0, 1) := by decide +kernel
theorem dX13_init_246 : decode cX13_init 246 = .ok (.iconst 4, 1) := by decide +kernel
theorem dX13_init_247 : decode cX13_init 247 = .ok (.newarray .long, 2) := by decide +kernel
theorem dX13_init_249 : decode cX13_init 249 = .ok (.dup, 1) := by decide +kernel
theorem dX13_init_250 : decode cX13_init 250 = .ok (.iconst 0, 1) := by decide +kernel
theorem dX13_init_251 : decode cX13_init 251 = .ok (.ldc2_w 90, 3) := by decide +kernel
theorem dX13_init_254 : decode cX13_init 254 = .ok (.lastore, 1) := by decide +kernel
theorem dX13_init_255 : decode cX13_init 255 = .ok (.dup, 1) := by decide +kernel
theorem dX13_init_256 : decode cX13_init 256 = .ok (.iconst 1, 1) := by decide +kernel
theorem dX13_init_257 : decode cX13_init 257 = .ok (.ldc2_w 92, 3) := by decide +kernel
theorem dX13_init_260 : decode cX13_init 260 = .ok (.lastore, 1) := by decide +kernel
theorem dX13_init_261 : decode cX13_init 261 = .ok (.dup, 1) := by decide +kernel
theorem dX13_init_262 : decode cX13_init 262 = .ok (.iconst 2, 1) := by decide +kernel
theorem dX13_init_263 : decode cX13_init 263 = .ok (.ldc2_w 94, 3) := by decide +kernel
theorem dX13_init_266 : decode cX13_init 266 = .ok (.lastore, 1) := by decide +kernel
theorem dX13_init_267 : decode cX13_init 267 = .ok (.dup, 1) := by decide +kernel
theorem dX13_init_268 : decode cX13_init 268 = .ok (.iconst 3, 1) := by decide +kernel
theorem dX13_init_269 : decode cX13_init 269 = .ok (.ldc2_w 96, 3) := by decide +kernel
theorem dX13_init_272 : decode cX13_init 272 = .ok (.lastore, 1) := by decide +kernel
theorem dX13_init_273 : decode cX13_init 273 = .ok (.putfield 98, 3) := by decide +kernel
theorem dX13_init_276 : decode cX13_init 276 = .ok (.aload_n 0, 1) := by decide +kernel
theorem dX13_init_277 : decode cX13_init 277 = .ok (.bipush 13, 2) := by decide +kernel
theorem dX13_init_279 : decode cX13_init 279 = .ok (.newarray .long, 2) := by decide +kernel
theorem dX13_init_281 : decode cX13_init 281 = .ok (.putfield 101, 3) := by decide +kernel
theorem dX13_init_284 : decode cX13_init 284 = .ok (.aload_n 0, 1) := by decide +kernel
theorem dX13_init_285 : decode cX13_init 285 = .ok (.bipush 13, 2) := by decide +kernel
theorem dX13_init_287 : decode cX13_init 287 = .ok (.newarray .long, 2) := by decide +kernel
theorem dX13_init_289 : decode cX13_init 289 = .ok (.putfield 104, 3) := by decide +kernel
theorem dX13_init_292 : decode cX13_init 292 = .ok (.aload_n 0, 1) := by decide +kernel
theorem dX13_init_293 : decode cX13_init 293 = .ok (.sipush 400, 3) := by decide +kernel
theorem dX13_init_296 : decode cX13_init 296 = .ok (.newarray .long, 2) := by decide +kernel
theorem dX13_init_298 : decode cX13_init 298 = .ok (.putfield 107, 3) := by decide +kernel
theorem dX13_init_301 : decode cX13_init 301 = .ok (.aload_n 0, 1) := by decide +kernel
theorem dX13_init_302 : decode cX13_init 302 = .ok (.bipush 8, 2) := by decide +kernel
theorem dX13_init_304 : decode cX13_init 304 = .ok (.newarray .int, 2) := by decide +kernel
theorem dX13_init_306 : decode cX13_init 306 = .ok (.putfield 110, 3) := by decide +kernel
theorem dX13_init_309 : decode cX13_init 309 = .ok (.aload_n 0, 1) := by decide +kernel
theorem dX13_init_310 : decode cX13_init 310 = .ok (.iconst 5, 1) := by decide +kernel
theorem dX13_init_311 : decode cX13_init 311 = .ok (.newarray .int, 2) := by decide +kernel
theorem dX13_init_313 : decode cX13_init 313 = .ok (.putfield 113, 3) := by decide +kernel
theorem dX13_init_316 : decode cX13_init 316 = .ok (.aload_n 0, 1) := by decide +kernel
theorem dX13_init_317 : decode cX13_init 317 = .ok (.iconst 5, 1) := by decide +kernel
theorem dX13_init_318 : decode cX13_init 318 = .ok (.newarray .int, 2) := by decide +kernel
theorem dX13_init_320 : decode cX13_init 320 = .ok (.putfield 116, 3) := by decide +kernel
theorem dX13_init_323 : decode cX13_init 323 = .ok (.aload_n 0, 1) := by decide +kernel
theorem dX13_init_324 : decode cX13_init 324 = .ok (.iconst 5, 1) := by decide +kernel
theorem dX13_init_325 : decode cX13_init 325 = .ok (.newarray .int, 2) := by decide +kernel
theorem dX13_init_327 : decode cX13_init 327 = .ok (.putfield 119, 3) := by decide +kernel
theorem dX13_init_330 : decode cX13_init 330 = .ok (.aload_n 0, 1) := by decide +kernel
theorem dX13_init_331 : decode cX13_init 331 = .ok (.iconst 5, 1) := by decide +kernel
theorem dX13_init_332 : decode cX13_init 332 = .ok (.newarray .int, 2) := by decide +kernel
theorem dX13_init_334 : decode cX13_init 334 = .ok (.putfield 122, 3) := by decide +kernel
theorem dX13_init_337 : decode cX13_init 337 = .ok (.aload_n 0, 1) := by decide +kernel
theorem dX13_init_338 : decode cX13_init 338 = .ok (.bipush 100, 2) := by decide +kernel
theorem dX13_init_340 : decode cX13_init 340 = .ok (.newarray .int, 2) := by decide +kernel
theorem dX13_init_342 : decode cX13_init 342 = .ok (.putfield 125, 3) := by decide +kernel
theorem dX13_init_345 : decode cX13_init 345 = .ok (.aload_n 0, 1) := by decide +kernel
theorem dX13_init_346 : decode cX13_init 346 = .ok (.bipush 64, 2) := by decide +kernel
theorem dX13_init_348 : decode cX13_init 348 = .ok (.newarray .int, 2) := by decide +kernel
theorem dX13_init_350 : decode cX13_init 350 = .ok (.putfield 128, 3) := by decide +kernel
theorem dX13_init_353 : decode cX13_init 353 = .ok (.aload_n 0, 1) := by decide +kernel
theorem dX13_init_354 : decode cX13_init 354 = .ok (.bipush 8, 2) := by decide +kernel
theorem dX13_init_356 : decode cX13_init 356 = .ok (.newarray .int, 2) := by decide +kernel
theorem dX13_init_358 : decode cX13_init 358 = .ok (.putfield 131, 3) := by decide +kernel
theorem dX13_init_361 : decode cX13_init 361 = .ok (.aload_n 0, 1) := by decide +kernel
theorem dX13_init_362 : decode cX13_init 362 = .ok (.bipush 8, 2) := by decide +kernel
theorem dX13_init_364 : decode cX13_init 364 = .ok (.newarray .int, 2) := by decide +kernel
theorem dX13_init_366 : decode cX13_init 366 = .ok (.putfield 134, 3) := by decide +kernel
theorem dX13_init_369 : decode cX13_init 369 = .ok (.aload_n 0, 1) := by decide +kernel
theorem dX13_init_370 : decode cX13_init 370 = .ok (.bipush 8, 2) := by decide +kernel
theorem dX13_init_372 : decode cX13_init 372 = .ok (.newarray .int, 2) := by decide +kernel
theorem dX13_init_374 : decode cX13_init 374 = .ok (.putfield 137, 3) := by decide +kernel
theorem dX13_init_377 : decode cX13_init 377 = .ok (.aload_n 0, 1) := by decide +kernel
theorem dX13_init_378 : decode cX13_init 378 = .ok (.iconst 4, 1) := by decide +kernel
theorem dX13_init_379 : decode cX13_init 379 = .ok (.newarray .int, 2) := by decide +kernel
theorem dX13_init_381 : decode cX13_init 381 = .ok (.putfield 140, 3) := by decide +kernel
theorem dX13_init_384 : decode cX13_init 384 = .ok (.aload_n 0, 1) := by decide +kernel
theorem dX13_init_385 : decode cX13_init 385 = .ok (.iconst 4, 1) := by decide +kernel
theorem dX13_init_386 : decode cX13_init 386 = .ok (.newarray .int, 2) := by decide +kernel
theorem dX13_init_388 : decode cX13_init 388 = .ok (.putfield 143, 3) := by decide +kernel
theorem dX13_init_391 : decode cX13_init 391 = .ok (.aload_n 0, 1) := by decide +kernel
theorem dX13_init_392 : decode cX13_init 392 = .ok (.sipush 1000, 3) := by decide +kernel
theorem dX13_init_395 : decode cX13_init 395 = .ok (.newarray .int, 2) := by decide +kernel
theorem dX13_init_397 : decode cX13_init 397 = .ok (.putfield 146, 3) := by decide +kernel
theorem dX13_init_400 : decode cX13_init 400 = .ok (.aload_n 0, 1) := by decide +kernel
theorem dX13_init_401 : decode cX13_init 401 = .ok (.bipush 120, 2) := by decide +kernel
theorem dX13_init_403 : decode cX13_init 403 = .ok (.newarray .int, 2) := by decide +kernel
theorem dX13_init_405 : decode cX13_init 405 = .ok (.putfield 149, 3) := by decide +kernel
theorem dX13_init_408 : decode cX13_init 408 = .ok (.aload_n 0, 1) := by decide +kernel
theorem dX13_init_409 : decode cX13_init 409 = .ok (.iconst (-1), 1) := by decide +kernel
theorem dX13_init_410 : decode cX13_init 410 = .ok (.putfield 152, 3) := by decide +kernel
theorem dX13_init_413 : decode cX13_init 413 = .ok (.aload_n 0, 1) := by decide +kernel
theorem dX13_init_414 : decode cX13_init 414 = .ok (.bipush 8, 2) := by decide +kernel
theorem dX13_init_416 : decode cX13_init 416 = .ok (.newarray .int, 2) := by decide +kernel
theorem dX13_init_418 : decode cX13_init 418 = .ok (.putfield 155, 3) := by decide +kernel
theorem dX13_init_421 : decode cX13_init 421 = .ok (.aload_n 0, 1) := by decide +kernel
theorem dX13_init_422 : decode cX13_init 422 = .ok (.iconst 2, 1) := by decide +kernel
theorem dX13_init_423 : decode cX13_init 423 = .ok (.newarray .int, 2) := by decide +kernel
theorem dX13_init_425 : decode cX13_init 425 = .ok (.putfield 158, 3) := by decide +kernel
theorem dX13_init_428 : decode cX13_init 428 = .ok (.aload_n 0, 1) := by decide +kernel
theorem dX13_init_429 : decode cX13_init 429 = .ok (.bipush 8, 2) := by decide +kernel
theorem dX13_init_431 : decode cX13_init 431 = .ok (.newarray .int, 2) := by decide +kernel
theorem dX13_init_433 : decode cX13_init 433 = .ok (.putfield 161, 3) := by decide +kernel
theorem dX13_init_436 : decode cX13_init 436 = .ok (.aload_n 0, 1) := by decide +kernel
theorem dX13_init_437 : decode cX13_init 437 = .ok (.iconst (-1), 1) := by decide +kernel
theorem dX13_init_438 : decode cX13_init 438 = .ok (.putfield 164, 3) := by decide +kernel
theorem dX13_init_441 : decode cX13_init 441 = .ok (.aload_n 0, 1) := by decide +kernel
theorem dX13_init_442 : decode cX13_init 442 = .ok (.getfield 13, 3) := by decide +kernel
theorem dX13_init_445 : decode cX13_init 445 = .ok (.iconst 5, 1) := by decide +kernel
theorem dX13_init_446 : decode cX13_init 446 = .ok (.iconst (-1), 1) := by decide +kernel
theorem dX13_init_447 : decode cX13_init 447 = .ok (.iastore, 1) := by decide +kernel
theorem dX13_init_448 : decode cX13_init 448 = .ok (.aload_n 0, 1) := by decide +kernel
theorem dX13_init_449 : decode cX13_init 449 = .ok (.getfield 13, 3) := by decide +kernel
theorem dX13_init_452 : decode cX13_init 452 = .ok (.bipush 7, 2) := by decide +kernel
theorem dX13_init_454 : decode cX13_init 454 = .ok (.bipush 30, 2) := by decide +kernel
theorem dX13_init_456 : decode cX13_init 456 = .ok (.iastore, 1) := by decide +kernel
theorem dX13_init_457 : decode cX13_init 457 = .ok (.aload_n 0, 1) := by decide +kernel
theorem dX13_init_458 : decode cX13_init 458 = .ok (.getfield 13, 3) := by decide +kernel
theorem dX13_init_461 : decode cX13_init 461 = .ok (.bipush 8, 2) := by decide +kernel
theorem dX13_init_463 : decode cX13_init 463 = .ok (.bipush 50, 2) := by decide +kernel
theorem dX13_init_465 : decode cX13_init 465 = .ok (.iastore, 1) := by decide +kernel
theorem dX13_init_466 : decode cX13_init 466 = .ok (.aload_n 0, 1) := by decide +kernel
theorem dX13_init_467 : decode cX13_init 467 = .ok (.getfield 13, 3) := by decide +kernel
theorem dX13_init_470 : decode cX13_init 470 = .ok (.bipush 10, 2) := by decide +kernel
theorem dX13_init_472 : decode cX13_init 472 = .ok (.bipush 100, 2) := by decide +kernel
theorem dX13_init_474 : decode cX13_init 474 = .ok (.iastore, 1) := by decide +kernel
theorem dX13_init_475 : decode cX13_init 475 = .ok (.aload_n 0, 1) := by decide +kernel
theorem dX13_init_476 : decode cX13_init 476 = .ok (.getfield 13, 3) := by decide +kernel
theorem dX13_init_479 : decode cX13_init 479 = .ok (.bipush 11, 2) := by decide +kernel
theorem dX13_init_481 : decode cX13_init 481 = .ok (.bipush 100, 2) := by decide +kernel
theorem dX13_init_483 : decode cX13_init 483 = .ok (.iastore, 1) := by decide +kernel
theorem dX13_init_484 : decode cX13_init 484 = .ok (.aload_n 0, 1) := by decide +kernel
theorem dX13_init_485 : decode cX13_init 485 = .ok (.invokevirtual 167, 3) := by decide +kernel
theorem dX13_init_488 : decode cX13_init 488 = .ok (.return_, 1) := by decide +kernel
set_option maxHeartbeats 16000000 in
set_option maxRecDepth 100000 in
theorem kc_X13 (l : Launch) (D : va_G) (cy : Nat → ClassId) (ld : Nat → Nat) (a0 K : Nat) : Met l yX13_init (wl yX13_init cX13_init 1 none) ({ frames := 4, cells := 37, slots := 22653, locals := 210 }) (rcp D cy ld (fun _ => (0, 0, 0)) [] [.ref a0] a0 13 [.int 0, .int 0, .null, .null, .null, .null, .null, .null, .int 0, .null, .null, .int 0, .null, .int 0, .int 0, .int 0, .int 0, .long 0, .int 0, .int 0, .int 0, .int 0, .null, .int 0, .null, .null, .int 0, .null, .null, .int 0, .int 0, .null, .null, .null, .int 0, .null, .null, .null, .int 0, .long 0, .long 0, .int 0, .null, .null, .null, .null, .null, .long 0, .null, .null, .null, .null, .null, .int 0, .int 0, .null, .null, .int 0, .int 0, .null, .int 0, .null, .int 0, .int 0, .int 0, .int 0, .null, .null, .null, .int 0] K) (mrq D cy K a0) 37 22653 (fun q => q = a0 ∨ K ≤ q) := by
  refine rc_met (y := yX13_init) (cc := cX13_init) (maxL := 1) (ret := none) (av := [.ref a0]) _ (by decide) (Nat.le_of_ble_eq_true rfl) ?_
  intro p e s m args below meth c hx hb hr hml hts htl hown hlocks hin hK H locs hbn hG hat_a0 hS ls hl
  have hown : s.vm.findClass RX13 = some m.cls := hown
  have hin : meth.name = "<init>" := hin
  have hl : lv_has ls 1 [(0, .ref a0)] := hl
  refine lv_aload_n hx hb dX13_init_0 rfl (lv_at hl 0 rfl) ?_
  refine W.objInit hx hb hown (htl _ mw_186) (htl _ mw_10) (htl _ mw_11) rfl (by rw [hml]; exact hl.1) rfl dX13_init_1 (Nat.le_of_ble_eq_true rfl) (Nat.le_of_ble_eq_true rfl) ?_
  refine W.eq (g2 := F0 m 4 ls []) rfl ?_
  have hG : rc_G D cy ld (fun _ => (0, 0, 0)) [] K H := hG.z
  have hR : mr_G D cy K K H := mr_G.zero D cy K H
  refine lv_aload_n hx hb dX13_init_4 rfl (lv_at hl 0 rfl) ?_
  refine lv_bipush (v := 7) hx hb dX13_init_5 (by decide) ?_
  refine rc_newa hx hb (htl _ mw_32) rfl hK hG hS 0 rfl (fun _ h => h) (a0 := (7, .inl (fun _ => 0))) (fun _ => rfl) (by decide) (by decide) (Nat.le_of_ble_eq_true rfl) (Nat.le_of_ble_eq_true rfl) (Nat.le_of_ble_eq_true rfl) dX13_init_7 (fun H hG hat_n oq hS => ?_)
  refine W.widen (k := 1) (n := 7) (Nat.le_of_ble_eq_true rfl) (Nat.le_of_ble_eq_true rfl) ?_
  have hG : rc_G D cy ld (fun _ => (0, 0, 0)) [] (K + 1) H := hG.z
  have hat_a0 : va_at D vwCl (a0, .inr (13, [.int 0, .int 0, .null, .null, .null, .null, .null, .null, .int 0, .null, .null, .int 0, .null, .int 0, .int 0, .int 0, .int 0, .long 0, .int 0, .int 0, .int 0, .int 0, .null, .int 0, .null, .null, .int 0, .null, .null, .int 0, .int 0, .null, .null, .null, .int 0, .null, .null, .null, .int 0, .long 0, .long 0, .int 0, .null, .null, .null, .null, .null, .long 0, .null, .null, .null, .null, .null, .int 0, .int 0, .null, .null, .int 0, .int 0, .null, .int 0, .null, .int 0, .int 0, .int 0, .int 0, .null, .null, .null, .int 0])) H := hat_a0.kept (oq _ (by omega))
  have hR : mr_G D cy K (K + 1) H := hR.push oq 2 (by decide) (by decide) rfl hat_n
  refine rc_putF (ci := 13) (v := .ref K) (ty := .array (.int)) (C := RX13) (T := TX13) (N := 70) hx hb htl inX13 tyX13 tyX13_ok nmX13 hown hK hat_a0 rfl 2 (by decide) (htl _ mw_187) (fun _ h9 => h9) rfl hin rfl (tyX13_ok 2 (by decide)) rfl rfl (Nat.le_of_ble_eq_true rfl) dX13_init_9 (fun H j9 hat_n z9 oq => ?_)
  have hS := hS.put (k := j9) z9 oq (by show _ = _ ∨ _ ≤ _; omega)
  have hat_a0 : va_at D vwCl (a0, .inr (13, [.int 0, .int 0, .ref K, .null, .null, .null, .null, .null, .int 0, .null, .null, .int 0, .null, .int 0, .int 0, .int 0, .int 0, .long 0, .int 0, .int 0, .int 0, .int 0, .null, .int 0, .null, .null, .int 0, .null, .null, .int 0, .int 0, .null, .null, .null, .int 0, .null, .null, .null, .int 0, .long 0, .long 0, .int 0, .null, .null, .null, .null, .null, .long 0, .null, .null, .null, .null, .null, .int 0, .int 0, .null, .null, .int 0, .int 0, .null, .int 0, .null, .int 0, .int 0, .int 0, .int 0, .null, .null, .null, .int 0])) H := hat_n
  have hR : mr_G D cy K (K + 1) H := hR.kept oq (by omega)
  have hG : rc_G D cy ld (fun _ => (0, 0, 0)) [] (K + 1) H := rc_G.sz (z9.trans hG.1)
  refine lv_aload_n hx hb dX13_init_12 rfl (lv_at hl 0 rfl) ?_
  refine lv_sipush (v := 5560) hx hb dX13_init_13 (by decide) ?_
  refine rc_newa hx hb (htl _ mw_32) rfl hK hG hS 0 rfl (fun _ h => h) (a0 := (5560, .inl (fun _ => 0))) (fun _ => rfl) (by decide) (by decide) (Nat.le_of_ble_eq_true rfl) (Nat.le_of_ble_eq_true rfl) (Nat.le_of_ble_eq_true rfl) dX13_init_16 (fun H hG hat_n oq hS => ?_)
  refine W.widen (k := 2) (n := 5567) (Nat.le_of_ble_eq_true rfl) (Nat.le_of_ble_eq_true rfl) ?_
  have hG : rc_G D cy ld (fun _ => (0, 0, 0)) [] (K + 2) H := hG.z
  have hat_a0 : va_at D vwCl (a0, .inr (13, [.int 0, .int 0, .ref K, .null, .null, .null, .null, .null, .int 0, .null, .null, .int 0, .null, .int 0, .int 0, .int 0, .int 0, .long 0, .int 0, .int 0, .int 0, .int 0, .null, .int 0, .null, .null, .int 0, .null, .null, .int 0, .int 0, .null, .null, .null, .int 0, .null, .null, .null, .int 0, .long 0, .long 0, .int 0, .null, .null, .null, .null, .null, .long 0, .null, .null, .null, .null, .null, .int 0, .int 0, .null, .null, .int 0, .int 0, .null, .int 0, .null, .int 0, .int 0, .int 0, .int 0, .null, .null, .null, .int 0])) H := hat_a0.kept (oq _ (by omega))
  have hR : mr_G D cy K (K + 2) H := hR.push oq 3 (by decide) (by decide) rfl hat_n
  refine rc_putF (ci := 13) (v := .ref (K + 1)) (ty := .array (.int)) (C := RX13) (T := TX13) (N := 70) hx hb htl inX13 tyX13 tyX13_ok nmX13 hown hK hat_a0 rfl 3 (by decide) (htl _ mw_188) (fun _ h9 => h9) rfl hin rfl (tyX13_ok 3 (by decide)) rfl rfl (Nat.le_of_ble_eq_true rfl) dX13_init_18 (fun H j9 hat_n z9 oq => ?_)
  have hS := hS.put (k := j9) z9 oq (by show _ = _ ∨ _ ≤ _; omega)
  have hat_a0 : va_at D vwCl (a0, .inr (13, [.int 0, .int 0, .ref K, .ref (K + 1), .null, .null, .null, .null, .int 0, .null, .null, .int 0, .null, .int 0, .int 0, .int 0, .int 0, .long 0, .int 0, .int 0, .int 0, .int 0, .null, .int 0, .null, .null, .int 0, .null, .null, .int 0, .int 0, .null, .null, .null, .int 0, .null, .null, .null, .int 0, .long 0, .long 0, .int 0, .null, .null, .null, .null, .null, .long 0, .null, .null, .null, .null, .null, .int 0, .int 0, .null, .null, .int 0, .int 0, .null, .int 0, .null, .int 0, .int 0, .int 0, .int 0, .null, .null, .null, .int 0])) H := hat_n
  have hR : mr_G D cy K (K + 2) H := hR.kept oq (by omega)
  have hG : rc_G D cy ld (fun _ => (0, 0, 0)) [] (K + 2) H := rc_G.sz (z9.trans hG.1)
  refine lv_aload_n hx hb dX13_init_21 rfl (lv_at hl 0 rfl) ?_
  refine lv_sipush (v := 11120) hx hb dX13_init_22 (by decide) ?_
  refine rc_newa hx hb (htl _ mw_32) rfl hK hG hS 0 rfl (fun _ h => h) (a0 := (11120, .inl (fun _ => 0))) (fun _ => rfl) (by decide) (by decide) (Nat.le_of_ble_eq_true rfl) (Nat.le_of_ble_eq_true rfl) (Nat.le_of_ble_eq_true rfl) dX13_init_25 (fun H hG hat_n oq hS => ?_)
  refine W.widen (k := 3) (n := 16687) (Nat.le_of_ble_eq_true rfl) (Nat.le_of_ble_eq_true rfl) ?_
  have hG : rc_G D cy ld (fun _ => (0, 0, 0)) [] (K + 3) H := hG.z
  have hat_a0 : va_at D vwCl (a0, .inr (13, [.int 0, .int 0, .ref K, .ref (K + 1), .null, .null, .null, .null, .int 0, .null, .null, .int 0, .null, .int 0, .int 0, .int 0, .int 0, .long 0, .int 0, .int 0, .int 0, .int 0, .null, .int 0, .null, .null, .int 0, .null, .null, .int 0, .int 0, .null, .null, .null, .int 0, .null, .null, .null, .int 0, .long 0, .long 0, .int 0, .null, .null, .null, .null, .null, .long 0, .null, .null, .null, .null, .null, .int 0, .int 0, .null, .null, .int 0, .int 0, .null, .int 0, .null, .int 0, .int 0, .int 0, .int 0, .null, .null, .null, .int 0])) H := hat_a0.kept (oq _ (by omega))
  have hR : mr_G D cy K (K + 3) H := hR.push oq 4 (by decide) (by decide) rfl hat_n
  refine rc_putF (ci := 13) (v := .ref (K + 2)) (ty := .array (.int)) (C := RX13) (T := TX13) (N := 70) hx hb htl inX13 tyX13 tyX13_ok nmX13 hown hK hat_a0 rfl 4 (by decide) (htl _ mw_189) (fun _ h9 => h9) rfl hin rfl (tyX13_ok 4 (by decide)) rfl rfl (Nat.le_of_ble_eq_true rfl) dX13_init_27 (fun H j9 hat_n z9 oq => ?_)
  have hS := hS.put (k := j9) z9 oq (by show _ = _ ∨ _ ≤ _; omega)
  have hat_a0 : va_at D vwCl (a0, .inr (13, [.int 0, .int 0, .ref K, .ref (K + 1), .ref (K + 2), .null, .null, .null, .int 0, .null, .null, .int 0, .null, .int 0, .int 0, .int 0, .int 0, .long 0, .int 0, .int 0, .int 0, .int 0, .null, .int 0, .null, .null, .int 0, .null, .null, .int 0, .int 0, .null, .null, .null, .int 0, .null, .null, .null, .int 0, .long 0, .long 0, .int 0, .null, .null, .null, .null, .null, .long 0, .null, .null, .null, .null, .null, .int 0, .int 0, .null, .null, .int 0, .int 0, .null, .int 0, .null, .int 0, .int 0, .int 0, .int 0, .null, .null, .null, .int 0])) H := hat_n
  have hR : mr_G D cy K (K + 3) H := hR.kept oq (by omega)
  have hG : rc_G D cy ld (fun _ => (0, 0, 0)) [] (K + 3) H := rc_G.sz (z9.trans hG.1)
  refine lv_aload_n hx hb dX13_init_30 rfl (lv_at hl 0 rfl) ?_
  refine lv_iconst (v := 2) hx hb dX13_init_31 (by decide) ?_
  refine rc_newa hx hb (htl _ mw_17) rfl hK hG hS 2 rfl (fun _ h => h) (a0 := (2, .inl (fun _ => 0))) (fun _ => rfl) (by decide) (by decide) (Nat.le_of_ble_eq_true rfl) (Nat.le_of_ble_eq_true rfl) (Nat.le_of_ble_eq_true rfl) dX13_init_32 (fun H hG hat_n oq hS => ?_)
  refine W.widen (k := 4) (n := 16689) (Nat.le_of_ble_eq_true rfl) (Nat.le_of_ble_eq_true rfl) ?_
  have hG : rc_G D cy ld (fun _ => (0, 0, 0)) [] (K + 4) H := hG.z
  have hat_a0 : va_at D vwCl (a0, .inr (13, [.int 0, .int 0, .ref K, .ref (K + 1), .ref (K + 2), .null, .null, .null, .int 0, .null, .null, .int 0, .null, .int 0, .int 0, .int 0, .int 0, .long 0, .int 0, .int 0, .int 0, .int 0, .null, .int 0, .null, .null, .int 0, .null, .null, .int 0, .int 0, .null, .null, .null, .int 0, .null, .null, .null, .int 0, .long 0, .long 0, .int 0, .null, .null, .null, .null, .null, .long 0, .null, .null, .null, .null, .null, .int 0, .int 0, .null, .null, .int 0, .int 0, .null, .int 0, .null, .int 0, .int 0, .int 0, .int 0, .null, .null, .null, .int 0])) H := hat_a0.kept (oq _ (by omega))
  have hR : mr_G D cy K (K + 4) H := hR.push oq 5 (by decide) (by decide) rfl hat_n
  refine rc_putF (ci := 13) (v := .ref (K + 3)) (ty := .array (.boolean)) (C := RX13) (T := TX13) (N := 70) hx hb htl inX13 tyX13 tyX13_ok nmX13 hown hK hat_a0 rfl 5 (by decide) (htl _ mw_190) (fun _ h9 => h9) rfl hin rfl (tyX13_ok 5 (by decide)) rfl rfl (Nat.le_of_ble_eq_true rfl) dX13_init_34 (fun H j9 hat_n z9 oq => ?_)
  have hS := hS.put (k := j9) z9 oq (by show _ = _ ∨ _ ≤ _; omega)
  have hat_a0 : va_at D vwCl (a0, .inr (13, [.int 0, .int 0, .ref K, .ref (K + 1), .ref (K + 2), .ref (K + 3), .null, .null, .int 0, .null, .null, .int 0, .null, .int 0, .int 0, .int 0, .int 0, .long 0, .int 0, .int 0, .int 0, .int 0, .null, .int 0, .null, .null, .int 0, .null, .null, .int 0, .int 0, .null, .null, .null, .int 0, .null, .null, .null, .int 0, .long 0, .long 0, .int 0, .null, .null, .null, .null, .null, .long 0, .null, .null, .null, .null, .null, .int 0, .int 0, .null, .null, .int 0, .int 0, .null, .int 0, .null, .int 0, .int 0, .int 0, .int 0, .null, .null, .null, .int 0])) H := hat_n
  have hR : mr_G D cy K (K + 4) H := hR.kept oq (by omega)
  have hG : rc_G D cy ld (fun _ => (0, 0, 0)) [] (K + 4) H := rc_G.sz (z9.trans hG.1)
  refine lv_aload_n hx hb dX13_init_37 rfl (lv_at hl 0 rfl) ?_
  refine lv_sipush (v := 1196) hx hb dX13_init_38 (by decide) ?_
  refine rc_newa hx hb (htl _ mw_32) rfl hK hG hS 0 rfl (fun _ h => h) (a0 := (1196, .inl (fun _ => 0))) (fun _ => rfl) (by decide) (by decide) (Nat.le_of_ble_eq_true rfl) (Nat.le_of_ble_eq_true rfl) (Nat.le_of_ble_eq_true rfl) dX13_init_41 (fun H hG hat_n oq hS => ?_)
  refine W.widen (k := 5) (n := 17885) (Nat.le_of_ble_eq_true rfl) (Nat.le_of_ble_eq_true rfl) ?_
  have hG : rc_G D cy ld (fun _ => (0, 0, 0)) [] (K + 5) H := hG.z
  have hat_a0 : va_at D vwCl (a0, .inr (13, [.int 0, .int 0, .ref K, .ref (K + 1), .ref (K + 2), .ref (K + 3), .null, .null, .int 0, .null, .null, .int 0, .null, .int 0, .int 0, .int 0, .int 0, .long 0, .int 0, .int 0, .int 0, .int 0, .null, .int 0, .null, .null, .int 0, .null, .null, .int 0, .int 0, .null, .null, .null, .int 0, .null, .null, .null, .int 0, .long 0, .long 0, .int 0, .null, .null, .null, .null, .null, .long 0, .null, .null, .null, .null, .null, .int 0, .int 0, .null, .null, .int 0, .int 0, .null, .int 0, .null, .int 0, .int 0, .int 0, .int 0, .null, .null, .null, .int 0])) H := hat_a0.kept (oq _ (by omega))
  have hR : mr_G D cy K (K + 5) H := hR.push oq 6 (by decide) (by decide) rfl hat_n
  refine rc_putF (ci := 13) (v := .ref (K + 4)) (ty := .array (.int)) (C := RX13) (T := TX13) (N := 70) hx hb htl inX13 tyX13 tyX13_ok nmX13 hown hK hat_a0 rfl 6 (by decide) (htl _ mw_191) (fun _ h9 => h9) rfl hin rfl (tyX13_ok 6 (by decide)) rfl rfl (Nat.le_of_ble_eq_true rfl) dX13_init_43 (fun H j9 hat_n z9 oq => ?_)
  have hS := hS.put (k := j9) z9 oq (by show _ = _ ∨ _ ≤ _; omega)
  have hat_a0 : va_at D vwCl (a0, .inr (13, [.int 0, .int 0, .ref K, .ref (K + 1), .ref (K + 2), .ref (K + 3), .ref (K + 4), .null, .int 0, .null, .null, .int 0, .null, .int 0, .int 0, .int 0, .int 0, .long 0, .int 0, .int 0, .int 0, .int 0, .null, .int 0, .null, .null, .int 0, .null, .null, .int 0, .int 0, .null, .null, .null, .int 0, .null, .null, .null, .int 0, .long 0, .long 0, .int 0, .null, .null, .null, .null, .null, .long 0, .null, .null, .null, .null, .null, .int 0, .int 0, .null, .null, .int 0, .int 0, .null, .int 0, .null, .int 0, .int 0, .int 0, .int 0, .null, .null, .null, .int 0])) H := hat_n
  have hR : mr_G D cy K (K + 5) H := hR.kept oq (by omega)
  have hG : rc_G D cy ld (fun _ => (0, 0, 0)) [] (K + 5) H := rc_G.sz (z9.trans hG.1)
  refine lv_aload_n hx hb dX13_init_46 rfl (lv_at hl 0 rfl) ?_
  refine lv_bipush (v := 16) hx hb dX13_init_47 (by decide) ?_
  refine rc_newa hx hb (htl _ mw_32) rfl hK hG hS 0 rfl (fun _ h => h) (a0 := (16, .inl (fun _ => 0))) (fun _ => rfl) (by decide) (by decide) (Nat.le_of_ble_eq_true rfl) (Nat.le_of_ble_eq_true rfl) (Nat.le_of_ble_eq_true rfl) dX13_init_49 (fun H hG hat_n oq hS => ?_)
  refine W.widen (k := 6) (n := 17901) (Nat.le_of_ble_eq_true rfl) (Nat.le_of_ble_eq_true rfl) ?_
  have hG : rc_G D cy ld (fun _ => (0, 0, 0)) [] (K + 6) H := hG.z
  have hat_a0 : va_at D vwCl (a0, .inr (13, [.int 0, .int 0, .ref K, .ref (K + 1), .ref (K + 2), .ref (K + 3), .ref (K + 4), .null, .int 0, .null, .null, .int 0, .null, .int 0, .int 0, .int 0, .int 0, .long 0, .int 0, .int 0, .int 0, .int 0, .null, .int 0, .null, .null, .int 0, .null, .null, .int 0, .int 0, .null, .null, .null, .int 0, .null, .null, .null, .int 0, .long 0, .long 0, .int 0, .null, .null, .null, .null, .null, .long 0, .null, .null, .null, .null, .null, .int 0, .int 0, .null, .null, .int 0, .int 0, .null, .int 0, .null, .int 0, .int 0, .int 0, .int 0, .null, .null, .null, .int 0])) H := hat_a0.kept (oq _ (by omega))
  have hR : mr_G D cy K (K + 6) H := hR.push oq 7 (by decide) (by decide) rfl hat_n
  refine rc_putF (ci := 13) (v := .ref (K + 5)) (ty := .array (.int)) (C := RX13) (T := TX13) (N := 70) hx hb htl inX13 tyX13 tyX13_ok nmX13 hown hK hat_a0 rfl 7 (by decide) (htl _ mw_192) (fun _ h9 => h9) rfl hin rfl (tyX13_ok 7 (by decide)) rfl rfl (Nat.le_of_ble_eq_true rfl) dX13_init_51 (fun H j9 hat_n z9 oq => ?_)
  have hS := hS.put (k := j9) z9 oq (by show _ = _ ∨ _ ≤ _; omega)
  have hat_a0 : va_at D vwCl (a0, .inr (13, [.int 0, .int 0, .ref K, .ref (K + 1), .ref (K + 2), .ref (K + 3), .ref (K + 4), .ref (K + 5), .int 0, .null, .null, .int 0, .null, .int 0, .int 0, .int 0, .int 0, .long 0, .int 0, .int 0, .int 0, .int 0, .null, .int 0, .null, .null, .int 0, .null, .null, .int 0, .int 0, .null, .null, .null, .int 0, .null, .null, .null, .int 0, .long 0, .long 0, .int 0, .null, .null, .null, .null, .null, .long 0, .null, .null, .null, .null, .null, .int 0, .int 0, .null, .null, .int 0, .int 0, .null, .int 0, .null, .int 0, .int 0, .int 0, .int 0, .null, .null, .null, .int 0])) H := hat_n
  have hR : mr_G D cy K (K + 6) H := hR.kept oq (by omega)
  have hG : rc_G D cy ld (fun _ => (0, 0, 0)) [] (K + 6) H := rc_G.sz (z9.trans hG.1)
  refine lv_aload_n hx hb dX13_init_54 rfl (lv_at hl 0 rfl) ?_
  refine lv_sipush (v := 832) hx hb dX13_init_55 (by decide) ?_
  refine rc_newa hx hb (htl _ mw_32) rfl hK hG hS 0 rfl (fun _ h => h) (a0 := (832, .inl (fun _ => 0))) (fun _ => rfl) (by decide) (by decide) (Nat.le_of_ble_eq_true rfl) (Nat.le_of_ble_eq_true rfl) (Nat.le_of_ble_eq_true rfl) dX13_init_58 (fun H hG hat_n oq hS => ?_)
  refine W.widen (k := 7) (n := 18733) (Nat.le_of_ble_eq_true rfl) (Nat.le_of_ble_eq_true rfl) ?_
  have hG : rc_G D cy ld (fun _ => (0, 0, 0)) [] (K + 7) H := hG.z
  have hat_a0 : va_at D vwCl (a0, .inr (13, [.int 0, .int 0, .ref K, .ref (K + 1), .ref (K + 2), .ref (K + 3), .ref (K + 4), .ref (K + 5), .int 0, .null, .null, .int 0, .null, .int 0, .int 0, .int 0, .int 0, .long 0, .int 0, .int 0, .int 0, .int 0, .null, .int 0, .null, .null, .int 0, .null, .null, .int 0, .int 0, .null, .null, .null, .int 0, .null, .null, .null, .int 0, .long 0, .long 0, .int 0, .null, .null, .null, .null, .null, .long 0, .null, .null, .null, .null, .null, .int 0, .int 0, .null, .null, .int 0, .int 0, .null, .int 0, .null, .int 0, .int 0, .int 0, .int 0, .null, .null, .null, .int 0])) H := hat_a0.kept (oq _ (by omega))
  have hR : mr_G D cy K (K + 7) H := hR.push oq 9 (by decide) (by decide) rfl hat_n
  refine rc_putF (ci := 13) (v := .ref (K + 6)) (ty := .array (.int)) (C := RX13) (T := TX13) (N := 70) hx hb htl inX13 tyX13 tyX13_ok nmX13 hown hK hat_a0 rfl 9 (by decide) (htl _ mw_193) (fun _ h9 => h9) rfl hin rfl (tyX13_ok 9 (by decide)) rfl rfl (Nat.le_of_ble_eq_true rfl) dX13_init_60 (fun H j9 hat_n z9 oq => ?_)
  have hS := hS.put (k := j9) z9 oq (by show _ = _ ∨ _ ≤ _; omega)
  have hat_a0 : va_at D vwCl (a0, .inr (13, [.int 0, .int 0, .ref K, .ref (K + 1), .ref (K + 2), .ref (K + 3), .ref (K + 4), .ref (K + 5), .int 0, .ref (K + 6), .null, .int 0, .null, .int 0, .int 0, .int 0, .int 0, .long 0, .int 0, .int 0, .int 0, .int 0, .null, .int 0, .null, .null, .int 0, .null, .null, .int 0, .int 0, .null, .null, .null, .int 0, .null, .null, .null, .int 0, .long 0, .long 0, .int 0, .null, .null, .null, .null, .null, .long 0, .null, .null, .null, .null, .null, .int 0, .int 0, .null, .null, .int 0, .int 0, .null, .int 0, .null, .int 0, .int 0, .int 0, .int 0, .null, .null, .null, .int 0])) H := hat_n
  have hR : mr_G D cy K (K + 7) H := hR.kept oq (by omega)
  have hG : rc_G D cy ld (fun _ => (0, 0, 0)) [] (K + 7) H := rc_G.sz (z9.trans hG.1)
  refine lv_aload_n hx hb dX13_init_63 rfl (lv_at hl 0 rfl) ?_
  refine lv_bipush (v := 16) hx hb dX13_init_64 (by decide) ?_
  refine rc_newa hx hb (htl _ mw_32) rfl hK hG hS 0 rfl (fun _ h => h) (a0 := (16, .inl (fun _ => 0))) (fun _ => rfl) (by decide) (by decide) (Nat.le_of_ble_eq_true rfl) (Nat.le_of_ble_eq_true rfl) (Nat.le_of_ble_eq_true rfl) dX13_init_66 (fun H hG hat_n oq hS => ?_)
  refine W.widen (k := 8) (n := 18749) (Nat.le_of_ble_eq_true rfl) (Nat.le_of_ble_eq_true rfl) ?_
  have hG : rc_G D cy ld (fun _ => (0, 0, 0)) [] (K + 8) H := hG.z
  have hat_a0 : va_at D vwCl (a0, .inr (13, [.int 0, .int 0, .ref K, .ref (K + 1), .ref (K + 2), .ref (K + 3), .ref (K + 4), .ref (K + 5), .int 0, .ref (K + 6), .null, .int 0, .null, .int 0, .int 0, .int 0, .int 0, .long 0, .int 0, .int 0, .int 0, .int 0, .null, .int 0, .null, .null, .int 0, .null, .null, .int 0, .int 0, .null, .null, .null, .int 0, .null, .null, .null, .int 0, .long 0, .long 0, .int 0, .null, .null, .null, .null, .null, .long 0, .null, .null, .null, .null, .null, .int 0, .int 0, .null, .null, .int 0, .int 0, .null, .int 0, .null, .int 0, .int 0, .int 0, .int 0, .null, .null, .null, .int 0])) H := hat_a0.kept (oq _ (by omega))
  have hR : mr_G D cy K (K + 8) H := hR.push oq 10 (by decide) (by decide) rfl hat_n
  refine rc_putF (ci := 13) (v := .ref (K + 7)) (ty := .array (.int)) (C := RX13) (T := TX13) (N := 70) hx hb htl inX13 tyX13 tyX13_ok nmX13 hown hK hat_a0 rfl 10 (by decide) (htl _ mw_194) (fun _ h9 => h9) rfl hin rfl (tyX13_ok 10 (by decide)) rfl rfl (Nat.le_of_ble_eq_true rfl) dX13_init_68 (fun H j9 hat_n z9 oq => ?_)
  have hS := hS.put (k := j9) z9 oq (by show _ = _ ∨ _ ≤ _; omega)
  have hat_a0 : va_at D vwCl (a0, .inr (13, [.int 0, .int 0, .ref K, .ref (K + 1), .ref (K + 2), .ref (K + 3), .ref (K + 4), .ref (K + 5), .int 0, .ref (K + 6), .ref (K + 7), .int 0, .null, .int 0, .int 0, .int 0, .int 0, .long 0, .int 0, .int 0, .int 0, .int 0, .null, .int 0, .null, .null, .int 0, .null, .null, .int 0, .int 0, .null, .null, .null, .int 0, .null, .null, .null, .int 0, .long 0, .long 0, .int 0, .null, .null, .null, .null, .null, .long 0, .null, .null, .null, .null, .null, .int 0, .int 0, .null, .null, .int 0, .int 0, .null, .int 0, .null, .int 0, .int 0, .int 0, .int 0, .null, .null, .null, .int 0])) H := hat_n
  have hR : mr_G D cy K (K + 8) H := hR.kept oq (by omega)
  have hG : rc_G D cy ld (fun _ => (0, 0, 0)) [] (K + 8) H := rc_G.sz (z9.trans hG.1)
  refine lv_aload_n hx hb dX13_init_71 rfl (lv_at hl 0 rfl) ?_
  refine lv_sipush (v := 400) hx hb dX13_init_72 (by decide) ?_
  refine rc_newa hx hb (htl _ mw_32) rfl hK hG hS 0 rfl (fun _ h => h) (a0 := (400, .inl (fun _ => 0))) (fun _ => rfl) (by decide) (by decide) (Nat.le_of_ble_eq_true rfl) (Nat.le_of_ble_eq_true rfl) (Nat.le_of_ble_eq_true rfl) dX13_init_75 (fun H hG hat_n oq hS => ?_)
  refine W.widen (k := 9) (n := 19149) (Nat.le_of_ble_eq_true rfl) (Nat.le_of_ble_eq_true rfl) ?_
  have hG : rc_G D cy ld (fun _ => (0, 0, 0)) [] (K + 9) H := hG.z
  have hat_a0 : va_at D vwCl (a0, .inr (13, [.int 0, .int 0, .ref K, .ref (K + 1), .ref (K + 2), .ref (K + 3), .ref (K + 4), .ref (K + 5), .int 0, .ref (K + 6), .ref (K + 7), .int 0, .null, .int 0, .int 0, .int 0, .int 0, .long 0, .int 0, .int 0, .int 0, .int 0, .null, .int 0, .null, .null, .int 0, .null, .null, .int 0, .int 0, .null, .null, .null, .int 0, .null, .null, .null, .int 0, .long 0, .long 0, .int 0, .null, .null, .null, .null, .null, .long 0, .null, .null, .null, .null, .null, .int 0, .int 0, .null, .null, .int 0, .int 0, .null, .int 0, .null, .int 0, .int 0, .int 0, .int 0, .null, .null, .null, .int 0])) H := hat_a0.kept (oq _ (by omega))
  have hR : mr_G D cy K (K + 9) H := hR.push oq 12 (by decide) (by decide) rfl hat_n
  refine rc_putF (ci := 13) (v := .ref (K + 8)) (ty := .array (.int)) (C := RX13) (T := TX13) (N := 70) hx hb htl inX13 tyX13 tyX13_ok nmX13 hown hK hat_a0 rfl 12 (by decide) (htl _ mw_195) (fun _ h9 => h9) rfl hin rfl (tyX13_ok 12 (by decide)) rfl rfl (Nat.le_of_ble_eq_true rfl) dX13_init_77 (fun H j9 hat_n z9 oq => ?_)
  have hS := hS.put (k := j9) z9 oq (by show _ = _ ∨ _ ≤ _; omega)
  have hat_a0 : va_at D vwCl (a0, .inr (13, [.int 0, .int 0, .ref K, .ref (K + 1), .ref (K + 2), .ref (K + 3), .ref (K + 4), .ref (K + 5), .int 0, .ref (K + 6), .ref (K + 7), .int 0, .ref (K + 8), .int 0, .int 0, .int 0, .int 0, .long 0, .int 0, .int 0, .int 0, .int 0, .null, .int 0, .null, .null, .int 0, .null, .null, .int 0, .int 0, .null, .null, .null, .int 0, .null, .null, .null, .int 0, .long 0, .long 0, .int 0, .null, .null, .null, .null, .null, .long 0, .null, .null, .null, .null, .null, .int 0, .int 0, .null, .null, .int 0, .int 0, .null, .int 0, .null, .int 0, .int 0, .int 0, .int 0, .null, .null, .null, .int 0])) H := hat_n
  have hR : mr_G D cy K (K + 9) H := hR.kept oq (by omega)
  have hG : rc_G D cy ld (fun _ => (0, 0, 0)) [] (K + 9) H := rc_G.sz (z9.trans hG.1)
  refine lv_aload_n hx hb dX13_init_80 rfl (lv_at hl 0 rfl) ?_
  refine lv_iconst (v := (-1)) hx hb dX13_init_81 (by decide) ?_
  refine tk_put0 (ci := 13) (v := .int (-1)) (ty := .int) (C := RX13) (T := TX13) (N := 70) hx hb htl inX13 tyX13 tyX13_ok nmX13 hown hK hat_a0 rfl 18 (by decide) (htl _ mw_196) (fun _ h9 => h9) rfl (tyX13_ok 18 (by decide)) rfl rfl (Nat.le_of_ble_eq_true rfl) dX13_init_82 (fun H j9 hat_n z9 oq => ?_)
  have hS := hS.put (k := j9) z9 oq (by show _ = _ ∨ _ ≤ _; omega)
  have hat_a0 : va_at D vwCl (a0, .inr (13, [.int 0, .int 0, .ref K, .ref (K + 1), .ref (K + 2), .ref (K + 3), .ref (K + 4), .ref (K + 5), .int 0, .ref (K + 6), .ref (K + 7), .int 0, .ref (K + 8), .int 0, .int 0, .int 0, .int 0, .long 0, .int (-1), .int 0, .int 0, .int 0, .null, .int 0, .null, .null, .int 0, .null, .null, .int 0, .int 0, .null, .null, .null, .int 0, .null, .null, .null, .int 0, .long 0, .long 0, .int 0, .null, .null, .null, .null, .null, .long 0, .null, .null, .null, .null, .null, .int 0, .int 0, .null, .null, .int 0, .int 0, .null, .int 0, .null, .int 0, .int 0, .int 0, .int 0, .null, .null, .null, .int 0])) H := hat_n
  have hR : mr_G D cy K (K + 9) H := hR.kept oq (by omega)
  have hG : rc_G D cy ld (fun _ => (0, 0, 0)) [] (K + 9) H := rc_G.sz (z9.trans hG.1)
  refine lv_aload_n hx hb dX13_init_85 rfl (lv_at hl 0 rfl) ?_
  refine lv_bipush (v := 96) hx hb dX13_init_86 (by decide) ?_
  refine rc_newa hx hb (htl _ mw_32) rfl hK hG hS 0 rfl (fun _ h => h) (a0 := (96, .inl (fun _ => 0))) (fun _ => rfl) (by decide) (by decide) (Nat.le_of_ble_eq_true rfl) (Nat.le_of_ble_eq_true rfl) (Nat.le_of_ble_eq_true rfl) dX13_init_88 (fun H hG hat_n oq hS => ?_)
  refine W.widen (k := 10) (n := 19245) (Nat.le_of_ble_eq_true rfl) (Nat.le_of_ble_eq_true rfl) ?_
  have hG : rc_G D cy ld (fun _ => (0, 0, 0)) [] (K + 10) H := hG.z
  have hat_a0 : va_at D vwCl (a0, .inr (13, [.int 0, .int 0, .ref K, .ref (K + 1), .ref (K + 2), .ref (K + 3), .ref (K + 4), .ref (K + 5), .int 0, .ref (K + 6), .ref (K + 7), .int 0, .ref (K + 8), .int 0, .int 0, .int 0, .int 0, .long 0, .int (-1), .int 0, .int 0, .int 0, .null, .int 0, .null, .null, .int 0, .null, .null, .int 0, .int 0, .null, .null, .null, .int 0, .null, .null, .null, .int 0, .long 0, .long 0, .int 0, .null, .null, .null, .null, .null, .long 0, .null, .null, .null, .null, .null, .int 0, .int 0, .null, .null, .int 0, .int 0, .null, .int 0, .null, .int 0, .int 0, .int 0, .int 0, .null, .null, .null, .int 0])) H := hat_a0.kept (oq _ (by omega))
  have hR : mr_G D cy K (K + 10) H := hR.push oq 22 (by decide) (by decide) rfl hat_n
  refine rc_putF (ci := 13) (v := .ref (K + 9)) (ty := .array (.int)) (C := RX13) (T := TX13) (N := 70) hx hb htl inX13 tyX13 tyX13_ok nmX13 hown hK hat_a0 rfl 22 (by decide) (htl _ mw_197) (fun _ h9 => h9) rfl hin rfl (tyX13_ok 22 (by decide)) rfl rfl (Nat.le_of_ble_eq_true rfl) dX13_init_90 (fun H j9 hat_n z9 oq => ?_)
  have hS := hS.put (k := j9) z9 oq (by show _ = _ ∨ _ ≤ _; omega)
  have hat_a0 : va_at D vwCl (a0, .inr (13, [.int 0, .int 0, .ref K, .ref (K + 1), .ref (K + 2), .ref (K + 3), .ref (K + 4), .ref (K + 5), .int 0, .ref (K + 6), .ref (K + 7), .int 0, .ref (K + 8), .int 0, .int 0, .int 0, .int 0, .long 0, .int (-1), .int 0, .int 0, .int 0, .ref (K + 9), .int 0, .null, .null, .int 0, .null, .null, .int 0, .int 0, .null, .null, .null, .int 0, .null, .null, .null, .int 0, .long 0, .long 0, .int 0, .null, .null, .null, .null, .null, .long 0, .null, .null, .null, .null, .null, .int 0, .int 0, .null, .null, .int 0, .int 0, .null, .int 0, .null, .int 0, .int 0, .int 0, .int 0, .null, .null, .null, .int 0])) H := hat_n
  have hR : mr_G D cy K (K + 10) H := hR.kept oq (by omega)
  have hG : rc_G D cy ld (fun _ => (0, 0, 0)) [] (K + 10) H := rc_G.sz (z9.trans hG.1)
  refine lv_aload_n hx hb dX13_init_93 rfl (lv_at hl 0 rfl) ?_
  refine lv_sipush (v := 400) hx hb dX13_init_94 (by decide) ?_
  refine rc_newa hx hb (htl _ mw_32) rfl hK hG hS 0 rfl (fun _ h => h) (a0 := (400, .inl (fun _ => 0))) (fun _ => rfl) (by decide) (by decide) (Nat.le_of_ble_eq_true rfl) (Nat.le_of_ble_eq_true rfl) (Nat.le_of_ble_eq_true rfl) dX13_init_97 (fun H hG hat_n oq hS => ?_)
  refine W.widen (k := 11) (n := 19645) (Nat.le_of_ble_eq_true rfl) (Nat.le_of_ble_eq_true rfl) ?_
  have hG : rc_G D cy ld (fun _ => (0, 0, 0)) [] (K + 11) H := hG.z
  have hat_a0 : va_at D vwCl (a0, .inr (13, [.int 0, .int 0, .ref K, .ref (K + 1), .ref (K + 2), .ref (K + 3), .ref (K + 4), .ref (K + 5), .int 0, .ref (K + 6), .ref (K + 7), .int 0, .ref (K + 8), .int 0, .int 0, .int 0, .int 0, .long 0, .int (-1), .int 0, .int 0, .int 0, .ref (K + 9), .int 0, .null, .null, .int 0, .null, .null, .int 0, .int 0, .null, .null, .null, .int 0, .null, .null, .null, .int 0, .long 0, .long 0, .int 0, .null, .null, .null, .null, .null, .long 0, .null, .null, .null, .null, .null, .int 0, .int 0, .null, .null, .int 0, .int 0, .null, .int 0, .null, .int 0, .int 0, .int 0, .int 0, .null, .null, .null, .int 0])) H := hat_a0.kept (oq _ (by omega))
  have hR : mr_G D cy K (K + 11) H := hR.push oq 24 (by decide) (by decide) rfl hat_n
  refine rc_putF (ci := 13) (v := .ref (K + 10)) (ty := .array (.int)) (C := RX13) (T := TX13) (N := 70) hx hb htl inX13 tyX13 tyX13_ok nmX13 hown hK hat_a0 rfl 24 (by decide) (htl _ mw_198) (fun _ h9 => h9) rfl hin rfl (tyX13_ok 24 (by decide)) rfl rfl (Nat.le_of_ble_eq_true rfl) dX13_init_99 (fun H j9 hat_n z9 oq => ?_)
  have hS := hS.put (k := j9) z9 oq (by show _ = _ ∨ _ ≤ _; omega)
  have hat_a0 : va_at D vwCl (a0, .inr (13, [.int 0, .int 0, .ref K, .ref (K + 1), .ref (K + 2), .ref (K + 3), .ref (K + 4), .ref (K + 5), .int 0, .ref (K + 6), .ref (K + 7), .int 0, .ref (K + 8), .int 0, .int 0, .int 0, .int 0, .long 0, .int (-1), .int 0, .int 0, .int 0, .ref (K + 9), .int 0, .ref (K + 10), .null, .int 0, .null, .null, .int 0, .int 0, .null, .null, .null, .int 0, .null, .null, .null, .int 0, .long 0, .long 0, .int 0, .null, .null, .null, .null, .null, .long 0, .null, .null, .null, .null, .null, .int 0, .int 0, .null, .null, .int 0, .int 0, .null, .int 0, .null, .int 0, .int 0, .int 0, .int 0, .null, .null, .null, .int 0])) H := hat_n
  have hR : mr_G D cy K (K + 11) H := hR.kept oq (by omega)
  have hG : rc_G D cy ld (fun _ => (0, 0, 0)) [] (K + 11) H := rc_G.sz (z9.trans hG.1)
  refine lv_aload_n hx hb dX13_init_102 rfl (lv_at hl 0 rfl) ?_
  refine lv_sipush (v := 400) hx hb dX13_init_103 (by decide) ?_
  refine rc_newa hx hb (htl _ mw_32) rfl hK hG hS 0 rfl (fun _ h => h) (a0 := (400, .inl (fun _ => 0))) (fun _ => rfl) (by decide) (by decide) (Nat.le_of_ble_eq_true rfl) (Nat.le_of_ble_eq_true rfl) (Nat.le_of_ble_eq_true rfl) dX13_init_106 (fun H hG hat_n oq hS => ?_)
  refine W.widen (k := 12) (n := 20045) (Nat.le_of_ble_eq_true rfl) (Nat.le_of_ble_eq_true rfl) ?_
  have hG : rc_G D cy ld (fun _ => (0, 0, 0)) [] (K + 12) H := hG.z
  have hat_a0 : va_at D vwCl (a0, .inr (13, [.int 0, .int 0, .ref K, .ref (K + 1), .ref (K + 2), .ref (K + 3), .ref (K + 4), .ref (K + 5), .int 0, .ref (K + 6), .ref (K + 7), .int 0, .ref (K + 8), .int 0, .int 0, .int 0, .int 0, .long 0, .int (-1), .int 0, .int 0, .int 0, .ref (K + 9), .int 0, .ref (K + 10), .null, .int 0, .null, .null, .int 0, .int 0, .null, .null, .null, .int 0, .null, .null, .null, .int 0, .long 0, .long 0, .int 0, .null, .null, .null, .null, .null, .long 0, .null, .null, .null, .null, .null, .int 0, .int 0, .null, .null, .int 0, .int 0, .null, .int 0, .null, .int 0, .int 0, .int 0, .int 0, .null, .null, .null, .int 0])) H := hat_a0.kept (oq _ (by omega))
  have hR : mr_G D cy K (K + 12) H := hR.push oq 25 (by decide) (by decide) rfl hat_n
  refine rc_putF (ci := 13) (v := .ref (K + 11)) (ty := .array (.int)) (C := RX13) (T := TX13) (N := 70) hx hb htl inX13 tyX13 tyX13_ok nmX13 hown hK hat_a0 rfl 25 (by decide) (htl _ mw_199) (fun _ h9 => h9) rfl hin rfl (tyX13_ok 25 (by decide)) rfl rfl (Nat.le_of_ble_eq_true rfl) dX13_init_108 (fun H j9 hat_n z9 oq => ?_)
  have hS := hS.put (k := j9) z9 oq (by show _ = _ ∨ _ ≤ _; omega)
  have hat_a0 : va_at D vwCl (a0, .inr (13, [.int 0, .int 0, .ref K, .ref (K + 1), .ref (K + 2), .ref (K + 3), .ref (K + 4), .ref (K + 5), .int 0, .ref (K + 6), .ref (K + 7), .int 0, .ref (K + 8), .int 0, .int 0, .int 0, .int 0, .long 0, .int (-1), .int 0, .int 0, .int 0, .ref (K + 9), .int 0, .ref (K + 10), .ref (K + 11), .int 0, .null, .null, .int 0, .int 0, .null, .null, .null, .int 0, .null, .null, .null, .int 0, .long 0, .long 0, .int 0, .null, .null, .null, .null, .null, .long 0, .null, .null, .null, .null, .null, .int 0, .int 0, .null, .null, .int 0, .int 0, .null, .int 0, .null, .int 0, .int 0, .int 0, .int 0, .null, .null, .null, .int 0])) H := hat_n
  have hR : mr_G D cy K (K + 12) H := hR.kept oq (by omega)
  have hG : rc_G D cy ld (fun _ => (0, 0, 0)) [] (K + 12) H := rc_G.sz (z9.trans hG.1)
  refine lv_aload_n hx hb dX13_init_111 rfl (lv_at hl 0 rfl) ?_
  refine lv_sipush (v := 400) hx hb dX13_init_112 (by decide) ?_
  refine rc_newa hx hb (htl _ mw_32) rfl hK hG hS 0 rfl (fun _ h => h) (a0 := (400, .inl (fun _ => 0))) (fun _ => rfl) (by decide) (by decide) (Nat.le_of_ble_eq_true rfl) (Nat.le_of_ble_eq_true rfl) (Nat.le_of_ble_eq_true rfl) dX13_init_115 (fun H hG hat_n oq hS => ?_)
  refine W.widen (k := 13) (n := 20445) (Nat.le_of_ble_eq_true rfl) (Nat.le_of_ble_eq_true rfl) ?_
  have hG : rc_G D cy ld (fun _ => (0, 0, 0)) [] (K + 13) H := hG.z
  have hat_a0 : va_at D vwCl (a0, .inr (13, [.int 0, .int 0, .ref K, .ref (K + 1), .ref (K + 2), .ref (K + 3), .ref (K + 4), .ref (K + 5), .int 0, .ref (K + 6), .ref (K + 7), .int 0, .ref (K + 8), .int 0, .int 0, .int 0, .int 0, .long 0, .int (-1), .int 0, .int 0, .int 0, .ref (K + 9), .int 0, .ref (K + 10), .ref (K + 11), .int 0, .null, .null, .int 0, .int 0, .null, .null, .null, .int 0, .null, .null, .null, .int 0, .long 0, .long 0, .int 0, .null, .null, .null, .null, .null, .long 0, .null, .null, .null, .null, .null, .int 0, .int 0, .null, .null, .int 0, .int 0, .null, .int 0, .null, .int 0, .int 0, .int 0, .int 0, .null, .null, .null, .int 0])) H := hat_a0.kept (oq _ (by omega))
  have hR : mr_G D cy K (K + 13) H := hR.push oq 27 (by decide) (by decide) rfl hat_n
  refine rc_putF (ci := 13) (v := .ref (K + 12)) (ty := .array (.int)) (C := RX13) (T := TX13) (N := 70) hx hb htl inX13 tyX13 tyX13_ok nmX13 hown hK hat_a0 rfl 27 (by decide) (htl _ mw_200) (fun _ h9 => h9) rfl hin rfl (tyX13_ok 27 (by decide)) rfl rfl (Nat.le_of_ble_eq_true rfl) dX13_init_117 (fun H j9 hat_n z9 oq => ?_)
  have hS := hS.put (k := j9) z9 oq (by show _ = _ ∨ _ ≤ _; omega)
  have hat_a0 : va_at D vwCl (a0, .inr (13, [.int 0, .int 0, .ref K, .ref (K + 1), .ref (K + 2), .ref (K + 3), .ref (K + 4), .ref (K + 5), .int 0, .ref (K + 6), .ref (K + 7), .int 0, .ref (K + 8), .int 0, .int 0, .int 0, .int 0, .long 0, .int (-1), .int 0, .int 0, .int 0, .ref (K + 9), .int 0, .ref (K + 10), .ref (K + 11), .int 0, .ref (K + 12), .null, .int 0, .int 0, .null, .null, .null, .int 0, .null, .null, .null, .int 0, .long 0, .long 0, .int 0, .null, .null, .null, .null, .null, .long 0, .null, .null, .null, .null, .null, .int 0, .int 0, .null, .null, .int 0, .int 0, .null, .int 0, .null, .int 0, .int 0, .int 0, .int 0, .null, .null, .null, .int 0])) H := hat_n
  have hR : mr_G D cy K (K + 13) H := hR.kept oq (by omega)
  have hG : rc_G D cy ld (fun _ => (0, 0, 0)) [] (K + 13) H := rc_G.sz (z9.trans hG.1)
  refine lv_aload_n hx hb dX13_init_120 rfl (lv_at hl 0 rfl) ?_
  refine lv_sipush (v := 400) hx hb dX13_init_121 (by decide) ?_
  refine rc_newa hx hb (htl _ mw_32) rfl hK hG hS 0 rfl (fun _ h => h) (a0 := (400, .inl (fun _ => 0))) (fun _ => rfl) (by decide) (by decide) (Nat.le_of_ble_eq_true rfl) (Nat.le_of_ble_eq_true rfl) (Nat.le_of_ble_eq_true rfl) dX13_init_124 (fun H hG hat_n oq hS => ?_)
  refine W.widen (k := 14) (n := 20845) (Nat.le_of_ble_eq_true rfl) (Nat.le_of_ble_eq_true rfl) ?_
  have hG : rc_G D cy ld (fun _ => (0, 0, 0)) [] (K + 14) H := hG.z
  have hat_a0 : va_at D vwCl (a0, .inr (13, [.int 0, .int 0, .ref K, .ref (K + 1), .ref (K + 2), .ref (K + 3), .ref (K + 4), .ref (K + 5), .int 0, .ref (K + 6), .ref (K + 7), .int 0, .ref (K + 8), .int 0, .int 0, .int 0, .int 0, .long 0, .int (-1), .int 0, .int 0, .int 0, .ref (K + 9), .int 0, .ref (K + 10), .ref (K + 11), .int 0, .ref (K + 12), .null, .int 0, .int 0, .null, .null, .null, .int 0, .null, .null, .null, .int 0, .long 0, .long 0, .int 0, .null, .null, .null, .null, .null, .long 0, .null, .null, .null, .null, .null, .int 0, .int 0, .null, .null, .int 0, .int 0, .null, .int 0, .null, .int 0, .int 0, .int 0, .int 0, .null, .null, .null, .int 0])) H := hat_a0.kept (oq _ (by omega))
  have hR : mr_G D cy K (K + 14) H := hR.push oq 28 (by decide) (by decide) rfl hat_n
  refine rc_putF (ci := 13) (v := .ref (K + 13)) (ty := .array (.int)) (C := RX13) (T := TX13) (N := 70) hx hb htl inX13 tyX13 tyX13_ok nmX13 hown hK hat_a0 rfl 28 (by decide) (htl _ mw_201) (fun _ h9 => h9) rfl hin rfl (tyX13_ok 28 (by decide)) rfl rfl (Nat.le_of_ble_eq_true rfl) dX13_init_126 (fun H j9 hat_n z9 oq => ?_)
  have hS := hS.put (k := j9) z9 oq (by show _ = _ ∨ _ ≤ _; omega)
  have hat_a0 : va_at D vwCl (a0, .inr (13, [.int 0, .int 0, .ref K, .ref (K + 1), .ref (K + 2), .ref (K + 3), .ref (K + 4), .ref (K + 5), .int 0, .ref (K + 6), .ref (K + 7), .int 0, .ref (K + 8), .int 0, .int 0, .int 0, .int 0, .long 0, .int (-1), .int 0, .int 0, .int 0, .ref (K + 9), .int 0, .ref (K + 10), .ref (K + 11), .int 0, .ref (K + 12), .ref (K + 13), .int 0, .int 0, .null, .null, .null, .int 0, .null, .null, .null, .int 0, .long 0, .long 0, .int 0, .null, .null, .null, .null, .null, .long 0, .null, .null, .null, .null, .null, .int 0, .int 0, .null, .null, .int 0, .int 0, .null, .int 0, .null, .int 0, .int 0, .int 0, .int 0, .null, .null, .null, .int 0])) H := hat_n
  have hR : mr_G D cy K (K + 14) H := hR.kept oq (by omega)
  have hG : rc_G D cy ld (fun _ => (0, 0, 0)) [] (K + 14) H := rc_G.sz (z9.trans hG.1)
  refine lv_aload_n hx hb dX13_init_129 rfl (lv_at hl 0 rfl) ?_
  refine lv_bipush (v := 9) hx hb dX13_init_130 (by decide) ?_
  refine rc_newa hx hb (htl _ mw_202) rfl hK hG hS 1 rfl (fun _ h => h) (a0 := (9, .inr (.inl (fun _ => 0)))) (fun _ => rfl) (by decide) (by decide) (Nat.le_of_ble_eq_true rfl) (Nat.le_of_ble_eq_true rfl) (Nat.le_of_ble_eq_true rfl) dX13_init_132 (fun H hG hat_n oq hS => ?_)
  refine W.widen (k := 15) (n := 20854) (Nat.le_of_ble_eq_true rfl) (Nat.le_of_ble_eq_true rfl) ?_
  have hG : rc_G D cy ld (fun _ => (0, 0, 0)) [] (K + 15) H := hG.z
  have hat_a0 : va_at D vwCl (a0, .inr (13, [.int 0, .int 0, .ref K, .ref (K + 1), .ref (K + 2), .ref (K + 3), .ref (K + 4), .ref (K + 5), .int 0, .ref (K + 6), .ref (K + 7), .int 0, .ref (K + 8), .int 0, .int 0, .int 0, .int 0, .long 0, .int (-1), .int 0, .int 0, .int 0, .ref (K + 9), .int 0, .ref (K + 10), .ref (K + 11), .int 0, .ref (K + 12), .ref (K + 13), .int 0, .int 0, .null, .null, .null, .int 0, .null, .null, .null, .int 0, .long 0, .long 0, .int 0, .null, .null, .null, .null, .null, .long 0, .null, .null, .null, .null, .null, .int 0, .int 0, .null, .null, .int 0, .int 0, .null, .int 0, .null, .int 0, .int 0, .int 0, .int 0, .null, .null, .null, .int 0])) H := hat_a0.kept (oq _ (by omega))
  have hR : ∀ k : Nat, k < 70 → 2 ≤ mz_k k → mr_ad K k < (K + 14) → va_at D vwCl (mr_ad K k, mz_c cy (fun _ _ => 0) mr_S k) H := fun k h1 h2 h3 => (hR k h1 h2 h3).kept (oq _ h3)
  have hR : mr_G D cy K (K + 14) H := hR
  have hat_w : va_at D vwCl ((K + 14), .inl (cy 1, 9, .inr (.inl (fun _ => 0)))) H := hat_n
  refine lv_dup hx hb dX13_init_134 rfl ?_
  refine lv_iconst (v := 0) hx hb dX13_init_135 (by decide) ?_
  refine lv_ldc2 hx hb hown (htl _ mw_203) dX13_init_136 ?_
  refine rc_last hx hb hK hat_w (fx_in (by decide)) dX13_init_139 (fun H j9 hat_n z9 oq => ?_)
  have hS := hS.put (k := j9) z9 oq (by show _ = _ ∨ _ ≤ _; omega)
  have hat_a0 : va_at D vwCl (a0, .inr (13, [.int 0, .int 0, .ref K, .ref (K + 1), .ref (K + 2), .ref (K + 3), .ref (K + 4), .ref (K + 5), .int 0, .ref (K + 6), .ref (K + 7), .int 0, .ref (K + 8), .int 0, .int 0, .int 0, .int 0, .long 0, .int (-1), .int 0, .int 0, .int 0, .ref (K + 9), .int 0, .ref (K + 10), .ref (K + 11), .int 0, .ref (K + 12), .ref (K + 13), .int 0, .int 0, .null, .null, .null, .int 0, .null, .null, .null, .int 0, .long 0, .long 0, .int 0, .null, .null, .null, .null, .null, .long 0, .null, .null, .null, .null, .null, .int 0, .int 0, .null, .null, .int 0, .int 0, .null, .int 0, .null, .int 0, .int 0, .int 0, .int 0, .null, .null, .null, .int 0])) H := hat_a0.kept (oq _ (by omega))
  have hR : mr_G D cy K (K + 14) H := hR.kept oq (by omega)
  have hG : rc_G D cy ld (fun _ => (0, 0, 0)) [] (K + 15) H := rc_G.sz (z9.trans hG.1)
  have hat_w : va_at D vwCl ((K + 14), .inl (cy 1, 9, .inr (.inl (vp_updL (fun _ => 0) (0 : Int32).toNatClampNeg 20293004)))) H := hat_n
  refine lv_dup hx hb dX13_init_140 rfl ?_
  refine lv_iconst (v := 1) hx hb dX13_init_141 (by decide) ?_
  refine lv_ldc2 hx hb hown (htl _ mw_204) dX13_init_142 ?_
  refine rc_last hx hb hK hat_w (fx_in (by decide)) dX13_init_145 (fun H j9 hat_n z9 oq => ?_)
  have hS := hS.put (k := j9) z9 oq (by show _ = _ ∨ _ ≤ _; omega)
  have hat_a0 : va_at D vwCl (a0, .inr (13, [.int 0, .int 0, .ref K, .ref (K + 1), .ref (K + 2), .ref (K + 3), .ref (K + 4), .ref (K + 5), .int 0, .ref (K + 6), .ref (K + 7), .int 0, .ref (K + 8), .int 0, .int 0, .int 0, .int 0, .long 0, .int (-1), .int 0, .int 0, .int 0, .ref (K + 9), .int 0, .ref (K + 10), .ref (K + 11), .int 0, .ref (K + 12), .ref (K + 13), .int 0, .int 0, .null, .null, .null, .int 0, .null, .null, .null, .int 0, .long 0, .long 0, .int 0, .null, .null, .null, .null, .null, .long 0, .null, .null, .null, .null, .null, .int 0, .int 0, .null, .null, .int 0, .int 0, .null, .int 0, .null, .int 0, .int 0, .int 0, .int 0, .null, .null, .null, .int 0])) H := hat_a0.kept (oq _ (by omega))
  have hR : mr_G D cy K (K + 14) H := hR.kept oq (by omega)
  have hG : rc_G D cy ld (fun _ => (0, 0, 0)) [] (K + 15) H := rc_G.sz (z9.trans hG.1)
  have hat_w : va_at D vwCl ((K + 14), .inl (cy 1, 9, .inr (.inl (vp_updL (vp_updL (fun _ => 0) (0 : Int32).toNatClampNeg 20293004) (1 : Int32).toNatClampNeg 659111367)))) H := hat_n
  refine lv_dup hx hb dX13_init_146 rfl ?_
  refine lv_iconst (v := 2) hx hb dX13_init_147 (by decide) ?_
  refine lv_ldc2 hx hb hown (htl _ mw_205) dX13_init_148 ?_
  refine rc_last hx hb hK hat_w (fx_in (by decide)) dX13_init_151 (fun H j9 hat_n z9 oq => ?_)
  have hS := hS.put (k := j9) z9 oq (by show _ = _ ∨ _ ≤ _; omega)
  have hat_a0 : va_at D vwCl (a0, .inr (13, [.int 0, .int 0, .ref K, .ref (K + 1), .ref (K + 2), .ref (K + 3), .ref (K + 4), .ref (K + 5), .int 0, .ref (K + 6), .ref (K + 7), .int 0, .ref (K + 8), .int 0, .int 0, .int 0, .int 0, .long 0, .int (-1), .int 0, .int 0, .int 0, .ref (K + 9), .int 0, .ref (K + 10), .ref (K + 11), .int 0, .ref (K + 12), .ref (K + 13), .int 0, .int 0, .null, .null, .null, .int 0, .null, .null, .null, .int 0, .long 0, .long 0, .int 0, .null, .null, .null, .null, .null, .long 0, .null, .null, .null, .null, .null, .int 0, .int 0, .null, .null, .int 0, .int 0, .null, .int 0, .null, .int 0, .int 0, .int 0, .int 0, .null, .null, .null, .int 0])) H := hat_a0.kept (oq _ (by omega))
  have hR : mr_G D cy K (K + 14) H := hR.kept oq (by omega)
  have hG : rc_G D cy ld (fun _ => (0, 0, 0)) [] (K + 15) H := rc_G.sz (z9.trans hG.1)
  have hat_w : va_at D vwCl ((K + 14), .inl (cy 1, 9, .inr (.inl (vp_updL (vp_updL (vp_updL (fun _ => 0) (0 : Int32).toNatClampNeg 20293004) (1 : Int32).toNatClampNeg 659111367) (2 : Int32).toNatClampNeg 11449)))) H := hat_n
  refine lv_dup hx hb dX13_init_152 rfl ?_
  refine lv_iconst (v := 3) hx hb dX13_init_153 (by decide) ?_
  refine lv_ldc2 hx hb hown (htl _ mw_206) dX13_init_154 ?_
  refine rc_last hx hb hK hat_w (fx_in (by decide)) dX13_init_157 (fun H j9 hat_n z9 oq => ?_)
  have hS := hS.put (k := j9) z9 oq (by show _ = _ ∨ _ ≤ _; omega)
  have hat_a0 : va_at D vwCl (a0, .inr (13, [.int 0, .int 0, .ref K, .ref (K + 1), .ref (K + 2), .ref (K + 3), .ref (K + 4), .ref (K + 5), .int 0, .ref (K + 6), .ref (K + 7), .int 0, .ref (K + 8), .int 0, .int 0, .int 0, .int 0, .long 0, .int (-1), .int 0, .int 0, .int 0, .ref (K + 9), .int 0, .ref (K + 10), .ref (K + 11), .int 0, .ref (K + 12), .ref (K + 13), .int 0, .int 0, .null, .null, .null, .int 0, .null, .null, .null, .int 0, .long 0, .long 0, .int 0, .null, .null, .null, .null, .null, .long 0, .null, .null, .null, .null, .null, .int 0, .int 0, .null, .null, .int 0, .int 0, .null, .int 0, .null, .int 0, .int 0, .int 0, .int 0, .null, .null, .null, .int 0])) H := hat_a0.kept (oq _ (by omega))
  have hR : mr_G D cy K (K + 14) H := hR.kept oq (by omega)
  have hG : rc_G D cy ld (fun _ => (0, 0, 0)) [] (K + 15) H := rc_G.sz (z9.trans hG.1)
  have hat_w : va_at D vwCl ((K + 14), .inl (cy 1, 9, .inr (.inl (vp_updL (vp_updL (vp_updL (vp_updL (fun _ => 0) (0 : Int32).toNatClampNeg 20293004) (1 : Int32).toNatClampNeg 659111367) (2 : Int32).toNatClampNeg 11449) (3 : Int32).toNatClampNeg 624037)))) H := hat_n
  refine lv_dup hx hb dX13_init_158 rfl ?_
  refine lv_iconst (v := 4) hx hb dX13_init_159 (by decide) ?_
  refine lv_ldc2 hx hb hown (htl _ mw_207) dX13_init_160 ?_
  refine rc_last hx hb hK hat_w (fx_in (by decide)) dX13_init_163 (fun H j9 hat_n z9 oq => ?_)
  have hS := hS.put (k := j9) z9 oq (by show _ = _ ∨ _ ≤ _; omega)
  have hat_a0 : va_at D vwCl (a0, .inr (13, [.int 0, .int 0, .ref K, .ref (K + 1), .ref (K + 2), .ref (K + 3), .ref (K + 4), .ref (K + 5), .int 0, .ref (K + 6), .ref (K + 7), .int 0, .ref (K + 8), .int 0, .int 0, .int 0, .int 0, .long 0, .int (-1), .int 0, .int 0, .int 0, .ref (K + 9), .int 0, .ref (K + 10), .ref (K + 11), .int 0, .ref (K + 12), .ref (K + 13), .int 0, .int 0, .null, .null, .null, .int 0, .null, .null, .null, .int 0, .long 0, .long 0, .int 0, .null, .null, .null, .null, .null, .long 0, .null, .null, .null, .null, .null, .int 0, .int 0, .null, .null, .int 0, .int 0, .null, .int 0, .null, .int 0, .int 0, .int 0, .int 0, .null, .null, .null, .int 0])) H := hat_a0.kept (oq _ (by omega))
  have hR : mr_G D cy K (K + 14) H := hR.kept oq (by omega)
  have hG : rc_G D cy ld (fun _ => (0, 0, 0)) [] (K + 15) H := rc_G.sz (z9.trans hG.1)
  have hat_w : va_at D vwCl ((K + 14), .inl (cy 1, 9, .inr (.inl (vp_updL (vp_updL (vp_updL (vp_updL (vp_updL (fun _ => 0) (0 : Int32).toNatClampNeg 20293004) (1 : Int32).toNatClampNeg 659111367) (2 : Int32).toNatClampNeg 11449) (3 : Int32).toNatClampNeg 624037) (4 : Int32).toNatClampNeg 278194)))) H := hat_n
  refine lv_dup hx hb dX13_init_164 rfl ?_
  refine lv_iconst (v := 5) hx hb dX13_init_165 (by decide) ?_
  refine lv_ldc2 hx hb hown (htl _ mw_208) dX13_init_166 ?_
  refine rc_last hx hb hK hat_w (fx_in (by decide)) dX13_init_169 (fun H j9 hat_n z9 oq => ?_)
  have hS := hS.put (k := j9) z9 oq (by show _ = _ ∨ _ ≤ _; omega)
  have hat_a0 : va_at D vwCl (a0, .inr (13, [.int 0, .int 0, .ref K, .ref (K + 1), .ref (K + 2), .ref (K + 3), .ref (K + 4), .ref (K + 5), .int 0, .ref (K + 6), .ref (K + 7), .int 0, .ref (K + 8), .int 0, .int 0, .int 0, .int 0, .long 0, .int (-1), .int 0, .int 0, .int 0, .ref (K + 9), .int 0, .ref (K + 10), .ref (K + 11), .int 0, .ref (K + 12), .ref (K + 13), .int 0, .int 0, .null, .null, .null, .int 0, .null, .null, .null, .int 0, .long 0, .long 0, .int 0, .null, .null, .null, .null, .null, .long 0, .null, .null, .null, .null, .null, .int 0, .int 0, .null, .null, .int 0, .int 0, .null, .int 0, .null, .int 0, .int 0, .int 0, .int 0, .null, .null, .null, .int 0])) H := hat_a0.kept (oq _ (by omega))
  have hR : mr_G D cy K (K + 14) H := hR.kept oq (by omega)
  have hG : rc_G D cy ld (fun _ => (0, 0, 0)) [] (K + 15) H := rc_G.sz (z9.trans hG.1)
  have hat_w : va_at D vwCl ((K + 14), .inl (cy 1, 9, .inr (.inl (vp_updL (vp_updL (vp_updL (vp_updL (vp_updL (vp_updL (fun _ => 0) (0 : Int32).toNatClampNeg 20293004) (1 : Int32).toNatClampNeg 659111367) (2 : Int32).toNatClampNeg 11449) (3 : Int32).toNatClampNeg 624037) (4 : Int32).toNatClampNeg 278194) (5 : Int32).toNatClampNeg 755045)))) H := hat_n
  refine lv_dup hx hb dX13_init_170 rfl ?_
  refine lv_bipush (v := 6) hx hb dX13_init_171 (by decide) ?_
  refine lv_ldc2 hx hb hown (htl _ mw_209) dX13_init_173 ?_
  refine rc_last hx hb hK hat_w (fx_in (by decide)) dX13_init_176 (fun H j9 hat_n z9 oq => ?_)
  have hS := hS.put (k := j9) z9 oq (by show _ = _ ∨ _ ≤ _; omega)
  have hat_a0 : va_at D vwCl (a0, .inr (13, [.int 0, .int 0, .ref K, .ref (K + 1), .ref (K + 2), .ref (K + 3), .ref (K + 4), .ref (K + 5), .int 0, .ref (K + 6), .ref (K + 7), .int 0, .ref (K + 8), .int 0, .int 0, .int 0, .int 0, .long 0, .int (-1), .int 0, .int 0, .int 0, .ref (K + 9), .int 0, .ref (K + 10), .ref (K + 11), .int 0, .ref (K + 12), .ref (K + 13), .int 0, .int 0, .null, .null, .null, .int 0, .null, .null, .null, .int 0, .long 0, .long 0, .int 0, .null, .null, .null, .null, .null, .long 0, .null, .null, .null, .null, .null, .int 0, .int 0, .null, .null, .int 0, .int 0, .null, .int 0, .null, .int 0, .int 0, .int 0, .int 0, .null, .null, .null, .int 0])) H := hat_a0.kept (oq _ (by omega))
  have hR : mr_G D cy K (K + 14) H := hR.kept oq (by omega)
  have hG : rc_G D cy ld (fun _ => (0, 0, 0)) [] (K + 15) H := rc_G.sz (z9.trans hG.1)
  have hat_w : va_at D vwCl ((K + 14), .inl (cy 1, 9, .inr (.inl (vp_updL (vp_updL (vp_updL (vp_updL (vp_updL (vp_updL (vp_updL (fun _ => 0) (0 : Int32).toNatClampNeg 20293004) (1 : Int32).toNatClampNeg 659111367) (2 : Int32).toNatClampNeg 11449) (3 : Int32).toNatClampNeg 624037) (4 : Int32).toNatClampNeg 278194) (5 : Int32).toNatClampNeg 755045) (6 : Int32).toNatClampNeg 679650899)))) H := hat_n
  refine lv_dup hx hb dX13_init_177 rfl ?_
  refine lv_bipush (v := 7) hx hb dX13_init_178 (by decide) ?_
  refine lv_ldc2 hx hb hown (htl _ mw_210) dX13_init_180 ?_
  refine rc_last hx hb hK hat_w (fx_in (by decide)) dX13_init_183 (fun H j9 hat_n z9 oq => ?_)
  have hS := hS.put (k := j9) z9 oq (by show _ = _ ∨ _ ≤ _; omega)
  have hat_a0 : va_at D vwCl (a0, .inr (13, [.int 0, .int 0, .ref K, .ref (K + 1), .ref (K + 2), .ref (K + 3), .ref (K + 4), .ref (K + 5), .int 0, .ref (K + 6), .ref (K + 7), .int 0, .ref (K + 8), .int 0, .int 0, .int 0, .int 0, .long 0, .int (-1), .int 0, .int 0, .int 0, .ref (K + 9), .int 0, .ref (K + 10), .ref (K + 11), .int 0, .ref (K + 12), .ref (K + 13), .int 0, .int 0, .null, .null, .null, .int 0, .null, .null, .null, .int 0, .long 0, .long 0, .int 0, .null, .null, .null, .null, .null, .long 0, .null, .null, .null, .null, .null, .int 0, .int 0, .null, .null, .int 0, .int 0, .null, .int 0, .null, .int 0, .int 0, .int 0, .int 0, .null, .null, .null, .int 0])) H := hat_a0.kept (oq _ (by omega))
  have hR : mr_G D cy K (K + 14) H := hR.kept oq (by omega)
  have hG : rc_G D cy ld (fun _ => (0, 0, 0)) [] (K + 15) H := rc_G.sz (z9.trans hG.1)
  have hat_w : va_at D vwCl ((K + 14), .inl (cy 1, 9, .inr (.inl (vp_updL (vp_updL (vp_updL (vp_updL (vp_updL (vp_updL (vp_updL (vp_updL (fun _ => 0) (0 : Int32).toNatClampNeg 20293004) (1 : Int32).toNatClampNeg 659111367) (2 : Int32).toNatClampNeg 11449) (3 : Int32).toNatClampNeg 624037) (4 : Int32).toNatClampNeg 278194) (5 : Int32).toNatClampNeg 755045) (6 : Int32).toNatClampNeg 679650899) (7 : Int32).toNatClampNeg 4153)))) H := hat_n
  refine lv_dup hx hb dX13_init_184 rfl ?_
  refine lv_bipush (v := 8) hx hb dX13_init_185 (by decide) ?_
  refine lv_ldc2 hx hb hown (htl _ mw_211) dX13_init_187 ?_
  refine rc_last hx hb hK hat_w (fx_in (by decide)) dX13_init_190 (fun H j9 hat_n z9 oq => ?_)
  have hS := hS.put (k := j9) z9 oq (by show _ = _ ∨ _ ≤ _; omega)
  have hat_a0 : va_at D vwCl (a0, .inr (13, [.int 0, .int 0, .ref K, .ref (K + 1), .ref (K + 2), .ref (K + 3), .ref (K + 4), .ref (K + 5), .int 0, .ref (K + 6), .ref (K + 7), .int 0, .ref (K + 8), .int 0, .int 0, .int 0, .int 0, .long 0, .int (-1), .int 0, .int 0, .int 0, .ref (K + 9), .int 0, .ref (K + 10), .ref (K + 11), .int 0, .ref (K + 12), .ref (K + 13), .int 0, .int 0, .null, .null, .null, .int 0, .null, .null, .null, .int 0, .long 0, .long 0, .int 0, .null, .null, .null, .null, .null, .long 0, .null, .null, .null, .null, .null, .int 0, .int 0, .null, .null, .int 0, .int 0, .null, .int 0, .null, .int 0, .int 0, .int 0, .int 0, .null, .null, .null, .int 0])) H := hat_a0.kept (oq _ (by omega))
  have hR : mr_G D cy K (K + 14) H := hR.kept oq (by omega)
  have hG : rc_G D cy ld (fun _ => (0, 0, 0)) [] (K + 15) H := rc_G.sz (z9.trans hG.1)
  have hat_w : va_at D vwCl ((K + 14), .inl (cy 1, 9, .inr (.inl (vp_updL (vp_updL (vp_updL (vp_updL (vp_updL (vp_updL (vp_updL (vp_updL (vp_updL (fun _ => 0) (0 : Int32).toNatClampNeg 20293004) (1 : Int32).toNatClampNeg 659111367) (2 : Int32).toNatClampNeg 11449) (3 : Int32).toNatClampNeg 624037) (4 : Int32).toNatClampNeg 278194) (5 : Int32).toNatClampNeg 755045) (6 : Int32).toNatClampNeg 679650899) (7 : Int32).toNatClampNeg 4153) (8 : Int32).toNatClampNeg 441828)))) H := hat_n
  have hR : mr_G D cy K (K + 15) H := hR.push (fun _ _ => rfl) 31 (by decide) (by decide) rfl hat_w
  refine rc_putF (ci := 13) (v := .ref (K + 14)) (ty := .array (.long)) (C := RX13) (T := TX13) (N := 70) hx hb htl inX13 tyX13 tyX13_ok nmX13 hown hK hat_a0 rfl 31 (by decide) (htl _ mw_212) (fun _ h9 => h9) rfl hin rfl (tyX13_ok 31 (by decide)) rfl rfl (Nat.le_of_ble_eq_true rfl) dX13_init_191 (fun H j9 hat_n z9 oq => ?_)
  have hS := hS.put (k := j9) z9 oq (by show _ = _ ∨ _ ≤ _; omega)
  have hat_a0 : va_at D vwCl (a0, .inr (13, [.int 0, .int 0, .ref K, .ref (K + 1), .ref (K + 2), .ref (K + 3), .ref (K + 4), .ref (K + 5), .int 0, .ref (K + 6), .ref (K + 7), .int 0, .ref (K + 8), .int 0, .int 0, .int 0, .int 0, .long 0, .int (-1), .int 0, .int 0, .int 0, .ref (K + 9), .int 0, .ref (K + 10), .ref (K + 11), .int 0, .ref (K + 12), .ref (K + 13), .int 0, .int 0, .ref (K + 14), .null, .null, .int 0, .null, .null, .null, .int 0, .long 0, .long 0, .int 0, .null, .null, .null, .null, .null, .long 0, .null, .null, .null, .null, .null, .int 0, .int 0, .null, .null, .int 0, .int 0, .null, .int 0, .null, .int 0, .int 0, .int 0, .int 0, .null, .null, .null, .int 0])) H := hat_n
  have hR : mr_G D cy K (K + 15) H := hR.kept oq (by omega)
  have hG : rc_G D cy ld (fun _ => (0, 0, 0)) [] (K + 15) H := rc_G.sz (z9.trans hG.1)
  refine lv_aload_n hx hb dX13_init_194 rfl (lv_at hl 0 rfl) ?_
  refine lv_bipush (v := 7) hx hb dX13_init_195 (by decide) ?_
  refine rc_newa hx hb (htl _ mw_202) rfl hK hG hS 1 rfl (fun _ h => h) (a0 := (7, .inr (.inl (fun _ => 0)))) (fun _ => rfl) (by decide) (by decide) (Nat.le_of_ble_eq_true rfl) (Nat.le_of_ble_eq_true rfl) (Nat.le_of_ble_eq_true rfl) dX13_init_197 (fun H hG hat_n oq hS => ?_)
  refine W.widen (k := 16) (n := 20861) (Nat.le_of_ble_eq_true rfl) (Nat.le_of_ble_eq_true rfl) ?_
  have hG : rc_G D cy ld (fun _ => (0, 0, 0)) [] (K + 16) H := hG.z
  have hat_a0 : va_at D vwCl (a0, .inr (13, [.int 0, .int 0, .ref K, .ref (K + 1), .ref (K + 2), .ref (K + 3), .ref (K + 4), .ref (K + 5), .int 0, .ref (K + 6), .ref (K + 7), .int 0, .ref (K + 8), .int 0, .int 0, .int 0, .int 0, .long 0, .int (-1), .int 0, .int 0, .int 0, .ref (K + 9), .int 0, .ref (K + 10), .ref (K + 11), .int 0, .ref (K + 12), .ref (K + 13), .int 0, .int 0, .ref (K + 14), .null, .null, .int 0, .null, .null, .null, .int 0, .long 0, .long 0, .int 0, .null, .null, .null, .null, .null, .long 0, .null, .null, .null, .null, .null, .int 0, .int 0, .null, .null, .int 0, .int 0, .null, .int 0, .null, .int 0, .int 0, .int 0, .int 0, .null, .null, .null, .int 0])) H := hat_a0.kept (oq _ (by omega))
  have hR : ∀ k : Nat, k < 70 → 2 ≤ mz_k k → mr_ad K k < (K + 15) → va_at D vwCl (mr_ad K k, mz_c cy (fun _ _ => 0) mr_S k) H := fun k h1 h2 h3 => (hR k h1 h2 h3).kept (oq _ h3)
  have hR : mr_G D cy K (K + 15) H := hR
  have hat_w : va_at D vwCl ((K + 15), .inl (cy 1, 7, .inr (.inl (fun _ => 0)))) H := hat_n
  refine lv_dup hx hb dX13_init_199 rfl ?_
  refine lv_iconst (v := 0) hx hb dX13_init_200 (by decide) ?_
  refine lv_ldc2 hx hb hown (htl _ mw_210) dX13_init_201 ?_
  refine rc_last hx hb hK hat_w (fx_in (by decide)) dX13_init_204 (fun H j9 hat_n z9 oq => ?_)
  have hS := hS.put (k := j9) z9 oq (by show _ = _ ∨ _ ≤ _; omega)
  have hat_a0 : va_at D vwCl (a0, .inr (13, [.int 0, .int 0, .ref K, .ref (K + 1), .ref (K + 2), .ref (K + 3), .ref (K + 4), .ref (K + 5), .int 0, .ref (K + 6), .ref (K + 7), .int 0, .ref (K + 8), .int 0, .int 0, .int 0, .int 0, .long 0, .int (-1), .int 0, .int 0, .int 0, .ref (K + 9), .int 0, .ref (K + 10), .ref (K + 11), .int 0, .ref (K + 12), .ref (K + 13), .int 0, .int 0, .ref (K + 14), .null, .null, .int 0, .null, .null, .null, .int 0, .long 0, .long 0, .int 0, .null, .null, .null, .null, .null, .long 0, .null, .null, .null, .null, .null, .int 0, .int 0, .null, .null, .int 0, .int 0, .null, .int 0, .null, .int 0, .int 0, .int 0, .int 0, .null, .null, .null, .int 0])) H := hat_a0.kept (oq _ (by omega))
  have hR : mr_G D cy K (K + 15) H := hR.kept oq (by omega)
  have hG : rc_G D cy ld (fun _ => (0, 0, 0)) [] (K + 16) H := rc_G.sz (z9.trans hG.1)
  have hat_w : va_at D vwCl ((K + 15), .inl (cy 1, 7, .inr (.inl (vp_updL (fun _ => 0) (0 : Int32).toNatClampNeg 4153)))) H := hat_n
  refine lv_dup hx hb dX13_init_205 rfl ?_
  refine lv_iconst (v := 1) hx hb dX13_init_206 (by decide) ?_
  refine lv_ldc2 hx hb hown (htl _ mw_207) dX13_init_207 ?_
  refine rc_last hx hb hK hat_w (fx_in (by decide)) dX13_init_210 (fun H j9 hat_n z9 oq => ?_)
  have hS := hS.put (k := j9) z9 oq (by show _ = _ ∨ _ ≤ _; omega)
  have hat_a0 : va_at D vwCl (a0, .inr (13, [.int 0, .int 0, .ref K, .ref (K + 1), .ref (K + 2), .ref (K + 3), .ref (K + 4), .ref (K + 5), .int 0, .ref (K + 6), .ref (K + 7), .int 0, .ref (K + 8), .int 0, .int 0, .int 0, .int 0, .long 0, .int (-1), .int 0, .int 0, .int 0, .ref (K + 9), .int 0, .ref (K + 10), .ref (K + 11), .int 0, .ref (K + 12), .ref (K + 13), .int 0, .int 0, .ref (K + 14), .null, .null, .int 0, .null, .null, .null, .int 0, .long 0, .long 0, .int 0, .null, .null, .null, .null, .null, .long 0, .null, .null, .null, .null, .null, .int 0, .int 0, .null, .null, .int 0, .int 0, .null, .int 0, .null, .int 0, .int 0, .int 0, .int 0, .null, .null, .null, .int 0])) H := hat_a0.kept (oq _ (by omega))
  have hR : mr_G D cy K (K + 15) H := hR.kept oq (by omega)
  have hG : rc_G D cy ld (fun _ => (0, 0, 0)) [] (K + 16) H := rc_G.sz (z9.trans hG.1)
  have hat_w : va_at D vwCl ((K + 15), .inl (cy 1, 7, .inr (.inl (vp_updL (vp_updL (fun _ => 0) (0 : Int32).toNatClampNeg 4153) (1 : Int32).toNatClampNeg 278194)))) H := hat_n
  refine lv_dup hx hb dX13_init_211 rfl ?_
  refine lv_iconst (v := 2) hx hb dX13_init_212 (by decide) ?_
  refine lv_ldc2 hx hb hown (htl _ mw_213) dX13_init_213 ?_
  refine rc_last hx hb hK hat_w (fx_in (by decide)) dX13_init_216 (fun H j9 hat_n z9 oq => ?_)
  have hS := hS.put (k := j9) z9 oq (by show _ = _ ∨ _ ≤ _; omega)
  have hat_a0 : va_at D vwCl (a0, .inr (13, [.int 0, .int 0, .ref K, .ref (K + 1), .ref (K + 2), .ref (K + 3), .ref (K + 4), .ref (K + 5), .int 0, .ref (K + 6), .ref (K + 7), .int 0, .ref (K + 8), .int 0, .int 0, .int 0, .int 0, .long 0, .int (-1), .int 0, .int 0, .int 0, .ref (K + 9), .int 0, .ref (K + 10), .ref (K + 11), .int 0, .ref (K + 12), .ref (K + 13), .int 0, .int 0, .ref (K + 14), .null, .null, .int 0, .null, .null, .null, .int 0, .long 0, .long 0, .int 0, .null, .null, .null, .null, .null, .long 0, .null, .null, .null, .null, .null, .int 0, .int 0, .null, .null, .int 0, .int 0, .null, .int 0, .null, .int 0, .int 0, .int 0, .int 0, .null, .null, .null, .int 0])) H := hat_a0.kept (oq _ (by omega))
  have hR : mr_G D cy K (K + 15) H := hR.kept oq (by omega)
  have hG : rc_G D cy ld (fun _ => (0, 0, 0)) [] (K + 16) H := rc_G.sz (z9.trans hG.1)
  have hat_w : va_at D vwCl ((K + 15), .inl (cy 1, 7, .inr (.inl (vp_updL (vp_updL (vp_updL (fun _ => 0) (0 : Int32).toNatClampNeg 4153) (1 : Int32).toNatClampNeg 278194) (2 : Int32).toNatClampNeg 677454)))) H := hat_n
  refine lv_dup hx hb dX13_init_217 rfl ?_
  refine lv_iconst (v := 3) hx hb dX13_init_218 (by decide) ?_
  refine lv_ldc2 hx hb hown (htl _ mw_214) dX13_init_219 ?_
  refine rc_last hx hb hK hat_w (fx_in (by decide)) dX13_init_222 (fun H j9 hat_n z9 oq => ?_)
  have hS := hS.put (k := j9) z9 oq (by show _ = _ ∨ _ ≤ _; omega)
  have hat_a0 : va_at D vwCl (a0, .inr (13, [.int 0, .int 0, .ref K, .ref (K + 1), .ref (K + 2), .ref (K + 3), .ref (K + 4), .ref (K + 5), .int 0, .ref (K + 6), .ref (K + 7), .int 0, .ref (K + 8), .int 0, .int 0, .int 0, .int 0, .long 0, .int (-1), .int 0, .int 0, .int 0, .ref (K + 9), .int 0, .ref (K + 10), .ref (K + 11), .int 0, .ref (K + 12), .ref (K + 13), .int 0, .int 0, .ref (K + 14), .null, .null, .int 0, .null, .null, .null, .int 0, .long 0, .long 0, .int 0, .null, .null, .null, .null, .null, .long 0, .null, .null, .null, .null, .null, .int 0, .int 0, .null, .null, .int 0, .int 0, .null, .int 0, .null, .int 0, .int 0, .int 0, .int 0, .null, .null, .null, .int 0])) H := hat_a0.kept (oq _ (by omega))
  have hR : mr_G D cy K (K + 15) H := hR.kept oq (by omega)
  have hG : rc_G D cy ld (fun _ => (0, 0, 0)) [] (K + 16) H := rc_G.sz (z9.trans hG.1)
  have hat_w : va_at D vwCl ((K + 15), .inl (cy 1, 7, .inr (.inl (vp_updL (vp_updL (vp_updL (vp_updL (fun _ => 0) (0 : Int32).toNatClampNeg 4153) (1 : Int32).toNatClampNeg 278194) (2 : Int32).toNatClampNeg 677454) (3 : Int32).toNatClampNeg 146885)))) H := hat_n
  refine lv_dup hx hb dX13_init_223 rfl ?_
  refine lv_iconst (v := 4) hx hb dX13_init_224 (by decide) ?_
  refine lv_ldc2 hx hb hown (htl _ mw_215) dX13_init_225 ?_
  refine rc_last hx hb hK hat_w (fx_in (by decide)) dX13_init_228 (fun H j9 hat_n z9 oq => ?_)
  have hS := hS.put (k := j9) z9 oq (by show _ = _ ∨ _ ≤ _; omega)
  have hat_a0 : va_at D vwCl (a0, .inr (13, [.int 0, .int 0, .ref K, .ref (K + 1), .ref (K + 2), .ref (K + 3), .ref (K + 4), .ref (K + 5), .int 0, .ref (K + 6), .ref (K + 7), .int 0, .ref (K + 8), .int 0, .int 0, .int 0, .int 0, .long 0, .int (-1), .int 0, .int 0, .int 0, .ref (K + 9), .int 0, .ref (K + 10), .ref (K + 11), .int 0, .ref (K + 12), .ref (K + 13), .int 0, .int 0, .ref (K + 14), .null, .null, .int 0, .null, .null, .null, .int 0, .long 0, .long 0, .int 0, .null, .null, .null, .null, .null, .long 0, .null, .null, .null, .null, .null, .int 0, .int 0, .null, .null, .int 0, .int 0, .null, .int 0, .null, .int 0, .int 0, .int 0, .int 0, .null, .null, .null, .int 0])) H := hat_a0.kept (oq _ (by omega))
  have hR : mr_G D cy K (K + 15) H := hR.kept oq (by omega)
  have hG : rc_G D cy ld (fun _ => (0, 0, 0)) [] (K + 16) H := rc_G.sz (z9.trans hG.1)
  have hat_w : va_at D vwCl ((K + 15), .inl (cy 1, 7, .inr (.inl (vp_updL (vp_updL (vp_updL (vp_updL (vp_updL (fun _ => 0) (0 : Int32).toNatClampNeg 4153) (1 : Int32).toNatClampNeg 278194) (2 : Int32).toNatClampNeg 677454) (3 : Int32).toNatClampNeg 146885) (4 : Int32).toNatClampNeg 394868)))) H := hat_n
  refine lv_dup hx hb dX13_init_229 rfl ?_
  refine lv_iconst (v := 5) hx hb dX13_init_230 (by decide) ?_
  refine lv_ldc2 hx hb hown (htl _ mw_208) dX13_init_231 ?_
  refine rc_last hx hb hK hat_w (fx_in (by decide)) dX13_init_234 (fun H j9 hat_n z9 oq => ?_)
  have hS := hS.put (k := j9) z9 oq (by show _ = _ ∨ _ ≤ _; omega)
  have hat_a0 : va_at D vwCl (a0, .inr (13, [.int 0, .int 0, .ref K, .ref (K + 1), .ref (K + 2), .ref (K + 3), .ref (K + 4), .ref (K + 5), .int 0, .ref (K + 6), .ref (K + 7), .int 0, .ref (K + 8), .int 0, .int 0, .int 0, .int 0, .long 0, .int (-1), .int 0, .int 0, .int 0, .ref (K + 9), .int 0, .ref (K + 10), .ref (K + 11), .int 0, .ref (K + 12), .ref (K + 13), .int 0, .int 0, .ref (K + 14), .null, .null, .int 0, .null, .null, .null, .int 0, .long 0, .long 0, .int 0, .null, .null, .null, .null, .null, .long 0, .null, .null, .null, .null, .null, .int 0, .int 0, .null, .null, .int 0, .int 0, .null, .int 0, .null, .int 0, .int 0, .int 0, .int 0, .null, .null, .null, .int 0])) H := hat_a0.kept (oq _ (by omega))
  have hR : mr_G D cy K (K + 15) H := hR.kept oq (by omega)
  have hG : rc_G D cy ld (fun _ => (0, 0, 0)) [] (K + 16) H := rc_G.sz (z9.trans hG.1)
  have hat_w : va_at D vwCl ((K + 15), .inl (cy 1, 7, .inr (.inl (vp_updL (vp_updL (vp_updL (vp_updL (vp_updL (vp_updL (fun _ => 0) (0 : Int32).toNatClampNeg 4153) (1 : Int32).toNatClampNeg 278194) (2 : Int32).toNatClampNeg 677454) (3 : Int32).toNatClampNeg 146885) (4 : Int32).toNatClampNeg 394868) (5 : Int32).toNatClampNeg 755045)))) H := hat_n
  refine lv_dup hx hb dX13_init_235 rfl ?_
  refine lv_bipush (v := 6) hx hb dX13_init_236 (by decide) ?_
  refine lv_ldc2 hx hb hown (htl _ mw_216) dX13_init_238 ?_
  refine rc_last hx hb hK hat_w (fx_in (by decide)) dX13_init_241 (fun H j9 hat_n z9 oq => ?_)
  have hS := hS.put (k := j9) z9 oq (by show _ = _ ∨ _ ≤ _; omega)
  have hat_a0 : va_at D vwCl (a0, .inr (13, [.int 0, .int 0, .ref K, .ref (K + 1), .ref (K + 2), .ref (K + 3), .ref (K + 4), .ref (K + 5), .int 0, .ref (K + 6), .ref (K + 7), .int 0, .ref (K + 8), .int 0, .int 0, .int 0, .int 0, .long 0, .int (-1), .int 0, .int 0, .int 0, .ref (K + 9), .int 0, .ref (K + 10), .ref (K + 11), .int 0, .ref (K + 12), .ref (K + 13), .int 0, .int 0, .ref (K + 14), .null, .null, .int 0, .null, .null, .null, .int 0, .long 0, .long 0, .int 0, .null, .null, .null, .null, .null, .long 0, .null, .null, .null, .null, .null, .int 0, .int 0, .null, .null, .int 0, .int 0, .null, .int 0, .null, .int 0, .int 0, .int 0, .int 0, .null, .null, .null, .int 0])) H := hat_a0.kept (oq _ (by omega))
  have hR : mr_G D cy K (K + 15) H := hR.kept oq (by omega)
  have hG : rc_G D cy ld (fun _ => (0, 0, 0)) [] (K + 16) H := rc_G.sz (z9.trans hG.1)
  have hat_w : va_at D vwCl ((K + 15), .inl (cy 1, 7, .inr (.inl (vp_updL (vp_updL (vp_updL (vp_updL (vp_updL (vp_updL (vp_updL (fun _ => 0) (0 : Int32).toNatClampNeg 4153) (1 : Int32).toNatClampNeg 278194) (2 : Int32).toNatClampNeg 677454) (3 : Int32).toNatClampNeg 146885) (4 : Int32).toNatClampNeg 394868) (5 : Int32).toNatClampNeg 755045) (6 : Int32).toNatClampNeg 114419)))) H := hat_n
  have hR : mr_G D cy K (K + 16) H := hR.push (fun _ _ => rfl) 32 (by decide) (by decide) rfl hat_w
  refine rc_putF (ci := 13) (v := .ref (K + 15)) (ty := .array (.long)) (C := RX13) (T := TX13) (N := 70) hx hb htl inX13 tyX13 tyX13_ok nmX13 hown hK hat_a0 rfl 32 (by decide) (htl _ mw_217) (fun _ h9 => h9) rfl hin rfl (tyX13_ok 32 (by decide)) rfl rfl (Nat.le_of_ble_eq_true rfl) dX13_init_242 (fun H j9 hat_n z9 oq => ?_)
  have hS := hS.put (k := j9) z9 oq (by show _ = _ ∨ _ ≤ _; omega)
  have hat_a0 : va_at D vwCl (a0, .inr (13, [.int 0, .int 0, .ref K, .ref (K + 1), .ref (K + 2), .ref (K + 3), .ref (K + 4), .ref (K + 5), .int 0, .ref (K + 6), .ref (K + 7), .int 0, .ref (K + 8), .int 0, .int 0, .int 0, .int 0, .long 0, .int (-1), .int 0, .int 0, .int 0, .ref (K + 9), .int 0, .ref (K + 10), .ref (K + 11), .int 0, .ref (K + 12), .ref (K + 13), .int 0, .int 0, .ref (K + 14), .ref (K + 15), .null, .int 0, .null, .null, .null, .int 0, .long 0, .long 0, .int 0, .null, .null, .null, .null, .null, .long 0, .null, .null, .null, .null, .null, .int 0, .int 0, .null, .null, .int 0, .int 0, .null, .int 0, .null, .int 0, .int 0, .int 0, .int 0, .null, .null, .null, .int 0])) H := hat_n
  have hR : mr_G D cy K (K + 16) H := hR.kept oq (by omega)
  have hG : rc_G D cy ld (fun _ => (0, 0, 0)) [] (K + 16) H := rc_G.sz (z9.trans hG.1)
  refine lv_aload_n hx hb dX13_init_245 rfl (lv_at hl 0 rfl) ?_
  refine lv_iconst (v := 4) hx hb dX13_init_246 (by decide) ?_
  refine rc_newa hx hb (htl _ mw_202) rfl hK hG hS 1 rfl (fun _ h => h) (a0 := (4, .inr (.inl (fun _ => 0)))) (fun _ => rfl) (by decide) (by decide) (Nat.le_of_ble_eq_true rfl) (Nat.le_of_ble_eq_true rfl) (Nat.le_of_ble_eq_true rfl) dX13_init_247 (fun H hG hat_n oq hS => ?_)
  refine W.widen (k := 17) (n := 20865) (Nat.le_of_ble_eq_true rfl) (Nat.le_of_ble_eq_true rfl) ?_
  have hG : rc_G D cy ld (fun _ => (0, 0, 0)) [] (K + 17) H := hG.z
  have hat_a0 : va_at D vwCl (a0, .inr (13, [.int 0, .int 0, .ref K, .ref (K + 1), .ref (K + 2), .ref (K + 3), .ref (K + 4), .ref (K + 5), .int 0, .ref (K + 6), .ref (K + 7), .int 0, .ref (K + 8), .int 0, .int 0, .int 0, .int 0, .long 0, .int (-1), .int 0, .int 0, .int 0, .ref (K + 9), .int 0, .ref (K + 10), .ref (K + 11), .int 0, .ref (K + 12), .ref (K + 13), .int 0, .int 0, .ref (K + 14), .ref (K + 15), .null, .int 0, .null, .null, .null, .int 0, .long 0, .long 0, .int 0, .null, .null, .null, .null, .null, .long 0, .null, .null, .null, .null, .null, .int 0, .int 0, .null, .null, .int 0, .int 0, .null, .int 0, .null, .int 0, .int 0, .int 0, .int 0, .null, .null, .null, .int 0])) H := hat_a0.kept (oq _ (by omega))
  have hR : ∀ k : Nat, k < 70 → 2 ≤ mz_k k → mr_ad K k < (K + 16) → va_at D vwCl (mr_ad K k, mz_c cy (fun _ _ => 0) mr_S k) H := fun k h1 h2 h3 => (hR k h1 h2 h3).kept (oq _ h3)
  have hR : mr_G D cy K (K + 16) H := hR
  have hat_w : va_at D vwCl ((K + 16), .inl (cy 1, 4, .inr (.inl (fun _ => 0)))) H := hat_n
  refine lv_dup hx hb dX13_init_249 rfl ?_
  refine lv_iconst (v := 0) hx hb dX13_init_250 (by decide) ?_
  refine lv_ldc2 hx hb hown (htl _ mw_218) dX13_init_251 ?_
  refine rc_last hx hb hK hat_w (fx_in (by decide)) dX13_init_254 (fun H j9 hat_n z9 oq => ?_)
  have hS := hS.put (k := j9) z9 oq (by show _ = _ ∨ _ ≤ _; omega)
  have hat_a0 : va_at D vwCl (a0, .inr (13, [.int 0, .int 0, .ref K, .ref (K + 1), .ref (K + 2), .ref (K + 3), .ref (K + 4), .ref (K + 5), .int 0, .ref (K + 6), .ref (K + 7), .int 0, .ref (K + 8), .int 0, .int 0, .int 0, .int 0, .long 0, .int (-1), .int 0, .int 0, .int 0, .ref (K + 9), .int 0, .ref (K + 10), .ref (K + 11), .int 0, .ref (K + 12), .ref (K + 13), .int 0, .int 0, .ref (K + 14), .ref (K + 15), .null, .int 0, .null, .null, .null, .int 0, .long 0, .long 0, .int 0, .null, .null, .null, .null, .null, .long 0, .null, .null, .null, .null, .null, .int 0, .int 0, .null, .null, .int 0, .int 0, .null, .int 0, .null, .int 0, .int 0, .int 0, .int 0, .null, .null, .null, .int 0])) H := hat_a0.kept (oq _ (by omega))
  have hR : mr_G D cy K (K + 16) H := hR.kept oq (by omega)
  have hG : rc_G D cy ld (fun _ => (0, 0, 0)) [] (K + 17) H := rc_G.sz (z9.trans hG.1)
  have hat_w : va_at D vwCl ((K + 16), .inl (cy 1, 4, .inr (.inl (vp_updL (fun _ => 0) (0 : Int32).toNatClampNeg 13283731)))) H := hat_n
  refine lv_dup hx hb dX13_init_255 rfl ?_
  refine lv_iconst (v := 1) hx hb dX13_init_256 (by decide) ?_
  refine lv_ldc2 hx hb hown (htl _ mw_219) dX13_init_257 ?_
  refine rc_last hx hb hK hat_w (fx_in (by decide)) dX13_init_260 (fun H j9 hat_n z9 oq => ?_)
  have hS := hS.put (k := j9) z9 oq (by show _ = _ ∨ _ ≤ _; omega)
  have hat_a0 : va_at D vwCl (a0, .inr (13, [.int 0, .int 0, .ref K, .ref (K + 1), .ref (K + 2), .ref (K + 3), .ref (K + 4), .ref (K + 5), .int 0, .ref (K + 6), .ref (K + 7), .int 0, .ref (K + 8), .int 0, .int 0, .int 0, .int 0, .long 0, .int (-1), .int 0, .int 0, .int 0, .ref (K + 9), .int 0, .ref (K + 10), .ref (K + 11), .int 0, .ref (K + 12), .ref (K + 13), .int 0, .int 0, .ref (K + 14), .ref (K + 15), .null, .int 0, .null, .null, .null, .int 0, .long 0, .long 0, .int 0, .null, .null, .null, .null, .null, .long 0, .null, .null, .null, .null, .null, .int 0, .int 0, .null, .null, .int 0, .int 0, .null, .int 0, .null, .int 0, .int 0, .int 0, .int 0, .null, .null, .null, .int 0])) H := hat_a0.kept (oq _ (by omega))
  have hR : mr_G D cy K (K + 16) H := hR.kept oq (by omega)
  have hG : rc_G D cy ld (fun _ => (0, 0, 0)) [] (K + 17) H := rc_G.sz (z9.trans hG.1)
  have hat_w : va_at D vwCl ((K + 16), .inl (cy 1, 4, .inr (.inl (vp_updL (vp_updL (fun _ => 0) (0 : Int32).toNatClampNeg 13283731) (1 : Int32).toNatClampNeg 21285043)))) H := hat_n
  refine lv_dup hx hb dX13_init_261 rfl ?_
  refine lv_iconst (v := 2) hx hb dX13_init_262 (by decide) ?_
  refine lv_ldc2 hx hb hown (htl _ mw_220) dX13_init_263 ?_
  refine rc_last hx hb hK hat_w (fx_in (by decide)) dX13_init_266 (fun H j9 hat_n z9 oq => ?_)
  have hS := hS.put (k := j9) z9 oq (by show _ = _ ∨ _ ≤ _; omega)
  have hat_a0 : va_at D vwCl (a0, .inr (13, [.int 0, .int 0, .ref K, .ref (K + 1), .ref (K + 2), .ref (K + 3), .ref (K + 4), .ref (K + 5), .int 0, .ref (K + 6), .ref (K + 7), .int 0, .ref (K + 8), .int 0, .int 0, .int 0, .int 0, .long 0, .int (-1), .int 0, .int 0, .int 0, .ref (K + 9), .int 0, .ref (K + 10), .ref (K + 11), .int 0, .ref (K + 12), .ref (K + 13), .int 0, .int 0, .ref (K + 14), .ref (K + 15), .null, .int 0, .null, .null, .null, .int 0, .long 0, .long 0, .int 0, .null, .null, .null, .null, .null, .long 0, .null, .null, .null, .null, .null, .int 0, .int 0, .null, .null, .int 0, .int 0, .null, .int 0, .null, .int 0, .int 0, .int 0, .int 0, .null, .null, .null, .int 0])) H := hat_a0.kept (oq _ (by omega))
  have hR : mr_G D cy K (K + 16) H := hR.kept oq (by omega)
  have hG : rc_G D cy ld (fun _ => (0, 0, 0)) [] (K + 17) H := rc_G.sz (z9.trans hG.1)
  have hat_w : va_at D vwCl ((K + 16), .inl (cy 1, 4, .inr (.inl (vp_updL (vp_updL (vp_updL (fun _ => 0) (0 : Int32).toNatClampNeg 13283731) (1 : Int32).toNatClampNeg 21285043) (2 : Int32).toNatClampNeg 24161459)))) H := hat_n
  refine lv_dup hx hb dX13_init_267 rfl ?_
  refine lv_iconst (v := 3) hx hb dX13_init_268 (by decide) ?_
  refine lv_ldc2 hx hb hown (htl _ mw_221) dX13_init_269 ?_
  refine rc_last hx hb hK hat_w (fx_in (by decide)) dX13_init_272 (fun H j9 hat_n z9 oq => ?_)
  have hS := hS.put (k := j9) z9 oq (by show _ = _ ∨ _ ≤ _; omega)
  have hat_a0 : va_at D vwCl (a0, .inr (13, [.int 0, .int 0, .ref K, .ref (K + 1), .ref (K + 2), .ref (K + 3), .ref (K + 4), .ref (K + 5), .int 0, .ref (K + 6), .ref (K + 7), .int 0, .ref (K + 8), .int 0, .int 0, .int 0, .int 0, .long 0, .int (-1), .int 0, .int 0, .int 0, .ref (K + 9), .int 0, .ref (K + 10), .ref (K + 11), .int 0, .ref (K + 12), .ref (K + 13), .int 0, .int 0, .ref (K + 14), .ref (K + 15), .null, .int 0, .null, .null, .null, .int 0, .long 0, .long 0, .int 0, .null, .null, .null, .null, .null, .long 0, .null, .null, .null, .null, .null, .int 0, .int 0, .null, .null, .int 0, .int 0, .null, .int 0, .null, .int 0, .int 0, .int 0, .int 0, .null, .null, .null, .int 0])) H := hat_a0.kept (oq _ (by omega))
  have hR : mr_G D cy K (K + 16) H := hR.kept oq (by omega)
  have hG : rc_G D cy ld (fun _ => (0, 0, 0)) [] (K + 17) H := rc_G.sz (z9.trans hG.1)
  have hat_w : va_at D vwCl ((K + 16), .inl (cy 1, 4, .inr (.inl (vp_updL (vp_updL (vp_updL (vp_updL (fun _ => 0) (0 : Int32).toNatClampNeg 13283731) (1 : Int32).toNatClampNeg 21285043) (2 : Int32).toNatClampNeg 24161459) (3 : Int32).toNatClampNeg 67155)))) H := hat_n
  have hR : mr_G D cy K (K + 17) H := hR.push (fun _ _ => rfl) 33 (by decide) (by decide) rfl hat_w
  refine rc_putF (ci := 13) (v := .ref (K + 16)) (ty := .array (.long)) (C := RX13) (T := TX13) (N := 70) hx hb htl inX13 tyX13 tyX13_ok nmX13 hown hK hat_a0 rfl 33 (by decide) (htl _ mw_222) (fun _ h9 => h9) rfl hin rfl (tyX13_ok 33 (by decide)) rfl rfl (Nat.le_of_ble_eq_true rfl) dX13_init_273 (fun H j9 hat_n z9 oq => ?_)
  have hS := hS.put (k := j9) z9 oq (by show _ = _ ∨ _ ≤ _; omega)
  have hat_a0 : va_at D vwCl (a0, .inr (13, [.int 0, .int 0, .ref K, .ref (K + 1), .ref (K + 2), .ref (K + 3), .ref (K + 4), .ref (K + 5), .int 0, .ref (K + 6), .ref (K + 7), .int 0, .ref (K + 8), .int 0, .int 0, .int 0, .int 0, .long 0, .int (-1), .int 0, .int 0, .int 0, .ref (K + 9), .int 0, .ref (K + 10), .ref (K + 11), .int 0, .ref (K + 12), .ref (K + 13), .int 0, .int 0, .ref (K + 14), .ref (K + 15), .ref (K + 16), .int 0, .null, .null, .null, .int 0, .long 0, .long 0, .int 0, .null, .null, .null, .null, .null, .long 0, .null, .null, .null, .null, .null, .int 0, .int 0, .null, .null, .int 0, .int 0, .null, .int 0, .null, .int 0, .int 0, .int 0, .int 0, .null, .null, .null, .int 0])) H := hat_n
  have hR : mr_G D cy K (K + 17) H := hR.kept oq (by omega)
  have hG : rc_G D cy ld (fun _ => (0, 0, 0)) [] (K + 17) H := rc_G.sz (z9.trans hG.1)
  refine lv_aload_n hx hb dX13_init_276 rfl (lv_at hl 0 rfl) ?_
  refine lv_bipush (v := 13) hx hb dX13_init_277 (by decide) ?_
  refine rc_newa hx hb (htl _ mw_202) rfl hK hG hS 1 rfl (fun _ h => h) (a0 := (13, .inr (.inl (fun _ => 0)))) (fun _ => rfl) (by decide) (by decide) (Nat.le_of_ble_eq_true rfl) (Nat.le_of_ble_eq_true rfl) (Nat.le_of_ble_eq_true rfl) dX13_init_279 (fun H hG hat_n oq hS => ?_)
  refine W.widen (k := 18) (n := 20878) (Nat.le_of_ble_eq_true rfl) (Nat.le_of_ble_eq_true rfl) ?_
  have hG : rc_G D cy ld (fun _ => (0, 0, 0)) [] (K + 18) H := hG.z
  have hat_a0 : va_at D vwCl (a0, .inr (13, [.int 0, .int 0, .ref K, .ref (K + 1), .ref (K + 2), .ref (K + 3), .ref (K + 4), .ref (K + 5), .int 0, .ref (K + 6), .ref (K + 7), .int 0, .ref (K + 8), .int 0, .int 0, .int 0, .int 0, .long 0, .int (-1), .int 0, .int 0, .int 0, .ref (K + 9), .int 0, .ref (K + 10), .ref (K + 11), .int 0, .ref (K + 12), .ref (K + 13), .int 0, .int 0, .ref (K + 14), .ref (K + 15), .ref (K + 16), .int 0, .null, .null, .null, .int 0, .long 0, .long 0, .int 0, .null, .null, .null, .null, .null, .long 0, .null, .null, .null, .null, .null, .int 0, .int 0, .null, .null, .int 0, .int 0, .null, .int 0, .null, .int 0, .int 0, .int 0, .int 0, .null, .null, .null, .int 0])) H := hat_a0.kept (oq _ (by omega))
  have hR : mr_G D cy K (K + 18) H := hR.push oq 35 (by decide) (by decide) rfl hat_n
  refine rc_putF (ci := 13) (v := .ref (K + 17)) (ty := .array (.long)) (C := RX13) (T := TX13) (N := 70) hx hb htl inX13 tyX13 tyX13_ok nmX13 hown hK hat_a0 rfl 35 (by decide) (htl _ mw_223) (fun _ h9 => h9) rfl hin rfl (tyX13_ok 35 (by decide)) rfl rfl (Nat.le_of_ble_eq_true rfl) dX13_init_281 (fun H j9 hat_n z9 oq => ?_)
  have hS := hS.put (k := j9) z9 oq (by show _ = _ ∨ _ ≤ _; omega)
  have hat_a0 : va_at D vwCl (a0, .inr (13, [.int 0, .int 0, .ref K, .ref (K + 1), .ref (K + 2), .ref (K + 3), .ref (K + 4), .ref (K + 5), .int 0, .ref (K + 6), .ref (K + 7), .int 0, .ref (K + 8), .int 0, .int 0, .int 0, .int 0, .long 0, .int (-1), .int 0, .int 0, .int 0, .ref (K + 9), .int 0, .ref (K + 10), .ref (K + 11), .int 0, .ref (K + 12), .ref (K + 13), .int 0, .int 0, .ref (K + 14), .ref (K + 15), .ref (K + 16), .int 0, .ref (K + 17), .null, .null, .int 0, .long 0, .long 0, .int 0, .null, .null, .null, .null, .null, .long 0, .null, .null, .null, .null, .null, .int 0, .int 0, .null, .null, .int 0, .int 0, .null, .int 0, .null, .int 0, .int 0, .int 0, .int 0, .null, .null, .null, .int 0])) H := hat_n
  have hR : mr_G D cy K (K + 18) H := hR.kept oq (by omega)
  have hG : rc_G D cy ld (fun _ => (0, 0, 0)) [] (K + 18) H := rc_G.sz (z9.trans hG.1)
  refine lv_aload_n hx hb dX13_init_284 rfl (lv_at hl 0 rfl) ?_
  refine lv_bipush (v := 13) hx hb dX13_init_285 (by decide) ?_
  refine rc_newa hx hb (htl _ mw_202) rfl hK hG hS 1 rfl (fun _ h => h) (a0 := (13, .inr (.inl (fun _ => 0)))) (fun _ => rfl) (by decide) (by decide) (Nat.le_of_ble_eq_true rfl) (Nat.le_of_ble_eq_true rfl) (Nat.le_of_ble_eq_true rfl) dX13_init_287 (fun H hG hat_n oq hS => ?_)
  refine W.widen (k := 19) (n := 20891) (Nat.le_of_ble_eq_true rfl) (Nat.le_of_ble_eq_true rfl) ?_
  have hG : rc_G D cy ld (fun _ => (0, 0, 0)) [] (K + 19) H := hG.z
  have hat_a0 : va_at D vwCl (a0, .inr (13, [.int 0, .int 0, .ref K, .ref (K + 1), .ref (K + 2), .ref (K + 3), .ref (K + 4), .ref (K + 5), .int 0, .ref (K + 6), .ref (K + 7), .int 0, .ref (K + 8), .int 0, .int 0, .int 0, .int 0, .long 0, .int (-1), .int 0, .int 0, .int 0, .ref (K + 9), .int 0, .ref (K + 10), .ref (K + 11), .int 0, .ref (K + 12), .ref (K + 13), .int 0, .int 0, .ref (K + 14), .ref (K + 15), .ref (K + 16), .int 0, .ref (K + 17), .null, .null, .int 0, .long 0, .long 0, .int 0, .null, .null, .null, .null, .null, .long 0, .null, .null, .null, .null, .null, .int 0, .int 0, .null, .null, .int 0, .int 0, .null, .int 0, .null, .int 0, .int 0, .int 0, .int 0, .null, .null, .null, .int 0])) H := hat_a0.kept (oq _ (by omega))
  have hR : mr_G D cy K (K + 19) H := hR.push oq 36 (by decide) (by decide) rfl hat_n
  refine rc_putF (ci := 13) (v := .ref (K + 18)) (ty := .array (.long)) (C := RX13) (T := TX13) (N := 70) hx hb htl inX13 tyX13 tyX13_ok nmX13 hown hK hat_a0 rfl 36 (by decide) (htl _ mw_224) (fun _ h9 => h9) rfl hin rfl (tyX13_ok 36 (by decide)) rfl rfl (Nat.le_of_ble_eq_true rfl) dX13_init_289 (fun H j9 hat_n z9 oq => ?_)
  have hS := hS.put (k := j9) z9 oq (by show _ = _ ∨ _ ≤ _; omega)
  have hat_a0 : va_at D vwCl (a0, .inr (13, [.int 0, .int 0, .ref K, .ref (K + 1), .ref (K + 2), .ref (K + 3), .ref (K + 4), .ref (K + 5), .int 0, .ref (K + 6), .ref (K + 7), .int 0, .ref (K + 8), .int 0, .int 0, .int 0, .int 0, .long 0, .int (-1), .int 0, .int 0, .int 0, .ref (K + 9), .int 0, .ref (K + 10), .ref (K + 11), .int 0, .ref (K + 12), .ref (K + 13), .int 0, .int 0, .ref (K + 14), .ref (K + 15), .ref (K + 16), .int 0, .ref (K + 17), .ref (K + 18), .null, .int 0, .long 0, .long 0, .int 0, .null, .null, .null, .null, .null, .long 0, .null, .null, .null, .null, .null, .int 0, .int 0, .null, .null, .int 0, .int 0, .null, .int 0, .null, .int 0, .int 0, .int 0, .int 0, .null, .null, .null, .int 0])) H := hat_n
  have hR : mr_G D cy K (K + 19) H := hR.kept oq (by omega)
  have hG : rc_G D cy ld (fun _ => (0, 0, 0)) [] (K + 19) H := rc_G.sz (z9.trans hG.1)
  refine lv_aload_n hx hb dX13_init_292 rfl (lv_at hl 0 rfl) ?_
  refine lv_sipush (v := 400) hx hb dX13_init_293 (by decide) ?_
  refine rc_newa hx hb (htl _ mw_202) rfl hK hG hS 1 rfl (fun _ h => h) (a0 := (400, .inr (.inl (fun _ => 0)))) (fun _ => rfl) (by decide) (by decide) (Nat.le_of_ble_eq_true rfl) (Nat.le_of_ble_eq_true rfl) (Nat.le_of_ble_eq_true rfl) dX13_init_296 (fun H hG hat_n oq hS => ?_)
  refine W.widen (k := 20) (n := 21291) (Nat.le_of_ble_eq_true rfl) (Nat.le_of_ble_eq_true rfl) ?_
  have hG : rc_G D cy ld (fun _ => (0, 0, 0)) [] (K + 20) H := hG.z
  have hat_a0 : va_at D vwCl (a0, .inr (13, [.int 0, .int 0, .ref K, .ref (K + 1), .ref (K + 2), .ref (K + 3), .ref (K + 4), .ref (K + 5), .int 0, .ref (K + 6), .ref (K + 7), .int 0, .ref (K + 8), .int 0, .int 0, .int 0, .int 0, .long 0, .int (-1), .int 0, .int 0, .int 0, .ref (K + 9), .int 0, .ref (K + 10), .ref (K + 11), .int 0, .ref (K + 12), .ref (K + 13), .int 0, .int 0, .ref (K + 14), .ref (K + 15), .ref (K + 16), .int 0, .ref (K + 17), .ref (K + 18), .null, .int 0, .long 0, .long 0, .int 0, .null, .null, .null, .null, .null, .long 0, .null, .null, .null, .null, .null, .int 0, .int 0, .null, .null, .int 0, .int 0, .null, .int 0, .null, .int 0, .int 0, .int 0, .int 0, .null, .null, .null, .int 0])) H := hat_a0.kept (oq _ (by omega))
  have hR : mr_G D cy K (K + 20) H := hR.push oq 37 (by decide) (by decide) rfl hat_n
  refine rc_putF (ci := 13) (v := .ref (K + 19)) (ty := .array (.long)) (C := RX13) (T := TX13) (N := 70) hx hb htl inX13 tyX13 tyX13_ok nmX13 hown hK hat_a0 rfl 37 (by decide) (htl _ mw_225) (fun _ h9 => h9) rfl hin rfl (tyX13_ok 37 (by decide)) rfl rfl (Nat.le_of_ble_eq_true rfl) dX13_init_298 (fun H j9 hat_n z9 oq => ?_)
  have hS := hS.put (k := j9) z9 oq (by show _ = _ ∨ _ ≤ _; omega)
  have hat_a0 : va_at D vwCl (a0, .inr (13, [.int 0, .int 0, .ref K, .ref (K + 1), .ref (K + 2), .ref (K + 3), .ref (K + 4), .ref (K + 5), .int 0, .ref (K + 6), .ref (K + 7), .int 0, .ref (K + 8), .int 0, .int 0, .int 0, .int 0, .long 0, .int (-1), .int 0, .int 0, .int 0, .ref (K + 9), .int 0, .ref (K + 10), .ref (K + 11), .int 0, .ref (K + 12), .ref (K + 13), .int 0, .int 0, .ref (K + 14), .ref (K + 15), .ref (K + 16), .int 0, .ref (K + 17), .ref (K + 18), .ref (K + 19), .int 0, .long 0, .long 0, .int 0, .null, .null, .null, .null, .null, .long 0, .null, .null, .null, .null, .null, .int 0, .int 0, .null, .null, .int 0, .int 0, .null, .int 0, .null, .int 0, .int 0, .int 0, .int 0, .null, .null, .null, .int 0])) H := hat_n
  have hR : mr_G D cy K (K + 20) H := hR.kept oq (by omega)
  have hG : rc_G D cy ld (fun _ => (0, 0, 0)) [] (K + 20) H := rc_G.sz (z9.trans hG.1)
  refine lv_aload_n hx hb dX13_init_301 rfl (lv_at hl 0 rfl) ?_
  refine lv_bipush (v := 8) hx hb dX13_init_302 (by decide) ?_
  refine rc_newa hx hb (htl _ mw_32) rfl hK hG hS 0 rfl (fun _ h => h) (a0 := (8, .inl (fun _ => 0))) (fun _ => rfl) (by decide) (by decide) (Nat.le_of_ble_eq_true rfl) (Nat.le_of_ble_eq_true rfl) (Nat.le_of_ble_eq_true rfl) dX13_init_304 (fun H hG hat_n oq hS => ?_)
  refine W.widen (k := 21) (n := 21299) (Nat.le_of_ble_eq_true rfl) (Nat.le_of_ble_eq_true rfl) ?_
  have hG : rc_G D cy ld (fun _ => (0, 0, 0)) [] (K + 21) H := hG.z
  have hat_a0 : va_at D vwCl (a0, .inr (13, [.int 0, .int 0, .ref K, .ref (K + 1), .ref (K + 2), .ref (K + 3), .ref (K + 4), .ref (K + 5), .int 0, .ref (K + 6), .ref (K + 7), .int 0, .ref (K + 8), .int 0, .int 0, .int 0, .int 0, .long 0, .int (-1), .int 0, .int 0, .int 0, .ref (K + 9), .int 0, .ref (K + 10), .ref (K + 11), .int 0, .ref (K + 12), .ref (K + 13), .int 0, .int 0, .ref (K + 14), .ref (K + 15), .ref (K + 16), .int 0, .ref (K + 17), .ref (K + 18), .ref (K + 19), .int 0, .long 0, .long 0, .int 0, .null, .null, .null, .null, .null, .long 0, .null, .null, .null, .null, .null, .int 0, .int 0, .null, .null, .int 0, .int 0, .null, .int 0, .null, .int 0, .int 0, .int 0, .int 0, .null, .null, .null, .int 0])) H := hat_a0.kept (oq _ (by omega))
  have hR : mr_G D cy K (K + 21) H := hR.push oq 42 (by decide) (by decide) rfl hat_n
  refine rc_putF (ci := 13) (v := .ref (K + 20)) (ty := .array (.int)) (C := RX13) (T := TX13) (N := 70) hx hb htl inX13 tyX13 tyX13_ok nmX13 hown hK hat_a0 rfl 42 (by decide) (htl _ mw_226) (fun _ h9 => h9) rfl hin rfl (tyX13_ok 42 (by decide)) rfl rfl (Nat.le_of_ble_eq_true rfl) dX13_init_306 (fun H j9 hat_n z9 oq => ?_)
  have hS := hS.put (k := j9) z9 oq (by show _ = _ ∨ _ ≤ _; omega)
  have hat_a0 : va_at D vwCl (a0, .inr (13, [.int 0, .int 0, .ref K, .ref (K + 1), .ref (K + 2), .ref (K + 3), .ref (K + 4), .ref (K + 5), .int 0, .ref (K + 6), .ref (K + 7), .int 0, .ref (K + 8), .int 0, .int 0, .int 0, .int 0, .long 0, .int (-1), .int 0, .int 0, .int 0, .ref (K + 9), .int 0, .ref (K + 10), .ref (K + 11), .int 0, .ref (K + 12), .ref (K + 13), .int 0, .int 0, .ref (K + 14), .ref (K + 15), .ref (K + 16), .int 0, .ref (K + 17), .ref (K + 18), .ref (K + 19), .int 0, .long 0, .long 0, .int 0, .ref (K + 20), .null, .null, .null, .null, .long 0, .null, .null, .null, .null, .null, .int 0, .int 0, .null, .null, .int 0, .int 0, .null, .int 0, .null, .int 0, .int 0, .int 0, .int 0, .null, .null, .null, .int 0])) H := hat_n
  have hR : mr_G D cy K (K + 21) H := hR.kept oq (by omega)
  have hG : rc_G D cy ld (fun _ => (0, 0, 0)) [] (K + 21) H := rc_G.sz (z9.trans hG.1)
  refine lv_aload_n hx hb dX13_init_309 rfl (lv_at hl 0 rfl) ?_
  refine lv_iconst (v := 5) hx hb dX13_init_310 (by decide) ?_
  refine rc_newa hx hb (htl _ mw_32) rfl hK hG hS 0 rfl (fun _ h => h) (a0 := (5, .inl (fun _ => 0))) (fun _ => rfl) (by decide) (by decide) (Nat.le_of_ble_eq_true rfl) (Nat.le_of_ble_eq_true rfl) (Nat.le_of_ble_eq_true rfl) dX13_init_311 (fun H hG hat_n oq hS => ?_)
  refine W.widen (k := 22) (n := 21304) (Nat.le_of_ble_eq_true rfl) (Nat.le_of_ble_eq_true rfl) ?_
  have hG : rc_G D cy ld (fun _ => (0, 0, 0)) [] (K + 22) H := hG.z
  have hat_a0 : va_at D vwCl (a0, .inr (13, [.int 0, .int 0, .ref K, .ref (K + 1), .ref (K + 2), .ref (K + 3), .ref (K + 4), .ref (K + 5), .int 0, .ref (K + 6), .ref (K + 7), .int 0, .ref (K + 8), .int 0, .int 0, .int 0, .int 0, .long 0, .int (-1), .int 0, .int 0, .int 0, .ref (K + 9), .int 0, .ref (K + 10), .ref (K + 11), .int 0, .ref (K + 12), .ref (K + 13), .int 0, .int 0, .ref (K + 14), .ref (K + 15), .ref (K + 16), .int 0, .ref (K + 17), .ref (K + 18), .ref (K + 19), .int 0, .long 0, .long 0, .int 0, .ref (K + 20), .null, .null, .null, .null, .long 0, .null, .null, .null, .null, .null, .int 0, .int 0, .null, .null, .int 0, .int 0, .null, .int 0, .null, .int 0, .int 0, .int 0, .int 0, .null, .null, .null, .int 0])) H := hat_a0.kept (oq _ (by omega))
  have hR : mr_G D cy K (K + 22) H := hR.push oq 43 (by decide) (by decide) rfl hat_n
  refine rc_putF (ci := 13) (v := .ref (K + 21)) (ty := .array (.int)) (C := RX13) (T := TX13) (N := 70) hx hb htl inX13 tyX13 tyX13_ok nmX13 hown hK hat_a0 rfl 43 (by decide) (htl _ mw_227) (fun _ h9 => h9) rfl hin rfl (tyX13_ok 43 (by decide)) rfl rfl (Nat.le_of_ble_eq_true rfl) dX13_init_313 (fun H j9 hat_n z9 oq => ?_)
  have hS := hS.put (k := j9) z9 oq (by show _ = _ ∨ _ ≤ _; omega)
  have hat_a0 : va_at D vwCl (a0, .inr (13, [.int 0, .int 0, .ref K, .ref (K + 1), .ref (K + 2), .ref (K + 3), .ref (K + 4), .ref (K + 5), .int 0, .ref (K + 6), .ref (K + 7), .int 0, .ref (K + 8), .int 0, .int 0, .int 0, .int 0, .long 0, .int (-1), .int 0, .int 0, .int 0, .ref (K + 9), .int 0, .ref (K + 10), .ref (K + 11), .int 0, .ref (K + 12), .ref (K + 13), .int 0, .int 0, .ref (K + 14), .ref (K + 15), .ref (K + 16), .int 0, .ref (K + 17), .ref (K + 18), .ref (K + 19), .int 0, .long 0, .long 0, .int 0, .ref (K + 20), .ref (K + 21), .null, .null, .null, .long 0, .null, .null, .null, .null, .null, .int 0, .int 0, .null, .null, .int 0, .int 0, .null, .int 0, .null, .int 0, .int 0, .int 0, .int 0, .null, .null, .null, .int 0])) H := hat_n
  have hR : mr_G D cy K (K + 22) H := hR.kept oq (by omega)
  have hG : rc_G D cy ld (fun _ => (0, 0, 0)) [] (K + 22) H := rc_G.sz (z9.trans hG.1)
  refine lv_aload_n hx hb dX13_init_316 rfl (lv_at hl 0 rfl) ?_
  refine lv_iconst (v := 5) hx hb dX13_init_317 (by decide) ?_
  refine rc_newa hx hb (htl _ mw_32) rfl hK hG hS 0 rfl (fun _ h => h) (a0 := (5, .inl (fun _ => 0))) (fun _ => rfl) (by decide) (by decide) (Nat.le_of_ble_eq_true rfl) (Nat.le_of_ble_eq_true rfl) (Nat.le_of_ble_eq_true rfl) dX13_init_318 (fun H hG hat_n oq hS => ?_)
  refine W.widen (k := 23) (n := 21309) (Nat.le_of_ble_eq_true rfl) (Nat.le_of_ble_eq_true rfl) ?_
  have hG : rc_G D cy ld (fun _ => (0, 0, 0)) [] (K + 23) H := hG.z
  have hat_a0 : va_at D vwCl (a0, .inr (13, [.int 0, .int 0, .ref K, .ref (K + 1), .ref (K + 2), .ref (K + 3), .ref (K + 4), .ref (K + 5), .int 0, .ref (K + 6), .ref (K + 7), .int 0, .ref (K + 8), .int 0, .int 0, .int 0, .int 0, .long 0, .int (-1), .int 0, .int 0, .int 0, .ref (K + 9), .int 0, .ref (K + 10), .ref (K + 11), .int 0, .ref (K + 12), .ref (K + 13), .int 0, .int 0, .ref (K + 14), .ref (K + 15), .ref (K + 16), .int 0, .ref (K + 17), .ref (K + 18), .ref (K + 19), .int 0, .long 0, .long 0, .int 0, .ref (K + 20), .ref (K + 21), .null, .null, .null, .long 0, .null, .null, .null, .null, .null, .int 0, .int 0, .null, .null, .int 0, .int 0, .null, .int 0, .null, .int 0, .int 0, .int 0, .int 0, .null, .null, .null, .int 0])) H := hat_a0.kept (oq _ (by omega))
  have hR : mr_G D cy K (K + 23) H := hR.push oq 44 (by decide) (by decide) rfl hat_n
  refine rc_putF (ci := 13) (v := .ref (K + 22)) (ty := .array (.int)) (C := RX13) (T := TX13) (N := 70) hx hb htl inX13 tyX13 tyX13_ok nmX13 hown hK hat_a0 rfl 44 (by decide) (htl _ mw_228) (fun _ h9 => h9) rfl hin rfl (tyX13_ok 44 (by decide)) rfl rfl (Nat.le_of_ble_eq_true rfl) dX13_init_320 (fun H j9 hat_n z9 oq => ?_)
  have hS := hS.put (k := j9) z9 oq (by show _ = _ ∨ _ ≤ _; omega)
  have hat_a0 : va_at D vwCl (a0, .inr (13, [.int 0, .int 0, .ref K, .ref (K + 1), .ref (K + 2), .ref (K + 3), .ref (K + 4), .ref (K + 5), .int 0, .ref (K + 6), .ref (K + 7), .int 0, .ref (K + 8), .int 0, .int 0, .int 0, .int 0, .long 0, .int (-1), .int 0, .int 0, .int 0, .ref (K + 9), .int 0, .ref (K + 10), .ref (K + 11), .int 0, .ref (K + 12), .ref (K + 13), .int 0, .int 0, .ref (K + 14), .ref (K + 15), .ref (K + 16), .int 0, .ref (K + 17), .ref (K + 18), .ref (K + 19), .int 0, .long 0, .long 0, .int 0, .ref (K + 20), .ref (K + 21), .ref (K + 22), .null, .null, .long 0, .null, .null, .null, .null, .null, .int 0, .int 0, .null, .null, .int 0, .int 0, .null, .int 0, .null, .int 0, .int 0, .int 0, .int 0, .null, .null, .null, .int 0])) H := hat_n
  have hR : mr_G D cy K (K + 23) H := hR.kept oq (by omega)
  have hG : rc_G D cy ld (fun _ => (0, 0, 0)) [] (K + 23) H := rc_G.sz (z9.trans hG.1)
  refine lv_aload_n hx hb dX13_init_323 rfl (lv_at hl 0 rfl) ?_
  refine lv_iconst (v := 5) hx hb dX13_init_324 (by decide) ?_
  refine rc_newa hx hb (htl _ mw_32) rfl hK hG hS 0 rfl (fun _ h => h) (a0 := (5, .inl (fun _ => 0))) (fun _ => rfl) (by decide) (by decide) (Nat.le_of_ble_eq_true rfl) (Nat.le_of_ble_eq_true rfl) (Nat.le_of_ble_eq_true rfl) dX13_init_325 (fun H hG hat_n oq hS => ?_)
  refine W.widen (k := 24) (n := 21314) (Nat.le_of_ble_eq_true rfl) (Nat.le_of_ble_eq_true rfl) ?_
  have hG : rc_G D cy ld (fun _ => (0, 0, 0)) [] (K + 24) H := hG.z
  have hat_a0 : va_at D vwCl (a0, .inr (13, [.int 0, .int 0, .ref K, .ref (K + 1), .ref (K + 2), .ref (K + 3), .ref (K + 4), .ref (K + 5), .int 0, .ref (K + 6), .ref (K + 7), .int 0, .ref (K + 8), .int 0, .int 0, .int 0, .int 0, .long 0, .int (-1), .int 0, .int 0, .int 0, .ref (K + 9), .int 0, .ref (K + 10), .ref (K + 11), .int 0, .ref (K + 12), .ref (K + 13), .int 0, .int 0, .ref (K + 14), .ref (K + 15), .ref (K + 16), .int 0, .ref (K + 17), .ref (K + 18), .ref (K + 19), .int 0, .long 0, .long 0, .int 0, .ref (K + 20), .ref (K + 21), .ref (K + 22), .null, .null, .long 0, .null, .null, .null, .null, .null, .int 0, .int 0, .null, .null, .int 0, .int 0, .null, .int 0, .null, .int 0, .int 0, .int 0, .int 0, .null, .null, .null, .int 0])) H := hat_a0.kept (oq _ (by omega))
  have hR : mr_G D cy K (K + 24) H := hR.push oq 45 (by decide) (by decide) rfl hat_n
  refine rc_putF (ci := 13) (v := .ref (K + 23)) (ty := .array (.int)) (C := RX13) (T := TX13) (N := 70) hx hb htl inX13 tyX13 tyX13_ok nmX13 hown hK hat_a0 rfl 45 (by decide) (htl _ mw_229) (fun _ h9 => h9) rfl hin rfl (tyX13_ok 45 (by decide)) rfl rfl (Nat.le_of_ble_eq_true rfl) dX13_init_327 (fun H j9 hat_n z9 oq => ?_)
  have hS := hS.put (k := j9) z9 oq (by show _ = _ ∨ _ ≤ _; omega)
  have hat_a0 : va_at D vwCl (a0, .inr (13, [.int 0, .int 0, .ref K, .ref (K + 1), .ref (K + 2), .ref (K + 3), .ref (K + 4), .ref (K + 5), .int 0, .ref (K + 6), .ref (K + 7), .int 0, .ref (K + 8), .int 0, .int 0, .int 0, .int 0, .long 0, .int (-1), .int 0, .int 0, .int 0, .ref (K + 9), .int 0, .ref (K + 10), .ref (K + 11), .int 0, .ref (K + 12), .ref (K + 13), .int 0, .int 0, .ref (K + 14), .ref (K + 15), .ref (K + 16), .int 0, .ref (K + 17), .ref (K + 18), .ref (K + 19), .int 0, .long 0, .long 0, .int 0, .ref (K + 20), .ref (K + 21), .ref (K + 22), .ref (K + 23), .null, .long 0, .null, .null, .null, .null, .null, .int 0, .int 0, .null, .null, .int 0, .int 0, .null, .int 0, .null, .int 0, .int 0, .int 0, .int 0, .null, .null, .null, .int 0])) H := hat_n
  have hR : mr_G D cy K (K + 24) H := hR.kept oq (by omega)
  have hG : rc_G D cy ld (fun _ => (0, 0, 0)) [] (K + 24) H := rc_G.sz (z9.trans hG.1)
  refine lv_aload_n hx hb dX13_init_330 rfl (lv_at hl 0 rfl) ?_
  refine lv_iconst (v := 5) hx hb dX13_init_331 (by decide) ?_
  refine rc_newa hx hb (htl _ mw_32) rfl hK hG hS 0 rfl (fun _ h => h) (a0 := (5, .inl (fun _ => 0))) (fun _ => rfl) (by decide) (by decide) (Nat.le_of_ble_eq_true rfl) (Nat.le_of_ble_eq_true rfl) (Nat.le_of_ble_eq_true rfl) dX13_init_332 (fun H hG hat_n oq hS => ?_)
  refine W.widen (k := 25) (n := 21319) (Nat.le_of_ble_eq_true rfl) (Nat.le_of_ble_eq_true rfl) ?_
  have hG : rc_G D cy ld (fun _ => (0, 0, 0)) [] (K + 25) H := hG.z
  have hat_a0 : va_at D vwCl (a0, .inr (13, [.int 0, .int 0, .ref K, .ref (K + 1), .ref (K + 2), .ref (K + 3), .ref (K + 4), .ref (K + 5), .int 0, .ref (K + 6), .ref (K + 7), .int 0, .ref (K + 8), .int 0, .int 0, .int 0, .int 0, .long 0, .int (-1), .int 0, .int 0, .int 0, .ref (K + 9), .int 0, .ref (K + 10), .ref (K + 11), .int 0, .ref (K + 12), .ref (K + 13), .int 0, .int 0, .ref (K + 14), .ref (K + 15), .ref (K + 16), .int 0, .ref (K + 17), .ref (K + 18), .ref (K + 19), .int 0, .long 0, .long 0, .int 0, .ref (K + 20), .ref (K + 21), .ref (K + 22), .ref (K + 23), .null, .long 0, .null, .null, .null, .null, .null, .int 0, .int 0, .null, .null, .int 0, .int 0, .null, .int 0, .null, .int 0, .int 0, .int 0, .int 0, .null, .null, .null, .int 0])) H := hat_a0.kept (oq _ (by omega))
  have hR : mr_G D cy K (K + 25) H := hR.push oq 46 (by decide) (by decide) rfl hat_n
  refine rc_putF (ci := 13) (v := .ref (K + 24)) (ty := .array (.int)) (C := RX13) (T := TX13) (N := 70) hx hb htl inX13 tyX13 tyX13_ok nmX13 hown hK hat_a0 rfl 46 (by decide) (htl _ mw_230) (fun _ h9 => h9) rfl hin rfl (tyX13_ok 46 (by decide)) rfl rfl (Nat.le_of_ble_eq_true rfl) dX13_init_334 (fun H j9 hat_n z9 oq => ?_)
  have hS := hS.put (k := j9) z9 oq (by show _ = _ ∨ _ ≤ _; omega)
  have hat_a0 : va_at D vwCl (a0, .inr (13, [.int 0, .int 0, .ref K, .ref (K + 1), .ref (K + 2), .ref (K + 3), .ref (K + 4), .ref (K + 5), .int 0, .ref (K + 6), .ref (K + 7), .int 0, .ref (K + 8), .int 0, .int 0, .int 0, .int 0, .long 0, .int (-1), .int 0, .int 0, .int 0, .ref (K + 9), .int 0, .ref (K + 10), .ref (K + 11), .int 0, .ref (K + 12), .ref (K + 13), .int 0, .int 0, .ref (K + 14), .ref (K + 15), .ref (K + 16), .int 0, .ref (K + 17), .ref (K + 18), .ref (K + 19), .int 0, .long 0, .long 0, .int 0, .ref (K + 20), .ref (K + 21), .ref (K + 22), .ref (K + 23), .ref (K + 24), .long 0, .null, .null, .null, .null, .null, .int 0, .int 0, .null, .null, .int 0, .int 0, .null, .int 0, .null, .int 0, .int 0, .int 0, .int 0, .null, .null, .null, .int 0])) H := hat_n
  have hR : mr_G D cy K (K + 25) H := hR.kept oq (by omega)
  have hG : rc_G D cy ld (fun _ => (0, 0, 0)) [] (K + 25) H := rc_G.sz (z9.trans hG.1)
  refine lv_aload_n hx hb dX13_init_337 rfl (lv_at hl 0 rfl) ?_
  refine lv_bipush (v := 100) hx hb dX13_init_338 (by decide) ?_
  refine rc_newa hx hb (htl _ mw_32) rfl hK hG hS 0 rfl (fun _ h => h) (a0 := (100, .inl (fun _ => 0))) (fun _ => rfl) (by decide) (by decide) (Nat.le_of_ble_eq_true rfl) (Nat.le_of_ble_eq_true rfl) (Nat.le_of_ble_eq_true rfl) dX13_init_340 (fun H hG hat_n oq hS => ?_)
  refine W.widen (k := 26) (n := 21419) (Nat.le_of_ble_eq_true rfl) (Nat.le_of_ble_eq_true rfl) ?_
  have hG : rc_G D cy ld (fun _ => (0, 0, 0)) [] (K + 26) H := hG.z
  have hat_a0 : va_at D vwCl (a0, .inr (13, [.int 0, .int 0, .ref K, .ref (K + 1), .ref (K + 2), .ref (K + 3), .ref (K + 4), .ref (K + 5), .int 0, .ref (K + 6), .ref (K + 7), .int 0, .ref (K + 8), .int 0, .int 0, .int 0, .int 0, .long 0, .int (-1), .int 0, .int 0, .int 0, .ref (K + 9), .int 0, .ref (K + 10), .ref (K + 11), .int 0, .ref (K + 12), .ref (K + 13), .int 0, .int 0, .ref (K + 14), .ref (K + 15), .ref (K + 16), .int 0, .ref (K + 17), .ref (K + 18), .ref (K + 19), .int 0, .long 0, .long 0, .int 0, .ref (K + 20), .ref (K + 21), .ref (K + 22), .ref (K + 23), .ref (K + 24), .long 0, .null, .null, .null, .null, .null, .int 0, .int 0, .null, .null, .int 0, .int 0, .null, .int 0, .null, .int 0, .int 0, .int 0, .int 0, .null, .null, .null, .int 0])) H := hat_a0.kept (oq _ (by omega))
  have hR : mr_G D cy K (K + 26) H := hR.push oq 48 (by decide) (by decide) rfl hat_n
  refine rc_putF (ci := 13) (v := .ref (K + 25)) (ty := .array (.int)) (C := RX13) (T := TX13) (N := 70) hx hb htl inX13 tyX13 tyX13_ok nmX13 hown hK hat_a0 rfl 48 (by decide) (htl _ mw_231) (fun _ h9 => h9) rfl hin rfl (tyX13_ok 48 (by decide)) rfl rfl (Nat.le_of_ble_eq_true rfl) dX13_init_342 (fun H j9 hat_n z9 oq => ?_)
  have hS := hS.put (k := j9) z9 oq (by show _ = _ ∨ _ ≤ _; omega)
  have hat_a0 : va_at D vwCl (a0, .inr (13, [.int 0, .int 0, .ref K, .ref (K + 1), .ref (K + 2), .ref (K + 3), .ref (K + 4), .ref (K + 5), .int 0, .ref (K + 6), .ref (K + 7), .int 0, .ref (K + 8), .int 0, .int 0, .int 0, .int 0, .long 0, .int (-1), .int 0, .int 0, .int 0, .ref (K + 9), .int 0, .ref (K + 10), .ref (K + 11), .int 0, .ref (K + 12), .ref (K + 13), .int 0, .int 0, .ref (K + 14), .ref (K + 15), .ref (K + 16), .int 0, .ref (K + 17), .ref (K + 18), .ref (K + 19), .int 0, .long 0, .long 0, .int 0, .ref (K + 20), .ref (K + 21), .ref (K + 22), .ref (K + 23), .ref (K + 24), .long 0, .ref (K + 25), .null, .null, .null, .null, .int 0, .int 0, .null, .null, .int 0, .int 0, .null, .int 0, .null, .int 0, .int 0, .int 0, .int 0, .null, .null, .null, .int 0])) H := hat_n
  have hR : mr_G D cy K (K + 26) H := hR.kept oq (by omega)
  have hG : rc_G D cy ld (fun _ => (0, 0, 0)) [] (K + 26) H := rc_G.sz (z9.trans hG.1)
  refine lv_aload_n hx hb dX13_init_345 rfl (lv_at hl 0 rfl) ?_
  refine lv_bipush (v := 64) hx hb dX13_init_346 (by decide) ?_
  refine rc_newa hx hb (htl _ mw_32) rfl hK hG hS 0 rfl (fun _ h => h) (a0 := (64, .inl (fun _ => 0))) (fun _ => rfl) (by decide) (by decide) (Nat.le_of_ble_eq_true rfl) (Nat.le_of_ble_eq_true rfl) (Nat.le_of_ble_eq_true rfl) dX13_init_348 (fun H hG hat_n oq hS => ?_)
  refine W.widen (k := 27) (n := 21483) (Nat.le_of_ble_eq_true rfl) (Nat.le_of_ble_eq_true rfl) ?_
  have hG : rc_G D cy ld (fun _ => (0, 0, 0)) [] (K + 27) H := hG.z
  have hat_a0 : va_at D vwCl (a0, .inr (13, [.int 0, .int 0, .ref K, .ref (K + 1), .ref (K + 2), .ref (K + 3), .ref (K + 4), .ref (K + 5), .int 0, .ref (K + 6), .ref (K + 7), .int 0, .ref (K + 8), .int 0, .int 0, .int 0, .int 0, .long 0, .int (-1), .int 0, .int 0, .int 0, .ref (K + 9), .int 0, .ref (K + 10), .ref (K + 11), .int 0, .ref (K + 12), .ref (K + 13), .int 0, .int 0, .ref (K + 14), .ref (K + 15), .ref (K + 16), .int 0, .ref (K + 17), .ref (K + 18), .ref (K + 19), .int 0, .long 0, .long 0, .int 0, .ref (K + 20), .ref (K + 21), .ref (K + 22), .ref (K + 23), .ref (K + 24), .long 0, .ref (K + 25), .null, .null, .null, .null, .int 0, .int 0, .null, .null, .int 0, .int 0, .null, .int 0, .null, .int 0, .int 0, .int 0, .int 0, .null, .null, .null, .int 0])) H := hat_a0.kept (oq _ (by omega))
  have hR : mr_G D cy K (K + 27) H := hR.push oq 49 (by decide) (by decide) rfl hat_n
  refine rc_putF (ci := 13) (v := .ref (K + 26)) (ty := .array (.int)) (C := RX13) (T := TX13) (N := 70) hx hb htl inX13 tyX13 tyX13_ok nmX13 hown hK hat_a0 rfl 49 (by decide) (htl _ mw_232) (fun _ h9 => h9) rfl hin rfl (tyX13_ok 49 (by decide)) rfl rfl (Nat.le_of_ble_eq_true rfl) dX13_init_350 (fun H j9 hat_n z9 oq => ?_)
  have hS := hS.put (k := j9) z9 oq (by show _ = _ ∨ _ ≤ _; omega)
  have hat_a0 : va_at D vwCl (a0, .inr (13, [.int 0, .int 0, .ref K, .ref (K + 1), .ref (K + 2), .ref (K + 3), .ref (K + 4), .ref (K + 5), .int 0, .ref (K + 6), .ref (K + 7), .int 0, .ref (K + 8), .int 0, .int 0, .int 0, .int 0, .long 0, .int (-1), .int 0, .int 0, .int 0, .ref (K + 9), .int 0, .ref (K + 10), .ref (K + 11), .int 0, .ref (K + 12), .ref (K + 13), .int 0, .int 0, .ref (K + 14), .ref (K + 15), .ref (K + 16), .int 0, .ref (K + 17), .ref (K + 18), .ref (K + 19), .int 0, .long 0, .long 0, .int 0, .ref (K + 20), .ref (K + 21), .ref (K + 22), .ref (K + 23), .ref (K + 24), .long 0, .ref (K + 25), .ref (K + 26), .null, .null, .null, .int 0, .int 0, .null, .null, .int 0, .int 0, .null, .int 0, .null, .int 0, .int 0, .int 0, .int 0, .null, .null, .null, .int 0])) H := hat_n
  have hR : mr_G D cy K (K + 27) H := hR.kept oq (by omega)
  have hG : rc_G D cy ld (fun _ => (0, 0, 0)) [] (K + 27) H := rc_G.sz (z9.trans hG.1)
  refine lv_aload_n hx hb dX13_init_353 rfl (lv_at hl 0 rfl) ?_
  refine lv_bipush (v := 8) hx hb dX13_init_354 (by decide) ?_
  refine rc_newa hx hb (htl _ mw_32) rfl hK hG hS 0 rfl (fun _ h => h) (a0 := (8, .inl (fun _ => 0))) (fun _ => rfl) (by decide) (by decide) (Nat.le_of_ble_eq_true rfl) (Nat.le_of_ble_eq_true rfl) (Nat.le_of_ble_eq_true rfl) dX13_init_356 (fun H hG hat_n oq hS => ?_)
  refine W.widen (k := 28) (n := 21491) (Nat.le_of_ble_eq_true rfl) (Nat.le_of_ble_eq_true rfl) ?_
  have hG : rc_G D cy ld (fun _ => (0, 0, 0)) [] (K + 28) H := hG.z
  have hat_a0 : va_at D vwCl (a0, .inr (13, [.int 0, .int 0, .ref K, .ref (K + 1), .ref (K + 2), .ref (K + 3), .ref (K + 4), .ref (K + 5), .int 0, .ref (K + 6), .ref (K + 7), .int 0, .ref (K + 8), .int 0, .int 0, .int 0, .int 0, .long 0, .int (-1), .int 0, .int 0, .int 0, .ref (K + 9), .int 0, .ref (K + 10), .ref (K + 11), .int 0, .ref (K + 12), .ref (K + 13), .int 0, .int 0, .ref (K + 14), .ref (K + 15), .ref (K + 16), .int 0, .ref (K + 17), .ref (K + 18), .ref (K + 19), .int 0, .long 0, .long 0, .int 0, .ref (K + 20), .ref (K + 21), .ref (K + 22), .ref (K + 23), .ref (K + 24), .long 0, .ref (K + 25), .ref (K + 26), .null, .null, .null, .int 0, .int 0, .null, .null, .int 0, .int 0, .null, .int 0, .null, .int 0, .int 0, .int 0, .int 0, .null, .null, .null, .int 0])) H := hat_a0.kept (oq _ (by omega))
  have hR : mr_G D cy K (K + 28) H := hR.push oq 50 (by decide) (by decide) rfl hat_n
  refine rc_putF (ci := 13) (v := .ref (K + 27)) (ty := .array (.int)) (C := RX13) (T := TX13) (N := 70) hx hb htl inX13 tyX13 tyX13_ok nmX13 hown hK hat_a0 rfl 50 (by decide) (htl _ mw_233) (fun _ h9 => h9) rfl hin rfl (tyX13_ok 50 (by decide)) rfl rfl (Nat.le_of_ble_eq_true rfl) dX13_init_358 (fun H j9 hat_n z9 oq => ?_)
  have hS := hS.put (k := j9) z9 oq (by show _ = _ ∨ _ ≤ _; omega)
  have hat_a0 : va_at D vwCl (a0, .inr (13, [.int 0, .int 0, .ref K, .ref (K + 1), .ref (K + 2), .ref (K + 3), .ref (K + 4), .ref (K + 5), .int 0, .ref (K + 6), .ref (K + 7), .int 0, .ref (K + 8), .int 0, .int 0, .int 0, .int 0, .long 0, .int (-1), .int 0, .int 0, .int 0, .ref (K + 9), .int 0, .ref (K + 10), .ref (K + 11), .int 0, .ref (K + 12), .ref (K + 13), .int 0, .int 0, .ref (K + 14), .ref (K + 15), .ref (K + 16), .int 0, .ref (K + 17), .ref (K + 18), .ref (K + 19), .int 0, .long 0, .long 0, .int 0, .ref (K + 20), .ref (K + 21), .ref (K + 22), .ref (K + 23), .ref (K + 24), .long 0, .ref (K + 25), .ref (K + 26), .ref (K + 27), .null, .null, .int 0, .int 0, .null, .null, .int 0, .int 0, .null, .int 0, .null, .int 0, .int 0, .int 0, .int 0, .null, .null, .null, .int 0])) H := hat_n
  have hR : mr_G D cy K (K + 28) H := hR.kept oq (by omega)
  have hG : rc_G D cy ld (fun _ => (0, 0, 0)) [] (K + 28) H := rc_G.sz (z9.trans hG.1)
  refine lv_aload_n hx hb dX13_init_361 rfl (lv_at hl 0 rfl) ?_
  refine lv_bipush (v := 8) hx hb dX13_init_362 (by decide) ?_
  refine rc_newa hx hb (htl _ mw_32) rfl hK hG hS 0 rfl (fun _ h => h) (a0 := (8, .inl (fun _ => 0))) (fun _ => rfl) (by decide) (by decide) (Nat.le_of_ble_eq_true rfl) (Nat.le_of_ble_eq_true rfl) (Nat.le_of_ble_eq_true rfl) dX13_init_364 (fun H hG hat_n oq hS => ?_)
  refine W.widen (k := 29) (n := 21499) (Nat.le_of_ble_eq_true rfl) (Nat.le_of_ble_eq_true rfl) ?_
  have hG : rc_G D cy ld (fun _ => (0, 0, 0)) [] (K + 29) H := hG.z
  have hat_a0 : va_at D vwCl (a0, .inr (13, [.int 0, .int 0, .ref K, .ref (K + 1), .ref (K + 2), .ref (K + 3), .ref (K + 4), .ref (K + 5), .int 0, .ref (K + 6), .ref (K + 7), .int 0, .ref (K + 8), .int 0, .int 0, .int 0, .int 0, .long 0, .int (-1), .int 0, .int 0, .int 0, .ref (K + 9), .int 0, .ref (K + 10), .ref (K + 11), .int 0, .ref (K + 12), .ref (K + 13), .int 0, .int 0, .ref (K + 14), .ref (K + 15), .ref (K + 16), .int 0, .ref (K + 17), .ref (K + 18), .ref (K + 19), .int 0, .long 0, .long 0, .int 0, .ref (K + 20), .ref (K + 21), .ref (K + 22), .ref (K + 23), .ref (K + 24), .long 0, .ref (K + 25), .ref (K + 26), .ref (K + 27), .null, .null, .int 0, .int 0, .null, .null, .int 0, .int 0, .null, .int 0, .null, .int 0, .int 0, .int 0, .int 0, .null, .null, .null, .int 0])) H := hat_a0.kept (oq _ (by omega))
  have hR : mr_G D cy K (K + 29) H := hR.push oq 51 (by decide) (by decide) rfl hat_n
  refine rc_putF (ci := 13) (v := .ref (K + 28)) (ty := .array (.int)) (C := RX13) (T := TX13) (N := 70) hx hb htl inX13 tyX13 tyX13_ok nmX13 hown hK hat_a0 rfl 51 (by decide) (htl _ mw_234) (fun _ h9 => h9) rfl hin rfl (tyX13_ok 51 (by decide)) rfl rfl (Nat.le_of_ble_eq_true rfl) dX13_init_366 (fun H j9 hat_n z9 oq => ?_)
  have hS := hS.put (k := j9) z9 oq (by show _ = _ ∨ _ ≤ _; omega)
  have hat_a0 : va_at D vwCl (a0, .inr (13, [.int 0, .int 0, .ref K, .ref (K + 1), .ref (K + 2), .ref (K + 3), .ref (K + 4), .ref (K + 5), .int 0, .ref (K + 6), .ref (K + 7), .int 0, .ref (K + 8), .int 0, .int 0, .int 0, .int 0, .long 0, .int (-1), .int 0, .int 0, .int 0, .ref (K + 9), .int 0, .ref (K + 10), .ref (K + 11), .int 0, .ref (K + 12), .ref (K + 13), .int 0, .int 0, .ref (K + 14), .ref (K + 15), .ref (K + 16), .int 0, .ref (K + 17), .ref (K + 18), .ref (K + 19), .int 0, .long 0, .long 0, .int 0, .ref (K + 20), .ref (K + 21), .ref (K + 22), .ref (K + 23), .ref (K + 24), .long 0, .ref (K + 25), .ref (K + 26), .ref (K + 27), .ref (K + 28), .null, .int 0, .int 0, .null, .null, .int 0, .int 0, .null, .int 0, .null, .int 0, .int 0, .int 0, .int 0, .null, .null, .null, .int 0])) H := hat_n
  have hR : mr_G D cy K (K + 29) H := hR.kept oq (by omega)
  have hG : rc_G D cy ld (fun _ => (0, 0, 0)) [] (K + 29) H := rc_G.sz (z9.trans hG.1)
  refine lv_aload_n hx hb dX13_init_369 rfl (lv_at hl 0 rfl) ?_
  refine lv_bipush (v := 8) hx hb dX13_init_370 (by decide) ?_
  refine rc_newa hx hb (htl _ mw_32) rfl hK hG hS 0 rfl (fun _ h => h) (a0 := (8, .inl (fun _ => 0))) (fun _ => rfl) (by decide) (by decide) (Nat.le_of_ble_eq_true rfl) (Nat.le_of_ble_eq_true rfl) (Nat.le_of_ble_eq_true rfl) dX13_init_372 (fun H hG hat_n oq hS => ?_)
  refine W.widen (k := 30) (n := 21507) (Nat.le_of_ble_eq_true rfl) (Nat.le_of_ble_eq_true rfl) ?_
  have hG : rc_G D cy ld (fun _ => (0, 0, 0)) [] (K + 30) H := hG.z
  have hat_a0 : va_at D vwCl (a0, .inr (13, [.int 0, .int 0, .ref K, .ref (K + 1), .ref (K + 2), .ref (K + 3), .ref (K + 4), .ref (K + 5), .int 0, .ref (K + 6), .ref (K + 7), .int 0, .ref (K + 8), .int 0, .int 0, .int 0, .int 0, .long 0, .int (-1), .int 0, .int 0, .int 0, .ref (K + 9), .int 0, .ref (K + 10), .ref (K + 11), .int 0, .ref (K + 12), .ref (K + 13), .int 0, .int 0, .ref (K + 14), .ref (K + 15), .ref (K + 16), .int 0, .ref (K + 17), .ref (K + 18), .ref (K + 19), .int 0, .long 0, .long 0, .int 0, .ref (K + 20), .ref (K + 21), .ref (K + 22), .ref (K + 23), .ref (K + 24), .long 0, .ref (K + 25), .ref (K + 26), .ref (K + 27), .ref (K + 28), .null, .int 0, .int 0, .null, .null, .int 0, .int 0, .null, .int 0, .null, .int 0, .int 0, .int 0, .int 0, .null, .null, .null, .int 0])) H := hat_a0.kept (oq _ (by omega))
  have hR : mr_G D cy K (K + 30) H := hR.push oq 52 (by decide) (by decide) rfl hat_n
  refine rc_putF (ci := 13) (v := .ref (K + 29)) (ty := .array (.int)) (C := RX13) (T := TX13) (N := 70) hx hb htl inX13 tyX13 tyX13_ok nmX13 hown hK hat_a0 rfl 52 (by decide) (htl _ mw_235) (fun _ h9 => h9) rfl hin rfl (tyX13_ok 52 (by decide)) rfl rfl (Nat.le_of_ble_eq_true rfl) dX13_init_374 (fun H j9 hat_n z9 oq => ?_)
  have hS := hS.put (k := j9) z9 oq (by show _ = _ ∨ _ ≤ _; omega)
  have hat_a0 : va_at D vwCl (a0, .inr (13, [.int 0, .int 0, .ref K, .ref (K + 1), .ref (K + 2), .ref (K + 3), .ref (K + 4), .ref (K + 5), .int 0, .ref (K + 6), .ref (K + 7), .int 0, .ref (K + 8), .int 0, .int 0, .int 0, .int 0, .long 0, .int (-1), .int 0, .int 0, .int 0, .ref (K + 9), .int 0, .ref (K + 10), .ref (K + 11), .int 0, .ref (K + 12), .ref (K + 13), .int 0, .int 0, .ref (K + 14), .ref (K + 15), .ref (K + 16), .int 0, .ref (K + 17), .ref (K + 18), .ref (K + 19), .int 0, .long 0, .long 0, .int 0, .ref (K + 20), .ref (K + 21), .ref (K + 22), .ref (K + 23), .ref (K + 24), .long 0, .ref (K + 25), .ref (K + 26), .ref (K + 27), .ref (K + 28), .ref (K + 29), .int 0, .int 0, .null, .null, .int 0, .int 0, .null, .int 0, .null, .int 0, .int 0, .int 0, .int 0, .null, .null, .null, .int 0])) H := hat_n
  have hR : mr_G D cy K (K + 30) H := hR.kept oq (by omega)
  have hG : rc_G D cy ld (fun _ => (0, 0, 0)) [] (K + 30) H := rc_G.sz (z9.trans hG.1)
  refine lv_aload_n hx hb dX13_init_377 rfl (lv_at hl 0 rfl) ?_
  refine lv_iconst (v := 4) hx hb dX13_init_378 (by decide) ?_
  refine rc_newa hx hb (htl _ mw_32) rfl hK hG hS 0 rfl (fun _ h => h) (a0 := (4, .inl (fun _ => 0))) (fun _ => rfl) (by decide) (by decide) (Nat.le_of_ble_eq_true rfl) (Nat.le_of_ble_eq_true rfl) (Nat.le_of_ble_eq_true rfl) dX13_init_379 (fun H hG hat_n oq hS => ?_)
  refine W.widen (k := 31) (n := 21511) (Nat.le_of_ble_eq_true rfl) (Nat.le_of_ble_eq_true rfl) ?_
  have hG : rc_G D cy ld (fun _ => (0, 0, 0)) [] (K + 31) H := hG.z
  have hat_a0 : va_at D vwCl (a0, .inr (13, [.int 0, .int 0, .ref K, .ref (K + 1), .ref (K + 2), .ref (K + 3), .ref (K + 4), .ref (K + 5), .int 0, .ref (K + 6), .ref (K + 7), .int 0, .ref (K + 8), .int 0, .int 0, .int 0, .int 0, .long 0, .int (-1), .int 0, .int 0, .int 0, .ref (K + 9), .int 0, .ref (K + 10), .ref (K + 11), .int 0, .ref (K + 12), .ref (K + 13), .int 0, .int 0, .ref (K + 14), .ref (K + 15), .ref (K + 16), .int 0, .ref (K + 17), .ref (K + 18), .ref (K + 19), .int 0, .long 0, .long 0, .int 0, .ref (K + 20), .ref (K + 21), .ref (K + 22), .ref (K + 23), .ref (K + 24), .long 0, .ref (K + 25), .ref (K + 26), .ref (K + 27), .ref (K + 28), .ref (K + 29), .int 0, .int 0, .null, .null, .int 0, .int 0, .null, .int 0, .null, .int 0, .int 0, .int 0, .int 0, .null, .null, .null, .int 0])) H := hat_a0.kept (oq _ (by omega))
  have hR : mr_G D cy K (K + 31) H := hR.push oq 55 (by decide) (by decide) rfl hat_n
  refine rc_putF (ci := 13) (v := .ref (K + 30)) (ty := .array (.int)) (C := RX13) (T := TX13) (N := 70) hx hb htl inX13 tyX13 tyX13_ok nmX13 hown hK hat_a0 rfl 55 (by decide) (htl _ mw_236) (fun _ h9 => h9) rfl hin rfl (tyX13_ok 55 (by decide)) rfl rfl (Nat.le_of_ble_eq_true rfl) dX13_init_381 (fun H j9 hat_n z9 oq => ?_)
  have hS := hS.put (k := j9) z9 oq (by show _ = _ ∨ _ ≤ _; omega)
  have hat_a0 : va_at D vwCl (a0, .inr (13, [.int 0, .int 0, .ref K, .ref (K + 1), .ref (K + 2), .ref (K + 3), .ref (K + 4), .ref (K + 5), .int 0, .ref (K + 6), .ref (K + 7), .int 0, .ref (K + 8), .int 0, .int 0, .int 0, .int 0, .long 0, .int (-1), .int 0, .int 0, .int 0, .ref (K + 9), .int 0, .ref (K + 10), .ref (K + 11), .int 0, .ref (K + 12), .ref (K + 13), .int 0, .int 0, .ref (K + 14), .ref (K + 15), .ref (K + 16), .int 0, .ref (K + 17), .ref (K + 18), .ref (K + 19), .int 0, .long 0, .long 0, .int 0, .ref (K + 20), .ref (K + 21), .ref (K + 22), .ref (K + 23), .ref (K + 24), .long 0, .ref (K + 25), .ref (K + 26), .ref (K + 27), .ref (K + 28), .ref (K + 29), .int 0, .int 0, .ref (K + 30), .null, .int 0, .int 0, .null, .int 0, .null, .int 0, .int 0, .int 0, .int 0, .null, .null, .null, .int 0])) H := hat_n
  have hR : mr_G D cy K (K + 31) H := hR.kept oq (by omega)
  have hG : rc_G D cy ld (fun _ => (0, 0, 0)) [] (K + 31) H := rc_G.sz (z9.trans hG.1)
  refine lv_aload_n hx hb dX13_init_384 rfl (lv_at hl 0 rfl) ?_
  refine lv_iconst (v := 4) hx hb dX13_init_385 (by decide) ?_
  refine rc_newa hx hb (htl _ mw_32) rfl hK hG hS 0 rfl (fun _ h => h) (a0 := (4, .inl (fun _ => 0))) (fun _ => rfl) (by decide) (by decide) (Nat.le_of_ble_eq_true rfl) (Nat.le_of_ble_eq_true rfl) (Nat.le_of_ble_eq_true rfl) dX13_init_386 (fun H hG hat_n oq hS => ?_)
  refine W.widen (k := 32) (n := 21515) (Nat.le_of_ble_eq_true rfl) (Nat.le_of_ble_eq_true rfl) ?_
  have hG : rc_G D cy ld (fun _ => (0, 0, 0)) [] (K + 32) H := hG.z
  have hat_a0 : va_at D vwCl (a0, .inr (13, [.int 0, .int 0, .ref K, .ref (K + 1), .ref (K + 2), .ref (K + 3), .ref (K + 4), .ref (K + 5), .int 0, .ref (K + 6), .ref (K + 7), .int 0, .ref (K + 8), .int 0, .int 0, .int 0, .int 0, .long 0, .int (-1), .int 0, .int 0, .int 0, .ref (K + 9), .int 0, .ref (K + 10), .ref (K + 11), .int 0, .ref (K + 12), .ref (K + 13), .int 0, .int 0, .ref (K + 14), .ref (K + 15), .ref (K + 16), .int 0, .ref (K + 17), .ref (K + 18), .ref (K + 19), .int 0, .long 0, .long 0, .int 0, .ref (K + 20), .ref (K + 21), .ref (K + 22), .ref (K + 23), .ref (K + 24), .long 0, .ref (K + 25), .ref (K + 26), .ref (K + 27), .ref (K + 28), .ref (K + 29), .int 0, .int 0, .ref (K + 30), .null, .int 0, .int 0, .null, .int 0, .null, .int 0, .int 0, .int 0, .int 0, .null, .null, .null, .int 0])) H := hat_a0.kept (oq _ (by omega))
  have hR : mr_G D cy K (K + 32) H := hR.push oq 56 (by decide) (by decide) rfl hat_n
  refine rc_putF (ci := 13) (v := .ref (K + 31)) (ty := .array (.int)) (C := RX13) (T := TX13) (N := 70) hx hb htl inX13 tyX13 tyX13_ok nmX13 hown hK hat_a0 rfl 56 (by decide) (htl _ mw_237) (fun _ h9 => h9) rfl hin rfl (tyX13_ok 56 (by decide)) rfl rfl (Nat.le_of_ble_eq_true rfl) dX13_init_388 (fun H j9 hat_n z9 oq => ?_)
  have hS := hS.put (k := j9) z9 oq (by show _ = _ ∨ _ ≤ _; omega)
  have hat_a0 : va_at D vwCl (a0, .inr (13, [.int 0, .int 0, .ref K, .ref (K + 1), .ref (K + 2), .ref (K + 3), .ref (K + 4), .ref (K + 5), .int 0, .ref (K + 6), .ref (K + 7), .int 0, .ref (K + 8), .int 0, .int 0, .int 0, .int 0, .long 0, .int (-1), .int 0, .int 0, .int 0, .ref (K + 9), .int 0, .ref (K + 10), .ref (K + 11), .int 0, .ref (K + 12), .ref (K + 13), .int 0, .int 0, .ref (K + 14), .ref (K + 15), .ref (K + 16), .int 0, .ref (K + 17), .ref (K + 18), .ref (K + 19), .int 0, .long 0, .long 0, .int 0, .ref (K + 20), .ref (K + 21), .ref (K + 22), .ref (K + 23), .ref (K + 24), .long 0, .ref (K + 25), .ref (K + 26), .ref (K + 27), .ref (K + 28), .ref (K + 29), .int 0, .int 0, .ref (K + 30), .ref (K + 31), .int 0, .int 0, .null, .int 0, .null, .int 0, .int 0, .int 0, .int 0, .null, .null, .null, .int 0])) H := hat_n
  have hR : mr_G D cy K (K + 32) H := hR.kept oq (by omega)
  have hG : rc_G D cy ld (fun _ => (0, 0, 0)) [] (K + 32) H := rc_G.sz (z9.trans hG.1)
  refine lv_aload_n hx hb dX13_init_391 rfl (lv_at hl 0 rfl) ?_
  refine lv_sipush (v := 1000) hx hb dX13_init_392 (by decide) ?_
  refine rc_newa hx hb (htl _ mw_32) rfl hK hG hS 0 rfl (fun _ h => h) (a0 := (1000, .inl (fun _ => 0))) (fun _ => rfl) (by decide) (by decide) (Nat.le_of_ble_eq_true rfl) (Nat.le_of_ble_eq_true rfl) (Nat.le_of_ble_eq_true rfl) dX13_init_395 (fun H hG hat_n oq hS => ?_)
  refine W.widen (k := 33) (n := 22515) (Nat.le_of_ble_eq_true rfl) (Nat.le_of_ble_eq_true rfl) ?_
  have hG : rc_G D cy ld (fun _ => (0, 0, 0)) [] (K + 33) H := hG.z
  have hat_a0 : va_at D vwCl (a0, .inr (13, [.int 0, .int 0, .ref K, .ref (K + 1), .ref (K + 2), .ref (K + 3), .ref (K + 4), .ref (K + 5), .int 0, .ref (K + 6), .ref (K + 7), .int 0, .ref (K + 8), .int 0, .int 0, .int 0, .int 0, .long 0, .int (-1), .int 0, .int 0, .int 0, .ref (K + 9), .int 0, .ref (K + 10), .ref (K + 11), .int 0, .ref (K + 12), .ref (K + 13), .int 0, .int 0, .ref (K + 14), .ref (K + 15), .ref (K + 16), .int 0, .ref (K + 17), .ref (K + 18), .ref (K + 19), .int 0, .long 0, .long 0, .int 0, .ref (K + 20), .ref (K + 21), .ref (K + 22), .ref (K + 23), .ref (K + 24), .long 0, .ref (K + 25), .ref (K + 26), .ref (K + 27), .ref (K + 28), .ref (K + 29), .int 0, .int 0, .ref (K + 30), .ref (K + 31), .int 0, .int 0, .null, .int 0, .null, .int 0, .int 0, .int 0, .int 0, .null, .null, .null, .int 0])) H := hat_a0.kept (oq _ (by omega))
  have hR : mr_G D cy K (K + 33) H := hR.push oq 59 (by decide) (by decide) rfl hat_n
  refine rc_putF (ci := 13) (v := .ref (K + 32)) (ty := .array (.int)) (C := RX13) (T := TX13) (N := 70) hx hb htl inX13 tyX13 tyX13_ok nmX13 hown hK hat_a0 rfl 59 (by decide) (htl _ mw_238) (fun _ h9 => h9) rfl hin rfl (tyX13_ok 59 (by decide)) rfl rfl (Nat.le_of_ble_eq_true rfl) dX13_init_397 (fun H j9 hat_n z9 oq => ?_)
  have hS := hS.put (k := j9) z9 oq (by show _ = _ ∨ _ ≤ _; omega)
  have hat_a0 : va_at D vwCl (a0, .inr (13, [.int 0, .int 0, .ref K, .ref (K + 1), .ref (K + 2), .ref (K + 3), .ref (K + 4), .ref (K + 5), .int 0, .ref (K + 6), .ref (K + 7), .int 0, .ref (K + 8), .int 0, .int 0, .int 0, .int 0, .long 0, .int (-1), .int 0, .int 0, .int 0, .ref (K + 9), .int 0, .ref (K + 10), .ref (K + 11), .int 0, .ref (K + 12), .ref (K + 13), .int 0, .int 0, .ref (K + 14), .ref (K + 15), .ref (K + 16), .int 0, .ref (K + 17), .ref (K + 18), .ref (K + 19), .int 0, .long 0, .long 0, .int 0, .ref (K + 20), .ref (K + 21), .ref (K + 22), .ref (K + 23), .ref (K + 24), .long 0, .ref (K + 25), .ref (K + 26), .ref (K + 27), .ref (K + 28), .ref (K + 29), .int 0, .int 0, .ref (K + 30), .ref (K + 31), .int 0, .int 0, .ref (K + 32), .int 0, .null, .int 0, .int 0, .int 0, .int 0, .null, .null, .null, .int 0])) H := hat_n
  have hR : mr_G D cy K (K + 33) H := hR.kept oq (by omega)
  have hG : rc_G D cy ld (fun _ => (0, 0, 0)) [] (K + 33) H := rc_G.sz (z9.trans hG.1)
  refine lv_aload_n hx hb dX13_init_400 rfl (lv_at hl 0 rfl) ?_
  refine lv_bipush (v := 120) hx hb dX13_init_401 (by decide) ?_
  refine rc_newa hx hb (htl _ mw_32) rfl hK hG hS 0 rfl (fun _ h => h) (a0 := (120, .inl (fun _ => 0))) (fun _ => rfl) (by decide) (by decide) (Nat.le_of_ble_eq_true rfl) (Nat.le_of_ble_eq_true rfl) (Nat.le_of_ble_eq_true rfl) dX13_init_403 (fun H hG hat_n oq hS => ?_)
  refine W.widen (k := 34) (n := 22635) (Nat.le_of_ble_eq_true rfl) (Nat.le_of_ble_eq_true rfl) ?_
  have hG : rc_G D cy ld (fun _ => (0, 0, 0)) [] (K + 34) H := hG.z
  have hat_a0 : va_at D vwCl (a0, .inr (13, [.int 0, .int 0, .ref K, .ref (K + 1), .ref (K + 2), .ref (K + 3), .ref (K + 4), .ref (K + 5), .int 0, .ref (K + 6), .ref (K + 7), .int 0, .ref (K + 8), .int 0, .int 0, .int 0, .int 0, .long 0, .int (-1), .int 0, .int 0, .int 0, .ref (K + 9), .int 0, .ref (K + 10), .ref (K + 11), .int 0, .ref (K + 12), .ref (K + 13), .int 0, .int 0, .ref (K + 14), .ref (K + 15), .ref (K + 16), .int 0, .ref (K + 17), .ref (K + 18), .ref (K + 19), .int 0, .long 0, .long 0, .int 0, .ref (K + 20), .ref (K + 21), .ref (K + 22), .ref (K + 23), .ref (K + 24), .long 0, .ref (K + 25), .ref (K + 26), .ref (K + 27), .ref (K + 28), .ref (K + 29), .int 0, .int 0, .ref (K + 30), .ref (K + 31), .int 0, .int 0, .ref (K + 32), .int 0, .null, .int 0, .int 0, .int 0, .int 0, .null, .null, .null, .int 0])) H := hat_a0.kept (oq _ (by omega))
  have hR : mr_G D cy K (K + 34) H := hR.push oq 61 (by decide) (by decide) rfl hat_n
  refine rc_putF (ci := 13) (v := .ref (K + 33)) (ty := .array (.int)) (C := RX13) (T := TX13) (N := 70) hx hb htl inX13 tyX13 tyX13_ok nmX13 hown hK hat_a0 rfl 61 (by decide) (htl _ mw_239) (fun _ h9 => h9) rfl hin rfl (tyX13_ok 61 (by decide)) rfl rfl (Nat.le_of_ble_eq_true rfl) dX13_init_405 (fun H j9 hat_n z9 oq => ?_)
  have hS := hS.put (k := j9) z9 oq (by show _ = _ ∨ _ ≤ _; omega)
  have hat_a0 : va_at D vwCl (a0, .inr (13, [.int 0, .int 0, .ref K, .ref (K + 1), .ref (K + 2), .ref (K + 3), .ref (K + 4), .ref (K + 5), .int 0, .ref (K + 6), .ref (K + 7), .int 0, .ref (K + 8), .int 0, .int 0, .int 0, .int 0, .long 0, .int (-1), .int 0, .int 0, .int 0, .ref (K + 9), .int 0, .ref (K + 10), .ref (K + 11), .int 0, .ref (K + 12), .ref (K + 13), .int 0, .int 0, .ref (K + 14), .ref (K + 15), .ref (K + 16), .int 0, .ref (K + 17), .ref (K + 18), .ref (K + 19), .int 0, .long 0, .long 0, .int 0, .ref (K + 20), .ref (K + 21), .ref (K + 22), .ref (K + 23), .ref (K + 24), .long 0, .ref (K + 25), .ref (K + 26), .ref (K + 27), .ref (K + 28), .ref (K + 29), .int 0, .int 0, .ref (K + 30), .ref (K + 31), .int 0, .int 0, .ref (K + 32), .int 0, .ref (K + 33), .int 0, .int 0, .int 0, .int 0, .null, .null, .null, .int 0])) H := hat_n
  have hR : mr_G D cy K (K + 34) H := hR.kept oq (by omega)
  have hG : rc_G D cy ld (fun _ => (0, 0, 0)) [] (K + 34) H := rc_G.sz (z9.trans hG.1)
  refine lv_aload_n hx hb dX13_init_408 rfl (lv_at hl 0 rfl) ?_
  refine lv_iconst (v := (-1)) hx hb dX13_init_409 (by decide) ?_
  refine tk_put0 (ci := 13) (v := .int (-1)) (ty := .int) (C := RX13) (T := TX13) (N := 70) hx hb htl inX13 tyX13 tyX13_ok nmX13 hown hK hat_a0 rfl 64 (by decide) (htl _ mw_240) (fun _ h9 => h9) rfl (tyX13_ok 64 (by decide)) rfl rfl (Nat.le_of_ble_eq_true rfl) dX13_init_410 (fun H j9 hat_n z9 oq => ?_)
  have hS := hS.put (k := j9) z9 oq (by show _ = _ ∨ _ ≤ _; omega)
  have hat_a0 : va_at D vwCl (a0, .inr (13, [.int 0, .int 0, .ref K, .ref (K + 1), .ref (K + 2), .ref (K + 3), .ref (K + 4), .ref (K + 5), .int 0, .ref (K + 6), .ref (K + 7), .int 0, .ref (K + 8), .int 0, .int 0, .int 0, .int 0, .long 0, .int (-1), .int 0, .int 0, .int 0, .ref (K + 9), .int 0, .ref (K + 10), .ref (K + 11), .int 0, .ref (K + 12), .ref (K + 13), .int 0, .int 0, .ref (K + 14), .ref (K + 15), .ref (K + 16), .int 0, .ref (K + 17), .ref (K + 18), .ref (K + 19), .int 0, .long 0, .long 0, .int 0, .ref (K + 20), .ref (K + 21), .ref (K + 22), .ref (K + 23), .ref (K + 24), .long 0, .ref (K + 25), .ref (K + 26), .ref (K + 27), .ref (K + 28), .ref (K + 29), .int 0, .int 0, .ref (K + 30), .ref (K + 31), .int 0, .int 0, .ref (K + 32), .int 0, .ref (K + 33), .int 0, .int 0, .int (-1), .int 0, .null, .null, .null, .int 0])) H := hat_n
  have hR : mr_G D cy K (K + 34) H := hR.kept oq (by omega)
  have hG : rc_G D cy ld (fun _ => (0, 0, 0)) [] (K + 34) H := rc_G.sz (z9.trans hG.1)
  refine lv_aload_n hx hb dX13_init_413 rfl (lv_at hl 0 rfl) ?_
  refine lv_bipush (v := 8) hx hb dX13_init_414 (by decide) ?_
  refine rc_newa hx hb (htl _ mw_32) rfl hK hG hS 0 rfl (fun _ h => h) (a0 := (8, .inl (fun _ => 0))) (fun _ => rfl) (by decide) (by decide) (Nat.le_of_ble_eq_true rfl) (Nat.le_of_ble_eq_true rfl) (Nat.le_of_ble_eq_true rfl) dX13_init_416 (fun H hG hat_n oq hS => ?_)
  refine W.widen (k := 35) (n := 22643) (Nat.le_of_ble_eq_true rfl) (Nat.le_of_ble_eq_true rfl) ?_
  have hG : rc_G D cy ld (fun _ => (0, 0, 0)) [] (K + 35) H := hG.z
  have hat_a0 : va_at D vwCl (a0, .inr (13, [.int 0, .int 0, .ref K, .ref (K + 1), .ref (K + 2), .ref (K + 3), .ref (K + 4), .ref (K + 5), .int 0, .ref (K + 6), .ref (K + 7), .int 0, .ref (K + 8), .int 0, .int 0, .int 0, .int 0, .long 0, .int (-1), .int 0, .int 0, .int 0, .ref (K + 9), .int 0, .ref (K + 10), .ref (K + 11), .int 0, .ref (K + 12), .ref (K + 13), .int 0, .int 0, .ref (K + 14), .ref (K + 15), .ref (K + 16), .int 0, .ref (K + 17), .ref (K + 18), .ref (K + 19), .int 0, .long 0, .long 0, .int 0, .ref (K + 20), .ref (K + 21), .ref (K + 22), .ref (K + 23), .ref (K + 24), .long 0, .ref (K + 25), .ref (K + 26), .ref (K + 27), .ref (K + 28), .ref (K + 29), .int 0, .int 0, .ref (K + 30), .ref (K + 31), .int 0, .int 0, .ref (K + 32), .int 0, .ref (K + 33), .int 0, .int 0, .int (-1), .int 0, .null, .null, .null, .int 0])) H := hat_a0.kept (oq _ (by omega))
  have hR : mr_G D cy K (K + 35) H := hR.push oq 66 (by decide) (by decide) rfl hat_n
  refine rc_putF (ci := 13) (v := .ref (K + 34)) (ty := .array (.int)) (C := RX13) (T := TX13) (N := 70) hx hb htl inX13 tyX13 tyX13_ok nmX13 hown hK hat_a0 rfl 66 (by decide) (htl _ mw_241) (fun _ h9 => h9) rfl hin rfl (tyX13_ok 66 (by decide)) rfl rfl (Nat.le_of_ble_eq_true rfl) dX13_init_418 (fun H j9 hat_n z9 oq => ?_)
  have hS := hS.put (k := j9) z9 oq (by show _ = _ ∨ _ ≤ _; omega)
  have hat_a0 : va_at D vwCl (a0, .inr (13, [.int 0, .int 0, .ref K, .ref (K + 1), .ref (K + 2), .ref (K + 3), .ref (K + 4), .ref (K + 5), .int 0, .ref (K + 6), .ref (K + 7), .int 0, .ref (K + 8), .int 0, .int 0, .int 0, .int 0, .long 0, .int (-1), .int 0, .int 0, .int 0, .ref (K + 9), .int 0, .ref (K + 10), .ref (K + 11), .int 0, .ref (K + 12), .ref (K + 13), .int 0, .int 0, .ref (K + 14), .ref (K + 15), .ref (K + 16), .int 0, .ref (K + 17), .ref (K + 18), .ref (K + 19), .int 0, .long 0, .long 0, .int 0, .ref (K + 20), .ref (K + 21), .ref (K + 22), .ref (K + 23), .ref (K + 24), .long 0, .ref (K + 25), .ref (K + 26), .ref (K + 27), .ref (K + 28), .ref (K + 29), .int 0, .int 0, .ref (K + 30), .ref (K + 31), .int 0, .int 0, .ref (K + 32), .int 0, .ref (K + 33), .int 0, .int 0, .int (-1), .int 0, .ref (K + 34), .null, .null, .int 0])) H := hat_n
  have hR : mr_G D cy K (K + 35) H := hR.kept oq (by omega)
  have hG : rc_G D cy ld (fun _ => (0, 0, 0)) [] (K + 35) H := rc_G.sz (z9.trans hG.1)
  refine lv_aload_n hx hb dX13_init_421 rfl (lv_at hl 0 rfl) ?_
  refine lv_iconst (v := 2) hx hb dX13_init_422 (by decide) ?_
  refine rc_newa hx hb (htl _ mw_32) rfl hK hG hS 0 rfl (fun _ h => h) (a0 := (2, .inl (fun _ => 0))) (fun _ => rfl) (by decide) (by decide) (Nat.le_of_ble_eq_true rfl) (Nat.le_of_ble_eq_true rfl) (Nat.le_of_ble_eq_true rfl) dX13_init_423 (fun H hG hat_n oq hS => ?_)
  refine W.widen (k := 36) (n := 22645) (Nat.le_of_ble_eq_true rfl) (Nat.le_of_ble_eq_true rfl) ?_
  have hG : rc_G D cy ld (fun _ => (0, 0, 0)) [] (K + 36) H := hG.z
  have hat_a0 : va_at D vwCl (a0, .inr (13, [.int 0, .int 0, .ref K, .ref (K + 1), .ref (K + 2), .ref (K + 3), .ref (K + 4), .ref (K + 5), .int 0, .ref (K + 6), .ref (K + 7), .int 0, .ref (K + 8), .int 0, .int 0, .int 0, .int 0, .long 0, .int (-1), .int 0, .int 0, .int 0, .ref (K + 9), .int 0, .ref (K + 10), .ref (K + 11), .int 0, .ref (K + 12), .ref (K + 13), .int 0, .int 0, .ref (K + 14), .ref (K + 15), .ref (K + 16), .int 0, .ref (K + 17), .ref (K + 18), .ref (K + 19), .int 0, .long 0, .long 0, .int 0, .ref (K + 20), .ref (K + 21), .ref (K + 22), .ref (K + 23), .ref (K + 24), .long 0, .ref (K + 25), .ref (K + 26), .ref (K + 27), .ref (K + 28), .ref (K + 29), .int 0, .int 0, .ref (K + 30), .ref (K + 31), .int 0, .int 0, .ref (K + 32), .int 0, .ref (K + 33), .int 0, .int 0, .int (-1), .int 0, .ref (K + 34), .null, .null, .int 0])) H := hat_a0.kept (oq _ (by omega))
  have hR : mr_G D cy K (K + 36) H := hR.push oq 67 (by decide) (by decide) rfl hat_n
  refine rc_putF (ci := 13) (v := .ref (K + 35)) (ty := .array (.int)) (C := RX13) (T := TX13) (N := 70) hx hb htl inX13 tyX13 tyX13_ok nmX13 hown hK hat_a0 rfl 67 (by decide) (htl _ mw_242) (fun _ h9 => h9) rfl hin rfl (tyX13_ok 67 (by decide)) rfl rfl (Nat.le_of_ble_eq_true rfl) dX13_init_425 (fun H j9 hat_n z9 oq => ?_)
  have hS := hS.put (k := j9) z9 oq (by show _ = _ ∨ _ ≤ _; omega)
  have hat_a0 : va_at D vwCl (a0, .inr (13, [.int 0, .int 0, .ref K, .ref (K + 1), .ref (K + 2), .ref (K + 3), .ref (K + 4), .ref (K + 5), .int 0, .ref (K + 6), .ref (K + 7), .int 0, .ref (K + 8), .int 0, .int 0, .int 0, .int 0, .long 0, .int (-1), .int 0, .int 0, .int 0, .ref (K + 9), .int 0, .ref (K + 10), .ref (K + 11), .int 0, .ref (K + 12), .ref (K + 13), .int 0, .int 0, .ref (K + 14), .ref (K + 15), .ref (K + 16), .int 0, .ref (K + 17), .ref (K + 18), .ref (K + 19), .int 0, .long 0, .long 0, .int 0, .ref (K + 20), .ref (K + 21), .ref (K + 22), .ref (K + 23), .ref (K + 24), .long 0, .ref (K + 25), .ref (K + 26), .ref (K + 27), .ref (K + 28), .ref (K + 29), .int 0, .int 0, .ref (K + 30), .ref (K + 31), .int 0, .int 0, .ref (K + 32), .int 0, .ref (K + 33), .int 0, .int 0, .int (-1), .int 0, .ref (K + 34), .ref (K + 35), .null, .int 0])) H := hat_n
  have hR : mr_G D cy K (K + 36) H := hR.kept oq (by omega)
  have hG : rc_G D cy ld (fun _ => (0, 0, 0)) [] (K + 36) H := rc_G.sz (z9.trans hG.1)
  refine lv_aload_n hx hb dX13_init_428 rfl (lv_at hl 0 rfl) ?_
  refine lv_bipush (v := 8) hx hb dX13_init_429 (by decide) ?_
  refine rc_newa hx hb (htl _ mw_32) rfl hK hG hS 0 rfl (fun _ h => h) (a0 := (8, .inl (fun _ => 0))) (fun _ => rfl) (by decide) (by decide) (Nat.le_of_ble_eq_true rfl) (Nat.le_of_ble_eq_true rfl) (Nat.le_of_ble_eq_true rfl) dX13_init_431 (fun H hG hat_n oq hS => ?_)
  refine W.widen (k := 37) (n := 22653) (Nat.le_of_ble_eq_true rfl) (Nat.le_of_ble_eq_true rfl) ?_
  have hG : rc_G D cy ld (fun _ => (0, 0, 0)) [] (K + 37) H := hG.z
  have hat_a0 : va_at D vwCl (a0, .inr (13, [.int 0, .int 0, .ref K, .ref (K + 1), .ref (K + 2), .ref (K + 3), .ref (K + 4), .ref (K + 5), .int 0, .ref (K + 6), .ref (K + 7), .int 0, .ref (K + 8), .int 0, .int 0, .int 0, .int 0, .long 0, .int (-1), .int 0, .int 0, .int 0, .ref (K + 9), .int 0, .ref (K + 10), .ref (K + 11), .int 0, .ref (K + 12), .ref (K + 13), .int 0, .int 0, .ref (K + 14), .ref (K + 15), .ref (K + 16), .int 0, .ref (K + 17), .ref (K + 18), .ref (K + 19), .int 0, .long 0, .long 0, .int 0, .ref (K + 20), .ref (K + 21), .ref (K + 22), .ref (K + 23), .ref (K + 24), .long 0, .ref (K + 25), .ref (K + 26), .ref (K + 27), .ref (K + 28), .ref (K + 29), .int 0, .int 0, .ref (K + 30), .ref (K + 31), .int 0, .int 0, .ref (K + 32), .int 0, .ref (K + 33), .int 0, .int 0, .int (-1), .int 0, .ref (K + 34), .ref (K + 35), .null, .int 0])) H := hat_a0.kept (oq _ (by omega))
  have hR : mr_G D cy K (K + 37) H := hR.push oq 68 (by decide) (by decide) rfl hat_n
  refine rc_putF (ci := 13) (v := .ref (K + 36)) (ty := .array (.int)) (C := RX13) (T := TX13) (N := 70) hx hb htl inX13 tyX13 tyX13_ok nmX13 hown hK hat_a0 rfl 68 (by decide) (htl _ mw_243) (fun _ h9 => h9) rfl hin rfl (tyX13_ok 68 (by decide)) rfl rfl (Nat.le_of_ble_eq_true rfl) dX13_init_433 (fun H j9 hat_n z9 oq => ?_)
  have hS := hS.put (k := j9) z9 oq (by show _ = _ ∨ _ ≤ _; omega)
  have hat_a0 : va_at D vwCl (a0, .inr (13, [.int 0, .int 0, .ref K, .ref (K + 1), .ref (K + 2), .ref (K + 3), .ref (K + 4), .ref (K + 5), .int 0, .ref (K + 6), .ref (K + 7), .int 0, .ref (K + 8), .int 0, .int 0, .int 0, .int 0, .long 0, .int (-1), .int 0, .int 0, .int 0, .ref (K + 9), .int 0, .ref (K + 10), .ref (K + 11), .int 0, .ref (K + 12), .ref (K + 13), .int 0, .int 0, .ref (K + 14), .ref (K + 15), .ref (K + 16), .int 0, .ref (K + 17), .ref (K + 18), .ref (K + 19), .int 0, .long 0, .long 0, .int 0, .ref (K + 20), .ref (K + 21), .ref (K + 22), .ref (K + 23), .ref (K + 24), .long 0, .ref (K + 25), .ref (K + 26), .ref (K + 27), .ref (K + 28), .ref (K + 29), .int 0, .int 0, .ref (K + 30), .ref (K + 31), .int 0, .int 0, .ref (K + 32), .int 0, .ref (K + 33), .int 0, .int 0, .int (-1), .int 0, .ref (K + 34), .ref (K + 35), .ref (K + 36), .int 0])) H := hat_n
  have hR : mr_G D cy K (K + 37) H := hR.kept oq (by omega)
  have hG : rc_G D cy ld (fun _ => (0, 0, 0)) [] (K + 37) H := rc_G.sz (z9.trans hG.1)
  refine lv_aload_n hx hb dX13_init_436 rfl (lv_at hl 0 rfl) ?_
  refine lv_iconst (v := (-1)) hx hb dX13_init_437 (by decide) ?_
  refine tk_put0 (ci := 13) (v := .int (-1)) (ty := .int) (C := RX13) (T := TX13) (N := 70) hx hb htl inX13 tyX13 tyX13_ok nmX13 hown hK hat_a0 rfl 69 (by decide) (htl _ mw_244) (fun _ h9 => h9) rfl (tyX13_ok 69 (by decide)) rfl rfl (Nat.le_of_ble_eq_true rfl) dX13_init_438 (fun H j9 hat_n z9 oq => ?_)
  have hS := hS.put (k := j9) z9 oq (by show _ = _ ∨ _ ≤ _; omega)
  have hat_a0 : va_at D vwCl (a0, .inr (13, [.int 0, .int 0, .ref K, .ref (K + 1), .ref (K + 2), .ref (K + 3), .ref (K + 4), .ref (K + 5), .int 0, .ref (K + 6), .ref (K + 7), .int 0, .ref (K + 8), .int 0, .int 0, .int 0, .int 0, .long 0, .int (-1), .int 0, .int 0, .int 0, .ref (K + 9), .int 0, .ref (K + 10), .ref (K + 11), .int 0, .ref (K + 12), .ref (K + 13), .int 0, .int 0, .ref (K + 14), .ref (K + 15), .ref (K + 16), .int 0, .ref (K + 17), .ref (K + 18), .ref (K + 19), .int 0, .long 0, .long 0, .int 0, .ref (K + 20), .ref (K + 21), .ref (K + 22), .ref (K + 23), .ref (K + 24), .long 0, .ref (K + 25), .ref (K + 26), .ref (K + 27), .ref (K + 28), .ref (K + 29), .int 0, .int 0, .ref (K + 30), .ref (K + 31), .int 0, .int 0, .ref (K + 32), .int 0, .ref (K + 33), .int 0, .int 0, .int (-1), .int 0, .ref (K + 34), .ref (K + 35), .ref (K + 36), .int (-1)])) H := hat_n
  have hR : mr_G D cy K (K + 37) H := hR.kept oq (by omega)
  have hG : rc_G D cy ld (fun _ => (0, 0, 0)) [] (K + 37) H := rc_G.sz (z9.trans hG.1)
  refine lv_aload_n hx hb dX13_init_441 rfl (lv_at hl 0 rfl) ?_
  have hat_3 : va_at D vwCl (mr_ad K 3, .inl (cy 0, 5560, .inl (fun _ => 0))) H := hR 3 (by decide) (by decide) (by show K + 1 < K + 37; omega)
  have hR := hR.all
  have hP3 : mz_P false 3 (fun _ => 0) := mr_P false 3
  refine va_get (ci := 13) (C := RX13) (T := TX13) (N := 70) hx hb htl inX13 hown hK.1 (tk_one hat_a0) 0 rfl rfl 3 (by decide) (htl _ mw_188) (fun _ h9 => h9) rfl dX13_init_442 ?_
  refine lv_iconst (v := 5) hx hb dX13_init_445 (by decide) ?_
  refine lv_iconst (v := (-1)) hx hb dX13_init_446 (by decide) ?_
  refine rc_iast hx hb hK hat_3 (fx_in (by decide)) dX13_init_447 (fun H j9 hat_n z9 oq => ?_)
  have hS := hS.put (k := j9) z9 oq (by show K + 1 = _ ∨ _ ≤ K + 1; omega)
  have hat_a0 : va_at D vwCl (a0, .inr (13, [.int 0, .int 0, .ref K, .ref (K + 1), .ref (K + 2), .ref (K + 3), .ref (K + 4), .ref (K + 5), .int 0, .ref (K + 6), .ref (K + 7), .int 0, .ref (K + 8), .int 0, .int 0, .int 0, .int 0, .long 0, .int (-1), .int 0, .int 0, .int 0, .ref (K + 9), .int 0, .ref (K + 10), .ref (K + 11), .int 0, .ref (K + 12), .ref (K + 13), .int 0, .int 0, .ref (K + 14), .ref (K + 15), .ref (K + 16), .int 0, .ref (K + 17), .ref (K + 18), .ref (K + 19), .int 0, .long 0, .long 0, .int 0, .ref (K + 20), .ref (K + 21), .ref (K + 22), .ref (K + 23), .ref (K + 24), .long 0, .ref (K + 25), .ref (K + 26), .ref (K + 27), .ref (K + 28), .ref (K + 29), .int 0, .int 0, .ref (K + 30), .ref (K + 31), .int 0, .int 0, .ref (K + 32), .int 0, .ref (K + 33), .int 0, .int 0, .int (-1), .int 0, .ref (K + 34), .ref (K + 35), .ref (K + 36), .int (-1)])) H := hat_a0.kept (oq _ (by show a0 ≠ K + 1; omega))
  have hat_3 : va_at D vwCl (mr_ad K 3, .inl (cy 0, 5560, .inl (upd (fun _ => 0) (5 : Int32).toNatClampNeg (-1)))) H := hat_n
  have hR := hR.kept oq
  have hP3 : mz_P false 3 (upd (fun _ => 0) (5 : Int32).toNatClampNeg (-1)) := mz_r3 (I := 5) hP3 (by decide) (by decide) (by decide) (fun e => by cases e) (by have h9 : ((-1) : Int32).toInt = (-1) := (by decide); unfold mE; omega)
  refine lv_aload_n hx hb dX13_init_448 rfl (lv_at hl 0 rfl) ?_
  refine va_get (ci := 13) (C := RX13) (T := TX13) (N := 70) hx hb htl inX13 hown hK.1 (tk_one hat_a0) 0 rfl rfl 3 (by decide) (htl _ mw_188) (fun _ h9 => h9) rfl dX13_init_449 ?_
  refine lv_bipush (v := 7) hx hb dX13_init_452 (by decide) ?_
  refine lv_bipush (v := 30) hx hb dX13_init_454 (by decide) ?_
  refine rc_iast hx hb hK hat_3 (fx_in (by decide)) dX13_init_456 (fun H j9 hat_n z9 oq => ?_)
  have hS := hS.put (k := j9) z9 oq (by show K + 1 = _ ∨ _ ≤ K + 1; omega)
  have hat_a0 : va_at D vwCl (a0, .inr (13, [.int 0, .int 0, .ref K, .ref (K + 1), .ref (K + 2), .ref (K + 3), .ref (K + 4), .ref (K + 5), .int 0, .ref (K + 6), .ref (K + 7), .int 0, .ref (K + 8), .int 0, .int 0, .int 0, .int 0, .long 0, .int (-1), .int 0, .int 0, .int 0, .ref (K + 9), .int 0, .ref (K + 10), .ref (K + 11), .int 0, .ref (K + 12), .ref (K + 13), .int 0, .int 0, .ref (K + 14), .ref (K + 15), .ref (K + 16), .int 0, .ref (K + 17), .ref (K + 18), .ref (K + 19), .int 0, .long 0, .long 0, .int 0, .ref (K + 20), .ref (K + 21), .ref (K + 22), .ref (K + 23), .ref (K + 24), .long 0, .ref (K + 25), .ref (K + 26), .ref (K + 27), .ref (K + 28), .ref (K + 29), .int 0, .int 0, .ref (K + 30), .ref (K + 31), .int 0, .int 0, .ref (K + 32), .int 0, .ref (K + 33), .int 0, .int 0, .int (-1), .int 0, .ref (K + 34), .ref (K + 35), .ref (K + 36), .int (-1)])) H := hat_a0.kept (oq _ (by show a0 ≠ K + 1; omega))
  have hat_3 : va_at D vwCl (mr_ad K 3, .inl (cy 0, 5560, .inl (upd (upd (fun _ => 0) (5 : Int32).toNatClampNeg (-1)) (7 : Int32).toNatClampNeg 30))) H := hat_n
  have hR := hR.kept oq
  have hP3 : mz_P false 3 (upd (upd (fun _ => 0) (5 : Int32).toNatClampNeg (-1)) (7 : Int32).toNatClampNeg 30) := mz_r3 (I := 7) hP3 (by decide) (by decide) (by decide) (fun e => by cases e) (by have h9 : (30 : Int32).toInt = 30 := (by decide); unfold mE; omega)
  refine lv_aload_n hx hb dX13_init_457 rfl (lv_at hl 0 rfl) ?_
  refine va_get (ci := 13) (C := RX13) (T := TX13) (N := 70) hx hb htl inX13 hown hK.1 (tk_one hat_a0) 0 rfl rfl 3 (by decide) (htl _ mw_188) (fun _ h9 => h9) rfl dX13_init_458 ?_
  refine lv_bipush (v := 8) hx hb dX13_init_461 (by decide) ?_
  refine lv_bipush (v := 50) hx hb dX13_init_463 (by decide) ?_
  refine rc_iast hx hb hK hat_3 (fx_in (by decide)) dX13_init_465 (fun H j9 hat_n z9 oq => ?_)
  have hS := hS.put (k := j9) z9 oq (by show K + 1 = _ ∨ _ ≤ K + 1; omega)
  have hat_a0 : va_at D vwCl (a0, .inr (13, [.int 0, .int 0, .ref K, .ref (K + 1), .ref (K + 2), .ref (K + 3), .ref (K + 4), .ref (K + 5), .int 0, .ref (K + 6), .ref (K + 7), .int 0, .ref (K + 8), .int 0, .int 0, .int 0, .int 0, .long 0, .int (-1), .int 0, .int 0, .int 0, .ref (K + 9), .int 0, .ref (K + 10), .ref (K + 11), .int 0, .ref (K + 12), .ref (K + 13), .int 0, .int 0, .ref (K + 14), .ref (K + 15), .ref (K + 16), .int 0, .ref (K + 17), .ref (K + 18), .ref (K + 19), .int 0, .long 0, .long 0, .int 0, .ref (K + 20), .ref (K + 21), .ref (K + 22), .ref (K + 23), .ref (K + 24), .long 0, .ref (K + 25), .ref (K + 26), .ref (K + 27), .ref (K + 28), .ref (K + 29), .int 0, .int 0, .ref (K + 30), .ref (K + 31), .int 0, .int 0, .ref (K + 32), .int 0, .ref (K + 33), .int 0, .int 0, .int (-1), .int 0, .ref (K + 34), .ref (K + 35), .ref (K + 36), .int (-1)])) H := hat_a0.kept (oq _ (by show a0 ≠ K + 1; omega))
  have hat_3 : va_at D vwCl (mr_ad K 3, .inl (cy 0, 5560, .inl (upd (upd (upd (fun _ => 0) (5 : Int32).toNatClampNeg (-1)) (7 : Int32).toNatClampNeg 30) (8 : Int32).toNatClampNeg 50))) H := hat_n
  have hR := hR.kept oq
  have hP3 : mz_P false 3 (upd (upd (upd (fun _ => 0) (5 : Int32).toNatClampNeg (-1)) (7 : Int32).toNatClampNeg 30) (8 : Int32).toNatClampNeg 50) := mz_r3 (I := 8) hP3 (by decide) (by decide) (by decide) (fun e => by cases e) (by have h9 : (50 : Int32).toInt = 50 := (by decide); unfold mE; omega)
  refine lv_aload_n hx hb dX13_init_466 rfl (lv_at hl 0 rfl) ?_
  refine va_get (ci := 13) (C := RX13) (T := TX13) (N := 70) hx hb htl inX13 hown hK.1 (tk_one hat_a0) 0 rfl rfl 3 (by decide) (htl _ mw_188) (fun _ h9 => h9) rfl dX13_init_467 ?_
  refine lv_bipush (v := 10) hx hb dX13_init_470 (by decide) ?_
  refine lv_bipush (v := 100) hx hb dX13_init_472 (by decide) ?_
  refine rc_iast hx hb hK hat_3 (fx_in (by decide)) dX13_init_474 (fun H j9 hat_n z9 oq => ?_)
  have hS := hS.put (k := j9) z9 oq (by show K + 1 = _ ∨ _ ≤ K + 1; omega)
  have hat_a0 : va_at D vwCl (a0, .inr (13, [.int 0, .int 0, .ref K, .ref (K + 1), .ref (K + 2), .ref (K + 3), .ref (K + 4), .ref (K + 5), .int 0, .ref (K + 6), .ref (K + 7), .int 0, .ref (K + 8), .int 0, .int 0, .int 0, .int 0, .long 0, .int (-1), .int 0, .int 0, .int 0, .ref (K + 9), .int 0, .ref (K + 10), .ref (K + 11), .int 0, .ref (K + 12), .ref (K + 13), .int 0, .int 0, .ref (K + 14), .ref (K + 15), .ref (K + 16), .int 0, .ref (K + 17), .ref (K + 18), .ref (K + 19), .int 0, .long 0, .long 0, .int 0, .ref (K + 20), .ref (K + 21), .ref (K + 22), .ref (K + 23), .ref (K + 24), .long 0, .ref (K + 25), .ref (K + 26), .ref (K + 27), .ref (K + 28), .ref (K + 29), .int 0, .int 0, .ref (K + 30), .ref (K + 31), .int 0, .int 0, .ref (K + 32), .int 0, .ref (K + 33), .int 0, .int 0, .int (-1), .int 0, .ref (K + 34), .ref (K + 35), .ref (K + 36), .int (-1)])) H := hat_a0.kept (oq _ (by show a0 ≠ K + 1; omega))
  have hat_3 : va_at D vwCl (mr_ad K 3, .inl (cy 0, 5560, .inl (upd (upd (upd (upd (fun _ => 0) (5 : Int32).toNatClampNeg (-1)) (7 : Int32).toNatClampNeg 30) (8 : Int32).toNatClampNeg 50) (10 : Int32).toNatClampNeg 100))) H := hat_n
  have hR := hR.kept oq
  have hP3 : mz_P false 3 (upd (upd (upd (upd (fun _ => 0) (5 : Int32).toNatClampNeg (-1)) (7 : Int32).toNatClampNeg 30) (8 : Int32).toNatClampNeg 50) (10 : Int32).toNatClampNeg 100) := mz_r3 (I := 10) hP3 (by decide) (by decide) (by decide) (fun e => by cases e) (by have h9 : (100 : Int32).toInt = 100 := (by decide); unfold mE; omega)
  refine lv_aload_n hx hb dX13_init_475 rfl (lv_at hl 0 rfl) ?_
  refine va_get (ci := 13) (C := RX13) (T := TX13) (N := 70) hx hb htl inX13 hown hK.1 (tk_one hat_a0) 0 rfl rfl 3 (by decide) (htl _ mw_188) (fun _ h9 => h9) rfl dX13_init_476 ?_
  refine lv_bipush (v := 11) hx hb dX13_init_479 (by decide) ?_
  refine lv_bipush (v := 100) hx hb dX13_init_481 (by decide) ?_
  refine rc_iast hx hb hK hat_3 (fx_in (by decide)) dX13_init_483 (fun H j9 hat_n z9 oq => ?_)
  have hS := hS.put (k := j9) z9 oq (by show K + 1 = _ ∨ _ ≤ K + 1; omega)
  have hat_a0 : va_at D vwCl (a0, .inr (13, [.int 0, .int 0, .ref K, .ref (K + 1), .ref (K + 2), .ref (K + 3), .ref (K + 4), .ref (K + 5), .int 0, .ref (K + 6), .ref (K + 7), .int 0, .ref (K + 8), .int 0, .int 0, .int 0, .int 0, .long 0, .int (-1), .int 0, .int 0, .int 0, .ref (K + 9), .int 0, .ref (K + 10), .ref (K + 11), .int 0, .ref (K + 12), .ref (K + 13), .int 0, .int 0, .ref (K + 14), .ref (K + 15), .ref (K + 16), .int 0, .ref (K + 17), .ref (K + 18), .ref (K + 19), .int 0, .long 0, .long 0, .int 0, .ref (K + 20), .ref (K + 21), .ref (K + 22), .ref (K + 23), .ref (K + 24), .long 0, .ref (K + 25), .ref (K + 26), .ref (K + 27), .ref (K + 28), .ref (K + 29), .int 0, .int 0, .ref (K + 30), .ref (K + 31), .int 0, .int 0, .ref (K + 32), .int 0, .ref (K + 33), .int 0, .int 0, .int (-1), .int 0, .ref (K + 34), .ref (K + 35), .ref (K + 36), .int (-1)])) H := hat_a0.kept (oq _ (by show a0 ≠ K + 1; omega))
  have hat_3 : va_at D vwCl (mr_ad K 3, .inl (cy 0, 5560, .inl (upd (upd (upd (upd (upd (fun _ => 0) (5 : Int32).toNatClampNeg (-1)) (7 : Int32).toNatClampNeg 30) (8 : Int32).toNatClampNeg 50) (10 : Int32).toNatClampNeg 100) (11 : Int32).toNatClampNeg 100))) H := hat_n
  have hR := hR.kept oq
  have hP3 : mz_P false 3 (upd (upd (upd (upd (upd (fun _ => 0) (5 : Int32).toNatClampNeg (-1)) (7 : Int32).toNatClampNeg 30) (8 : Int32).toNatClampNeg 50) (10 : Int32).toNatClampNeg 100) (11 : Int32).toNatClampNeg 100) := mz_r3 (I := 11) hP3 (by decide) (by decide) (by decide) (fun e => by cases e) (by have h9 : (100 : Int32).toInt = 100 := (by decide); unfold mE; omega)
  refine lv_aload_n hx hb dX13_init_484 rfl (lv_at hl 0 rfl) ?_
  have hat_m : va_at D vwCl (a0, .inr (13, mz_fs (mr_ad K) mr_F (fun _ => 0))) H := by rw [mr_fs]; exact hat_a0
  have hM := mr_mk hat_m hat_3 hR
  refine mz_VvA (As := []) (rest := []) ⟨hx, hb, hml, hown, hts⟩ hK hM hS (fun q h => by
      show q = a0 ∨ K ≤ q
      rcases h with h | ⟨k, -, -, h⟩
      · exact Or.inl h
      · right; rw [h]; unfold mr_ad; omega) (k_X13_endDuel l D cy ld (mr_ad K) a0 (mr_D hbn) _ _ _ _ mr_IF (show mz_IG (fun _ => 0) from ⟨by decide, by decide⟩) (mr_IR hP3)) ⟨callB_of 0 hts (wl_in mw_248) rfl rfl rfl (htl _ mw_5) (htl _ mw_245) hd_yX13_endDuel ⟨(Nat.le_of_ble_eq_true rfl), (Nat.le_of_ble_eq_true rfl)⟩, htl _ mw_246, htl _ mw_247⟩ rfl hl.1 rfl (Nat.le_of_ble_eq_true rfl) dX13_init_485 ⟨(Nat.le_of_ble_eq_true rfl), (Nat.le_of_ble_eq_true rfl)⟩ (fun H locs F G R S hpo hM hS _ _ => ?_)
  obtain ⟨hIF, hIG, hIR, hfr9, hrr9, -, hrel9, -⟩ := hpo
  exact mr_vret hx hb hr hlocks hM hIF hIG hIR (fun k => hfr9 k (fun h => by cases h)) (fun k h => (hrr9 k (fun h9 => h (List.mem_singleton.mp h9))).trans (by unfold mr_R; rw [if_neg h])) (show rK2 (mr_R mr_f3 3) (R 3) from hrel9) hS dX13_init_488
