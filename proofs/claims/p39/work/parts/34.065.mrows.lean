theorem hd_yX13_reckon : yX13_reckon.cls ≠ "java/lang/invoke/MethodHandle" ∧ yX13_reckon.cls ≠ "java/lang/invoke/VarHandle" ∧ (parseMethodDescriptor yX13_reckon.desc).map (fun d => d.parameters.length) = some 3 := by decide +kernel
theorem dX13_reckonAll_0 : decode cX13_reckonAll 0 = .ok (.aload_n 0, 1) := by decide +kernel
theorem dX13_reckonAll_1 : decode cX13_reckonAll 1 = .ok (.iconst 0, 1) := by decide +kernel
theorem dX13_reckonAll_2 : decode cX13_reckonAll 2 = .ok (.putfield 386, 3) := by decide +kernel
theorem dX13_reckonAll_5 : decode cX13_reckonAll 5 = .ok (.iconst 0, 1) := by decide +kernel
theorem dX13_reckonAll_6 : decode cX13_reckonAll 6 = .ok (.istore_n 3, 1) := by decide +kernel
theorem dX13_reckonAll_7 : decode cX13_reckonAll 7 = .ok (.iload_n 1, 1) := by decide +kernel
theorem dX13_reckonAll_8 : decode cX13_reckonAll 8 = .ok (.istore 4, 2) := by decide +kernel
theorem dX13_reckonAll_10 : decode cX13_reckonAll 10 = .ok (.iload 4, 2) := by decide +kernel
theorem dX13_reckonAll_12 : decode cX13_reckonAll 12 = .ok (.iload_n 2, 1) := by decide +kernel
theorem dX13_reckonAll_350 : decode cX13_reckonAll 350 = .ok (.aload_n 0, 1) := by decide +kernel
theorem dX13_reckonAll_351 : decode cX13_reckonAll 351 = .ok (.iload_n 3, 1) := by decide +kernel
theorem dX13_reckonAll_365 : decode cX13_reckonAll 365 = .ok (.putfield 400, 3) := by decide +kernel
theorem dX13_reckonAll_368 : decode cX13_reckonAll 368 = .ok (.return_, 1) := by decide +kernel
theorem dX13_reckonAll_352 : decode cX13_reckonAll 352 = .ok (.ifCond .le 12, 3) := by decide +kernel
theorem dX13_reckonAll_364 : decode cX13_reckonAll 364 = .ok (.lconst 0, 1) := by decide +kernel
theorem dX13_reckonAll_355 : decode cX13_reckonAll 355 = .ok (.aload_n 0, 1) := by decide +kernel
theorem dX13_reckonAll_356 : decode cX13_reckonAll 356 = .ok (.getfield 107, 3) := by decide +kernel
theorem dX13_reckonAll_359 : decode cX13_reckonAll 359 = .ok (.iconst 0, 1) := by decide +kernel
theorem dX13_reckonAll_360 : decode cX13_reckonAll 360 = .ok (.laload, 1) := by decide +kernel
theorem dX13_reckonAll_361 : decode cX13_reckonAll 361 = .ok (.goto 4, 3) := by decide +kernel
theorem dX13_reckonAll_13 : decode cX13_reckonAll 13 = .ok (.if_icmp .ge 337, 3) := by decide +kernel
theorem dX13_reckonAll_16 : decode cX13_reckonAll 16 = .ok (.aload_n 0, 1) := by decide +kernel
theorem dX13_reckonAll_17 : decode cX13_reckonAll 17 = .ok (.getfield 386, 3) := by decide +kernel
theorem dX13_reckonAll_20 : decode cX13_reckonAll 20 = .ok (.ifCond .ne 330, 3) := by decide +kernel
theorem dX13_reckonAll_23 : decode cX13_reckonAll 23 = .ok (.aload_n 0, 1) := by decide +kernel
theorem dX13_reckonAll_24 : decode cX13_reckonAll 24 = .ok (.getfield 315, 3) := by decide +kernel
theorem dX13_reckonAll_27 : decode cX13_reckonAll 27 = .ok (.ifCond .eq 13, 3) := by decide +kernel
theorem dX13_reckonAll_40 : decode cX13_reckonAll 40 = .ok (.aload_n 0, 1) := by decide +kernel
theorem dX13_reckonAll_41 : decode cX13_reckonAll 41 = .ok (.getfield 13, 3) := by decide +kernel
theorem dX13_reckonAll_44 : decode cX13_reckonAll 44 = .ok (.aload_n 0, 1) := by decide +kernel
theorem dX13_reckonAll_45 : decode cX13_reckonAll 45 = .ok (.getfield 389, 3) := by decide +kernel
theorem dX13_reckonAll_48 : decode cX13_reckonAll 48 = .ok (.bipush 98, 2) := by decide +kernel
theorem dX13_reckonAll_50 : decode cX13_reckonAll 50 = .ok (.iadd, 1) := by decide +kernel
theorem dX13_reckonAll_51 : decode cX13_reckonAll 51 = .ok (.iconst 2, 1) := by decide +kernel
theorem dX13_reckonAll_52 : decode cX13_reckonAll 52 = .ok (.iload 4, 2) := by decide +kernel
theorem dX13_reckonAll_54 : decode cX13_reckonAll 54 = .ok (.imul, 1) := by decide +kernel
theorem dX13_reckonAll_55 : decode cX13_reckonAll 55 = .ok (.iadd, 1) := by decide +kernel
theorem dX13_reckonAll_56 : decode cX13_reckonAll 56 = .ok (.iaload, 1) := by decide +kernel
theorem dX13_reckonAll_57 : decode cX13_reckonAll 57 = .ok (.istore 5, 2) := by decide +kernel
theorem dX13_reckonAll_59 : decode cX13_reckonAll 59 = .ok (.aload_n 0, 1) := by decide +kernel
theorem dX13_reckonAll_60 : decode cX13_reckonAll 60 = .ok (.getfield 315, 3) := by decide +kernel
theorem dX13_reckonAll_63 : decode cX13_reckonAll 63 = .ok (.ifCond .eq 13, 3) := by decide +kernel
theorem dX13_reckonAll_76 : decode cX13_reckonAll 76 = .ok (.aload_n 0, 1) := by decide +kernel
theorem dX13_reckonAll_77 : decode cX13_reckonAll 77 = .ok (.getfield 13, 3) := by decide +kernel
theorem dX13_reckonAll_80 : decode cX13_reckonAll 80 = .ok (.aload_n 0, 1) := by decide +kernel
theorem dX13_reckonAll_81 : decode cX13_reckonAll 81 = .ok (.getfield 389, 3) := by decide +kernel
theorem dX13_reckonAll_84 : decode cX13_reckonAll 84 = .ok (.bipush 98, 2) := by decide +kernel
theorem dX13_reckonAll_86 : decode cX13_reckonAll 86 = .ok (.iadd, 1) := by decide +kernel
theorem dX13_reckonAll_87 : decode cX13_reckonAll 87 = .ok (.iconst 2, 1) := by decide +kernel
theorem dX13_reckonAll_88 : decode cX13_reckonAll 88 = .ok (.iload 4, 2) := by decide +kernel
theorem dX13_reckonAll_90 : decode cX13_reckonAll 90 = .ok (.imul, 1) := by decide +kernel
theorem dX13_reckonAll_91 : decode cX13_reckonAll 91 = .ok (.iadd, 1) := by decide +kernel
theorem dX13_reckonAll_92 : decode cX13_reckonAll 92 = .ok (.iconst 1, 1) := by decide +kernel
theorem dX13_reckonAll_93 : decode cX13_reckonAll 93 = .ok (.iadd, 1) := by decide +kernel
theorem dX13_reckonAll_94 : decode cX13_reckonAll 94 = .ok (.iaload, 1) := by decide +kernel
theorem dX13_reckonAll_95 : decode cX13_reckonAll 95 = .ok (.istore 6, 2) := by decide +kernel
theorem dX13_reckonAll_97 : decode cX13_reckonAll 97 = .ok (.iinc 4 1, 3) := by decide +kernel
theorem dX13_reckonAll_100 : decode cX13_reckonAll 100 = .ok (.iload 5, 2) := by decide +kernel
theorem dX13_reckonAll_102 : decode cX13_reckonAll 102 = .ok (.bipush 20, 2) := by decide +kernel
theorem dX13_reckonAll_104 : decode cX13_reckonAll 104 = .ok (.if_icmp .ge 104, 3) := by decide +kernel
theorem dX13_reckonAll_208 : decode cX13_reckonAll 208 = .ok (.iload 5, 2) := by decide +kernel
theorem dX13_reckonAll_210 : decode cX13_reckonAll 210 = .ok (.bipush 28, 2) := by decide +kernel
theorem dX13_reckonAll_212 : decode cX13_reckonAll 212 = .ok (.if_icmp .ge 73, 3) := by decide +kernel
theorem dX13_reckonAll_285 : decode cX13_reckonAll 285 = .ok (.iload 5, 2) := by decide +kernel
theorem dX13_reckonAll_287 : decode cX13_reckonAll 287 = .ok (.bipush 28, 2) := by decide +kernel
theorem dX13_reckonAll_289 : decode cX13_reckonAll 289 = .ok (.if_icmp .ne 24, 3) := by decide +kernel
theorem dX13_reckonAll_313 : decode cX13_reckonAll 313 = .ok (.aload_n 0, 1) := by decide +kernel
theorem dX13_reckonAll_314 : decode cX13_reckonAll 314 = .ok (.getfield 107, 3) := by decide +kernel
theorem dX13_reckonAll_317 : decode cX13_reckonAll 317 = .ok (.iload_n 3, 1) := by decide +kernel
theorem dX13_reckonAll_318 : decode cX13_reckonAll 318 = .ok (.iconst 1, 1) := by decide +kernel
theorem dX13_reckonAll_319 : decode cX13_reckonAll 319 = .ok (.isub, 1) := by decide +kernel
theorem dX13_reckonAll_320 : decode cX13_reckonAll 320 = .ok (.laload, 1) := by decide +kernel
theorem dX13_reckonAll_321 : decode cX13_reckonAll 321 = .ok (.iload 5, 2) := by decide +kernel
theorem dX13_reckonAll_323 : decode cX13_reckonAll 323 = .ok (.bipush 29, 2) := by decide +kernel
theorem dX13_reckonAll_325 : decode cX13_reckonAll 325 = .ok (.if_icmp .ne 7, 3) := by decide +kernel
theorem dX13_reckonAll_332 : decode cX13_reckonAll 332 = .ok (.lconst 1, 1) := by decide +kernel
theorem dX13_reckonAll_333 : decode cX13_reckonAll 333 = .ok (.lcmp, 1) := by decide +kernel
theorem dX13_reckonAll_334 : decode cX13_reckonAll 334 = .ok (.ifCond .ne 10, 3) := by decide +kernel
theorem dX13_reckonAll_344 : decode cX13_reckonAll 344 = .ok (.iinc 3 (-1), 3) := by decide +kernel
theorem dX13_reckonAll_347 : decode cX13_reckonAll 347 = .ok (.goto (-337), 3) := by decide +kernel
theorem dX13_reckonAll_337 : decode cX13_reckonAll 337 = .ok (.iload 6, 2) := by decide +kernel
theorem dX13_reckonAll_339 : decode cX13_reckonAll 339 = .ok (.istore 4, 2) := by decide +kernel
theorem dX13_reckonAll_341 : decode cX13_reckonAll 341 = .ok (.goto 6, 3) := by decide +kernel
theorem dX13_reckonAll_328 : decode cX13_reckonAll 328 = .ok (.lconst 0, 1) := by decide +kernel
theorem dX13_reckonAll_329 : decode cX13_reckonAll 329 = .ok (.goto 4, 3) := by decide +kernel
theorem dX13_reckonAll_292 : decode cX13_reckonAll 292 = .ok (.aload_n 0, 1) := by decide +kernel
theorem dX13_reckonAll_293 : decode cX13_reckonAll 293 = .ok (.getfield 107, 3) := by decide +kernel
theorem dX13_reckonAll_296 : decode cX13_reckonAll 296 = .ok (.iload_n 3, 1) := by decide +kernel
theorem dX13_reckonAll_297 : decode cX13_reckonAll 297 = .ok (.iconst 1, 1) := by decide +kernel
theorem dX13_reckonAll_298 : decode cX13_reckonAll 298 = .ok (.isub, 1) := by decide +kernel
theorem dX13_reckonAll_299 : decode cX13_reckonAll 299 = .ok (.lconst 1, 1) := by decide +kernel
theorem dX13_reckonAll_300 : decode cX13_reckonAll 300 = .ok (.aload_n 0, 1) := by decide +kernel
theorem dX13_reckonAll_301 : decode cX13_reckonAll 301 = .ok (.getfield 107, 3) := by decide +kernel
theorem dX13_reckonAll_304 : decode cX13_reckonAll 304 = .ok (.iload_n 3, 1) := by decide +kernel
theorem dX13_reckonAll_305 : decode cX13_reckonAll 305 = .ok (.iconst 1, 1) := by decide +kernel
theorem dX13_reckonAll_306 : decode cX13_reckonAll 306 = .ok (.isub, 1) := by decide +kernel
theorem dX13_reckonAll_307 : decode cX13_reckonAll 307 = .ok (.laload, 1) := by decide +kernel
theorem dX13_reckonAll_308 : decode cX13_reckonAll 308 = .ok (.lsub, 1) := by decide +kernel
theorem dX13_reckonAll_309 : decode cX13_reckonAll 309 = .ok (.lastore, 1) := by decide +kernel
theorem dX13_reckonAll_310 : decode cX13_reckonAll 310 = .ok (.goto 37, 3) := by decide +kernel
theorem dX13_reckonAll_215 : decode cX13_reckonAll 215 = .ok (.iinc 3 (-1), 3) := by decide +kernel
theorem dX13_reckonAll_218 : decode cX13_reckonAll 218 = .ok (.aload_n 0, 1) := by decide +kernel
theorem dX13_reckonAll_219 : decode cX13_reckonAll 219 = .ok (.getfield 107, 3) := by decide +kernel
theorem dX13_reckonAll_222 : decode cX13_reckonAll 222 = .ok (.iload_n 3, 1) := by decide +kernel
theorem dX13_reckonAll_223 : decode cX13_reckonAll 223 = .ok (.iconst 1, 1) := by decide +kernel
theorem dX13_reckonAll_224 : decode cX13_reckonAll 224 = .ok (.isub, 1) := by decide +kernel
theorem dX13_reckonAll_225 : decode cX13_reckonAll 225 = .ok (.aload_n 0, 1) := by decide +kernel
theorem dX13_reckonAll_226 : decode cX13_reckonAll 226 = .ok (.iload 5, 2) := by decide +kernel
theorem dX13_reckonAll_228 : decode cX13_reckonAll 228 = .ok (.aload_n 0, 1) := by decide +kernel
theorem dX13_reckonAll_229 : decode cX13_reckonAll 229 = .ok (.getfield 107, 3) := by decide +kernel
theorem dX13_reckonAll_232 : decode cX13_reckonAll 232 = .ok (.iload_n 3, 1) := by decide +kernel
theorem dX13_reckonAll_233 : decode cX13_reckonAll 233 = .ok (.iconst 1, 1) := by decide +kernel
theorem dX13_reckonAll_234 : decode cX13_reckonAll 234 = .ok (.isub, 1) := by decide +kernel
theorem dX13_reckonAll_235 : decode cX13_reckonAll 235 = .ok (.laload, 1) := by decide +kernel
theorem dX13_reckonAll_236 : decode cX13_reckonAll 236 = .ok (.aload_n 0, 1) := by decide +kernel
theorem dX13_reckonAll_237 : decode cX13_reckonAll 237 = .ok (.getfield 107, 3) := by decide +kernel
theorem dX13_reckonAll_240 : decode cX13_reckonAll 240 = .ok (.iload_n 3, 1) := by decide +kernel
theorem dX13_reckonAll_241 : decode cX13_reckonAll 241 = .ok (.laload, 1) := by decide +kernel
theorem dX13_reckonAll_242 : decode cX13_reckonAll 242 = .ok (.invokevirtual 392, 3) := by decide +kernel
theorem dX13_reckonAll_245 : decode cX13_reckonAll 245 = .ok (.lastore, 1) := by decide +kernel
theorem dX13_reckonAll_246 : decode cX13_reckonAll 246 = .ok (.aload_n 0, 1) := by decide +kernel
theorem dX13_reckonAll_247 : decode cX13_reckonAll 247 = .ok (.aload_n 0, 1) := by decide +kernel
theorem dX13_reckonAll_248 : decode cX13_reckonAll 248 = .ok (.getfield 386, 3) := by decide +kernel
theorem dX13_reckonAll_251 : decode cX13_reckonAll 251 = .ok (.ifCond .ne 23, 3) := by decide +kernel
theorem dX13_reckonAll_274 : decode cX13_reckonAll 274 = .ok (.iconst 1, 1) := by decide +kernel
theorem dX13_reckonAll_275 : decode cX13_reckonAll 275 = .ok (.goto 4, 3) := by decide +kernel
theorem dX13_reckonAll_279 : decode cX13_reckonAll 279 = .ok (.putfield 386, 3) := by decide +kernel
theorem dX13_reckonAll_282 : decode cX13_reckonAll 282 = .ok (.goto 65, 3) := by decide +kernel
theorem dX13_reckonAll_254 : decode cX13_reckonAll 254 = .ok (.aload_n 0, 1) := by decide +kernel
theorem dX13_reckonAll_255 : decode cX13_reckonAll 255 = .ok (.getfield 107, 3) := by decide +kernel
theorem dX13_reckonAll_258 : decode cX13_reckonAll 258 = .ok (.iload_n 3, 1) := by decide +kernel
theorem dX13_reckonAll_259 : decode cX13_reckonAll 259 = .ok (.iconst 1, 1) := by decide +kernel
theorem dX13_reckonAll_260 : decode cX13_reckonAll 260 = .ok (.isub, 1) := by decide +kernel
theorem dX13_reckonAll_261 : decode cX13_reckonAll 261 = .ok (.laload, 1) := by decide +kernel
theorem dX13_reckonAll_262 : decode cX13_reckonAll 262 = .ok (.ldc2_w 396, 3) := by decide +kernel
theorem dX13_reckonAll_265 : decode cX13_reckonAll 265 = .ok (.ldc2_w 398, 3) := by decide +kernel
theorem dX13_reckonAll_268 : decode cX13_reckonAll 268 = .ok (.invokestatic 190, 3) := by decide +kernel
theorem dX13_reckonAll_271 : decode cX13_reckonAll 271 = .ok (.ifCond .ne 7, 3) := by decide +kernel
theorem dX13_reckonAll_278 : decode cX13_reckonAll 278 = .ok (.iconst 0, 1) := by decide +kernel
theorem dX13_reckonAll_107 : decode cX13_reckonAll 107 = .ok (.aload_n 0, 1) := by decide +kernel
theorem dX13_reckonAll_108 : decode cX13_reckonAll 108 = .ok (.getfield 107, 3) := by decide +kernel
theorem dX13_reckonAll_111 : decode cX13_reckonAll 111 = .ok (.iload_n 3, 1) := by decide +kernel
theorem dX13_reckonAll_112 : decode cX13_reckonAll 112 = .ok (.iload 5, 2) := by decide +kernel
theorem dX13_reckonAll_114 : decode cX13_reckonAll 114 = .ok (.ifCond .ne 9, 3) := by decide +kernel
theorem dX13_reckonAll_123 : decode cX13_reckonAll 123 = .ok (.aload_n 0, 1) := by decide +kernel
theorem dX13_reckonAll_124 : decode cX13_reckonAll 124 = .ok (.getfield 315, 3) := by decide +kernel
theorem dX13_reckonAll_127 : decode cX13_reckonAll 127 = .ok (.ifCond .ne 13, 3) := by decide +kernel
theorem dX13_reckonAll_130 : decode cX13_reckonAll 130 = .ok (.aload_n 0, 1) := by decide +kernel
theorem dX13_reckonAll_131 : decode cX13_reckonAll 131 = .ok (.getfield 101, 3) := by decide +kernel
theorem dX13_reckonAll_134 : decode cX13_reckonAll 134 = .ok (.iload 5, 2) := by decide +kernel
theorem dX13_reckonAll_136 : decode cX13_reckonAll 136 = .ok (.laload, 1) := by decide +kernel
theorem dX13_reckonAll_137 : decode cX13_reckonAll 137 = .ok (.goto 64, 3) := by decide +kernel
theorem dX13_reckonAll_201 : decode cX13_reckonAll 201 = .ok (.lastore, 1) := by decide +kernel
theorem dX13_reckonAll_202 : decode cX13_reckonAll 202 = .ok (.iinc 3 1, 3) := by decide +kernel
theorem dX13_reckonAll_205 : decode cX13_reckonAll 205 = .ok (.goto 142, 3) := by decide +kernel
theorem dX13_reckonAll_117 : decode cX13_reckonAll 117 = .ok (.iload 6, 2) := by decide +kernel
theorem dX13_reckonAll_119 : decode cX13_reckonAll 119 = .ok (.i2l, 1) := by decide +kernel
theorem dX13_reckonAll_120 : decode cX13_reckonAll 120 = .ok (.goto 81, 3) := by decide +kernel
theorem dX13_reckonAll_30 : decode cX13_reckonAll 30 = .ok (.aload_n 0, 1) := by decide +kernel
theorem dX13_reckonAll_31 : decode cX13_reckonAll 31 = .ok (.getfield 45, 3) := by decide +kernel
theorem dX13_reckonAll_34 : decode cX13_reckonAll 34 = .ok (.iload 4, 2) := by decide +kernel
theorem dX13_reckonAll_36 : decode cX13_reckonAll 36 = .ok (.iaload, 1) := by decide +kernel
theorem dX13_reckonAll_37 : decode cX13_reckonAll 37 = .ok (.goto 20, 3) := by decide +kernel
theorem dX13_reckonAll_66 : decode cX13_reckonAll 66 = .ok (.aload_n 0, 1) := by decide +kernel
theorem dX13_reckonAll_67 : decode cX13_reckonAll 67 = .ok (.getfield 48, 3) := by decide +kernel
theorem dX13_reckonAll_70 : decode cX13_reckonAll 70 = .ok (.iload 4, 2) := by decide +kernel
theorem dX13_reckonAll_72 : decode cX13_reckonAll 72 = .ok (.iaload, 1) := by decide +kernel
theorem dX13_reckonAll_73 : decode cX13_reckonAll 73 = .ok (.goto 22, 3) := by decide +kernel
theorem dX13_reckonAll_140 : decode cX13_reckonAll 140 = .ok (.iload 5, 2) := by decide +kernel
theorem dX13_reckonAll_142 : decode cX13_reckonAll 142 = .ok (.bipush 6, 2) := by decide +kernel
theorem dX13_reckonAll_144 : decode cX13_reckonAll 144 = .ok (.if_icmp .ge 13, 3) := by decide +kernel
theorem dX13_reckonAll_157 : decode cX13_reckonAll 157 = .ok (.iload 5, 2) := by decide +kernel
theorem dX13_reckonAll_159 : decode cX13_reckonAll 159 = .ok (.bipush 6, 2) := by decide +kernel
theorem dX13_reckonAll_161 : decode cX13_reckonAll 161 = .ok (.if_icmp .eq 17, 3) := by decide +kernel
theorem dX13_reckonAll_178 : decode cX13_reckonAll 178 = .ok (.aload_n 0, 1) := by decide +kernel
theorem dX13_reckonAll_179 : decode cX13_reckonAll 179 = .ok (.iload 6, 2) := by decide +kernel
theorem dX13_reckonAll_181 : decode cX13_reckonAll 181 = .ok (.invokevirtual 201, 3) := by decide +kernel
theorem dX13_reckonAll_184 : decode cX13_reckonAll 184 = .ok (.ifCond .eq 14, 3) := by decide +kernel
theorem dX13_reckonAll_198 : decode cX13_reckonAll 198 = .ok (.ldc2_w 263, 3) := by decide +kernel
theorem dX13_reckonAll_187 : decode cX13_reckonAll 187 = .ok (.aload_n 0, 1) := by decide +kernel
theorem dX13_reckonAll_188 : decode cX13_reckonAll 188 = .ok (.iload 6, 2) := by decide +kernel
theorem dX13_reckonAll_190 : decode cX13_reckonAll 190 = .ok (.iconst 0, 1) := by decide +kernel
theorem dX13_reckonAll_191 : decode cX13_reckonAll 191 = .ok (.invokevirtual 207, 3) := by decide +kernel
theorem dX13_reckonAll_194 : decode cX13_reckonAll 194 = .ok (.i2l, 1) := by decide +kernel
theorem dX13_reckonAll_195 : decode cX13_reckonAll 195 = .ok (.goto 6, 3) := by decide +kernel
theorem dX13_reckonAll_164 : decode cX13_reckonAll 164 = .ok (.aload_n 0, 1) := by decide +kernel
theorem dX13_reckonAll_165 : decode cX13_reckonAll 165 = .ok (.getfield 13, 3) := by decide +kernel
theorem dX13_reckonAll_168 : decode cX13_reckonAll 168 = .ok (.bipush 10, 2) := by decide +kernel
theorem dX13_reckonAll_170 : decode cX13_reckonAll 170 = .ok (.iload 6, 2) := by decide +kernel
theorem dX13_reckonAll_172 : decode cX13_reckonAll 172 = .ok (.iadd, 1) := by decide +kernel
theorem dX13_reckonAll_173 : decode cX13_reckonAll 173 = .ok (.iaload, 1) := by decide +kernel
theorem dX13_reckonAll_174 : decode cX13_reckonAll 174 = .ok (.i2l, 1) := by decide +kernel
theorem dX13_reckonAll_175 : decode cX13_reckonAll 175 = .ok (.goto 26, 3) := by decide +kernel
theorem dX13_reckonAll_147 : decode cX13_reckonAll 147 = .ok (.aload_n 0, 1) := by decide +kernel
theorem dX13_reckonAll_148 : decode cX13_reckonAll 148 = .ok (.getfield 104, 3) := by decide +kernel
theorem dX13_reckonAll_151 : decode cX13_reckonAll 151 = .ok (.iload 5, 2) := by decide +kernel
theorem dX13_reckonAll_153 : decode cX13_reckonAll 153 = .ok (.laload, 1) := by decide +kernel
theorem dX13_reckonAll_154 : decode cX13_reckonAll 154 = .ok (.goto 47, 3) := by decide +kernel
set_option maxHeartbeats 4000000 in
set_option maxRecDepth 100000 in
theorem k_X13_reckonAll (l : Launch) (D : va_G) (cy : Nat → ClassId) (ld ad : Nat → Nat) (am : Nat) (hD : mz_D ad am) (Fa : Nat → Int32) (Ga : Nat → Int64) (Ra : Nat → Nat → Int32) (Sa : Nat → Nat → Int64) (p1 : Int32) (p2 : Int32) (go : Int32) (gl : Int32) (zo za : Nat → Int32) (hIF : mz_IF false Fa) (hIG : mz_IG Ga) (hIR : mz_IR [] true Ra) (hg_0 : Fa 20 = go) (hg_1 : Fa 34 = gl) (hx_0 : WFX zo za p1 p2) (hx_1 : go.toInt = 0 → ∀ j : Nat, j < 400 → Ra 3 (gl.toInt.toNat + 98 + 2 * j) = zo j ∧ Ra 3 (gl.toInt.toNat + 98 + 2 * j + 1) = za j) (hx_2 : go.toInt ≠ 0 → ∀ j : Nat, j < 400 → Ra 24 j = zo j ∧ Ra 25 j = za j) : Met l yX13_reckonAll (wl yX13_reckonAll cX13_reckonAll 7 none) ({ frames := 5, cells := 0, slots := 0, locals := 280 }) (mz_p D cy ld ad am Fa Ga Ra Sa [.ref am, .int p1, .int p2]) (mz_w D cy ad am (fun F G R S => mz_IF false F ∧ mz_IG G ∧ mz_IR [] true R ∧ (∀ k : Nat, k ∉ ([38] : List Nat) → F k = Fa k) ∧ (∀ k : Nat, k ∉ ([] : List Nat) → R k = Ra k) ∧ (∀ k : Nat, k ∉ ([39] : List Nat) → G k = Ga k))) 0 0 (mz_W ad am) := by
  refine mz_met (y := yX13_reckonAll) (cc := cX13_reckonAll) (maxL := 7) (ret := none) (av := [.ref am, .int p1, .int p2]) _ (by decide) (Nat.le_of_ble_eq_true rfl) ?_
  intro p e s m args below meth c hx hb hr hml hts htl hown hlocks hK H locs hM hS ls hl
  have hown : s.vm.findClass RX13 = some m.cls := hown
  have hl : lv_has ls 7 [(0, .ref am), (1, .int p1), (2, .int p2)] := hl
  have hr_p1 := tk_rng p1
  have hr_p2 := tk_rng p2
  have hq_go := tk_rng go
  have hq_gl := tk_rng gl
  have hr_go : 0 ≤ go.toInt ∧ go.toInt ≤ 1 := hIF.at hg_0
  have hr_gl : 0 ≤ gl.toInt ∧ gl.toInt ≤ 4660 := hIF.at hg_1
  have hw0 : 0 ≤ p1.toInt ∧ p1.toInt ≤ p2.toInt ∧ p2.toInt ≤ 400 := ⟨hx_0.1, hx_0.2.1, hx_0.2.2.1⟩
  refine lv_aload_n hx hb dX13_reckonAll_0 rfl (lv_at hl 0 rfl) ?_
  refine lv_iconst (v := 0) hx hb dX13_reckonAll_1 (by decide) ?_
  have hk_0 : (0 : Int32).toInt = 0 := by decide
  have hk_0 : (0 : Int32).toInt = 0 := by decide
  refine mz_putI (ty := .boolean) (x := 0) hx hb htl hown hK hD hM hS 38 (Nat.le_of_ble_eq_true rfl) rfl (htl _ mw_1051) (fun _ h9 => h9) rfl (tyX13_ok 38 (by decide)) rfl rfl dX13_reckonAll_2 (fun H locs F hM hS hf9 hj9 => ?_)
  have hIF := hIF.put hf9 hj9 (show 0 ≤ (0 : Int32).toInt by omega) (show (0 : Int32).toInt ≤ 1 by omega) (by decide)
  have hFF := mz_frp (K := [38]) (Fa := Fa) hj9 (fun _ _ => rfl) (by decide)
  have hg_0 := (hj9 20 (by decide)).trans hg_0
  have hg_1 := (hj9 34 (by decide)).trans hg_1
  have hf2 := hf9
  refine lv_iconst (v := 0) hx hb dX13_reckonAll_5 (by decide) ?_
  refine lv_istore_n (lv' := [(3, .int 0), (0, .ref am), (1, .int p1), (2, .int p2)]) hx hb dX13_reckonAll_6 rfl hl (by decide) rfl (fun ls hl => ?_)
  refine lv_iload_n hx hb dX13_reckonAll_7 rfl (lv_at hl 2 rfl) ?_
  refine lv_istore (lv' := [(4, .int p1), (3, .int 0), (0, .ref am), (1, .int p1), (2, .int p2)]) hx hb dX13_reckonAll_8 hl (by decide) rfl (fun ls hl => ?_)
  have hl2671 : ∀ (N_l2671 : Nat) (v571 : Int32) (v572 : Int32) (v573 : Int32) (H : Heap) (locs : List Loc) (F : Nat → Int32) (G : Nat → Int64) (R : Nat → Nat → Int32) (S : Nat → Nat → Int64), (0 ≤ v573.toInt) → (v573.toInt ≤ 1) → (0 ≤ v571.toInt + (-1) * v572.toInt) → (0 ≤ v572.toInt + (-1) * v573.toInt) → (0 ≤ (-1) * p1.toInt + v571.toInt) → (0 ≤ p2.toInt + (-1) * v571.toInt) → (mz_S D cy ad am F G R S H) → (va_S (mz_W ad am) s.heap H locs) → (mz_IF false F) → (mz_IG G) → (mz_IR [] true R) → (∀ k : Nat, k ∉ ([38] : List Nat) → F k = Fa k) → (∀ k : Nat, k ∉ ([39] : List Nat) → G k = Ga k) → (∀ k : Nat, k ∉ ([] : List Nat) → R k = Ra k) → (F 20 = go) → (F 34 = gl) → (F 38 = v573) → (v572.toInt = dl zo v571.toInt.toNat - dl zo p1.toInt.toNat) → ((-1) * v571.toInt + 400 < (N_l2671 : Int)) → ∀ ls : Array Slot, lv_has ls 7 [(4, .int v571), (3, .int v572), (0, .ref am), (2, .int p2)] → W p l e ({ frames := 5, cells := 0, slots := 0, locals := 280 }) s m args below meth c H locs 0 0 (MQ below (mz_w D cy ad am (fun F G R S => mz_IF false F ∧ mz_IG G ∧ mz_IR [] true R ∧ (∀ k : Nat, k ∉ ([38] : List Nat) → F k = Fa k) ∧ (∀ k : Nat, k ∉ ([] : List Nat) → R k = Ra k) ∧ (∀ k : Nat, k ∉ ([39] : List Nat) → G k = Ga k))) args s 0 0 (mz_W ad am)) (F0 m 10 ls []) := by
    intro N_l2671
    induction N_l2671 with
    | zero => intro v571 v572 v573 H locs F G R S hq0_l2671 hq1_l2671 hq2_l2671 hq3_l2671 hq4_l2671 hq5_l2671 hM hS hIF hIG hIR hFF hGG hRR hg_0 hg_1 hf2 hdl hm_l2671 ls hl; exfalso; omega
    | succ N_l2671 ih_l2671 =>
      intro v571 v572 v573 H locs F G R S hq0_l2671 hq1_l2671 hq2_l2671 hq3_l2671 hq4_l2671 hq5_l2671 hM hS hIF hIG hIR hFF hGG hRR hg_0 hg_1 hf2 hdl hm_l2671 ls hl
      refine lv_iload hx hb dX13_reckonAll_10 (lv_at hl 0 rfl) ?_
      refine lv_iload_n hx hb dX13_reckonAll_12 rfl (lv_at hl 3 rfl) ?_
      have hj2810 : ∀ (_ : Unit), ∀ ls : Array Slot, lv_has ls 7 [(3, .int v572), (0, .ref am)] → W p l e ({ frames := 5, cells := 0, slots := 0, locals := 280 }) s m args below meth c H locs 0 0 (MQ below (mz_w D cy ad am (fun F G R S => mz_IF false F ∧ mz_IG G ∧ mz_IR [] true R ∧ (∀ k : Nat, k ∉ ([38] : List Nat) → F k = Fa k) ∧ (∀ k : Nat, k ∉ ([] : List Nat) → R k = Ra k) ∧ (∀ k : Nat, k ∉ ([39] : List Nat) → G k = Ga k))) args s 0 0 (mz_W ad am)) (F0 m 350 ls []) := by
        intro _  ls hl
        refine lv_aload_n hx hb dX13_reckonAll_350 rfl (lv_at hl 1 rfl) ?_
        refine lv_iload_n hx hb dX13_reckonAll_351 rfl (lv_at hl 0 rfl) ?_
        have hj2815 : ∀ (v2814 : Int64), ∀ ls : Array Slot, lv_has ls 7 [] → W p l e ({ frames := 5, cells := 0, slots := 0, locals := 280 }) s m args below meth c H locs 0 0 (MQ below (mz_w D cy ad am (fun F G R S => mz_IF false F ∧ mz_IG G ∧ mz_IR [] true R ∧ (∀ k : Nat, k ∉ ([38] : List Nat) → F k = Fa k) ∧ (∀ k : Nat, k ∉ ([] : List Nat) → R k = Ra k) ∧ (∀ k : Nat, k ∉ ([39] : List Nat) → G k = Ga k))) args s 0 0 (mz_W ad am)) (F0 m 365 ls [.long v2814, .ref am]) := by
          intro v2814  ls hl
          refine mz_putJ (ty := .long) (x := v2814) hx hb htl hown hK hD hM hS 39 (Nat.le_of_ble_eq_true rfl) rfl (htl _ mw_1052) (fun _ h9 => h9) rfl (tyX13_ok 39 (by decide)) rfl rfl dX13_reckonAll_365 (fun H locs G hM hS hf9 hj9 => ?_)
          have hIG := hIG.put hj9 (by decide)
          have hGG := mz_frp (K := [39]) (Fa := Ga) hj9 hGG (by decide)
          have hf2817 := hf9
          exact mz_vret hx hb hr hlocks ⟨hIF, hIG, hIR, hFF, hRR, hGG⟩ hM hS dX13_reckonAll_368
        refine lv_if_le (tgt := 364) hx hb dX13_reckonAll_352 (by decide) (fun c9 => ?_) (fun c9 => ?_)
        · have hc2811 : v572.toInt ≤ 0 := (fi_le rfl (show (0 : Int32).toInt = 0 by decide)).mp c9
          refine lv_lconst (v := 0) hx hb dX13_reckonAll_364 (by decide) ?_
          have hk_0 : (0 : Int64).toInt = 0 := by decide
          exact hj2815 0 _ (lv_sub hl [] rfl)
        · have hc2811 : ¬ (v572.toInt ≤ 0) := fun h9 => c9 ((fi_le rfl (show (0 : Int32).toInt = 0 by decide)).mpr h9)
          refine lv_aload_n hx hb dX13_reckonAll_355 rfl (lv_at hl 1 rfl) ?_
          refine mz_getR hx hb htl hown hK hM 37 (Nat.le_of_ble_eq_true rfl) (Nat.le_of_ble_eq_true rfl) (htl _ mw_225) (fun _ h9 => h9) dX13_reckonAll_356 ?_
          refine lv_iconst (v := 0) hx hb dX13_reckonAll_359 (by decide) ?_
          refine mz_lald hx hb hK hM 37 (Nat.le_of_ble_eq_true rfl) rfl (nn := 400) rfl (I := 0) (by decide) (by decide) (by decide) dX13_reckonAll_360 (fun w2818 _ => ?_)
          refine lv_goto (tgt := 365) hx hb dX13_reckonAll_361 (by decide) ?_
          exact hj2815 w2818 _ (lv_sub hl [] rfl)
      refine lv_icmp_ge (tgt := 350) hx hb dX13_reckonAll_13 (by decide) (fun c9 => ?_) (fun c9 => ?_)
      · have hc2672 : p2.toInt ≤ v571.toInt := (fi_le rfl rfl).mp c9
        exact hj2810 () _ (lv_sub hl [1, 2] rfl)
      · have hc2672 : ¬ (p2.toInt ≤ v571.toInt) := fun h9 => c9 ((fi_le rfl rfl).mpr h9)
        refine lv_aload_n hx hb dX13_reckonAll_16 rfl (lv_at hl 2 rfl) ?_
        refine mz_getI hx hb htl hown hK hM 38 (Nat.le_of_ble_eq_true rfl) rfl (htl _ mw_1051) (fun _ h9 => h9) dX13_reckonAll_17 (fun v9 e9 => ?_)
        refine fx_ti (v := v573) (e9.symm.trans hf2) ?_
        refine lv_if_ne (tgt := 350) hx hb dX13_reckonAll_20 (by decide) (fun c9 => ?_) (fun c9 => ?_)
        · have hc2819 : ¬ (v573.toInt = 0) := fun h9 => c9 ((fi_eq rfl (show (0 : Int32).toInt = 0 by decide)).mpr h9)
          exact hj2810 () _ (lv_sub hl [1, 2] rfl)
        · have hc2819 : v573.toInt = 0 := (fi_eq rfl (show (0 : Int32).toInt = 0 by decide)).mp c9
          refine lv_aload_n hx hb dX13_reckonAll_23 rfl (lv_at hl 2 rfl) ?_
          refine mz_getI hx hb htl hown hK hM 20 (Nat.le_of_ble_eq_true rfl) rfl (htl _ mw_675) (fun _ h9 => h9) dX13_reckonAll_24 (fun v9 e9 => ?_)
          refine fx_ti (v := go) (e9.symm.trans hg_0) ?_
          refine lv_if_eq (tgt := 40) hx hb dX13_reckonAll_27 (by decide) (fun c9 => ?_) (fun c9 => ?_)
          · have hc2820 : go.toInt = 0 := (fi_eq rfl (show (0 : Int32).toInt = 0 by decide)).mp c9
            refine lv_aload_n hx hb dX13_reckonAll_40 rfl (lv_at hl 2 rfl) ?_
            refine mz_getR hx hb htl hown hK hM 3 (Nat.le_of_ble_eq_true rfl) (Nat.le_of_ble_eq_true rfl) (htl _ mw_188) (fun _ h9 => h9) dX13_reckonAll_41 ?_
            refine lv_aload_n hx hb dX13_reckonAll_44 rfl (lv_at hl 2 rfl) ?_
            refine mz_getI hx hb htl hown hK hM 34 (Nat.le_of_ble_eq_true rfl) rfl (htl _ mw_1057) (fun _ h9 => h9) dX13_reckonAll_45 (fun v9 e9 => ?_)
            refine fx_ti (v := gl) (e9.symm.trans hg_1) ?_
            refine lv_bipush (v := 98) hx hb dX13_reckonAll_48 (by decide) ?_
            refine lv_iadd hx hb dX13_reckonAll_50 ?_
            refine tk_add rfl (show (98 : Int32).toInt = 98 by decide) (by omega) (by omega) (fun v2821 h_v2821 => ?_)
            refine lv_iconst (v := 2) hx hb dX13_reckonAll_51 (by decide) ?_
            refine lv_iload hx hb dX13_reckonAll_52 (lv_at hl 0 rfl) ?_
            refine lv_imul hx hb dX13_reckonAll_54 ?_
            refine tk_mul (show (2 : Int32).toInt = 2 by decide) rfl (by omega) (by omega) (fun v2822 h_v2822 => ?_)
            refine lv_iadd hx hb dX13_reckonAll_55 ?_
            refine tk_add rfl rfl (by omega) (by omega) (fun v2823 h_v2823 => ?_)
            refine mz_iald hx hb hK hM 3 (Nat.le_of_ble_eq_true rfl) rfl (nn := 5560) rfl rfl (by omega) (by omega) dX13_reckonAll_56 (fun v2824 e_v2824 => ?_)
            have hq_v2824 := tk_rng v2824
            refine lv_istore (lv' := [(5, .int v2824), (4, .int v571), (3, .int v572), (0, .ref am), (2, .int p2)]) hx hb dX13_reckonAll_57 hl (by decide) rfl (fun ls hl => ?_)
            refine lv_aload_n hx hb dX13_reckonAll_59 rfl (lv_at hl 3 rfl) ?_
            refine mz_getI hx hb htl hown hK hM 20 (Nat.le_of_ble_eq_true rfl) rfl (htl _ mw_675) (fun _ h9 => h9) dX13_reckonAll_60 (fun v9 e9 => ?_)
            refine fx_ti (v := go) (e9.symm.trans hg_0) ?_
            refine lv_if_eq (tgt := 76) hx hb dX13_reckonAll_63 (by decide) (fun _ => ?_) (fun c9 => absurd ((fi_eq rfl (show (0 : Int32).toInt = 0 by decide)).mpr (show go.toInt = 0 by omega)) c9)
            refine lv_aload_n hx hb dX13_reckonAll_76 rfl (lv_at hl 3 rfl) ?_
            refine mz_getR hx hb htl hown hK hM 3 (Nat.le_of_ble_eq_true rfl) (Nat.le_of_ble_eq_true rfl) (htl _ mw_188) (fun _ h9 => h9) dX13_reckonAll_77 ?_
            refine lv_aload_n hx hb dX13_reckonAll_80 rfl (lv_at hl 3 rfl) ?_
            refine mz_getI hx hb htl hown hK hM 34 (Nat.le_of_ble_eq_true rfl) rfl (htl _ mw_1057) (fun _ h9 => h9) dX13_reckonAll_81 (fun v9 e9 => ?_)
            refine fx_ti (v := gl) (e9.symm.trans hg_1) ?_
            refine lv_bipush (v := 98) hx hb dX13_reckonAll_84 (by decide) ?_
            refine lv_iadd hx hb dX13_reckonAll_86 ?_
            refine tk_add rfl (show (98 : Int32).toInt = 98 by decide) (by omega) (by omega) (fun v2825 h_v2825 => ?_)
            refine lv_iconst (v := 2) hx hb dX13_reckonAll_87 (by decide) ?_
            refine lv_iload hx hb dX13_reckonAll_88 (lv_at hl 1 rfl) ?_
            refine lv_imul hx hb dX13_reckonAll_90 ?_
            refine tk_mul (show (2 : Int32).toInt = 2 by decide) rfl (by omega) (by omega) (fun v2826 h_v2826 => ?_)
            refine lv_iadd hx hb dX13_reckonAll_91 ?_
            refine tk_add rfl rfl (by omega) (by omega) (fun v2827 h_v2827 => ?_)
            refine lv_iconst (v := 1) hx hb dX13_reckonAll_92 (by decide) ?_
            refine lv_iadd hx hb dX13_reckonAll_93 ?_
            refine tk_add rfl (show (1 : Int32).toInt = 1 by decide) (by omega) (by omega) (fun v2828 h_v2828 => ?_)
            refine mz_iald hx hb hK hM 3 (Nat.le_of_ble_eq_true rfl) rfl (nn := 5560) rfl rfl (by omega) (by omega) dX13_reckonAll_94 (fun v2829 e_v2829 => ?_)
            have hq_v2829 := tk_rng v2829
            refine lv_istore (lv' := [(6, .int v2829), (5, .int v2824), (4, .int v571), (3, .int v572), (0, .ref am), (2, .int p2)]) hx hb dX13_reckonAll_95 hl (by decide) rfl (fun ls hl => ?_)
            have h29 := hx_1 (by omega) v571.toInt.toNat (by omega)
            have hop : zo v571.toInt.toNat = v2824 := by rw [← h29.1, show gl.toInt.toNat + 98 + 2 * v571.toInt.toNat = (v2823 : Int32).toNatClampNeg by show _ = v2823.toInt.toNat; omega]; exact e_v2824
            have har : za v571.toInt.toNat = v2829 := by rw [← h29.2, show gl.toInt.toNat + 98 + 2 * v571.toInt.toNat + 1 = (v2828 : Int32).toNatClampNeg by show _ = v2828.toInt.toNat; omega]; exact e_v2829
            have hwk := hx_0.2.2.2 v571.toInt.toNat (by omega) (by omega)
            rw [hop, har, ← hdl] at hwk
            have hle := dl.le zo p1.toInt.toNat v571.toInt.toNat (by omega)
            rw [← hdl] at hle
            have hJ := hwk.2.2.2.2.2
            have hJ1 : 29 ≤ v2824.toInt → v571.toInt + 1 ≤ v2829.toInt ∧ v2829.toInt ≤ p2.toInt := fun h9 => ⟨by have := (hJ h9).1; omega, by have := (hJ h9).2.1; omega⟩
            obtain ⟨v2830, h_v2830, e_v2830⟩ := tk_inc v571 1 (by decide) (by omega) (by omega)
            refine lv_iinc (v := v2830) (lv' := [(4, .int v2830), (6, .int v2829), (5, .int v2824), (3, .int v572), (0, .ref am), (2, .int p2)]) hx hb dX13_reckonAll_97 hl (k := 2) rfl e_v2830 (by decide) rfl (fun ls hl => ?_)
            refine lv_iload hx hb dX13_reckonAll_100 (lv_at hl 2 rfl) ?_
            refine lv_bipush (v := 20) hx hb dX13_reckonAll_102 (by decide) ?_
            refine lv_icmp_ge (tgt := 208) hx hb dX13_reckonAll_104 (by decide) (fun c9 => ?_) (fun c9 => ?_)
            · have hc2831 : 20 ≤ v2824.toInt := (fi_le (show (20 : Int32).toInt = 20 by decide) rfl).mp c9
              refine lv_iload hx hb dX13_reckonAll_208 (lv_at hl 2 rfl) ?_
              refine lv_bipush (v := 28) hx hb dX13_reckonAll_210 (by decide) ?_
              refine lv_icmp_ge (tgt := 285) hx hb dX13_reckonAll_212 (by decide) (fun c9 => ?_) (fun c9 => ?_)
              · have hc2832 : 28 ≤ v2824.toInt := (fi_le (show (28 : Int32).toInt = 28 by decide) rfl).mp c9
                have hwk_2833 : 1 ≤ v572.toInt := by omega
                refine lv_iload hx hb dX13_reckonAll_285 (lv_at hl 2 rfl) ?_
                refine lv_bipush (v := 28) hx hb dX13_reckonAll_287 (by decide) ?_
                refine lv_icmp_ne (tgt := 313) hx hb dX13_reckonAll_289 (by decide) (fun c9 => ?_) (fun c9 => ?_)
                · have hc2834 : ¬ (v2824.toInt = 28) := fun h9 => c9 ((fi_eq rfl (show (28 : Int32).toInt = 28 by decide)).mpr h9)
                  have hwk_2835 : 0 ≤ v2829.toInt + (-1) * v571.toInt + (-1) ∧ 0 ≤ p2.toInt + (-1) * v2829.toInt := by omega
                  refine lv_aload_n hx hb dX13_reckonAll_313 rfl (lv_at hl 4 rfl) ?_
                  refine mz_getR hx hb htl hown hK hM 37 (Nat.le_of_ble_eq_true rfl) (Nat.le_of_ble_eq_true rfl) (htl _ mw_225) (fun _ h9 => h9) dX13_reckonAll_314 ?_
                  refine lv_iload_n hx hb dX13_reckonAll_317 rfl (lv_at hl 3 rfl) ?_
                  refine lv_iconst (v := 1) hx hb dX13_reckonAll_318 (by decide) ?_
                  refine lv_isub hx hb dX13_reckonAll_319 ?_
                  refine tk_sub rfl (show (1 : Int32).toInt = 1 by decide) (by omega) (by omega) (fun v2836 h_v2836 => ?_)
                  refine mz_lald hx hb hK hM 37 (Nat.le_of_ble_eq_true rfl) rfl (nn := 400) rfl rfl (by omega) (by omega) dX13_reckonAll_320 (fun w2837 _ => ?_)
                  refine lv_iload hx hb dX13_reckonAll_321 (lv_at hl 2 rfl) ?_
                  refine lv_bipush (v := 29) hx hb dX13_reckonAll_323 (by decide) ?_
                  refine lv_icmp_ne (tgt := 332) hx hb dX13_reckonAll_325 (by decide) (fun c9 => ?_) (fun c9 => ?_)
                  · have hc2838 : ¬ (v2824.toInt = 29) := fun h9 => c9 ((fi_eq rfl (show (29 : Int32).toInt = 29 by decide)).mpr h9)
                    refine lv_lconst (v := 1) hx hb dX13_reckonAll_332 (by decide) ?_
                    refine W.lcmp hx hb dX13_reckonAll_333 ?_
                    refine lv_if_ne (tgt := 344) hx hb dX13_reckonAll_334 (by decide) (fun c9 => ?_) (fun c9 => ?_)
                    · have hc2839 : ¬ (w2837.toInt = 1) := fun h9 => c9 (((lg_cmp_eq _ _).trans (fl_eq rfl (show (1 : Int64).toInt = 1 by decide))).mpr h9)
                      obtain ⟨v2840, h_v2840, e_v2840⟩ := tk_inc v572 (-1) (by decide) (by omega) (by omega)
                      refine lv_iinc (v := v2840) (lv' := [(3, .int v2840), (4, .int v2830), (6, .int v2829), (5, .int v2824), (0, .ref am), (2, .int p2)]) hx hb dX13_reckonAll_344 hl (k := 3) rfl e_v2840 (by decide) rfl (fun ls hl => ?_)
                      refine lv_goto (tgt := 10) hx hb dX13_reckonAll_347 (by decide) ?_
                      exact ih_l2671 v2830 v2840 v573 _ _ _ _ _ _ (by omega) (by omega) (by omega) (by omega) (by omega) (by omega) hM hS hIF hIG hIR hFF hGG hRR hg_0 hg_1 hf2 (by have h9 := dl.s zo v571.toInt.toNat; rw [hop, if_neg (by omega), if_neg (by omega)] at h9; rw [show v2830.toInt.toNat = v571.toInt.toNat + 1 by omega]; omega) (by omega) _ (lv_sub hl [1, 0, 4, 5] rfl)
                    · have hc2839 : w2837.toInt = 1 := ((lg_cmp_eq _ _).trans (fl_eq rfl (show (1 : Int64).toInt = 1 by decide))).mp c9
                      refine lv_iload hx hb dX13_reckonAll_337 (lv_at hl 1 rfl) ?_
                      refine lv_istore (lv' := [(4, .int v2829), (6, .int v2829), (5, .int v2824), (3, .int v572), (0, .ref am), (2, .int p2)]) hx hb dX13_reckonAll_339 hl (by decide) rfl (fun ls hl => ?_)
                      refine lv_goto (tgt := 347) hx hb dX13_reckonAll_341 (by decide) ?_
                      refine lv_goto (tgt := 10) hx hb dX13_reckonAll_347 (by decide) ?_
                      exact ih_l2671 v2829 v572 v573 _ _ _ _ _ _ (by omega) (by omega) (by omega) (by omega) (by omega) (by omega) hM hS hIF hIG hIR hFF hGG hRR hg_0 hg_1 hf2 (by rw [(hJ (by omega)).2.2]; exact hdl) (by omega) _ (lv_sub hl [0, 3, 4, 5] rfl)
                  · have hc2838 : v2824.toInt = 29 := (fi_eq rfl (show (29 : Int32).toInt = 29 by decide)).mp c9
                    refine lv_lconst (v := 0) hx hb dX13_reckonAll_328 (by decide) ?_
                    refine lv_goto (tgt := 333) hx hb dX13_reckonAll_329 (by decide) ?_
                    refine W.lcmp hx hb dX13_reckonAll_333 ?_
                    refine lv_if_ne (tgt := 344) hx hb dX13_reckonAll_334 (by decide) (fun c9 => ?_) (fun c9 => ?_)
                    · have hc2841 : ¬ (w2837.toInt = 0) := fun h9 => c9 (((lg_cmp_eq _ _).trans (fl_eq rfl (show (0 : Int64).toInt = 0 by decide))).mpr h9)
                      obtain ⟨v2842, h_v2842, e_v2842⟩ := tk_inc v572 (-1) (by decide) (by omega) (by omega)
                      refine lv_iinc (v := v2842) (lv' := [(3, .int v2842), (4, .int v2830), (6, .int v2829), (5, .int v2824), (0, .ref am), (2, .int p2)]) hx hb dX13_reckonAll_344 hl (k := 3) rfl e_v2842 (by decide) rfl (fun ls hl => ?_)
                      refine lv_goto (tgt := 10) hx hb dX13_reckonAll_347 (by decide) ?_
                      exact ih_l2671 v2830 v2842 v573 _ _ _ _ _ _ (by omega) (by omega) (by omega) (by omega) (by omega) (by omega) hM hS hIF hIG hIR hFF hGG hRR hg_0 hg_1 hf2 (by have h9 := dl.s zo v571.toInt.toNat; rw [hop, if_neg (by omega), if_neg (by omega)] at h9; rw [show v2830.toInt.toNat = v571.toInt.toNat + 1 by omega]; omega) (by omega) _ (lv_sub hl [1, 0, 4, 5] rfl)
                    · have hc2841 : w2837.toInt = 0 := ((lg_cmp_eq _ _).trans (fl_eq rfl (show (0 : Int64).toInt = 0 by decide))).mp c9
                      refine lv_iload hx hb dX13_reckonAll_337 (lv_at hl 1 rfl) ?_
                      refine lv_istore (lv' := [(4, .int v2829), (6, .int v2829), (5, .int v2824), (3, .int v572), (0, .ref am), (2, .int p2)]) hx hb dX13_reckonAll_339 hl (by decide) rfl (fun ls hl => ?_)
                      refine lv_goto (tgt := 347) hx hb dX13_reckonAll_341 (by decide) ?_
                      refine lv_goto (tgt := 10) hx hb dX13_reckonAll_347 (by decide) ?_
                      exact ih_l2671 v2829 v572 v573 _ _ _ _ _ _ (by omega) (by omega) (by omega) (by omega) (by omega) (by omega) hM hS hIF hIG hIR hFF hGG hRR hg_0 hg_1 hf2 (by rw [(hJ (by omega)).2.2]; exact hdl) (by omega) _ (lv_sub hl [0, 3, 4, 5] rfl)
                · have hc2834 : v2824.toInt = 28 := (fi_eq rfl (show (28 : Int32).toInt = 28 by decide)).mp c9
                  refine lv_aload_n hx hb dX13_reckonAll_292 rfl (lv_at hl 4 rfl) ?_
                  refine mz_getR hx hb htl hown hK hM 37 (Nat.le_of_ble_eq_true rfl) (Nat.le_of_ble_eq_true rfl) (htl _ mw_225) (fun _ h9 => h9) dX13_reckonAll_293 ?_
                  refine lv_iload_n hx hb dX13_reckonAll_296 rfl (lv_at hl 3 rfl) ?_
                  refine lv_iconst (v := 1) hx hb dX13_reckonAll_297 (by decide) ?_
                  refine lv_isub hx hb dX13_reckonAll_298 ?_
                  refine tk_sub rfl (show (1 : Int32).toInt = 1 by decide) (by omega) (by omega) (fun v2843 h_v2843 => ?_)
                  refine lv_lconst (v := 1) hx hb dX13_reckonAll_299 (by decide) ?_
                  refine lv_aload_n hx hb dX13_reckonAll_300 rfl (lv_at hl 4 rfl) ?_
                  refine mz_getR hx hb htl hown hK hM 37 (Nat.le_of_ble_eq_true rfl) (Nat.le_of_ble_eq_true rfl) (htl _ mw_225) (fun _ h9 => h9) dX13_reckonAll_301 ?_
                  refine lv_iload_n hx hb dX13_reckonAll_304 rfl (lv_at hl 3 rfl) ?_
                  refine lv_iconst (v := 1) hx hb dX13_reckonAll_305 (by decide) ?_
                  refine lv_isub hx hb dX13_reckonAll_306 ?_
                  refine tk_sub rfl (show (1 : Int32).toInt = 1 by decide) (by omega) (by omega) (fun v2844 h_v2844 => ?_)
                  refine mz_lald hx hb hK hM 37 (Nat.le_of_ble_eq_true rfl) rfl (nn := 400) rfl rfl (by omega) (by omega) dX13_reckonAll_307 (fun w2845 _ => ?_)
                  refine lv_lsub hx hb dX13_reckonAll_308 ?_
                  refine tk_anyl (fun w2846 => ?_)
                  refine mz_last (x := w2846) hx hb hK hD hM hS 37 (Nat.le_of_ble_eq_true rfl) rfl (nn := 400) rfl rfl (by omega) (by omega) dX13_reckonAll_309 (fun H locs S hM hS _ _ => ?_)
                  refine lv_goto (tgt := 347) hx hb dX13_reckonAll_310 (by decide) ?_
                  refine lv_goto (tgt := 10) hx hb dX13_reckonAll_347 (by decide) ?_
                  exact ih_l2671 v2830 v572 v573 _ _ _ _ _ _ (by omega) (by omega) (by omega) (by omega) (by omega) (by omega) hM hS hIF hIG hIR hFF hGG hRR hg_0 hg_1 hf2 (by have h9 := dl.s zo v571.toInt.toNat; rw [hop, if_neg (by omega), if_pos (by omega)] at h9; rw [show v2830.toInt.toNat = v571.toInt.toNat + 1 by omega]; omega) (by omega) _ (lv_sub hl [0, 3, 4, 5] rfl)
              · have hc2832 : ¬ (28 ≤ v2824.toInt) := fun h9 => c9 ((fi_le (show (28 : Int32).toInt = 28 by decide) rfl).mpr h9)
                have hwk_2849 : 2 ≤ v572.toInt := by omega
                obtain ⟨v2848, h_v2848, e_v2848⟩ := tk_inc v572 (-1) (by decide) (by omega) (by omega)
                refine lv_iinc (v := v2848) (lv' := [(3, .int v2848), (4, .int v2830), (6, .int v2829), (5, .int v2824), (0, .ref am), (2, .int p2)]) hx hb dX13_reckonAll_215 hl (k := 3) rfl e_v2848 (by decide) rfl (fun ls hl => ?_)
                refine lv_aload_n hx hb dX13_reckonAll_218 rfl (lv_at hl 4 rfl) ?_
                refine mz_getR hx hb htl hown hK hM 37 (Nat.le_of_ble_eq_true rfl) (Nat.le_of_ble_eq_true rfl) (htl _ mw_225) (fun _ h9 => h9) dX13_reckonAll_219 ?_
                refine lv_iload_n hx hb dX13_reckonAll_222 rfl (lv_at hl 0 rfl) ?_
                refine lv_iconst (v := 1) hx hb dX13_reckonAll_223 (by decide) ?_
                refine lv_isub hx hb dX13_reckonAll_224 ?_
                refine tk_sub rfl (show (1 : Int32).toInt = 1 by decide) (by omega) (by omega) (fun v2850 h_v2850 => ?_)
                refine lv_aload_n hx hb dX13_reckonAll_225 rfl (lv_at hl 4 rfl) ?_
                refine lv_iload hx hb dX13_reckonAll_226 (lv_at hl 3 rfl) ?_
                refine lv_aload_n hx hb dX13_reckonAll_228 rfl (lv_at hl 4 rfl) ?_
                refine mz_getR hx hb htl hown hK hM 37 (Nat.le_of_ble_eq_true rfl) (Nat.le_of_ble_eq_true rfl) (htl _ mw_225) (fun _ h9 => h9) dX13_reckonAll_229 ?_
                refine lv_iload_n hx hb dX13_reckonAll_232 rfl (lv_at hl 0 rfl) ?_
                refine lv_iconst (v := 1) hx hb dX13_reckonAll_233 (by decide) ?_
                refine lv_isub hx hb dX13_reckonAll_234 ?_
                refine tk_sub rfl (show (1 : Int32).toInt = 1 by decide) (by omega) (by omega) (fun v2851 h_v2851 => ?_)
                refine mz_lald hx hb hK hM 37 (Nat.le_of_ble_eq_true rfl) rfl (nn := 400) rfl rfl (by omega) (by omega) dX13_reckonAll_235 (fun w2852 _ => ?_)
                refine lv_aload_n hx hb dX13_reckonAll_236 rfl (lv_at hl 4 rfl) ?_
                refine mz_getR hx hb htl hown hK hM 37 (Nat.le_of_ble_eq_true rfl) (Nat.le_of_ble_eq_true rfl) (htl _ mw_225) (fun _ h9 => h9) dX13_reckonAll_237 ?_
                refine lv_iload_n hx hb dX13_reckonAll_240 rfl (lv_at hl 0 rfl) ?_
                refine mz_lald hx hb hK hM 37 (Nat.le_of_ble_eq_true rfl) rfl (nn := 400) rfl rfl (by omega) (by omega) dX13_reckonAll_241 (fun w2853 _ => ?_)
                refine mz_Vl (As := [.int v2824, .long w2852, .long w2853]) (rest := [.int v2850, .ref (ad 37)]) ⟨hx, hb, hml, hown, hts⟩ hK hM hS (k_X13_reckon l D cy ld ad am hD _ _ _ _ v2824 w2852 w2853 hIF hIG hIR) ⟨callB_of 3 hts (wl_in mw_1063) rfl rfl rfl (htl _ mw_5) (htl _ mw_1060) hd_yX13_reckon ⟨(Nat.le_of_ble_eq_true rfl), (Nat.le_of_ble_eq_true rfl)⟩, htl _ mw_1061, htl _ mw_1062⟩ rfl hl.1 rfl (Nat.le_of_ble_eq_true rfl) dX13_reckonAll_242 ⟨(Nat.le_of_ble_eq_true rfl), (Nat.le_of_ble_eq_true rfl)⟩ (fun w2854 H locs F G R S hpo hM hS => ?_)
                obtain ⟨hIF, hIG, hIR, hfr9, hrr9, hgr9⟩ := hpo
                have hq_w2854 := tk_rngL w2854
                have hFF := mz_fr (K := [38]) (Fa := Fa) hfr9 hFF (by decide)
                have hRR := mz_fr (K := []) (Fa := Ra) hrr9 hRR (by decide)
                have hGG := mz_fr (K := [39]) (Fa := Ga) hgr9 hGG (by decide)
                have e_v2824 : R 3 (v2823 : Int32).toNatClampNeg = _ := (congrFun (hrr9 3 (by decide)) _).trans e_v2824
                have e_v2829 : R 3 (v2828 : Int32).toNatClampNeg = _ := (congrFun (hrr9 3 (by decide)) _).trans e_v2829
                have hg_0 := (hfr9 20 (by decide)).trans hg_0
                have hg_1 := (hfr9 34 (by decide)).trans hg_1
                refine mz_last (x := w2854) hx hb hK hD hM hS 37 (Nat.le_of_ble_eq_true rfl) rfl (nn := 400) rfl rfl (by omega) (by omega) dX13_reckonAll_245 (fun H locs S hM hS _ _ => ?_)
                refine lv_aload_n hx hb dX13_reckonAll_246 rfl (lv_at hl 4 rfl) ?_
                refine lv_aload_n hx hb dX13_reckonAll_247 rfl (lv_at hl 4 rfl) ?_
                refine mz_getI hx hb htl hown hK hM 38 (Nat.le_of_ble_eq_true rfl) rfl (htl _ mw_1051) (fun _ h9 => h9) dX13_reckonAll_248 (fun v2858 hf2857 => ?_)
                have hq_v2858 := tk_rng v2858
                have hr_v2858 : 0 ≤ v2858.toInt ∧ v2858.toInt ≤ 1 := hIF.at hf2857
                refine lv_if_ne (tgt := 274) hx hb dX13_reckonAll_251 (by decide) (fun c9 => ?_) (fun c9 => ?_)
                · have hc2859 : ¬ (v2858.toInt = 0) := fun h9 => c9 ((fi_eq rfl (show (0 : Int32).toInt = 0 by decide)).mpr h9)
                  refine lv_iconst (v := 1) hx hb dX13_reckonAll_274 (by decide) ?_
                  refine lv_goto (tgt := 279) hx hb dX13_reckonAll_275 (by decide) ?_
                  have hk_1 : (1 : Int32).toInt = 1 := by decide
                  have hk_1 : (1 : Int32).toInt = 1 := by decide
                  refine mz_putI (ty := .boolean) (x := 1) hx hb htl hown hK hD hM hS 38 (Nat.le_of_ble_eq_true rfl) rfl (htl _ mw_1051) (fun _ h9 => h9) rfl (tyX13_ok 38 (by decide)) rfl rfl dX13_reckonAll_279 (fun H locs F hM hS hf9 hj9 => ?_)
                  have hIF := hIF.put hf9 hj9 (show 0 ≤ (1 : Int32).toInt by omega) (show (1 : Int32).toInt ≤ 1 by omega) (by decide)
                  have hFF := mz_frp (K := [38]) (Fa := Fa) hj9 hFF (by decide)
                  have hg_0 := (hj9 20 (by decide)).trans hg_0
                  have hg_1 := (hj9 34 (by decide)).trans hg_1
                  have hf2861 := hf9
                  refine lv_goto (tgt := 347) hx hb dX13_reckonAll_282 (by decide) ?_
                  refine lv_goto (tgt := 10) hx hb dX13_reckonAll_347 (by decide) ?_
                  have hk_1 : (1 : Int32).toInt = 1 := by decide
                  exact ih_l2671 v2830 v2848 1 _ _ _ _ _ _ (by omega) (by omega) (by omega) (by omega) (by omega) (by omega) hM hS hIF hIG hIR hFF hGG hRR hg_0 hg_1 hf2861 (by have h9 := dl.s zo v571.toInt.toNat; rw [hop, if_neg (by omega), if_neg (by omega)] at h9; rw [show v2830.toInt.toNat = v571.toInt.toNat + 1 by omega]; omega) (by omega) _ (lv_sub hl [1, 0, 4, 5] rfl)
                · have hc2859 : v2858.toInt = 0 := (fi_eq rfl (show (0 : Int32).toInt = 0 by decide)).mp c9
                  refine lv_aload_n hx hb dX13_reckonAll_254 rfl (lv_at hl 4 rfl) ?_
                  refine mz_getR hx hb htl hown hK hM 37 (Nat.le_of_ble_eq_true rfl) (Nat.le_of_ble_eq_true rfl) (htl _ mw_225) (fun _ h9 => h9) dX13_reckonAll_255 ?_
                  refine lv_iload_n hx hb dX13_reckonAll_258 rfl (lv_at hl 0 rfl) ?_
                  refine lv_iconst (v := 1) hx hb dX13_reckonAll_259 (by decide) ?_
                  refine lv_isub hx hb dX13_reckonAll_260 ?_
                  refine tk_sub rfl (show (1 : Int32).toInt = 1 by decide) (by omega) (by omega) (fun v2862 h_v2862 => ?_)
                  refine mz_lald hx hb hK hM 37 (Nat.le_of_ble_eq_true rfl) rfl (nn := 400) rfl rfl (by omega) (by omega) dX13_reckonAll_261 (fun w2863 _ => ?_)
                  refine lv_ldc2 hx hb hown (htl _ mw_1058) dX13_reckonAll_262 ?_
                  refine lv_ldc2 hx hb hown (htl _ mw_1059) dX13_reckonAll_265 ?_
                  have hk_m1000000000 : ((-1000000000) : Int64).toInt = (-1000000000) := by decide
                  have hk_1000000000 : (1000000000 : Int64).toInt = 1000000000 := by decide
                  refine mz_Sj (As := [.long w2863, .long (-1000000000), .long 1000000000]) (rest := [.ref am]) ⟨hx, hb, hml, hown, hts⟩ hK hM hS (k_X13_in l D cy ld ad am hD _ _ _ _ w2863 (-1000000000) 1000000000) ⟨callB_of 3 hts (wl_in mw_292) rfl rfl rfl (htl _ mw_5) (htl _ mw_290) hd_yX13_in ⟨(Nat.le_of_ble_eq_true rfl), (Nat.le_of_ble_eq_true rfl)⟩, htl _ mw_291⟩ rfl hl.1 rfl (Nat.le_of_ble_eq_true rfl) dX13_reckonAll_268 ⟨(Nat.le_of_ble_eq_true rfl), (Nat.le_of_ble_eq_true rfl)⟩ (fun v2864 H locs hpo hM hS => ?_)
                  obtain ⟨hpo2865, hpo2866, hpo2867, hpo2868, hpo2869, hpo2870⟩ := hpo
                  have hq_v2864 := tk_rng v2864
                  refine lv_if_ne (tgt := 278) hx hb dX13_reckonAll_271 (by decide) (fun c9 => ?_) (fun c9 => ?_)
                  · have hc2872 : ¬ (v2864.toInt = 0) := fun h9 => c9 ((fi_eq rfl (show (0 : Int32).toInt = 0 by decide)).mpr h9)
                    have hwk_2873 : (-1000000000) ≤ w2863.toInt ∧ w2863.toInt ≤ 1000000000 := by omega
                    refine lv_iconst (v := 0) hx hb dX13_reckonAll_278 (by decide) ?_
                    have hk_0 : (0 : Int32).toInt = 0 := by decide
                    have hk_0 : (0 : Int32).toInt = 0 := by decide
                    refine mz_putI (ty := .boolean) (x := 0) hx hb htl hown hK hD hM hS 38 (Nat.le_of_ble_eq_true rfl) rfl (htl _ mw_1051) (fun _ h9 => h9) rfl (tyX13_ok 38 (by decide)) rfl rfl dX13_reckonAll_279 (fun H locs F hM hS hf9 hj9 => ?_)
                    have hIF := hIF.put hf9 hj9 (show 0 ≤ (0 : Int32).toInt by omega) (show (0 : Int32).toInt ≤ 1 by omega) (by decide)
                    have hFF := mz_frp (K := [38]) (Fa := Fa) hj9 hFF (by decide)
                    have hg_0 := (hj9 20 (by decide)).trans hg_0
                    have hg_1 := (hj9 34 (by decide)).trans hg_1
                    have hf2875 := hf9
                    refine lv_goto (tgt := 347) hx hb dX13_reckonAll_282 (by decide) ?_
                    refine lv_goto (tgt := 10) hx hb dX13_reckonAll_347 (by decide) ?_
                    have hk_0 : (0 : Int32).toInt = 0 := by decide
                    exact ih_l2671 v2830 v2848 0 _ _ _ _ _ _ (by omega) (by omega) (by omega) (by omega) (by omega) (by omega) hM hS hIF hIG hIR hFF hGG hRR hg_0 hg_1 hf2875 (by have h9 := dl.s zo v571.toInt.toNat; rw [hop, if_neg (by omega), if_neg (by omega)] at h9; rw [show v2830.toInt.toNat = v571.toInt.toNat + 1 by omega]; omega) (by omega) _ (lv_sub hl [1, 0, 4, 5] rfl)
                  · have hc2872 : v2864.toInt = 0 := (fi_eq rfl (show (0 : Int32).toInt = 0 by decide)).mp c9
                    refine lv_iconst (v := 1) hx hb dX13_reckonAll_274 (by decide) ?_
                    refine lv_goto (tgt := 279) hx hb dX13_reckonAll_275 (by decide) ?_
                    have hk_1 : (1 : Int32).toInt = 1 := by decide
                    have hk_1 : (1 : Int32).toInt = 1 := by decide
                    refine mz_putI (ty := .boolean) (x := 1) hx hb htl hown hK hD hM hS 38 (Nat.le_of_ble_eq_true rfl) rfl (htl _ mw_1051) (fun _ h9 => h9) rfl (tyX13_ok 38 (by decide)) rfl rfl dX13_reckonAll_279 (fun H locs F hM hS hf9 hj9 => ?_)
                    have hIF := hIF.put hf9 hj9 (show 0 ≤ (1 : Int32).toInt by omega) (show (1 : Int32).toInt ≤ 1 by omega) (by decide)
                    have hFF := mz_frp (K := [38]) (Fa := Fa) hj9 hFF (by decide)
                    have hg_0 := (hj9 20 (by decide)).trans hg_0
                    have hg_1 := (hj9 34 (by decide)).trans hg_1
                    have hf2877 := hf9
                    refine lv_goto (tgt := 347) hx hb dX13_reckonAll_282 (by decide) ?_
                    refine lv_goto (tgt := 10) hx hb dX13_reckonAll_347 (by decide) ?_
                    have hk_1 : (1 : Int32).toInt = 1 := by decide
                    exact ih_l2671 v2830 v2848 1 _ _ _ _ _ _ (by omega) (by omega) (by omega) (by omega) (by omega) (by omega) hM hS hIF hIG hIR hFF hGG hRR hg_0 hg_1 hf2877 (by have h9 := dl.s zo v571.toInt.toNat; rw [hop, if_neg (by omega), if_neg (by omega)] at h9; rw [show v2830.toInt.toNat = v571.toInt.toNat + 1 by omega]; omega) (by omega) _ (lv_sub hl [1, 0, 4, 5] rfl)
            · have hc2831 : ¬ (20 ≤ v2824.toInt) := fun h9 => c9 ((fi_le (show (20 : Int32).toInt = 20 by decide) rfl).mpr h9)
              have hwk_2878 : v2824.toInt ≤ 9 := by omega
              refine lv_aload_n hx hb dX13_reckonAll_107 rfl (lv_at hl 4 rfl) ?_
              refine mz_getR hx hb htl hown hK hM 37 (Nat.le_of_ble_eq_true rfl) (Nat.le_of_ble_eq_true rfl) (htl _ mw_225) (fun _ h9 => h9) dX13_reckonAll_108 ?_
              refine lv_iload_n hx hb dX13_reckonAll_111 rfl (lv_at hl 3 rfl) ?_
              refine lv_iload hx hb dX13_reckonAll_112 (lv_at hl 2 rfl) ?_
              refine lv_if_ne (tgt := 123) hx hb dX13_reckonAll_114 (by decide) (fun c9 => ?_) (fun c9 => ?_)
              · have hc2879 : ¬ (v2824.toInt = 0) := fun h9 => c9 ((fi_eq rfl (show (0 : Int32).toInt = 0 by decide)).mpr h9)
                refine lv_aload_n hx hb dX13_reckonAll_123 rfl (lv_at hl 4 rfl) ?_
                refine mz_getI hx hb htl hown hK hM 20 (Nat.le_of_ble_eq_true rfl) rfl (htl _ mw_675) (fun _ h9 => h9) dX13_reckonAll_124 (fun v9 e9 => ?_)
                refine fx_ti (v := go) (e9.symm.trans hg_0) ?_
                refine lv_if_ne (tgt := 140) hx hb dX13_reckonAll_127 (by decide) (fun c9 => absurd ((fi_eq rfl (show (0 : Int32).toInt = 0 by decide)).mpr (show go.toInt = 0 by omega)) c9) (fun _ => ?_)
                refine lv_aload_n hx hb dX13_reckonAll_130 rfl (lv_at hl 4 rfl) ?_
                refine mz_getR hx hb htl hown hK hM 35 (Nat.le_of_ble_eq_true rfl) (Nat.le_of_ble_eq_true rfl) (htl _ mw_223) (fun _ h9 => h9) dX13_reckonAll_131 ?_
                refine lv_iload hx hb dX13_reckonAll_134 (lv_at hl 2 rfl) ?_
                refine mz_lald hx hb hK hM 35 (Nat.le_of_ble_eq_true rfl) rfl (nn := 13) rfl rfl (by omega) (by omega) dX13_reckonAll_136 (fun w2880 _ => ?_)
                refine lv_goto (tgt := 201) hx hb dX13_reckonAll_137 (by decide) ?_
                refine mz_last (x := w2880) hx hb hK hD hM hS 37 (Nat.le_of_ble_eq_true rfl) rfl (nn := 400) rfl rfl (by omega) (by omega) dX13_reckonAll_201 (fun H locs S hM hS _ _ => ?_)
                obtain ⟨v2882, h_v2882, e_v2882⟩ := tk_inc v572 1 (by decide) (by omega) (by omega)
                refine lv_iinc (v := v2882) (lv' := [(3, .int v2882), (4, .int v2830), (6, .int v2829), (5, .int v2824), (0, .ref am), (2, .int p2)]) hx hb dX13_reckonAll_202 hl (k := 3) rfl e_v2882 (by decide) rfl (fun ls hl => ?_)
                refine lv_goto (tgt := 347) hx hb dX13_reckonAll_205 (by decide) ?_
                refine lv_goto (tgt := 10) hx hb dX13_reckonAll_347 (by decide) ?_
                exact ih_l2671 v2830 v2882 v573 _ _ _ _ _ _ (by omega) (by omega) (by omega) (by omega) (by omega) (by omega) hM hS hIF hIG hIR hFF hGG hRR hg_0 hg_1 hf2 (by have h9 := dl.s zo v571.toInt.toNat; rw [hop, if_pos (by omega)] at h9; rw [show v2830.toInt.toNat = v571.toInt.toNat + 1 by omega]; omega) (by omega) _ (lv_sub hl [1, 0, 4, 5] rfl)
              · have hc2879 : v2824.toInt = 0 := (fi_eq rfl (show (0 : Int32).toInt = 0 by decide)).mp c9
                refine lv_iload hx hb dX13_reckonAll_117 (lv_at hl 1 rfl) ?_
                obtain ⟨w2883, e_w2883, h_w2883⟩ : ∃ z : Int64, v2829.toInt64 = z ∧ z.toInt = v2829.toInt := ⟨_, rfl, fl_w _⟩
                refine lv_i2l (v := w2883) hx hb dX13_reckonAll_119 e_w2883 ?_
                refine lv_goto (tgt := 201) hx hb dX13_reckonAll_120 (by decide) ?_
                refine mz_last (x := w2883) hx hb hK hD hM hS 37 (Nat.le_of_ble_eq_true rfl) rfl (nn := 400) rfl rfl (by omega) (by omega) dX13_reckonAll_201 (fun H locs S hM hS _ _ => ?_)
                obtain ⟨v2885, h_v2885, e_v2885⟩ := tk_inc v572 1 (by decide) (by omega) (by omega)
                refine lv_iinc (v := v2885) (lv' := [(3, .int v2885), (4, .int v2830), (6, .int v2829), (5, .int v2824), (0, .ref am), (2, .int p2)]) hx hb dX13_reckonAll_202 hl (k := 3) rfl e_v2885 (by decide) rfl (fun ls hl => ?_)
                refine lv_goto (tgt := 347) hx hb dX13_reckonAll_205 (by decide) ?_
                refine lv_goto (tgt := 10) hx hb dX13_reckonAll_347 (by decide) ?_
                exact ih_l2671 v2830 v2885 v573 _ _ _ _ _ _ (by omega) (by omega) (by omega) (by omega) (by omega) (by omega) hM hS hIF hIG hIR hFF hGG hRR hg_0 hg_1 hf2 (by have h9 := dl.s zo v571.toInt.toNat; rw [hop, if_pos (by omega)] at h9; rw [show v2830.toInt.toNat = v571.toInt.toNat + 1 by omega]; omega) (by omega) _ (lv_sub hl [1, 0, 4, 5] rfl)
          · have hc2820 : ¬ (go.toInt = 0) := fun h9 => c9 ((fi_eq rfl (show (0 : Int32).toInt = 0 by decide)).mpr h9)
            refine lv_aload_n hx hb dX13_reckonAll_30 rfl (lv_at hl 2 rfl) ?_
            refine mz_getR hx hb htl hown hK hM 24 (Nat.le_of_ble_eq_true rfl) (Nat.le_of_ble_eq_true rfl) (htl _ mw_198) (fun _ h9 => h9) dX13_reckonAll_31 ?_
            refine lv_iload hx hb dX13_reckonAll_34 (lv_at hl 0 rfl) ?_
            refine mz_iald hx hb hK hM 24 (Nat.le_of_ble_eq_true rfl) rfl (nn := 400) rfl rfl (by omega) (by omega) dX13_reckonAll_36 (fun v2886 e_v2886 => ?_)
            have hq_v2886 := tk_rng v2886
            refine lv_goto (tgt := 57) hx hb dX13_reckonAll_37 (by decide) ?_
            refine lv_istore (lv' := [(5, .int v2886), (4, .int v571), (3, .int v572), (0, .ref am), (2, .int p2)]) hx hb dX13_reckonAll_57 hl (by decide) rfl (fun ls hl => ?_)
            refine lv_aload_n hx hb dX13_reckonAll_59 rfl (lv_at hl 3 rfl) ?_
            refine mz_getI hx hb htl hown hK hM 20 (Nat.le_of_ble_eq_true rfl) rfl (htl _ mw_675) (fun _ h9 => h9) dX13_reckonAll_60 (fun v9 e9 => ?_)
            refine fx_ti (v := go) (e9.symm.trans hg_0) ?_
            refine lv_if_eq (tgt := 76) hx hb dX13_reckonAll_63 (by decide) (fun c9 => absurd (show go.toInt = 0 from (fi_eq rfl (show (0 : Int32).toInt = 0 by decide)).mp c9) (by omega)) (fun _ => ?_)
            refine lv_aload_n hx hb dX13_reckonAll_66 rfl (lv_at hl 3 rfl) ?_
            refine mz_getR hx hb htl hown hK hM 25 (Nat.le_of_ble_eq_true rfl) (Nat.le_of_ble_eq_true rfl) (htl _ mw_199) (fun _ h9 => h9) dX13_reckonAll_67 ?_
            refine lv_iload hx hb dX13_reckonAll_70 (lv_at hl 1 rfl) ?_
            refine mz_iald hx hb hK hM 25 (Nat.le_of_ble_eq_true rfl) rfl (nn := 400) rfl rfl (by omega) (by omega) dX13_reckonAll_72 (fun v2887 e_v2887 => ?_)
            have hq_v2887 := tk_rng v2887
            refine lv_goto (tgt := 95) hx hb dX13_reckonAll_73 (by decide) ?_
            refine lv_istore (lv' := [(6, .int v2887), (5, .int v2886), (4, .int v571), (3, .int v572), (0, .ref am), (2, .int p2)]) hx hb dX13_reckonAll_95 hl (by decide) rfl (fun ls hl => ?_)
            have h29 := hx_2 (by omega) v571.toInt.toNat (by omega)
            have hop : zo v571.toInt.toNat = v2886 := h29.1.symm.trans e_v2886
            have har : za v571.toInt.toNat = v2887 := h29.2.symm.trans e_v2887
            have hwk := hx_0.2.2.2 v571.toInt.toNat (by omega) (by omega)
            rw [hop, har, ← hdl] at hwk
            have hle := dl.le zo p1.toInt.toNat v571.toInt.toNat (by omega)
            rw [← hdl] at hle
            have hJ := hwk.2.2.2.2.2
            have hJ1 : 29 ≤ v2886.toInt → v571.toInt + 1 ≤ v2887.toInt ∧ v2887.toInt ≤ p2.toInt := fun h9 => ⟨by have := (hJ h9).1; omega, by have := (hJ h9).2.1; omega⟩
            obtain ⟨v2888, h_v2888, e_v2888⟩ := tk_inc v571 1 (by decide) (by omega) (by omega)
            refine lv_iinc (v := v2888) (lv' := [(4, .int v2888), (6, .int v2887), (5, .int v2886), (3, .int v572), (0, .ref am), (2, .int p2)]) hx hb dX13_reckonAll_97 hl (k := 2) rfl e_v2888 (by decide) rfl (fun ls hl => ?_)
            refine lv_iload hx hb dX13_reckonAll_100 (lv_at hl 2 rfl) ?_
            refine lv_bipush (v := 20) hx hb dX13_reckonAll_102 (by decide) ?_
            refine lv_icmp_ge (tgt := 208) hx hb dX13_reckonAll_104 (by decide) (fun c9 => ?_) (fun c9 => ?_)
            · have hc2889 : 20 ≤ v2886.toInt := (fi_le (show (20 : Int32).toInt = 20 by decide) rfl).mp c9
              refine lv_iload hx hb dX13_reckonAll_208 (lv_at hl 2 rfl) ?_
              refine lv_bipush (v := 28) hx hb dX13_reckonAll_210 (by decide) ?_
              refine lv_icmp_ge (tgt := 285) hx hb dX13_reckonAll_212 (by decide) (fun c9 => ?_) (fun c9 => ?_)
              · have hc2890 : 28 ≤ v2886.toInt := (fi_le (show (28 : Int32).toInt = 28 by decide) rfl).mp c9
                have hwk_2891 : 1 ≤ v572.toInt := by omega
                refine lv_iload hx hb dX13_reckonAll_285 (lv_at hl 2 rfl) ?_
                refine lv_bipush (v := 28) hx hb dX13_reckonAll_287 (by decide) ?_
                refine lv_icmp_ne (tgt := 313) hx hb dX13_reckonAll_289 (by decide) (fun c9 => ?_) (fun c9 => ?_)
                · have hc2892 : ¬ (v2886.toInt = 28) := fun h9 => c9 ((fi_eq rfl (show (28 : Int32).toInt = 28 by decide)).mpr h9)
                  have hwk_2893 : 0 ≤ v2887.toInt + (-1) * v571.toInt + (-1) ∧ 0 ≤ p2.toInt + (-1) * v2887.toInt := by omega
                  refine lv_aload_n hx hb dX13_reckonAll_313 rfl (lv_at hl 4 rfl) ?_
                  refine mz_getR hx hb htl hown hK hM 37 (Nat.le_of_ble_eq_true rfl) (Nat.le_of_ble_eq_true rfl) (htl _ mw_225) (fun _ h9 => h9) dX13_reckonAll_314 ?_
                  refine lv_iload_n hx hb dX13_reckonAll_317 rfl (lv_at hl 3 rfl) ?_
                  refine lv_iconst (v := 1) hx hb dX13_reckonAll_318 (by decide) ?_
                  refine lv_isub hx hb dX13_reckonAll_319 ?_
                  refine tk_sub rfl (show (1 : Int32).toInt = 1 by decide) (by omega) (by omega) (fun v2894 h_v2894 => ?_)
                  refine mz_lald hx hb hK hM 37 (Nat.le_of_ble_eq_true rfl) rfl (nn := 400) rfl rfl (by omega) (by omega) dX13_reckonAll_320 (fun w2895 _ => ?_)
                  refine lv_iload hx hb dX13_reckonAll_321 (lv_at hl 2 rfl) ?_
                  refine lv_bipush (v := 29) hx hb dX13_reckonAll_323 (by decide) ?_
                  refine lv_icmp_ne (tgt := 332) hx hb dX13_reckonAll_325 (by decide) (fun c9 => ?_) (fun c9 => ?_)
                  · have hc2896 : ¬ (v2886.toInt = 29) := fun h9 => c9 ((fi_eq rfl (show (29 : Int32).toInt = 29 by decide)).mpr h9)
                    refine lv_lconst (v := 1) hx hb dX13_reckonAll_332 (by decide) ?_
                    refine W.lcmp hx hb dX13_reckonAll_333 ?_
                    refine lv_if_ne (tgt := 344) hx hb dX13_reckonAll_334 (by decide) (fun c9 => ?_) (fun c9 => ?_)
                    · have hc2897 : ¬ (w2895.toInt = 1) := fun h9 => c9 (((lg_cmp_eq _ _).trans (fl_eq rfl (show (1 : Int64).toInt = 1 by decide))).mpr h9)
                      obtain ⟨v2898, h_v2898, e_v2898⟩ := tk_inc v572 (-1) (by decide) (by omega) (by omega)
                      refine lv_iinc (v := v2898) (lv' := [(3, .int v2898), (4, .int v2888), (6, .int v2887), (5, .int v2886), (0, .ref am), (2, .int p2)]) hx hb dX13_reckonAll_344 hl (k := 3) rfl e_v2898 (by decide) rfl (fun ls hl => ?_)
                      refine lv_goto (tgt := 10) hx hb dX13_reckonAll_347 (by decide) ?_
                      exact ih_l2671 v2888 v2898 v573 _ _ _ _ _ _ (by omega) (by omega) (by omega) (by omega) (by omega) (by omega) hM hS hIF hIG hIR hFF hGG hRR hg_0 hg_1 hf2 (by have h9 := dl.s zo v571.toInt.toNat; rw [hop, if_neg (by omega), if_neg (by omega)] at h9; rw [show v2888.toInt.toNat = v571.toInt.toNat + 1 by omega]; omega) (by omega) _ (lv_sub hl [1, 0, 4, 5] rfl)
                    · have hc2897 : w2895.toInt = 1 := ((lg_cmp_eq _ _).trans (fl_eq rfl (show (1 : Int64).toInt = 1 by decide))).mp c9
                      refine lv_iload hx hb dX13_reckonAll_337 (lv_at hl 1 rfl) ?_
                      refine lv_istore (lv' := [(4, .int v2887), (6, .int v2887), (5, .int v2886), (3, .int v572), (0, .ref am), (2, .int p2)]) hx hb dX13_reckonAll_339 hl (by decide) rfl (fun ls hl => ?_)
                      refine lv_goto (tgt := 347) hx hb dX13_reckonAll_341 (by decide) ?_
                      refine lv_goto (tgt := 10) hx hb dX13_reckonAll_347 (by decide) ?_
                      exact ih_l2671 v2887 v572 v573 _ _ _ _ _ _ (by omega) (by omega) (by omega) (by omega) (by omega) (by omega) hM hS hIF hIG hIR hFF hGG hRR hg_0 hg_1 hf2 (by rw [(hJ (by omega)).2.2]; exact hdl) (by omega) _ (lv_sub hl [0, 3, 4, 5] rfl)
                  · have hc2896 : v2886.toInt = 29 := (fi_eq rfl (show (29 : Int32).toInt = 29 by decide)).mp c9
                    refine lv_lconst (v := 0) hx hb dX13_reckonAll_328 (by decide) ?_
                    refine lv_goto (tgt := 333) hx hb dX13_reckonAll_329 (by decide) ?_
                    refine W.lcmp hx hb dX13_reckonAll_333 ?_
                    refine lv_if_ne (tgt := 344) hx hb dX13_reckonAll_334 (by decide) (fun c9 => ?_) (fun c9 => ?_)
                    · have hc2899 : ¬ (w2895.toInt = 0) := fun h9 => c9 (((lg_cmp_eq _ _).trans (fl_eq rfl (show (0 : Int64).toInt = 0 by decide))).mpr h9)
                      obtain ⟨v2900, h_v2900, e_v2900⟩ := tk_inc v572 (-1) (by decide) (by omega) (by omega)
                      refine lv_iinc (v := v2900) (lv' := [(3, .int v2900), (4, .int v2888), (6, .int v2887), (5, .int v2886), (0, .ref am), (2, .int p2)]) hx hb dX13_reckonAll_344 hl (k := 3) rfl e_v2900 (by decide) rfl (fun ls hl => ?_)
                      refine lv_goto (tgt := 10) hx hb dX13_reckonAll_347 (by decide) ?_
                      exact ih_l2671 v2888 v2900 v573 _ _ _ _ _ _ (by omega) (by omega) (by omega) (by omega) (by omega) (by omega) hM hS hIF hIG hIR hFF hGG hRR hg_0 hg_1 hf2 (by have h9 := dl.s zo v571.toInt.toNat; rw [hop, if_neg (by omega), if_neg (by omega)] at h9; rw [show v2888.toInt.toNat = v571.toInt.toNat + 1 by omega]; omega) (by omega) _ (lv_sub hl [1, 0, 4, 5] rfl)
                    · have hc2899 : w2895.toInt = 0 := ((lg_cmp_eq _ _).trans (fl_eq rfl (show (0 : Int64).toInt = 0 by decide))).mp c9
                      refine lv_iload hx hb dX13_reckonAll_337 (lv_at hl 1 rfl) ?_
                      refine lv_istore (lv' := [(4, .int v2887), (6, .int v2887), (5, .int v2886), (3, .int v572), (0, .ref am), (2, .int p2)]) hx hb dX13_reckonAll_339 hl (by decide) rfl (fun ls hl => ?_)
                      refine lv_goto (tgt := 347) hx hb dX13_reckonAll_341 (by decide) ?_
                      refine lv_goto (tgt := 10) hx hb dX13_reckonAll_347 (by decide) ?_
                      exact ih_l2671 v2887 v572 v573 _ _ _ _ _ _ (by omega) (by omega) (by omega) (by omega) (by omega) (by omega) hM hS hIF hIG hIR hFF hGG hRR hg_0 hg_1 hf2 (by rw [(hJ (by omega)).2.2]; exact hdl) (by omega) _ (lv_sub hl [0, 3, 4, 5] rfl)
                · have hc2892 : v2886.toInt = 28 := (fi_eq rfl (show (28 : Int32).toInt = 28 by decide)).mp c9
                  refine lv_aload_n hx hb dX13_reckonAll_292 rfl (lv_at hl 4 rfl) ?_
                  refine mz_getR hx hb htl hown hK hM 37 (Nat.le_of_ble_eq_true rfl) (Nat.le_of_ble_eq_true rfl) (htl _ mw_225) (fun _ h9 => h9) dX13_reckonAll_293 ?_
                  refine lv_iload_n hx hb dX13_reckonAll_296 rfl (lv_at hl 3 rfl) ?_
                  refine lv_iconst (v := 1) hx hb dX13_reckonAll_297 (by decide) ?_
                  refine lv_isub hx hb dX13_reckonAll_298 ?_
                  refine tk_sub rfl (show (1 : Int32).toInt = 1 by decide) (by omega) (by omega) (fun v2901 h_v2901 => ?_)
                  refine lv_lconst (v := 1) hx hb dX13_reckonAll_299 (by decide) ?_
                  refine lv_aload_n hx hb dX13_reckonAll_300 rfl (lv_at hl 4 rfl) ?_
                  refine mz_getR hx hb htl hown hK hM 37 (Nat.le_of_ble_eq_true rfl) (Nat.le_of_ble_eq_true rfl) (htl _ mw_225) (fun _ h9 => h9) dX13_reckonAll_301 ?_
                  refine lv_iload_n hx hb dX13_reckonAll_304 rfl (lv_at hl 3 rfl) ?_
                  refine lv_iconst (v := 1) hx hb dX13_reckonAll_305 (by decide) ?_
                  refine lv_isub hx hb dX13_reckonAll_306 ?_
                  refine tk_sub rfl (show (1 : Int32).toInt = 1 by decide) (by omega) (by omega) (fun v2902 h_v2902 => ?_)
                  refine mz_lald hx hb hK hM 37 (Nat.le_of_ble_eq_true rfl) rfl (nn := 400) rfl rfl (by omega) (by omega) dX13_reckonAll_307 (fun w2903 _ => ?_)
                  refine lv_lsub hx hb dX13_reckonAll_308 ?_
                  refine tk_anyl (fun w2904 => ?_)
                  refine mz_last (x := w2904) hx hb hK hD hM hS 37 (Nat.le_of_ble_eq_true rfl) rfl (nn := 400) rfl rfl (by omega) (by omega) dX13_reckonAll_309 (fun H locs S hM hS _ _ => ?_)
                  refine lv_goto (tgt := 347) hx hb dX13_reckonAll_310 (by decide) ?_
                  refine lv_goto (tgt := 10) hx hb dX13_reckonAll_347 (by decide) ?_
                  exact ih_l2671 v2888 v572 v573 _ _ _ _ _ _ (by omega) (by omega) (by omega) (by omega) (by omega) (by omega) hM hS hIF hIG hIR hFF hGG hRR hg_0 hg_1 hf2 (by have h9 := dl.s zo v571.toInt.toNat; rw [hop, if_neg (by omega), if_pos (by omega)] at h9; rw [show v2888.toInt.toNat = v571.toInt.toNat + 1 by omega]; omega) (by omega) _ (lv_sub hl [0, 3, 4, 5] rfl)
              · have hc2890 : ¬ (28 ≤ v2886.toInt) := fun h9 => c9 ((fi_le (show (28 : Int32).toInt = 28 by decide) rfl).mpr h9)
                have hwk_2907 : 2 ≤ v572.toInt := by omega
                obtain ⟨v2906, h_v2906, e_v2906⟩ := tk_inc v572 (-1) (by decide) (by omega) (by omega)
                refine lv_iinc (v := v2906) (lv' := [(3, .int v2906), (4, .int v2888), (6, .int v2887), (5, .int v2886), (0, .ref am), (2, .int p2)]) hx hb dX13_reckonAll_215 hl (k := 3) rfl e_v2906 (by decide) rfl (fun ls hl => ?_)
                refine lv_aload_n hx hb dX13_reckonAll_218 rfl (lv_at hl 4 rfl) ?_
                refine mz_getR hx hb htl hown hK hM 37 (Nat.le_of_ble_eq_true rfl) (Nat.le_of_ble_eq_true rfl) (htl _ mw_225) (fun _ h9 => h9) dX13_reckonAll_219 ?_
                refine lv_iload_n hx hb dX13_reckonAll_222 rfl (lv_at hl 0 rfl) ?_
                refine lv_iconst (v := 1) hx hb dX13_reckonAll_223 (by decide) ?_
                refine lv_isub hx hb dX13_reckonAll_224 ?_
                refine tk_sub rfl (show (1 : Int32).toInt = 1 by decide) (by omega) (by omega) (fun v2908 h_v2908 => ?_)
                refine lv_aload_n hx hb dX13_reckonAll_225 rfl (lv_at hl 4 rfl) ?_
                refine lv_iload hx hb dX13_reckonAll_226 (lv_at hl 3 rfl) ?_
                refine lv_aload_n hx hb dX13_reckonAll_228 rfl (lv_at hl 4 rfl) ?_
                refine mz_getR hx hb htl hown hK hM 37 (Nat.le_of_ble_eq_true rfl) (Nat.le_of_ble_eq_true rfl) (htl _ mw_225) (fun _ h9 => h9) dX13_reckonAll_229 ?_
                refine lv_iload_n hx hb dX13_reckonAll_232 rfl (lv_at hl 0 rfl) ?_
                refine lv_iconst (v := 1) hx hb dX13_reckonAll_233 (by decide) ?_
                refine lv_isub hx hb dX13_reckonAll_234 ?_
                refine tk_sub rfl (show (1 : Int32).toInt = 1 by decide) (by omega) (by omega) (fun v2909 h_v2909 => ?_)
                refine mz_lald hx hb hK hM 37 (Nat.le_of_ble_eq_true rfl) rfl (nn := 400) rfl rfl (by omega) (by omega) dX13_reckonAll_235 (fun w2910 _ => ?_)
                refine lv_aload_n hx hb dX13_reckonAll_236 rfl (lv_at hl 4 rfl) ?_
                refine mz_getR hx hb htl hown hK hM 37 (Nat.le_of_ble_eq_true rfl) (Nat.le_of_ble_eq_true rfl) (htl _ mw_225) (fun _ h9 => h9) dX13_reckonAll_237 ?_
                refine lv_iload_n hx hb dX13_reckonAll_240 rfl (lv_at hl 0 rfl) ?_
                refine mz_lald hx hb hK hM 37 (Nat.le_of_ble_eq_true rfl) rfl (nn := 400) rfl rfl (by omega) (by omega) dX13_reckonAll_241 (fun w2911 _ => ?_)
                refine mz_Vl (As := [.int v2886, .long w2910, .long w2911]) (rest := [.int v2908, .ref (ad 37)]) ⟨hx, hb, hml, hown, hts⟩ hK hM hS (k_X13_reckon l D cy ld ad am hD _ _ _ _ v2886 w2910 w2911 hIF hIG hIR) ⟨callB_of 3 hts (wl_in mw_1063) rfl rfl rfl (htl _ mw_5) (htl _ mw_1060) hd_yX13_reckon ⟨(Nat.le_of_ble_eq_true rfl), (Nat.le_of_ble_eq_true rfl)⟩, htl _ mw_1061, htl _ mw_1062⟩ rfl hl.1 rfl (Nat.le_of_ble_eq_true rfl) dX13_reckonAll_242 ⟨(Nat.le_of_ble_eq_true rfl), (Nat.le_of_ble_eq_true rfl)⟩ (fun w2912 H locs F G R S hpo hM hS => ?_)
                obtain ⟨hIF, hIG, hIR, hfr9, hrr9, hgr9⟩ := hpo
                have hq_w2912 := tk_rngL w2912
                have hFF := mz_fr (K := [38]) (Fa := Fa) hfr9 hFF (by decide)
                have hRR := mz_fr (K := []) (Fa := Ra) hrr9 hRR (by decide)
                have hGG := mz_fr (K := [39]) (Fa := Ga) hgr9 hGG (by decide)
                have e_v2886 : R 24 (v571 : Int32).toNatClampNeg = _ := (congrFun (hrr9 24 (by decide)) _).trans e_v2886
                have e_v2887 : R 25 (v571 : Int32).toNatClampNeg = _ := (congrFun (hrr9 25 (by decide)) _).trans e_v2887
                have hg_0 := (hfr9 20 (by decide)).trans hg_0
                have hg_1 := (hfr9 34 (by decide)).trans hg_1
                refine mz_last (x := w2912) hx hb hK hD hM hS 37 (Nat.le_of_ble_eq_true rfl) rfl (nn := 400) rfl rfl (by omega) (by omega) dX13_reckonAll_245 (fun H locs S hM hS _ _ => ?_)
                refine lv_aload_n hx hb dX13_reckonAll_246 rfl (lv_at hl 4 rfl) ?_
                refine lv_aload_n hx hb dX13_reckonAll_247 rfl (lv_at hl 4 rfl) ?_
                refine mz_getI hx hb htl hown hK hM 38 (Nat.le_of_ble_eq_true rfl) rfl (htl _ mw_1051) (fun _ h9 => h9) dX13_reckonAll_248 (fun v2916 hf2915 => ?_)
                have hq_v2916 := tk_rng v2916
                have hr_v2916 : 0 ≤ v2916.toInt ∧ v2916.toInt ≤ 1 := hIF.at hf2915
                refine lv_if_ne (tgt := 274) hx hb dX13_reckonAll_251 (by decide) (fun c9 => ?_) (fun c9 => ?_)
                · have hc2917 : ¬ (v2916.toInt = 0) := fun h9 => c9 ((fi_eq rfl (show (0 : Int32).toInt = 0 by decide)).mpr h9)
                  refine lv_iconst (v := 1) hx hb dX13_reckonAll_274 (by decide) ?_
                  refine lv_goto (tgt := 279) hx hb dX13_reckonAll_275 (by decide) ?_
                  have hk_1 : (1 : Int32).toInt = 1 := by decide
                  have hk_1 : (1 : Int32).toInt = 1 := by decide
                  refine mz_putI (ty := .boolean) (x := 1) hx hb htl hown hK hD hM hS 38 (Nat.le_of_ble_eq_true rfl) rfl (htl _ mw_1051) (fun _ h9 => h9) rfl (tyX13_ok 38 (by decide)) rfl rfl dX13_reckonAll_279 (fun H locs F hM hS hf9 hj9 => ?_)
                  have hIF := hIF.put hf9 hj9 (show 0 ≤ (1 : Int32).toInt by omega) (show (1 : Int32).toInt ≤ 1 by omega) (by decide)
                  have hFF := mz_frp (K := [38]) (Fa := Fa) hj9 hFF (by decide)
                  have hg_0 := (hj9 20 (by decide)).trans hg_0
                  have hg_1 := (hj9 34 (by decide)).trans hg_1
                  have hf2919 := hf9
                  refine lv_goto (tgt := 347) hx hb dX13_reckonAll_282 (by decide) ?_
                  refine lv_goto (tgt := 10) hx hb dX13_reckonAll_347 (by decide) ?_
                  have hk_1 : (1 : Int32).toInt = 1 := by decide
                  exact ih_l2671 v2888 v2906 1 _ _ _ _ _ _ (by omega) (by omega) (by omega) (by omega) (by omega) (by omega) hM hS hIF hIG hIR hFF hGG hRR hg_0 hg_1 hf2919 (by have h9 := dl.s zo v571.toInt.toNat; rw [hop, if_neg (by omega), if_neg (by omega)] at h9; rw [show v2888.toInt.toNat = v571.toInt.toNat + 1 by omega]; omega) (by omega) _ (lv_sub hl [1, 0, 4, 5] rfl)
                · have hc2917 : v2916.toInt = 0 := (fi_eq rfl (show (0 : Int32).toInt = 0 by decide)).mp c9
                  refine lv_aload_n hx hb dX13_reckonAll_254 rfl (lv_at hl 4 rfl) ?_
                  refine mz_getR hx hb htl hown hK hM 37 (Nat.le_of_ble_eq_true rfl) (Nat.le_of_ble_eq_true rfl) (htl _ mw_225) (fun _ h9 => h9) dX13_reckonAll_255 ?_
                  refine lv_iload_n hx hb dX13_reckonAll_258 rfl (lv_at hl 0 rfl) ?_
                  refine lv_iconst (v := 1) hx hb dX13_reckonAll_259 (by decide) ?_
                  refine lv_isub hx hb dX13_reckonAll_260 ?_
                  refine tk_sub rfl (show (1 : Int32).toInt = 1 by decide) (by omega) (by omega) (fun v2920 h_v2920 => ?_)
                  refine mz_lald hx hb hK hM 37 (Nat.le_of_ble_eq_true rfl) rfl (nn := 400) rfl rfl (by omega) (by omega) dX13_reckonAll_261 (fun w2921 _ => ?_)
                  refine lv_ldc2 hx hb hown (htl _ mw_1058) dX13_reckonAll_262 ?_
                  refine lv_ldc2 hx hb hown (htl _ mw_1059) dX13_reckonAll_265 ?_
                  have hk_m1000000000 : ((-1000000000) : Int64).toInt = (-1000000000) := by decide
                  have hk_1000000000 : (1000000000 : Int64).toInt = 1000000000 := by decide
                  refine mz_Sj (As := [.long w2921, .long (-1000000000), .long 1000000000]) (rest := [.ref am]) ⟨hx, hb, hml, hown, hts⟩ hK hM hS (k_X13_in l D cy ld ad am hD _ _ _ _ w2921 (-1000000000) 1000000000) ⟨callB_of 3 hts (wl_in mw_292) rfl rfl rfl (htl _ mw_5) (htl _ mw_290) hd_yX13_in ⟨(Nat.le_of_ble_eq_true rfl), (Nat.le_of_ble_eq_true rfl)⟩, htl _ mw_291⟩ rfl hl.1 rfl (Nat.le_of_ble_eq_true rfl) dX13_reckonAll_268 ⟨(Nat.le_of_ble_eq_true rfl), (Nat.le_of_ble_eq_true rfl)⟩ (fun v2922 H locs hpo hM hS => ?_)
                  obtain ⟨hpo2923, hpo2924, hpo2925, hpo2926, hpo2927, hpo2928⟩ := hpo
                  have hq_v2922 := tk_rng v2922
                  refine lv_if_ne (tgt := 278) hx hb dX13_reckonAll_271 (by decide) (fun c9 => ?_) (fun c9 => ?_)
                  · have hc2930 : ¬ (v2922.toInt = 0) := fun h9 => c9 ((fi_eq rfl (show (0 : Int32).toInt = 0 by decide)).mpr h9)
                    have hwk_2931 : (-1000000000) ≤ w2921.toInt ∧ w2921.toInt ≤ 1000000000 := by omega
                    refine lv_iconst (v := 0) hx hb dX13_reckonAll_278 (by decide) ?_
                    have hk_0 : (0 : Int32).toInt = 0 := by decide
                    have hk_0 : (0 : Int32).toInt = 0 := by decide
                    refine mz_putI (ty := .boolean) (x := 0) hx hb htl hown hK hD hM hS 38 (Nat.le_of_ble_eq_true rfl) rfl (htl _ mw_1051) (fun _ h9 => h9) rfl (tyX13_ok 38 (by decide)) rfl rfl dX13_reckonAll_279 (fun H locs F hM hS hf9 hj9 => ?_)
                    have hIF := hIF.put hf9 hj9 (show 0 ≤ (0 : Int32).toInt by omega) (show (0 : Int32).toInt ≤ 1 by omega) (by decide)
                    have hFF := mz_frp (K := [38]) (Fa := Fa) hj9 hFF (by decide)
                    have hg_0 := (hj9 20 (by decide)).trans hg_0
                    have hg_1 := (hj9 34 (by decide)).trans hg_1
                    have hf2933 := hf9
                    refine lv_goto (tgt := 347) hx hb dX13_reckonAll_282 (by decide) ?_
                    refine lv_goto (tgt := 10) hx hb dX13_reckonAll_347 (by decide) ?_
                    have hk_0 : (0 : Int32).toInt = 0 := by decide
                    exact ih_l2671 v2888 v2906 0 _ _ _ _ _ _ (by omega) (by omega) (by omega) (by omega) (by omega) (by omega) hM hS hIF hIG hIR hFF hGG hRR hg_0 hg_1 hf2933 (by have h9 := dl.s zo v571.toInt.toNat; rw [hop, if_neg (by omega), if_neg (by omega)] at h9; rw [show v2888.toInt.toNat = v571.toInt.toNat + 1 by omega]; omega) (by omega) _ (lv_sub hl [1, 0, 4, 5] rfl)
                  · have hc2930 : v2922.toInt = 0 := (fi_eq rfl (show (0 : Int32).toInt = 0 by decide)).mp c9
                    refine lv_iconst (v := 1) hx hb dX13_reckonAll_274 (by decide) ?_
                    refine lv_goto (tgt := 279) hx hb dX13_reckonAll_275 (by decide) ?_
                    have hk_1 : (1 : Int32).toInt = 1 := by decide
                    have hk_1 : (1 : Int32).toInt = 1 := by decide
                    refine mz_putI (ty := .boolean) (x := 1) hx hb htl hown hK hD hM hS 38 (Nat.le_of_ble_eq_true rfl) rfl (htl _ mw_1051) (fun _ h9 => h9) rfl (tyX13_ok 38 (by decide)) rfl rfl dX13_reckonAll_279 (fun H locs F hM hS hf9 hj9 => ?_)
                    have hIF := hIF.put hf9 hj9 (show 0 ≤ (1 : Int32).toInt by omega) (show (1 : Int32).toInt ≤ 1 by omega) (by decide)
                    have hFF := mz_frp (K := [38]) (Fa := Fa) hj9 hFF (by decide)
                    have hg_0 := (hj9 20 (by decide)).trans hg_0
                    have hg_1 := (hj9 34 (by decide)).trans hg_1
                    have hf2935 := hf9
                    refine lv_goto (tgt := 347) hx hb dX13_reckonAll_282 (by decide) ?_
                    refine lv_goto (tgt := 10) hx hb dX13_reckonAll_347 (by decide) ?_
                    have hk_1 : (1 : Int32).toInt = 1 := by decide
                    exact ih_l2671 v2888 v2906 1 _ _ _ _ _ _ (by omega) (by omega) (by omega) (by omega) (by omega) (by omega) hM hS hIF hIG hIR hFF hGG hRR hg_0 hg_1 hf2935 (by have h9 := dl.s zo v571.toInt.toNat; rw [hop, if_neg (by omega), if_neg (by omega)] at h9; rw [show v2888.toInt.toNat = v571.toInt.toNat + 1 by omega]; omega) (by omega) _ (lv_sub hl [1, 0, 4, 5] rfl)
            · have hc2889 : ¬ (20 ≤ v2886.toInt) := fun h9 => c9 ((fi_le (show (20 : Int32).toInt = 20 by decide) rfl).mpr h9)
              have hwk_2936 : v2886.toInt ≤ 9 := by omega
              refine lv_aload_n hx hb dX13_reckonAll_107 rfl (lv_at hl 4 rfl) ?_
              refine mz_getR hx hb htl hown hK hM 37 (Nat.le_of_ble_eq_true rfl) (Nat.le_of_ble_eq_true rfl) (htl _ mw_225) (fun _ h9 => h9) dX13_reckonAll_108 ?_
              refine lv_iload_n hx hb dX13_reckonAll_111 rfl (lv_at hl 3 rfl) ?_
              refine lv_iload hx hb dX13_reckonAll_112 (lv_at hl 2 rfl) ?_
              refine lv_if_ne (tgt := 123) hx hb dX13_reckonAll_114 (by decide) (fun c9 => ?_) (fun c9 => ?_)
              · have hc2937 : ¬ (v2886.toInt = 0) := fun h9 => c9 ((fi_eq rfl (show (0 : Int32).toInt = 0 by decide)).mpr h9)
                refine lv_aload_n hx hb dX13_reckonAll_123 rfl (lv_at hl 4 rfl) ?_
                refine mz_getI hx hb htl hown hK hM 20 (Nat.le_of_ble_eq_true rfl) rfl (htl _ mw_675) (fun _ h9 => h9) dX13_reckonAll_124 (fun v9 e9 => ?_)
                refine fx_ti (v := go) (e9.symm.trans hg_0) ?_
                refine lv_if_ne (tgt := 140) hx hb dX13_reckonAll_127 (by decide) (fun _ => ?_) (fun c9 => absurd (show go.toInt = 0 from (fi_eq rfl (show (0 : Int32).toInt = 0 by decide)).mp c9) (by omega))
                refine lv_iload hx hb dX13_reckonAll_140 (lv_at hl 2 rfl) ?_
                refine lv_bipush (v := 6) hx hb dX13_reckonAll_142 (by decide) ?_
                refine lv_icmp_ge (tgt := 157) hx hb dX13_reckonAll_144 (by decide) (fun c9 => ?_) (fun c9 => ?_)
                · have hc2938 : 6 ≤ v2886.toInt := (fi_le (show (6 : Int32).toInt = 6 by decide) rfl).mp c9
                  have hwk_2939 : 0 ≤ v2887.toInt ∧ v2887.toInt ≤ 7 := by omega
                  refine lv_iload hx hb dX13_reckonAll_157 (lv_at hl 2 rfl) ?_
                  refine lv_bipush (v := 6) hx hb dX13_reckonAll_159 (by decide) ?_
                  refine lv_icmp_eq (tgt := 178) hx hb dX13_reckonAll_161 (by decide) (fun c9 => ?_) (fun c9 => ?_)
                  · have hc2940 : v2886.toInt = 6 := (fi_eq rfl (show (6 : Int32).toInt = 6 by decide)).mp c9
                    refine lv_aload_n hx hb dX13_reckonAll_178 rfl (lv_at hl 4 rfl) ?_
                    refine lv_iload hx hb dX13_reckonAll_179 (lv_at hl 1 rfl) ?_
                    refine mz_Vj (As := [.int v2887]) (rest := [.int v572, .ref (ad 37)]) ⟨hx, hb, hml, hown, hts⟩ hK hM hS (k_X13_isSinger l D cy ld ad am hD _ _ _ _ v2887 hIF hIG hIR) ⟨callB_of 1 hts (wl_in mw_320) rfl rfl rfl (htl _ mw_5) (htl _ mw_317) hd_yX13_isSinger ⟨(Nat.le_of_ble_eq_true rfl), (Nat.le_of_ble_eq_true rfl)⟩, htl _ mw_318, htl _ mw_319⟩ rfl hl.1 rfl (Nat.le_of_ble_eq_true rfl) dX13_reckonAll_181 ⟨(Nat.le_of_ble_eq_true rfl), (Nat.le_of_ble_eq_true rfl)⟩ (fun v2941 H locs hpo hM hS => ?_)
                    obtain ⟨hpo2942, hpo2943, hpo2944, hpo2945, hpo2946⟩ := hpo
                    have hq_v2941 := tk_rng v2941
                    refine lv_if_eq (tgt := 198) hx hb dX13_reckonAll_184 (by decide) (fun c9 => ?_) (fun c9 => ?_)
                    · have hc2948 : v2941.toInt = 0 := (fi_eq rfl (show (0 : Int32).toInt = 0 by decide)).mp c9
                      refine lv_ldc2 hx hb hown (htl _ mw_691) dX13_reckonAll_198 ?_
                      have hk_m1 : ((-1) : Int64).toInt = (-1) := by decide
                      refine mz_last (x := (-1)) hx hb hK hD hM hS 37 (Nat.le_of_ble_eq_true rfl) rfl (nn := 400) rfl rfl (by omega) (by omega) dX13_reckonAll_201 (fun H locs S hM hS _ _ => ?_)
                      obtain ⟨v2950, h_v2950, e_v2950⟩ := tk_inc v572 1 (by decide) (by omega) (by omega)
                      refine lv_iinc (v := v2950) (lv' := [(3, .int v2950), (4, .int v2888), (6, .int v2887), (5, .int v2886), (0, .ref am), (2, .int p2)]) hx hb dX13_reckonAll_202 hl (k := 3) rfl e_v2950 (by decide) rfl (fun ls hl => ?_)
                      refine lv_goto (tgt := 347) hx hb dX13_reckonAll_205 (by decide) ?_
                      refine lv_goto (tgt := 10) hx hb dX13_reckonAll_347 (by decide) ?_
                      exact ih_l2671 v2888 v2950 v573 _ _ _ _ _ _ (by omega) (by omega) (by omega) (by omega) (by omega) (by omega) hM hS hIF hIG hIR hFF hGG hRR hg_0 hg_1 hf2 (by have h9 := dl.s zo v571.toInt.toNat; rw [hop, if_pos (by omega)] at h9; rw [show v2888.toInt.toNat = v571.toInt.toNat + 1 by omega]; omega) (by omega) _ (lv_sub hl [1, 0, 4, 5] rfl)
                    · have hc2948 : ¬ (v2941.toInt = 0) := fun h9 => c9 ((fi_eq rfl (show (0 : Int32).toInt = 0 by decide)).mpr h9)
                      refine lv_aload_n hx hb dX13_reckonAll_187 rfl (lv_at hl 4 rfl) ?_
                      refine lv_iload hx hb dX13_reckonAll_188 (lv_at hl 1 rfl) ?_
                      refine lv_iconst (v := 0) hx hb dX13_reckonAll_190 (by decide) ?_
                      have hk_0 : (0 : Int32).toInt = 0 := by decide
                      refine mz_Vj (As := [.int v2887, .int 0]) (rest := [.int v572, .ref (ad 37)]) ⟨hx, hb, hml, hown, hts⟩ hK hM hS (k_X13_ofSinger_0 l D cy ld ad am hD _ _ _ _ v2887 hIF hIG hIR (by omega) (by omega)) ⟨callB_of 2 hts (wl_in mw_324) rfl rfl rfl (htl _ mw_5) (htl _ mw_321) hd_yX13_ofSinger ⟨(Nat.le_of_ble_eq_true rfl), (Nat.le_of_ble_eq_true rfl)⟩, htl _ mw_322, htl _ mw_323⟩ rfl hl.1 rfl (Nat.le_of_ble_eq_true rfl) dX13_reckonAll_191 ⟨(Nat.le_of_ble_eq_true rfl), (Nat.le_of_ble_eq_true rfl)⟩ (fun v2951 H locs hpo hM hS => ?_)
                      have hq_v2951 := tk_rng v2951
                      obtain ⟨w2953, e_w2953, h_w2953⟩ : ∃ z : Int64, v2951.toInt64 = z ∧ z.toInt = v2951.toInt := ⟨_, rfl, fl_w _⟩
                      refine lv_i2l (v := w2953) hx hb dX13_reckonAll_194 e_w2953 ?_
                      refine lv_goto (tgt := 201) hx hb dX13_reckonAll_195 (by decide) ?_
                      refine mz_last (x := w2953) hx hb hK hD hM hS 37 (Nat.le_of_ble_eq_true rfl) rfl (nn := 400) rfl rfl (by omega) (by omega) dX13_reckonAll_201 (fun H locs S hM hS _ _ => ?_)
                      obtain ⟨v2955, h_v2955, e_v2955⟩ := tk_inc v572 1 (by decide) (by omega) (by omega)
                      refine lv_iinc (v := v2955) (lv' := [(3, .int v2955), (4, .int v2888), (6, .int v2887), (5, .int v2886), (0, .ref am), (2, .int p2)]) hx hb dX13_reckonAll_202 hl (k := 3) rfl e_v2955 (by decide) rfl (fun ls hl => ?_)
                      refine lv_goto (tgt := 347) hx hb dX13_reckonAll_205 (by decide) ?_
                      refine lv_goto (tgt := 10) hx hb dX13_reckonAll_347 (by decide) ?_
                      exact ih_l2671 v2888 v2955 v573 _ _ _ _ _ _ (by omega) (by omega) (by omega) (by omega) (by omega) (by omega) hM hS hIF hIG hIR hFF hGG hRR hg_0 hg_1 hf2 (by have h9 := dl.s zo v571.toInt.toNat; rw [hop, if_pos (by omega)] at h9; rw [show v2888.toInt.toNat = v571.toInt.toNat + 1 by omega]; omega) (by omega) _ (lv_sub hl [1, 0, 4, 5] rfl)
                  · have hc2940 : ¬ (v2886.toInt = 6) := fun h9 => c9 ((fi_eq rfl (show (6 : Int32).toInt = 6 by decide)).mpr h9)
                    refine lv_aload_n hx hb dX13_reckonAll_164 rfl (lv_at hl 4 rfl) ?_
                    refine mz_getR hx hb htl hown hK hM 3 (Nat.le_of_ble_eq_true rfl) (Nat.le_of_ble_eq_true rfl) (htl _ mw_188) (fun _ h9 => h9) dX13_reckonAll_165 ?_
                    refine lv_bipush (v := 10) hx hb dX13_reckonAll_168 (by decide) ?_
                    refine lv_iload hx hb dX13_reckonAll_170 (lv_at hl 1 rfl) ?_
                    refine lv_iadd hx hb dX13_reckonAll_172 ?_
                    refine tk_add (show (10 : Int32).toInt = 10 by decide) rfl (by omega) (by omega) (fun v2956 h_v2956 => ?_)
                    refine mz_iald hx hb hK hM 3 (Nat.le_of_ble_eq_true rfl) rfl (nn := 5560) rfl rfl (by omega) (by omega) dX13_reckonAll_173 (fun v2957 e_v2957 => ?_)
                    have hq_v2957 := tk_rng v2957
                    obtain ⟨w2958, e_w2958, h_w2958⟩ : ∃ z : Int64, v2957.toInt64 = z ∧ z.toInt = v2957.toInt := ⟨_, rfl, fl_w _⟩
                    refine lv_i2l (v := w2958) hx hb dX13_reckonAll_174 e_w2958 ?_
                    refine lv_goto (tgt := 201) hx hb dX13_reckonAll_175 (by decide) ?_
                    refine mz_last (x := w2958) hx hb hK hD hM hS 37 (Nat.le_of_ble_eq_true rfl) rfl (nn := 400) rfl rfl (by omega) (by omega) dX13_reckonAll_201 (fun H locs S hM hS _ _ => ?_)
                    obtain ⟨v2960, h_v2960, e_v2960⟩ := tk_inc v572 1 (by decide) (by omega) (by omega)
                    refine lv_iinc (v := v2960) (lv' := [(3, .int v2960), (4, .int v2888), (6, .int v2887), (5, .int v2886), (0, .ref am), (2, .int p2)]) hx hb dX13_reckonAll_202 hl (k := 3) rfl e_v2960 (by decide) rfl (fun ls hl => ?_)
                    refine lv_goto (tgt := 347) hx hb dX13_reckonAll_205 (by decide) ?_
                    refine lv_goto (tgt := 10) hx hb dX13_reckonAll_347 (by decide) ?_
                    exact ih_l2671 v2888 v2960 v573 _ _ _ _ _ _ (by omega) (by omega) (by omega) (by omega) (by omega) (by omega) hM hS hIF hIG hIR hFF hGG hRR hg_0 hg_1 hf2 (by have h9 := dl.s zo v571.toInt.toNat; rw [hop, if_pos (by omega)] at h9; rw [show v2888.toInt.toNat = v571.toInt.toNat + 1 by omega]; omega) (by omega) _ (lv_sub hl [1, 0, 4, 5] rfl)
                · have hc2938 : ¬ (6 ≤ v2886.toInt) := fun h9 => c9 ((fi_le (show (6 : Int32).toInt = 6 by decide) rfl).mpr h9)
                  refine lv_aload_n hx hb dX13_reckonAll_147 rfl (lv_at hl 4 rfl) ?_
                  refine mz_getR hx hb htl hown hK hM 36 (Nat.le_of_ble_eq_true rfl) (Nat.le_of_ble_eq_true rfl) (htl _ mw_224) (fun _ h9 => h9) dX13_reckonAll_148 ?_
                  refine lv_iload hx hb dX13_reckonAll_151 (lv_at hl 2 rfl) ?_
                  refine mz_lald hx hb hK hM 36 (Nat.le_of_ble_eq_true rfl) rfl (nn := 13) rfl rfl (by omega) (by omega) dX13_reckonAll_153 (fun w2961 _ => ?_)
                  refine lv_goto (tgt := 201) hx hb dX13_reckonAll_154 (by decide) ?_
                  refine mz_last (x := w2961) hx hb hK hD hM hS 37 (Nat.le_of_ble_eq_true rfl) rfl (nn := 400) rfl rfl (by omega) (by omega) dX13_reckonAll_201 (fun H locs S hM hS _ _ => ?_)
                  obtain ⟨v2963, h_v2963, e_v2963⟩ := tk_inc v572 1 (by decide) (by omega) (by omega)
                  refine lv_iinc (v := v2963) (lv' := [(3, .int v2963), (4, .int v2888), (6, .int v2887), (5, .int v2886), (0, .ref am), (2, .int p2)]) hx hb dX13_reckonAll_202 hl (k := 3) rfl e_v2963 (by decide) rfl (fun ls hl => ?_)
                  refine lv_goto (tgt := 347) hx hb dX13_reckonAll_205 (by decide) ?_
                  refine lv_goto (tgt := 10) hx hb dX13_reckonAll_347 (by decide) ?_
                  exact ih_l2671 v2888 v2963 v573 _ _ _ _ _ _ (by omega) (by omega) (by omega) (by omega) (by omega) (by omega) hM hS hIF hIG hIR hFF hGG hRR hg_0 hg_1 hf2 (by have h9 := dl.s zo v571.toInt.toNat; rw [hop, if_pos (by omega)] at h9; rw [show v2888.toInt.toNat = v571.toInt.toNat + 1 by omega]; omega) (by omega) _ (lv_sub hl [1, 0, 4, 5] rfl)
              · have hc2937 : v2886.toInt = 0 := (fi_eq rfl (show (0 : Int32).toInt = 0 by decide)).mp c9
                refine lv_iload hx hb dX13_reckonAll_117 (lv_at hl 1 rfl) ?_
                obtain ⟨w2964, e_w2964, h_w2964⟩ : ∃ z : Int64, v2887.toInt64 = z ∧ z.toInt = v2887.toInt := ⟨_, rfl, fl_w _⟩
                refine lv_i2l (v := w2964) hx hb dX13_reckonAll_119 e_w2964 ?_
                refine lv_goto (tgt := 201) hx hb dX13_reckonAll_120 (by decide) ?_
                refine mz_last (x := w2964) hx hb hK hD hM hS 37 (Nat.le_of_ble_eq_true rfl) rfl (nn := 400) rfl rfl (by omega) (by omega) dX13_reckonAll_201 (fun H locs S hM hS _ _ => ?_)
                obtain ⟨v2966, h_v2966, e_v2966⟩ := tk_inc v572 1 (by decide) (by omega) (by omega)
                refine lv_iinc (v := v2966) (lv' := [(3, .int v2966), (4, .int v2888), (6, .int v2887), (5, .int v2886), (0, .ref am), (2, .int p2)]) hx hb dX13_reckonAll_202 hl (k := 3) rfl e_v2966 (by decide) rfl (fun ls hl => ?_)
                refine lv_goto (tgt := 347) hx hb dX13_reckonAll_205 (by decide) ?_
                refine lv_goto (tgt := 10) hx hb dX13_reckonAll_347 (by decide) ?_
                exact ih_l2671 v2888 v2966 v573 _ _ _ _ _ _ (by omega) (by omega) (by omega) (by omega) (by omega) (by omega) hM hS hIF hIG hIR hFF hGG hRR hg_0 hg_1 hf2 (by have h9 := dl.s zo v571.toInt.toNat; rw [hop, if_pos (by omega)] at h9; rw [show v2888.toInt.toNat = v571.toInt.toNat + 1 by omega]; omega) (by omega) _ (lv_sub hl [1, 0, 4, 5] rfl)
  have hk_0 : (0 : Int32).toInt = 0 := by decide
  have hk_0 : (0 : Int32).toInt = 0 := by decide
  exact hl2671 401 p1 0 0 _ _ _ _ _ _ (by omega) (by omega) (by omega) (by omega) (by omega) (by omega) hM hS hIF hIG hIR hFF (fun _ _ => rfl) (fun _ _ => rfl) hg_0 hg_1 hf2 (by rw [show p1.toInt.toNat = p1.toInt.toNat from rfl]; show (0 : Int32).toInt = _; rw [show (0 : Int32).toInt = 0 by decide]; omega) (by omega) _ (lv_sub hl [0, 1, 2, 4] rfl)
