theorem hd_yX13_reckon : yX13_reckon.cls ≠ "java/lang/invoke/MethodHandle" ∧ yX13_reckon.cls ≠ "java/lang/invoke/VarHandle" ∧ (parseMethodDescriptor yX13_reckon.desc).map (fun d => d.parameters.length) = some 3 := by decide +kernel
theorem dX13_reckonAll_0 : decode cX13_reckonAll 0 = .ok (.aload_n 0, 1) := by decide +kernel
theorem dX13_reckonAll_1 : decode cX13_reckonAll 1 = .ok (.iconst 0, 1) := by decide +kernel
theorem dX13_reckonAll_2 : decode cX13_reckonAll 2 = .ok (.putfield 386, 3) := by decide +kernel
theorem dX13_reckonAll_5 : decode cX13_reckonAll 5 = .ok (.iconst 0, 1) := by decide +kernel
theorem dX13_reckonAll_6 : decode cX13_reckonAll 6 = .ok (.istore_n 3, 1) := by decide +kernel
theorem dX13_reckonAll_7 : decode cX13_reckonAll 7 = .ok (.iload_n 1, 1) := by decide +kernel
theorem dX13_reckonAll_8 : decode cX13_reckonAll 8 = .ok (.istore 4, 2) := by decide +kernel
theorem dX13_reckonAll_10 : decode cX13_reckonAll 10 = .ok (.iload 4, 2) := by decide +kernel
theorem dX13_reckonAll_12 : decode cX13_reckonAll 12 = .ok (.iload_n 2, 1) := by decide +kernel
theorem dX13_reckonAll_350 : decode cX13_reckonAll 350 = .ok (.aload_n 0, 1) := by decide +kernel
theorem dX13_reckonAll_351 : decode cX13_reckonAll 351 = .ok (.iload_n 3, 1) := by decide +kernel
theorem dX13_reckonAll_365 : decode cX13_reckonAll 365 = .ok (.putfield 400, 3) := by decide +kernel
theorem dX13_reckonAll_368 : decode cX13_reckonAll 368 = .ok (.return_, 1) := by decide +kernel
theorem dX13_reckonAll_352 : decode cX13_reckonAll 352 = .ok (.ifCond .le 12, 3) := by decide +kernel
theorem dX13_reckonAll_364 : decode cX13_reckonAll 364 = .ok (.lconst 0, 1) := by decide +kernel
theorem dX13_reckonAll_355 : decode cX13_reckonAll 355 = .ok (.aload_n 0, 1) := by decide +kernel
theorem dX13_reckonAll_356 : decode cX13_reckonAll 356 = .ok (.getfield 107, 3) := by decide +kernel
theorem dX13_reckonAll_359 : decode cX13_reckonAll 359 = .ok (.iconst 0, 1) := by decide +kernel
theorem dX13_reckonAll_360 : decode cX13_reckonAll 360 = .ok (.laload, 1) := by decide +kernel
theorem dX13_reckonAll_361 : decode cX13_reckonAll 361 = .ok (.goto 4, 3) := by decide +kernel
theorem dX13_reckonAll_13 : decode cX13_reckonAll 13 = .ok (.if_icmp .ge 337, 3) := by decide +kernel
theorem dX13_reckonAll_16 : decode cX13_reckonAll 16 = .ok (.aload_n 0, 1) := by decide +kernel
theorem dX13_reckonAll_17 : decode cX13_reckonAll 17 = .ok (.getfield 386, 3) := by decide +kernel
theorem dX13_reckonAll_20 : decode cX13_reckonAll 20 = .ok (.ifCond .ne 330, 3) := by decide +kernel
theorem dX13_reckonAll_23 : decode cX13_reckonAll 23 = .ok (.aload_n 0, 1) := by decide +kernel
theorem dX13_reckonAll_24 : decode cX13_reckonAll 24 = .ok (.getfield 315, 3) := by decide +kernel
theorem dX13_reckonAll_27 : decode cX13_reckonAll 27 = .ok (.ifCond .eq 13, 3) := by decide +kernel
theorem dX13_reckonAll_40 : decode cX13_reckonAll 40 = .ok (.aload_n 0, 1) := by decide +kernel
theorem dX13_reckonAll_41 : decode cX13_reckonAll 41 = .ok (.getfield 13, 3) := by decide +kernel
theorem dX13_reckonAll_44 : decode cX13_reckonAll 44 = .ok (.aload_n 0, 1) := by decide +kernel
theorem dX13_reckonAll_45 : decode cX13_reckonAll 45 = .ok (.getfield 389, 3) := by decide +kernel
theorem dX13_reckonAll_48 : decode cX13_reckonAll 48 = .ok (.bipush 98, 2) := by decide +kernel
theorem dX13_reckonAll_50 : decode cX13_reckonAll 50 = .ok (.iadd, 1) := by decide +kernel
theorem dX13_reckonAll_51 : decode cX13_reckonAll 51 = .ok (.iconst 2, 1) := by decide +kernel
theorem dX13_reckonAll_52 : decode cX13_reckonAll 52 = .ok (.iload 4, 2) := by decide +kernel
theorem dX13_reckonAll_54 : decode cX13_reckonAll 54 = .ok (.imul, 1) := by decide +kernel
theorem dX13_reckonAll_55 : decode cX13_reckonAll 55 = .ok (.iadd, 1) := by decide +kernel
theorem dX13_reckonAll_56 : decode cX13_reckonAll 56 = .ok (.iaload, 1) := by decide +kernel
theorem dX13_reckonAll_57 : decode cX13_reckonAll 57 = .ok (.istore 5, 2) := by decide +kernel
theorem dX13_reckonAll_59 : decode cX13_reckonAll 59 = .ok (.aload_n 0, 1) := by decide +kernel
theorem dX13_reckonAll_60 : decode cX13_reckonAll 60 = .ok (.getfield 315, 3) := by decide +kernel
theorem dX13_reckonAll_63 : decode cX13_reckonAll 63 = .ok (.ifCond .eq 13, 3) := by decide +kernel
theorem dX13_reckonAll_76 : decode cX13_reckonAll 76 = .ok (.aload_n 0, 1) := by decide +kernel
theorem dX13_reckonAll_77 : decode cX13_reckonAll 77 = .ok (.getfield 13, 3) := by decide +kernel
theorem dX13_reckonAll_80 : decode cX13_reckonAll 80 = .ok (.aload_n 0, 1) := by decide +kernel
theorem dX13_reckonAll_81 : decode cX13_reckonAll 81 = .ok (.getfield 389, 3) := by decide +kernel
theorem dX13_reckonAll_84 : decode cX13_reckonAll 84 = .ok (.bipush 98, 2) := by decide +kernel
theorem dX13_reckonAll_86 : decode cX13_reckonAll 86 = .ok (.iadd, 1) := by decide +kernel
theorem dX13_reckonAll_87 : decode cX13_reckonAll 87 = .ok (.iconst 2, 1) := by decide +kernel
theorem dX13_reckonAll_88 : decode cX13_reckonAll 88 = .ok (.iload 4, 2) := by decide +kernel
theorem dX13_reckonAll_90 : decode cX13_reckonAll 90 = .ok (.imul, 1) := by decide +kernel
theorem dX13_reckonAll_91 : decode cX13_reckonAll 91 = .ok (.iadd, 1) := by decide +kernel
theorem dX13_reckonAll_92 : decode cX13_reckonAll 92 = .ok (.iconst 1, 1) := by decide +kernel
theorem dX13_reckonAll_93 : decode cX13_reckonAll 93 = .ok (.iadd, 1) := by decide +kernel
theorem dX13_reckonAll_94 : decode cX13_reckonAll 94 = .ok (.iaload, 1) := by decide +kernel
theorem dX13_reckonAll_95 : decode cX13_reckonAll 95 = .ok (.istore 6, 2) := by decide +kernel
theorem dX13_reckonAll_97 : decode cX13_reckonAll 97 = .ok (.iinc 4 1, 3) := by decide +kernel
theorem dX13_reckonAll_100 : decode cX13_reckonAll 100 = .ok (.iload 5, 2) := by decide +kernel
theorem dX13_reckonAll_102 : decode cX13_reckonAll 102 = .ok (.bipush 20, 2) := by decide +kernel
theorem dX13_reckonAll_104 : decode cX13_reckonAll 104 = .ok (.if_icmp .ge 104, 3) := by decide +kernel
theorem dX13_reckonAll_208 : decode cX13_reckonAll 208 = .ok (.iload 5, 2) := by decide +kernel
theorem dX13_reckonAll_210 : decode cX13_reckonAll 210 = .ok (.bipush 28, 2) := by decide +kernel
theorem dX13_reckonAll_212 : decode cX13_reckonAll 212 = .ok (.if_icmp .ge 73, 3) := by decide +kernel
theorem dX13_reckonAll_285 : decode cX13_reckonAll 285 = .ok (.iload 5, 2) := by decide +kernel
theorem dX13_reckonAll_287 : decode cX13_reckonAll 287 = .ok (.bipush 28, 2) := by decide +kernel
theorem dX13_reckonAll_289 : decode cX13_reckonAll 289 = .ok (.if_icmp .ne 24, 3) := by decide +kernel
theorem dX13_reckonAll_313 : decode cX13_reckonAll 313 = .ok (.aload_n 0, 1) := by decide +kernel
theorem dX13_reckonAll_314 : decode cX13_reckonAll 314 = .ok (.getfield 107, 3) := by decide +kernel
theorem dX13_reckonAll_317 : decode cX13_reckonAll 317 = .ok (.iload_n 3, 1) := by decide +kernel
theorem dX13_reckonAll_318 : decode cX13_reckonAll 318 = .ok (.iconst 1, 1) := by decide +kernel
theorem dX13_reckonAll_319 : decode cX13_reckonAll 319 = .ok (.isub, 1) := by decide +kernel
theorem dX13_reckonAll_320 : decode cX13_reckonAll 320 = .ok (.laload, 1) := by decide +kernel
theorem dX13_reckonAll_321 : decode cX13_reckonAll 321 = .ok (.iload 5, 2) := by decide +kernel
theorem dX13_reckonAll_323 : decode cX13_reckonAll 323 = .ok (.bipush 29, 2) := by decide +kernel
theorem dX13_reckonAll_325 : decode cX13_reckonAll 325 = .ok (.if_icmp .ne 7, 3) := by decide +kernel
theorem dX13_reckonAll_332 : decode cX13_reckonAll 332 = .ok (.lconst 1, 1) := by decide +kernel
theorem dX13_reckonAll_333 : decode cX13_reckonAll 333 = .ok (.lcmp, 1) := by decide +kernel
theorem dX13_reckonAll_334 : decode cX13_reckonAll 334 = .ok (.ifCond .ne 10, 3) := by decide +kernel
theorem dX13_reckonAll_344 : decode cX13_reckonAll 344 = .ok (.iinc 3 (-1), 3) := by decide +kernel
theorem dX13_reckonAll_347 : decode cX13_reckonAll 347 = .ok (.goto (-337), 3) := by decide +kernel
theorem dX13_reckonAll_337 : decode cX13_reckonAll 337 = .ok (.iload 6, 2) := by decide +kernel
theorem dX13_reckonAll_339 : decode cX13_reckonAll 339 = .ok (.istore 4, 2) := by decide +kernel
theorem dX13_reckonAll_341 : decode cX13_reckonAll 341 = .ok (.goto 6, 3) := by decide +kernel
theorem dX13_reckonAll_328 : decode cX13_reckonAll 328 = .ok (.lconst 0, 1) := by decide +kernel
theorem dX13_reckonAll_329 : decode cX13_reckonAll 329 = .ok (.goto 4, 3) := by decide +kernel
theorem dX13_reckonAll_292 : decode cX13_reckonAll 292 = .ok (.aload_n 0, 1) := by decide +kernel
theorem dX13_reckonAll_293 : decode cX13_reckonAll 293 = .ok (.getfield 107, 3) := by decide +kernel
theorem dX13_reckonAll_296 : decode cX13_reckonAll 296 = .ok (.iload_n 3, 1) := by decide +kernel
theorem dX13_reckonAll_297 : decode cX13_reckonAll 297 = .ok (.iconst 1, 1) := by decide +kernel
theorem dX13_reckonAll_298 : decode cX13_reckonAll 298 = .ok (.isub, 1) := by decide +kernel
theorem dX13_reckonAll_299 : decode cX13_reckonAll 299 = .ok (.lconst 1, 1) := by decide +kernel
theorem dX13_reckonAll_300 : decode cX13_reckonAll 300 = .ok (.aload_n 0, 1) := by decide +kernel
theorem dX13_reckonAll_301 : decode cX13_reckonAll 301 = .ok (.getfield 107, 3) := by decide +kernel
theorem dX13_reckonAll_304 : decode cX13_reckonAll 304 = .ok (.iload_n 3, 1) := by decide +kernel
theorem dX13_reckonAll_305 : decode cX13_reckonAll 305 = .ok (.iconst 1, 1) := by decide +kernel
theorem dX13_reckonAll_306 : decode cX13_reckonAll 306 = .ok (.isub, 1) := by decide +kernel
theorem dX13_reckonAll_307 : decode cX13_reckonAll 307 = .ok (.laload, 1) := by decide +kernel
theorem dX13_reckonAll_308 : decode cX13_reckonAll 308 = .ok (.lsub, 1) := by decide +kernel
theorem dX13_reckonAll_309 : decode cX13_reckonAll 309 = .ok (.lastore, 1) := by decide +kernel
theorem dX13_reckonAll_310 : decode cX13_reckonAll 310 = .ok (.goto 37, 3) := by decide +kernel
theorem dX13_reckonAll_215 : decode cX13_reckonAll 215 = .ok (.iinc 3 (-1), 3) := by decide +kernel
theorem dX13_reckonAll_218 : decode cX13_reckonAll 218 = .ok (.aload_n 0, 1) := by decide +kernel
theorem dX13_reckonAll_219 : decode cX13_reckonAll 219 = .ok (.getfield 107, 3) := by decide +kernel
theorem dX13_reckonAll_222 : decode cX13_reckonAll 222 = .ok (.iload_n 3, 1) := by decide +kernel
theorem dX13_reckonAll_223 : decode cX13_reckonAll 223 = .ok (.iconst 1, 1) := by decide +kernel
theorem dX13_reckonAll_224 : decode cX13_reckonAll 224 = .ok (.isub, 1) := by decide +kernel
theorem dX13_reckonAll_225 : decode cX13_reckonAll 225 = .ok (.aload_n 0, 1) := by decide +kernel
theorem dX13_reckonAll_226 : decode cX13_reckonAll 226 = .ok (.iload 5, 2) := by decide +kernel
theorem dX13_reckonAll_228 : decode cX13_reckonAll 228 = .ok (.aload_n 0, 1) := by decide +kernel
theorem dX13_reckonAll_229 : decode cX13_reckonAll 229 = .ok (.getfield 107, 3) := by decide +kernel
theorem dX13_reckonAll_232 : decode cX13_reckonAll 232 = .ok (.iload_n 3, 1) := by decide +kernel
theorem dX13_reckonAll_233 : decode cX13_reckonAll 233 = .ok (.iconst 1, 1) := by decide +kernel
theorem dX13_reckonAll_234 : decode cX13_reckonAll 234 = .ok (.isub, 1) := by decide +kernel
theorem dX13_reckonAll_235 : decode cX13_reckonAll 235 = .ok (.laload, 1) := by decide +kernel
theorem dX13_reckonAll_236 : decode cX13_reckonAll 236 = .ok (.aload_n 0, 1) := by decide +kernel
theorem dX13_reckonAll_237 : decode cX13_reckonAll 237 = .ok (.getfield 107, 3) := by decide +kernel
theorem dX13_reckonAll_240 : decode cX13_reckonAll 240 = .ok (.iload_n 3, 1) := by decide +kernel
theorem dX13_reckonAll_241 : decode cX13_reckonAll 241 = .ok (.laload, 1) := by decide +kernel
theorem dX13_reckonAll_242 : decode cX13_reckonAll 242 = .ok (.invokevirtual 392, 3) := by decide +kernel
theorem dX13_reckonAll_245 : decode cX13_reckonAll 245 = .ok (.lastore, 1) := by decide +kernel
theorem dX13_reckonAll_246 : decode cX13_reckonAll 246 = .ok (.aload_n 0, 1) := by decide +kernel
theorem dX13_reckonAll_247 : decode cX13_reckonAll 247 = .ok (.aload_n 0, 1) := by decide +kernel
theorem dX13_reckonAll_248 : decode cX13_reckonAll 248 = .ok (.getfield 386, 3) := by decide +kernel
theorem dX13_reckonAll_251 : decode cX13_reckonAll 251 = .ok (.ifCond .ne 23, 3) := by decide +kernel
theorem dX13_reckonAll_274 : decode cX13_reckonAll 274 = .ok (.iconst 1, 1) := by decide +kernel
theorem dX13_reckonAll_275 : decode cX13_reckonAll 275 = .ok (.goto 4, 3) := by decide +kernel
theorem dX13_reckonAll_279 : decode cX13_reckonAll 279 = .ok (.putfield 386, 3) := by decide +kernel
theorem dX13_reckonAll_282 : decode cX13_reckonAll 282 = .ok (.goto 65, 3) := by decide +kernel
theorem dX13_reckonAll_254 : decode cX13_reckonAll 254 = .ok (.aload_n 0, 1) := by decide +kernel
theorem dX13_reckonAll_255 : decode cX13_reckonAll 255 = .ok (.getfield 107, 3) := by decide +kernel
theorem dX13_reckonAll_258 : decode cX13_reckonAll 258 = .ok (.iload_n 3, 1) := by decide +kernel
theorem dX13_reckonAll_259 : decode cX13_reckonAll 259 = .ok (.iconst 1, 1) := by decide +kernel
theorem dX13_reckonAll_260 : decode cX13_reckonAll 260 = .ok (.isub, 1) := by decide +kernel
theorem dX13_reckonAll_261 : decode cX13_reckonAll 261 = .ok (.laload, 1) := by decide +kernel
theorem dX13_reckonAll_262 : decode cX13_reckonAll 262 = .ok (.ldc2_w 396, 3) := by decide +kernel
theorem dX13_reckonAll_265 : decode cX13_reckonAll 265 = .ok (.ldc2_w 398, 3) := by decide +kernel
theorem dX13_reckonAll_268 : decode cX13_reckonAll 268 = .ok (.invokestatic 190, 3) := by decide +kernel
theorem dX13_reckonAll_271 : decode cX13_reckonAll 271 = .ok (.ifCond .ne 7, 3) := by decide +kernel
theorem dX13_reckonAll_278 : decode cX13_reckonAll 278 = .ok (.iconst 0, 1) := by decide +kernel
theorem dX13_reckonAll_107 : decode cX13_reckonAll 107 = .ok (.aload_n 0, 1) := by decide +kernel
theorem dX13_reckonAll_108 : decode cX13_reckonAll 108 = .ok (.getfield 107, 3) := by decide +kernel
theorem dX13_reckonAll_111 : decode cX13_reckonAll 111 = .ok (.iload_n 3, 1) := by decide +kernel
theorem dX13_reckonAll_112 : decode cX13_reckonAll 112 = .ok (.iload 5, 2) := by decide +kernel
theorem dX13_reckonAll_114 : decode cX13_reckonAll 114 = .ok (.ifCond .ne 9, 3) := by decide +kernel
theorem dX13_reckonAll_123 : decode cX13_reckonAll 123 = .ok (.aload_n 0, 1) := by decide +kernel
theorem dX13_reckonAll_124 : decode cX13_reckonAll 124 = .ok (.getfield 315, 3) := by decide +kernel
theorem dX13_reckonAll_127 : decode cX13_reckonAll 127 = .ok (.ifCond .ne 13, 3) := by decide +kernel
theorem dX13_reckonAll_130 : decode cX13_reckonAll 130 = .ok (.aload_n 0, 1) := by decide +kernel
theorem dX13_reckonAll_131 : decode cX13_reckonAll 131 = .ok (.getfield 101, 3) := by decide +kernel
theorem dX13_reckonAll_134 : decode cX13_reckonAll 134 = .ok (.iload 5, 2) := by decide +kernel
theorem dX13_reckonAll_136 : decode cX13_reckonAll 136 = .ok (.laload, 1) := by decide +kernel
theorem dX13_reckonAll_137 : decode cX13_reckonAll 137 = .ok (.goto 64, 3) := by decide +kernel
theorem dX13_reckonAll_201 : decode cX13_reckonAll 201 = .ok (.lastore, 1) := by decide +kernel
theorem dX13_reckonAll_202 : decode cX13_reckonAll 202 = .ok (.iinc 3 1, 3) := by decide +kernel
theorem dX13_reckonAll_205 : decode cX13_reckonAll 205 = .ok (.goto 142, 3) := by decide +kernel
theorem dX13_reckonAll_117 : decode cX13_reckonAll 117 = .ok (.iload 6, 2) := by decide +kernel
theorem dX13_reckonAll_119 : decode cX13_reckonAll 119 = .ok (.i2l, 1) := by decide +kernel
theorem dX13_reckonAll_120 : decode cX13_reckonAll 120 = .ok (.goto 81, 3) := by decide +kernel
theorem dX13_reckonAll_30 : decode cX13_reckonAll 30 = .ok (.aload_n 0, 1) := by decide +kernel
theorem dX13_reckonAll_31 : decode cX13_reckonAll 31 = .ok (.getfield 45, 3) := by decide +kernel
theorem dX13_reckonAll_34 : decode cX13_reckonAll 34 = .ok (.iload 4, 2) := by decide +kernel
theorem dX13_reckonAll_36 : decode cX13_reckonAll 36 = .ok (.iaload, 1) := by decide +kernel
theorem dX13_reckonAll_37 : decode cX13_reckonAll 37 = .ok (.goto 20, 3) := by decide +kernel
theorem dX13_reckonAll_66 : decode cX13_reckonAll 66 = .ok (.aload_n 0, 1) := by decide +kernel
theorem dX13_reckonAll_67 : decode cX13_reckonAll 67 = .ok (.getfield 48, 3) := by decide +kernel
theorem dX13_reckonAll_70 : decode cX13_reckonAll 70 = .ok (.iload 4, 2) := by decide +kernel
theorem dX13_reckonAll_72 : decode cX13_reckonAll 72 = .ok (.iaload, 1) := by decide +kernel
theorem dX13_reckonAll_73 : decode cX13_reckonAll 73 = .ok (.goto 22, 3) := by decide +kernel
theorem dX13_reckonAll_140 : decode cX13_reckonAll 140 = .ok (.iload 5, 2) := by decide +kernel
theorem dX13_reckonAll_142 : decode cX13_reckonAll 142 = .ok (.bipush 6, 2) := by decide +kernel
theorem dX13_reckonAll_144 : decode cX13_reckonAll 144 = .ok (.if_icmp .ge 13, 3) := by decide +kernel
theorem dX13_reckonAll_157 : decode cX13_reckonAll 157 = .ok (.iload 5, 2) := by decide +kernel
theorem dX13_reckonAll_159 : decode cX13_reckonAll 159 = .ok (.bipush 6, 2) := by decide +kernel
theorem dX13_reckonAll_161 : decode cX13_reckonAll 161 = .ok (.if_icmp .eq 17, 3) := by decide +kernel
theorem dX13_reckonAll_178 : decode cX13_reckonAll 178 = .ok (.aload_n 0, 1) := by decide +kernel
theorem dX13_reckonAll_179 : decode cX13_reckonAll 179 = .ok (.iload 6, 2) := by decide +kernel
theorem dX13_reckonAll_181 : decode cX13_reckonAll 181 = .ok (.invokevirtual 201, 3) := by decide +kernel
theorem dX13_reckonAll_184 : decode cX13_reckonAll 184 = .ok (.ifCond .eq 14, 3) := by decide +kernel
theorem dX13_reckonAll_198 : decode cX13_reckonAll 198 = .ok (.ldc2_w 263, 3) := by decide +kernel
theorem dX13_reckonAll_187 : decode cX13_reckonAll 187 = .ok (.aload_n 0, 1) := by decide +kernel
theorem dX13_reckonAll_188 : decode cX13_reckonAll 188 = .ok (.iload 6, 2) := by decide +kernel
theorem dX13_reckonAll_190 : decode cX13_reckonAll 190 = .ok (.iconst 0, 1) := by decide +kernel
theorem dX13_reckonAll_191 : decode cX13_reckonAll 191 = .ok (.invokevirtual 207, 3) := by decide +kernel
theorem dX13_reckonAll_194 : decode cX13_reckonAll 194 = .ok (.i2l, 1) := by decide +kernel
theorem dX13_reckonAll_195 : decode cX13_reckonAll 195 = .ok (.goto 6, 3) := by decide +kernel
theorem dX13_reckonAll_164 : decode cX13_reckonAll 164 = .ok (.aload_n 0, 1) := by decide +kernel
theorem dX13_reckonAll_165 : decode cX13_reckonAll 165 = .ok (.getfield 13, 3) := by decide +kernel
theorem dX13_reckonAll_168 : decode cX13_reckonAll 168 = .ok (.bipush 10, 2) := by decide +kernel
theorem dX13_reckonAll_170 : decode cX13_reckonAll 170 = .ok (.iload 6, 2) := by decide +kernel
theorem dX13_reckonAll_172 : decode cX13_reckonAll 172 = .ok (.iadd, 1) := by decide +kernel
theorem dX13_reckonAll_173 : decode cX13_reckonAll 173 = .ok (.iaload, 1) := by decide +kernel
theorem dX13_reckonAll_174 : decode cX13_reckonAll 174 = .ok (.i2l, 1) := by decide +kernel
theorem dX13_reckonAll_175 : decode cX13_reckonAll 175 = .ok (.goto 26, 3) := by decide +kernel
theorem dX13_reckonAll_147 : decode cX13_reckonAll 147 = .ok (.aload_n 0, 1) := by decide +kernel
theorem dX13_reckonAll_148 : decode cX13_reckonAll 148 = .ok (.getfield 104, 3) := by decide +kernel
theorem dX13_reckonAll_151 : decode cX13_reckonAll 151 = .ok (.iload 5, 2) := by decide +kernel
theorem dX13_reckonAll_153 : decode cX13_reckonAll 153 = .ok (.laload, 1) := by decide +kernel
theorem dX13_reckonAll_154 : decode cX13_reckonAll 154 = .ok (.goto 47, 3) := by decide +kernel
set_option maxHeartbeats 4000000 in
set_option maxRecDepth 100000 in
theorem k_X13_reckonAll (l : Launch) (D : va_G) (cy : Nat → ClassId) (ld ad : Nat → Nat) (am : Nat) (hD : mz_D ad am) (Fa : Nat → Int32) (Ga : Nat → Int64) (Ra : Nat → Nat → Int32) (Sa : Nat → Nat → Int64) (p1 : Int32) (p2 : Int32) (go : Int32) (gl : Int32) (zo za : Nat → Int32) (hIF : mz_IF false Fa) (hIG : mz_IG Ga) (hIR : mz_IR [] true Ra) (hg_0 : Fa 20 = go) (hg_1 : Fa 34 = gl) (hx_0 : WFX zo za p1 p2) (hx_1 : go.toInt = 0 → ∀ j : Nat, j < 400 → Ra 3 (gl.toInt.toNat + 98 + 2 * j) = zo j ∧ Ra 3 (gl.toInt.toNat + 98 + 2 * j + 1) = za j) (hx_2 : go.toInt ≠ 0 → ∀ j : Nat, j < 400 → Ra 24 j = zo j ∧ Ra 25 j = za j) : Met l yX13_reckonAll (wl yX13_reckonAll cX13_reckonAll 7 none) ({ frames := 5, cells := 0, slots := 0, locals := 280 }) (mz_p D cy ld ad am Fa Ga Ra Sa [.ref am, .int p1, .int p2]) (mz_w D cy ad am (fun F G R S => mz_IF false F ∧ mz_IG G ∧ mz_IR [] true R ∧ (∀ k : Nat, k ∉ ([38] : List Nat) → F k = Fa k) ∧ (∀ k : Nat, k ∉ ([] : List Nat) → R k = Ra k) ∧ (∀ k : Nat, k ∉ ([39] : List Nat) → G k = Ga k))) 0 0 (mz_W ad am) := by
  refine mz_met (y := yX13_reckonAll) (cc := cX13_reckonAll) (maxL := 7) (ret := none) (av := [.ref am, .int p1, .int p2]) _ (by decide) (Nat.le_of_ble_eq_true rfl) ?_
  intro p e s m args below meth c hx hb hr hml hts htl hown hlocks hK H locs hM hS ls hl
  have hown : s.vm.findClass RX13 = some m.cls := hown
  have hl : lv_has ls 7 [(0, .ref am), (1, .int p1), (2, .int p2)] := hl
  have hr_p1 := tk_rng p1
  have hr_p2 := tk_rng p2
  have hq_go := tk_rng go
  have hq_gl := tk_rng gl
  have hr_go : 0 ≤ go.toInt ∧ go.toInt ≤ 1 := hIF.at hg_0
  have hr_gl : 0 ≤ gl.toInt ∧ gl.toInt ≤ 4660 := hIF.at hg_1
  have hw0 : 0 ≤ p1.toInt ∧ p1.toInt ≤ p2.toInt ∧ p2.toInt ≤ 400 := ⟨hx_0.1, hx_0.2.1, hx_0.2.2.1⟩
  refine lv_aload_n hx hb dX13_reckonAll_0 rfl (lv_at hl 0 rfl) ?_
  refine lv_iconst (v := 0) hx hb dX13_reckonAll_1 (by decide) ?_
  have hk_0 : (0 : Int32).toInt = 0 := by decide
  have hk_0 : (0 : Int32).toInt = 0 := by decide
  refine mz_putI (ty := .boolean) (x := 0) hx hb htl hown hK hD hM hS 38 (Nat.le_of_ble_eq_true rfl) rfl (htl _ mw_1051) (fun _ h9 => h9) rfl (tyX13_ok 38 (by decide)) rfl rfl dX13_reckonAll_2 (fun H locs F hM hS hf9 hj9 => ?_)
  have hIF := hIF.put hf9 hj9 (show 0 ≤ (0 : Int32).toInt by omega) (show (0 : Int32).toInt ≤ 1 by omega) (by decide)
  have hFF := mz_frp (K := [38]) (Fa := Fa) hj9 (fun _ _ => rfl) (by decide)
  have hg_0 := (hj9 20 (by decide)).trans hg_0
  have hg_1 := (hj9 34 (by decide)).trans hg_1
  have hf2 := hf9
  refine lv_iconst (v := 0) hx hb dX13_reckonAll_5 (by decide) ?_
  refine lv_istore_n (lv' := [(3, .int 0), (0, .ref am), (1, .int p1), (2, .int p2)]) hx hb dX13_reckonAll_6 rfl hl (by decide) rfl (fun ls hl => ?_)
  refine lv_iload_n hx hb dX13_reckonAll_7 rfl (lv_at hl 2 rfl) ?_
  refine lv_istore (lv' := [(4, .int p1), (3, .int 0), (0, .ref am), (1, .int p1), (2, .int p2)]) hx hb dX13_reckonAll_8 hl (by decide) rfl (fun ls hl => ?_)
  have hl2674 : ∀ (N_l2674 : Nat) (v574 : Int32) (v575 : Int32) (v576 : Int32) (H : Heap) (locs : List Loc) (F : Nat → Int32) (G : Nat → Int64) (R : Nat → Nat → Int32) (S : Nat → Nat → Int64), (0 ≤ v576.toInt) → (v576.toInt ≤ 1) → (0 ≤ v574.toInt + (-1) * v575.toInt) → (0 ≤ v575.toInt + (-1) * v576.toInt) → (0 ≤ (-1) * p1.toInt + v574.toInt) → (0 ≤ p2.toInt + (-1) * v574.toInt) → (mz_S D cy ad am F G R S H) → (va_S (mz_W ad am) s.heap H locs) → (mz_IF false F) → (mz_IG G) → (mz_IR [] true R) → (∀ k : Nat, k ∉ ([38] : List Nat) → F k = Fa k) → (∀ k : Nat, k ∉ ([39] : List Nat) → G k = Ga k) → (∀ k : Nat, k ∉ ([] : List Nat) → R k = Ra k) → (F 20 = go) → (F 34 = gl) → (F 38 = v576) → (v575.toInt = dl zo v574.toInt.toNat - dl zo p1.toInt.toNat) → ((-1) * v574.toInt + 400 < (N_l2674 : Int)) → ∀ ls : Array Slot, lv_has ls 7 [(4, .int v574), (3, .int v575), (0, .ref am), (2, .int p2)] → W p l e ({ frames := 5, cells := 0, slots := 0, locals := 280 }) s m args below meth c H locs 0 0 (MQ below (mz_w D cy ad am (fun F G R S => mz_IF false F ∧ mz_IG G ∧ mz_IR [] true R ∧ (∀ k : Nat, k ∉ ([38] : List Nat) → F k = Fa k) ∧ (∀ k : Nat, k ∉ ([] : List Nat) → R k = Ra k) ∧ (∀ k : Nat, k ∉ ([39] : List Nat) → G k = Ga k))) args s 0 0 (mz_W ad am)) (F0 m 10 ls []) := by
    intro N_l2674
    induction N_l2674 with
    | zero => intro v574 v575 v576 H locs F G R S hq0_l2674 hq1_l2674 hq2_l2674 hq3_l2674 hq4_l2674 hq5_l2674 hM hS hIF hIG hIR hFF hGG hRR hg_0 hg_1 hf2 hdl hm_l2674 ls hl; exfalso; omega
    | succ N_l2674 ih_l2674 =>
      intro v574 v575 v576 H locs F G R S hq0_l2674 hq1_l2674 hq2_l2674 hq3_l2674 hq4_l2674 hq5_l2674 hM hS hIF hIG hIR hFF hGG hRR hg_0 hg_1 hf2 hdl hm_l2674 ls hl
      refine lv_iload hx hb dX13_reckonAll_10 (lv_at hl 0 rfl) ?_
      refine lv_iload_n hx hb dX13_reckonAll_12 rfl (lv_at hl 3 rfl) ?_
      have hj2813 : ∀ (_ : Unit), ∀ ls : Array Slot, lv_has ls 7 [(3, .int v575), (0, .ref am)] → W p l e ({ frames := 5, cells := 0, slots := 0, locals := 280 }) s m args below meth c H locs 0 0 (MQ below (mz_w D cy ad am (fun F G R S => mz_IF false F ∧ mz_IG G ∧ mz_IR [] true R ∧ (∀ k : Nat, k ∉ ([38] : List Nat) → F k = Fa k) ∧ (∀ k : Nat, k ∉ ([] : List Nat) → R k = Ra k) ∧ (∀ k : Nat, k ∉ ([39] : List Nat) → G k = Ga k))) args s 0 0 (mz_W ad am)) (F0 m 350 ls []) := by
        intro _  ls hl
        refine lv_aload_n hx hb dX13_reckonAll_350 rfl (lv_at hl 1 rfl) ?_
        refine lv_iload_n hx hb dX13_reckonAll_351 rfl (lv_at hl 0 rfl) ?_
        have hj2818 : ∀ (v2817 : Int64), ∀ ls : Array Slot, lv_has ls 7 [] → W p l e ({ frames := 5, cells := 0, slots := 0, locals := 280 }) s m args below meth c H locs 0 0 (MQ below (mz_w D cy ad am (fun F G R S => mz_IF false F ∧ mz_IG G ∧ mz_IR [] true R ∧ (∀ k : Nat, k ∉ ([38] : List Nat) → F k = Fa k) ∧ (∀ k : Nat, k ∉ ([] : List Nat) → R k = Ra k) ∧ (∀ k : Nat, k ∉ ([39] : List Nat) → G k = Ga k))) args s 0 0 (mz_W ad am)) (F0 m 365 ls [.long v2817, .ref am]) := by
          intro v2817  ls hl
          refine mz_putJ (ty := .long) (x := v2817) hx hb htl hown hK hD hM hS 39 (Nat.le_of_ble_eq_true rfl) rfl (htl _ mw_1052) (fun _ h9 => h9) rfl (tyX13_ok 39 (by decide)) rfl rfl dX13_reckonAll_365 (fun H locs G hM hS hf9 hj9 => ?_)
          have hIG := hIG.put hj9 (by decide)
          have hGG := mz_frp (K := [39]) (Fa := Ga) hj9 hGG (by decide)
          have hf2820 := hf9
          exact mz_vret hx hb hr hlocks ⟨hIF, hIG, hIR, hFF, hRR, hGG⟩ hM hS dX13_reckonAll_368
        refine lv_if_le (tgt := 364) hx hb dX13_reckonAll_352 (by decide) (fun c9 => ?_) (fun c9 => ?_)
        · have hc2814 : v575.toInt ≤ 0 := (fi_le rfl (show (0 : Int32).toInt = 0 by decide)).mp c9
          refine lv_lconst (v := 0) hx hb dX13_reckonAll_364 (by decide) ?_
          have hk_0 : (0 : Int64).toInt = 0 := by decide
          exact hj2818 0 _ (lv_sub hl [] rfl)
        · have hc2814 : ¬ (v575.toInt ≤ 0) := fun h9 => c9 ((fi_le rfl (show (0 : Int32).toInt = 0 by decide)).mpr h9)
          refine lv_aload_n hx hb dX13_reckonAll_355 rfl (lv_at hl 1 rfl) ?_
          refine mz_getR hx hb htl hown hK hM 37 (Nat.le_of_ble_eq_true rfl) (Nat.le_of_ble_eq_true rfl) (htl _ mw_225) (fun _ h9 => h9) dX13_reckonAll_356 ?_
          refine lv_iconst (v := 0) hx hb dX13_reckonAll_359 (by decide) ?_
          refine mz_lald hx hb hK hM 37 (Nat.le_of_ble_eq_true rfl) rfl (nn := 400) rfl (I := 0) (by decide) (by decide) (by decide) dX13_reckonAll_360 (fun w2821 _ => ?_)
          refine lv_goto (tgt := 365) hx hb dX13_reckonAll_361 (by decide) ?_
          exact hj2818 w2821 _ (lv_sub hl [] rfl)
      refine lv_icmp_ge (tgt := 350) hx hb dX13_reckonAll_13 (by decide) (fun c9 => ?_) (fun c9 => ?_)
      · have hc2675 : p2.toInt ≤ v574.toInt := (fi_le rfl rfl).mp c9
        exact hj2813 () _ (lv_sub hl [1, 2] rfl)
      · have hc2675 : ¬ (p2.toInt ≤ v574.toInt) := fun h9 => c9 ((fi_le rfl rfl).mpr h9)
        refine lv_aload_n hx hb dX13_reckonAll_16 rfl (lv_at hl 2 rfl) ?_
        refine mz_getI hx hb htl hown hK hM 38 (Nat.le_of_ble_eq_true rfl) rfl (htl _ mw_1051) (fun _ h9 => h9) dX13_reckonAll_17 (fun v9 e9 => ?_)
        refine fx_ti (v := v576) (e9.symm.trans hf2) ?_
        refine lv_if_ne (tgt := 350) hx hb dX13_reckonAll_20 (by decide) (fun c9 => ?_) (fun c9 => ?_)
        · have hc2822 : ¬ (v576.toInt = 0) := fun h9 => c9 ((fi_eq rfl (show (0 : Int32).toInt = 0 by decide)).mpr h9)
          exact hj2813 () _ (lv_sub hl [1, 2] rfl)
        · have hc2822 : v576.toInt = 0 := (fi_eq rfl (show (0 : Int32).toInt = 0 by decide)).mp c9
          refine lv_aload_n hx hb dX13_reckonAll_23 rfl (lv_at hl 2 rfl) ?_
          refine mz_getI hx hb htl hown hK hM 20 (Nat.le_of_ble_eq_true rfl) rfl (htl _ mw_675) (fun _ h9 => h9) dX13_reckonAll_24 (fun v9 e9 => ?_)
          refine fx_ti (v := go) (e9.symm.trans hg_0) ?_
          refine lv_if_eq (tgt := 40) hx hb dX13_reckonAll_27 (by decide) (fun c9 => ?_) (fun c9 => ?_)
          · have hc2823 : go.toInt = 0 := (fi_eq rfl (show (0 : Int32).toInt = 0 by decide)).mp c9
            refine lv_aload_n hx hb dX13_reckonAll_40 rfl (lv_at hl 2 rfl) ?_
            refine mz_getR hx hb htl hown hK hM 3 (Nat.le_of_ble_eq_true rfl) (Nat.le_of_ble_eq_true rfl) (htl _ mw_188) (fun _ h9 => h9) dX13_reckonAll_41 ?_
            refine lv_aload_n hx hb dX13_reckonAll_44 rfl (lv_at hl 2 rfl) ?_
            refine mz_getI hx hb htl hown hK hM 34 (Nat.le_of_ble_eq_true rfl) rfl (htl _ mw_1057) (fun _ h9 => h9) dX13_reckonAll_45 (fun v9 e9 => ?_)
            refine fx_ti (v := gl) (e9.symm.trans hg_1) ?_
            refine lv_bipush (v := 98) hx hb dX13_reckonAll_48 (by decide) ?_
            refine lv_iadd hx hb dX13_reckonAll_50 ?_
            refine tk_add rfl (show (98 : Int32).toInt = 98 by decide) (by omega) (by omega) (fun v2824 h_v2824 => ?_)
            refine lv_iconst (v := 2) hx hb dX13_reckonAll_51 (by decide) ?_
            refine lv_iload hx hb dX13_reckonAll_52 (lv_at hl 0 rfl) ?_
            refine lv_imul hx hb dX13_reckonAll_54 ?_
            refine tk_mul (show (2 : Int32).toInt = 2 by decide) rfl (by omega) (by omega) (fun v2825 h_v2825 => ?_)
            refine lv_iadd hx hb dX13_reckonAll_55 ?_
            refine tk_add rfl rfl (by omega) (by omega) (fun v2826 h_v2826 => ?_)
            refine mz_iald hx hb hK hM 3 (Nat.le_of_ble_eq_true rfl) rfl (nn := 5560) rfl rfl (by omega) (by omega) dX13_reckonAll_56 (fun v2827 e_v2827 => ?_)
            have hq_v2827 := tk_rng v2827
            refine lv_istore (lv' := [(5, .int v2827), (4, .int v574), (3, .int v575), (0, .ref am), (2, .int p2)]) hx hb dX13_reckonAll_57 hl (by decide) rfl (fun ls hl => ?_)
            refine lv_aload_n hx hb dX13_reckonAll_59 rfl (lv_at hl 3 rfl) ?_
            refine mz_getI hx hb htl hown hK hM 20 (Nat.le_of_ble_eq_true rfl) rfl (htl _ mw_675) (fun _ h9 => h9) dX13_reckonAll_60 (fun v9 e9 => ?_)
            refine fx_ti (v := go) (e9.symm.trans hg_0) ?_
            refine lv_if_eq (tgt := 76) hx hb dX13_reckonAll_63 (by decide) (fun _ => ?_) (fun c9 => absurd ((fi_eq rfl (show (0 : Int32).toInt = 0 by decide)).mpr (show go.toInt = 0 by omega)) c9)
            refine lv_aload_n hx hb dX13_reckonAll_76 rfl (lv_at hl 3 rfl) ?_
            refine mz_getR hx hb htl hown hK hM 3 (Nat.le_of_ble_eq_true rfl) (Nat.le_of_ble_eq_true rfl) (htl _ mw_188) (fun _ h9 => h9) dX13_reckonAll_77 ?_
            refine lv_aload_n hx hb dX13_reckonAll_80 rfl (lv_at hl 3 rfl) ?_
            refine mz_getI hx hb htl hown hK hM 34 (Nat.le_of_ble_eq_true rfl) rfl (htl _ mw_1057) (fun _ h9 => h9) dX13_reckonAll_81 (fun v9 e9 => ?_)
            refine fx_ti (v := gl) (e9.symm.trans hg_1) ?_
            refine lv_bipush (v := 98) hx hb dX13_reckonAll_84 (by decide) ?_
            refine lv_iadd hx hb dX13_reckonAll_86 ?_
            refine tk_add rfl (show (98 : Int32).toInt = 98 by decide) (by omega) (by omega) (fun v2828 h_v2828 => ?_)
            refine lv_iconst (v := 2) hx hb dX13_reckonAll_87 (by decide) ?_
            refine lv_iload hx hb dX13_reckonAll_88 (lv_at hl 1 rfl) ?_
            refine lv_imul hx hb dX13_reckonAll_90 ?_
            refine tk_mul (show (2 : Int32).toInt = 2 by decide) rfl (by omega) (by omega) (fun v2829 h_v2829 => ?_)
            refine lv_iadd hx hb dX13_reckonAll_91 ?_
            refine tk_add rfl rfl (by omega) (by omega) (fun v2830 h_v2830 => ?_)
            refine lv_iconst (v := 1) hx hb dX13_reckonAll_92 (by decide) ?_
            refine lv_iadd hx hb dX13_reckonAll_93 ?_
            refine tk_add rfl (show (1 : Int32).toInt = 1 by decide) (by omega) (by omega) (fun v2831 h_v2831 => ?_)
            refine mz_iald hx hb hK hM 3 (Nat.le_of_ble_eq_true rfl) rfl (nn := 5560) rfl rfl (by omega) (by omega) dX13_reckonAll_94 (fun v2832 e_v2832 => ?_)
            have hq_v2832 := tk_rng v2832
            refine lv_istore (lv' := [(6, .int v2832), (5, .int v2827), (4, .int v574), (3, .int v575), (0, .ref am), (2, .int p2)]) hx hb dX13_reckonAll_95 hl (by decide) rfl (fun ls hl => ?_)
            have h29 := hx_1 (by omega) v574.toInt.toNat (by omega)
            have hop : zo v574.toInt.toNat = v2827 := by rw [← h29.1, show gl.toInt.toNat + 98 + 2 * v574.toInt.toNat = (v2826 : Int32).toNatClampNeg by show _ = v2826.toInt.toNat; omega]; exact ((congrFun (hRR 3 (by decide)) _).symm.trans e_v2827)
            have har : za v574.toInt.toNat = v2832 := by rw [← h29.2, show gl.toInt.toNat + 98 + 2 * v574.toInt.toNat + 1 = (v2831 : Int32).toNatClampNeg by show _ = v2831.toInt.toNat; omega]; exact ((congrFun (hRR 3 (by decide)) _).symm.trans e_v2832)
            have hwk := hx_0.2.2.2 v574.toInt.toNat (by omega) (by omega)
            rw [hop, har, ← hdl] at hwk
            have hle := dl.le zo p1.toInt.toNat v574.toInt.toNat (by omega)
            rw [← hdl] at hle
            have hJ := hwk.2.2.2.2.2
            have hJ1 : 29 ≤ v2827.toInt → v574.toInt + 1 ≤ v2832.toInt ∧ v2832.toInt ≤ p2.toInt := fun h9 => ⟨by have := (hJ h9).1; omega, by have := (hJ h9).2.1; omega⟩
            obtain ⟨v2833, h_v2833, e_v2833⟩ := tk_inc v574 1 (by decide) (by omega) (by omega)
            refine lv_iinc (v := v2833) (lv' := [(4, .int v2833), (6, .int v2832), (5, .int v2827), (3, .int v575), (0, .ref am), (2, .int p2)]) hx hb dX13_reckonAll_97 hl (k := 2) rfl e_v2833 (by decide) rfl (fun ls hl => ?_)
            refine lv_iload hx hb dX13_reckonAll_100 (lv_at hl 2 rfl) ?_
            refine lv_bipush (v := 20) hx hb dX13_reckonAll_102 (by decide) ?_
            refine lv_icmp_ge (tgt := 208) hx hb dX13_reckonAll_104 (by decide) (fun c9 => ?_) (fun c9 => ?_)
            · have hc2834 : 20 ≤ v2827.toInt := (fi_le (show (20 : Int32).toInt = 20 by decide) rfl).mp c9
              refine lv_iload hx hb dX13_reckonAll_208 (lv_at hl 2 rfl) ?_
              refine lv_bipush (v := 28) hx hb dX13_reckonAll_210 (by decide) ?_
              refine lv_icmp_ge (tgt := 285) hx hb dX13_reckonAll_212 (by decide) (fun c9 => ?_) (fun c9 => ?_)
              · have hc2835 : 28 ≤ v2827.toInt := (fi_le (show (28 : Int32).toInt = 28 by decide) rfl).mp c9
                have hwk_2836 : 1 ≤ v575.toInt := by omega
                refine lv_iload hx hb dX13_reckonAll_285 (lv_at hl 2 rfl) ?_
                refine lv_bipush (v := 28) hx hb dX13_reckonAll_287 (by decide) ?_
                refine lv_icmp_ne (tgt := 313) hx hb dX13_reckonAll_289 (by decide) (fun c9 => ?_) (fun c9 => ?_)
                · have hc2837 : ¬ (v2827.toInt = 28) := fun h9 => c9 ((fi_eq rfl (show (28 : Int32).toInt = 28 by decide)).mpr h9)
                  have hwk_2838 : 0 ≤ v2832.toInt + (-1) * v574.toInt + (-1) ∧ 0 ≤ p2.toInt + (-1) * v2832.toInt := by omega
                  refine lv_aload_n hx hb dX13_reckonAll_313 rfl (lv_at hl 4 rfl) ?_
                  refine mz_getR hx hb htl hown hK hM 37 (Nat.le_of_ble_eq_true rfl) (Nat.le_of_ble_eq_true rfl) (htl _ mw_225) (fun _ h9 => h9) dX13_reckonAll_314 ?_
                  refine lv_iload_n hx hb dX13_reckonAll_317 rfl (lv_at hl 3 rfl) ?_
                  refine lv_iconst (v := 1) hx hb dX13_reckonAll_318 (by decide) ?_
                  refine lv_isub hx hb dX13_reckonAll_319 ?_
                  refine tk_sub rfl (show (1 : Int32).toInt = 1 by decide) (by omega) (by omega) (fun v2839 h_v2839 => ?_)
                  refine mz_lald hx hb hK hM 37 (Nat.le_of_ble_eq_true rfl) rfl (nn := 400) rfl rfl (by omega) (by omega) dX13_reckonAll_320 (fun w2840 _ => ?_)
                  refine lv_iload hx hb dX13_reckonAll_321 (lv_at hl 2 rfl) ?_
                  refine lv_bipush (v := 29) hx hb dX13_reckonAll_323 (by decide) ?_
                  refine lv_icmp_ne (tgt := 332) hx hb dX13_reckonAll_325 (by decide) (fun c9 => ?_) (fun c9 => ?_)
                  · have hc2841 : ¬ (v2827.toInt = 29) := fun h9 => c9 ((fi_eq rfl (show (29 : Int32).toInt = 29 by decide)).mpr h9)
                    refine lv_lconst (v := 1) hx hb dX13_reckonAll_332 (by decide) ?_
                    refine W.lcmp hx hb dX13_reckonAll_333 ?_
                    refine lv_if_ne (tgt := 344) hx hb dX13_reckonAll_334 (by decide) (fun c9 => ?_) (fun c9 => ?_)
                    · have hc2842 : ¬ (w2840.toInt = 1) := fun h9 => c9 (((lg_cmp_eq _ _).trans (fl_eq rfl (show (1 : Int64).toInt = 1 by decide))).mpr h9)
                      obtain ⟨v2843, h_v2843, e_v2843⟩ := tk_inc v575 (-1) (by decide) (by omega) (by omega)
                      refine lv_iinc (v := v2843) (lv' := [(3, .int v2843), (4, .int v2833), (6, .int v2832), (5, .int v2827), (0, .ref am), (2, .int p2)]) hx hb dX13_reckonAll_344 hl (k := 3) rfl e_v2843 (by decide) rfl (fun ls hl => ?_)
                      refine lv_goto (tgt := 10) hx hb dX13_reckonAll_347 (by decide) ?_
                      exact ih_l2674 v2833 v2843 v576 _ _ _ _ _ _ (by omega) (by omega) (by omega) (by omega) (by omega) (by omega) hM hS hIF hIG hIR hFF hGG hRR hg_0 hg_1 hf2 (by have h9 := dl.s zo v574.toInt.toNat; rw [hop, if_neg (by omega), if_neg (by omega)] at h9; rw [show v2833.toInt.toNat = v574.toInt.toNat + 1 by omega]; omega) (by omega) _ (lv_sub hl [1, 0, 4, 5] rfl)
                    · have hc2842 : w2840.toInt = 1 := ((lg_cmp_eq _ _).trans (fl_eq rfl (show (1 : Int64).toInt = 1 by decide))).mp c9
                      refine lv_iload hx hb dX13_reckonAll_337 (lv_at hl 1 rfl) ?_
                      refine lv_istore (lv' := [(4, .int v2832), (6, .int v2832), (5, .int v2827), (3, .int v575), (0, .ref am), (2, .int p2)]) hx hb dX13_reckonAll_339 hl (by decide) rfl (fun ls hl => ?_)
                      refine lv_goto (tgt := 347) hx hb dX13_reckonAll_341 (by decide) ?_
                      refine lv_goto (tgt := 10) hx hb dX13_reckonAll_347 (by decide) ?_
                      exact ih_l2674 v2832 v575 v576 _ _ _ _ _ _ (by omega) (by omega) (by omega) (by omega) (by omega) (by omega) hM hS hIF hIG hIR hFF hGG hRR hg_0 hg_1 hf2 (by rw [(hJ (by omega)).2.2]; exact hdl) (by omega) _ (lv_sub hl [0, 3, 4, 5] rfl)
                  · have hc2841 : v2827.toInt = 29 := (fi_eq rfl (show (29 : Int32).toInt = 29 by decide)).mp c9
                    refine lv_lconst (v := 0) hx hb dX13_reckonAll_328 (by decide) ?_
                    refine lv_goto (tgt := 333) hx hb dX13_reckonAll_329 (by decide) ?_
                    refine W.lcmp hx hb dX13_reckonAll_333 ?_
                    refine lv_if_ne (tgt := 344) hx hb dX13_reckonAll_334 (by decide) (fun c9 => ?_) (fun c9 => ?_)
                    · have hc2844 : ¬ (w2840.toInt = 0) := fun h9 => c9 (((lg_cmp_eq _ _).trans (fl_eq rfl (show (0 : Int64).toInt = 0 by decide))).mpr h9)
                      obtain ⟨v2845, h_v2845, e_v2845⟩ := tk_inc v575 (-1) (by decide) (by omega) (by omega)
                      refine lv_iinc (v := v2845) (lv' := [(3, .int v2845), (4, .int v2833), (6, .int v2832), (5, .int v2827), (0, .ref am), (2, .int p2)]) hx hb dX13_reckonAll_344 hl (k := 3) rfl e_v2845 (by decide) rfl (fun ls hl => ?_)
                      refine lv_goto (tgt := 10) hx hb dX13_reckonAll_347 (by decide) ?_
                      exact ih_l2674 v2833 v2845 v576 _ _ _ _ _ _ (by omega) (by omega) (by omega) (by omega) (by omega) (by omega) hM hS hIF hIG hIR hFF hGG hRR hg_0 hg_1 hf2 (by have h9 := dl.s zo v574.toInt.toNat; rw [hop, if_neg (by omega), if_neg (by omega)] at h9; rw [show v2833.toInt.toNat = v574.toInt.toNat + 1 by omega]; omega) (by omega) _ (lv_sub hl [1, 0, 4, 5] rfl)
                    · have hc2844 : w2840.toInt = 0 := ((lg_cmp_eq _ _).trans (fl_eq rfl (show (0 : Int64).toInt = 0 by decide))).mp c9
                      refine lv_iload hx hb dX13_reckonAll_337 (lv_at hl 1 rfl) ?_
                      refine lv_istore (lv' := [(4, .int v2832), (6, .int v2832), (5, .int v2827), (3, .int v575), (0, .ref am), (2, .int p2)]) hx hb dX13_reckonAll_339 hl (by decide) rfl (fun ls hl => ?_)
                      refine lv_goto (tgt := 347) hx hb dX13_reckonAll_341 (by decide) ?_
                      refine lv_goto (tgt := 10) hx hb dX13_reckonAll_347 (by decide) ?_
                      exact ih_l2674 v2832 v575 v576 _ _ _ _ _ _ (by omega) (by omega) (by omega) (by omega) (by omega) (by omega) hM hS hIF hIG hIR hFF hGG hRR hg_0 hg_1 hf2 (by rw [(hJ (by omega)).2.2]; exact hdl) (by omega) _ (lv_sub hl [0, 3, 4, 5] rfl)
                · have hc2837 : v2827.toInt = 28 := (fi_eq rfl (show (28 : Int32).toInt = 28 by decide)).mp c9
                  refine lv_aload_n hx hb dX13_reckonAll_292 rfl (lv_at hl 4 rfl) ?_
                  refine mz_getR hx hb htl hown hK hM 37 (Nat.le_of_ble_eq_true rfl) (Nat.le_of_ble_eq_true rfl) (htl _ mw_225) (fun _ h9 => h9) dX13_reckonAll_293 ?_
                  refine lv_iload_n hx hb dX13_reckonAll_296 rfl (lv_at hl 3 rfl) ?_
                  refine lv_iconst (v := 1) hx hb dX13_reckonAll_297 (by decide) ?_
                  refine lv_isub hx hb dX13_reckonAll_298 ?_
                  refine tk_sub rfl (show (1 : Int32).toInt = 1 by decide) (by omega) (by omega) (fun v2846 h_v2846 => ?_)
                  refine lv_lconst (v := 1) hx hb dX13_reckonAll_299 (by decide) ?_
                  refine lv_aload_n hx hb dX13_reckonAll_300 rfl (lv_at hl 4 rfl) ?_
                  refine mz_getR hx hb htl hown hK hM 37 (Nat.le_of_ble_eq_true rfl) (Nat.le_of_ble_eq_true rfl) (htl _ mw_225) (fun _ h9 => h9) dX13_reckonAll_301 ?_
                  refine lv_iload_n hx hb dX13_reckonAll_304 rfl (lv_at hl 3 rfl) ?_
                  refine lv_iconst (v := 1) hx hb dX13_reckonAll_305 (by decide) ?_
                  refine lv_isub hx hb dX13_reckonAll_306 ?_
                  refine tk_sub rfl (show (1 : Int32).toInt = 1 by decide) (by omega) (by omega) (fun v2847 h_v2847 => ?_)
                  refine mz_lald hx hb hK hM 37 (Nat.le_of_ble_eq_true rfl) rfl (nn := 400) rfl rfl (by omega) (by omega) dX13_reckonAll_307 (fun w2848 _ => ?_)
                  refine lv_lsub hx hb dX13_reckonAll_308 ?_
                  refine tk_anyl (fun w2849 => ?_)
                  refine mz_last (x := w2849) hx hb hK hD hM hS 37 (Nat.le_of_ble_eq_true rfl) rfl (nn := 400) rfl rfl (by omega) (by omega) dX13_reckonAll_309 (fun H locs S hM hS _ _ => ?_)
                  refine lv_goto (tgt := 347) hx hb dX13_reckonAll_310 (by decide) ?_
                  refine lv_goto (tgt := 10) hx hb dX13_reckonAll_347 (by decide) ?_
                  exact ih_l2674 v2833 v575 v576 _ _ _ _ _ _ (by omega) (by omega) (by omega) (by omega) (by omega) (by omega) hM hS hIF hIG hIR hFF hGG hRR hg_0 hg_1 hf2 (by have h9 := dl.s zo v574.toInt.toNat; rw [hop, if_neg (by omega), if_pos (by omega)] at h9; rw [show v2833.toInt.toNat = v574.toInt.toNat + 1 by omega]; omega) (by omega) _ (lv_sub hl [0, 3, 4, 5] rfl)
              · have hc2835 : ¬ (28 ≤ v2827.toInt) := fun h9 => c9 ((fi_le (show (28 : Int32).toInt = 28 by decide) rfl).mpr h9)
                have hwk_2852 : 2 ≤ v575.toInt := by omega
                obtain ⟨v2851, h_v2851, e_v2851⟩ := tk_inc v575 (-1) (by decide) (by omega) (by omega)
                refine lv_iinc (v := v2851) (lv' := [(3, .int v2851), (4, .int v2833), (6, .int v2832), (5, .int v2827), (0, .ref am), (2, .int p2)]) hx hb dX13_reckonAll_215 hl (k := 3) rfl e_v2851 (by decide) rfl (fun ls hl => ?_)
                refine lv_aload_n hx hb dX13_reckonAll_218 rfl (lv_at hl 4 rfl) ?_
                refine mz_getR hx hb htl hown hK hM 37 (Nat.le_of_ble_eq_true rfl) (Nat.le_of_ble_eq_true rfl) (htl _ mw_225) (fun _ h9 => h9) dX13_reckonAll_219 ?_
                refine lv_iload_n hx hb dX13_reckonAll_222 rfl (lv_at hl 0 rfl) ?_
                refine lv_iconst (v := 1) hx hb dX13_reckonAll_223 (by decide) ?_
                refine lv_isub hx hb dX13_reckonAll_224 ?_
                refine tk_sub rfl (show (1 : Int32).toInt = 1 by decide) (by omega) (by omega) (fun v2853 h_v2853 => ?_)
                refine lv_aload_n hx hb dX13_reckonAll_225 rfl (lv_at hl 4 rfl) ?_
                refine lv_iload hx hb dX13_reckonAll_226 (lv_at hl 3 rfl) ?_
                refine lv_aload_n hx hb dX13_reckonAll_228 rfl (lv_at hl 4 rfl) ?_
                refine mz_getR hx hb htl hown hK hM 37 (Nat.le_of_ble_eq_true rfl) (Nat.le_of_ble_eq_true rfl) (htl _ mw_225) (fun _ h9 => h9) dX13_reckonAll_229 ?_
                refine lv_iload_n hx hb dX13_reckonAll_232 rfl (lv_at hl 0 rfl) ?_
                refine lv_iconst (v := 1) hx hb dX13_reckonAll_233 (by decide) ?_
                refine lv_isub hx hb dX13_reckonAll_234 ?_
                refine tk_sub rfl (show (1 : Int32).toInt = 1 by decide) (by omega) (by omega) (fun v2854 h_v2854 => ?_)
                refine mz_lald hx hb hK hM 37 (Nat.le_of_ble_eq_true rfl) rfl (nn := 400) rfl rfl (by omega) (by omega) dX13_reckonAll_235 (fun w2855 _ => ?_)
                refine lv_aload_n hx hb dX13_reckonAll_236 rfl (lv_at hl 4 rfl) ?_
                refine mz_getR hx hb htl hown hK hM 37 (Nat.le_of_ble_eq_true rfl) (Nat.le_of_ble_eq_true rfl) (htl _ mw_225) (fun _ h9 => h9) dX13_reckonAll_237 ?_
                refine lv_iload_n hx hb dX13_reckonAll_240 rfl (lv_at hl 0 rfl) ?_
                refine mz_lald hx hb hK hM 37 (Nat.le_of_ble_eq_true rfl) rfl (nn := 400) rfl rfl (by omega) (by omega) dX13_reckonAll_241 (fun w2856 _ => ?_)
                refine mz_Vl (As := [.int v2827, .long w2855, .long w2856]) (rest := [.int v2853, .ref (ad 37)]) ⟨hx, hb, hml, hown, hts⟩ hK hM hS (k_X13_reckon l D cy ld ad am hD _ _ _ _ v2827 w2855 w2856 hIF hIG hIR) ⟨callB_of 3 hts (wl_in mw_1063) rfl rfl rfl (htl _ mw_5) (htl _ mw_1060) hd_yX13_reckon ⟨(Nat.le_of_ble_eq_true rfl), (Nat.le_of_ble_eq_true rfl)⟩, htl _ mw_1061, htl _ mw_1062⟩ rfl hl.1 rfl (Nat.le_of_ble_eq_true rfl) dX13_reckonAll_242 ⟨(Nat.le_of_ble_eq_true rfl), (Nat.le_of_ble_eq_true rfl)⟩ (fun w2857 H locs F G R S hpo hM hS => ?_)
                obtain ⟨hIF, hIG, hIR, hfr9, hrr9, hgr9⟩ := hpo
                have hq_w2857 := tk_rngL w2857
                have hFF := mz_fr (K := [38]) (Fa := Fa) hfr9 hFF (by decide)
                have hRR := mz_fr (K := []) (Fa := Ra) hrr9 hRR (by decide)
                have hGG := mz_fr (K := [39]) (Fa := Ga) hgr9 hGG (by decide)
                have e_v2827 : R 3 (v2826 : Int32).toNatClampNeg = _ := (congrFun (hrr9 3 (by decide)) _).trans e_v2827
                have e_v2832 : R 3 (v2831 : Int32).toNatClampNeg = _ := (congrFun (hrr9 3 (by decide)) _).trans e_v2832
                have hg_0 := (hfr9 20 (by decide)).trans hg_0
                have hg_1 := (hfr9 34 (by decide)).trans hg_1
                refine mz_last (x := w2857) hx hb hK hD hM hS 37 (Nat.le_of_ble_eq_true rfl) rfl (nn := 400) rfl rfl (by omega) (by omega) dX13_reckonAll_245 (fun H locs S hM hS _ _ => ?_)
                refine lv_aload_n hx hb dX13_reckonAll_246 rfl (lv_at hl 4 rfl) ?_
                refine lv_aload_n hx hb dX13_reckonAll_247 rfl (lv_at hl 4 rfl) ?_
                refine mz_getI hx hb htl hown hK hM 38 (Nat.le_of_ble_eq_true rfl) rfl (htl _ mw_1051) (fun _ h9 => h9) dX13_reckonAll_248 (fun v2861 hf2860 => ?_)
                have hq_v2861 := tk_rng v2861
                have hr_v2861 : 0 ≤ v2861.toInt ∧ v2861.toInt ≤ 1 := hIF.at hf2860
                refine lv_if_ne (tgt := 274) hx hb dX13_reckonAll_251 (by decide) (fun c9 => ?_) (fun c9 => ?_)
                · have hc2862 : ¬ (v2861.toInt = 0) := fun h9 => c9 ((fi_eq rfl (show (0 : Int32).toInt = 0 by decide)).mpr h9)
                  refine lv_iconst (v := 1) hx hb dX13_reckonAll_274 (by decide) ?_
                  refine lv_goto (tgt := 279) hx hb dX13_reckonAll_275 (by decide) ?_
                  have hk_1 : (1 : Int32).toInt = 1 := by decide
                  have hk_1 : (1 : Int32).toInt = 1 := by decide
                  refine mz_putI (ty := .boolean) (x := 1) hx hb htl hown hK hD hM hS 38 (Nat.le_of_ble_eq_true rfl) rfl (htl _ mw_1051) (fun _ h9 => h9) rfl (tyX13_ok 38 (by decide)) rfl rfl dX13_reckonAll_279 (fun H locs F hM hS hf9 hj9 => ?_)
                  have hIF := hIF.put hf9 hj9 (show 0 ≤ (1 : Int32).toInt by omega) (show (1 : Int32).toInt ≤ 1 by omega) (by decide)
                  have hFF := mz_frp (K := [38]) (Fa := Fa) hj9 hFF (by decide)
                  have hg_0 := (hj9 20 (by decide)).trans hg_0
                  have hg_1 := (hj9 34 (by decide)).trans hg_1
                  have hf2864 := hf9
                  refine lv_goto (tgt := 347) hx hb dX13_reckonAll_282 (by decide) ?_
                  refine lv_goto (tgt := 10) hx hb dX13_reckonAll_347 (by decide) ?_
                  have hk_1 : (1 : Int32).toInt = 1 := by decide
                  exact ih_l2674 v2833 v2851 1 _ _ _ _ _ _ (by omega) (by omega) (by omega) (by omega) (by omega) (by omega) hM hS hIF hIG hIR hFF hGG hRR hg_0 hg_1 hf2864 (by have h9 := dl.s zo v574.toInt.toNat; rw [hop, if_neg (by omega), if_neg (by omega)] at h9; rw [show v2833.toInt.toNat = v574.toInt.toNat + 1 by omega]; omega) (by omega) _ (lv_sub hl [1, 0, 4, 5] rfl)
                · have hc2862 : v2861.toInt = 0 := (fi_eq rfl (show (0 : Int32).toInt = 0 by decide)).mp c9
                  refine lv_aload_n hx hb dX13_reckonAll_254 rfl (lv_at hl 4 rfl) ?_
                  refine mz_getR hx hb htl hown hK hM 37 (Nat.le_of_ble_eq_true rfl) (Nat.le_of_ble_eq_true rfl) (htl _ mw_225) (fun _ h9 => h9) dX13_reckonAll_255 ?_
                  refine lv_iload_n hx hb dX13_reckonAll_258 rfl (lv_at hl 0 rfl) ?_
                  refine lv_iconst (v := 1) hx hb dX13_reckonAll_259 (by decide) ?_
                  refine lv_isub hx hb dX13_reckonAll_260 ?_
                  refine tk_sub rfl (show (1 : Int32).toInt = 1 by decide) (by omega) (by omega) (fun v2865 h_v2865 => ?_)
                  refine mz_lald hx hb hK hM 37 (Nat.le_of_ble_eq_true rfl) rfl (nn := 400) rfl rfl (by omega) (by omega) dX13_reckonAll_261 (fun w2866 _ => ?_)
                  refine lv_ldc2 hx hb hown (htl _ mw_1058) dX13_reckonAll_262 ?_
                  refine lv_ldc2 hx hb hown (htl _ mw_1059) dX13_reckonAll_265 ?_
                  have hk_m1000000000 : ((-1000000000) : Int64).toInt = (-1000000000) := by decide
                  have hk_1000000000 : (1000000000 : Int64).toInt = 1000000000 := by decide
                  refine mz_Sj (As := [.long w2866, .long (-1000000000), .long 1000000000]) (rest := [.ref am]) ⟨hx, hb, hml, hown, hts⟩ hK hM hS (k_X13_in l D cy ld ad am hD _ _ _ _ w2866 (-1000000000) 1000000000) ⟨callB_of 3 hts (wl_in mw_292) rfl rfl rfl (htl _ mw_5) (htl _ mw_290) hd_yX13_in ⟨(Nat.le_of_ble_eq_true rfl), (Nat.le_of_ble_eq_true rfl)⟩, htl _ mw_291⟩ rfl hl.1 rfl (Nat.le_of_ble_eq_true rfl) dX13_reckonAll_268 ⟨(Nat.le_of_ble_eq_true rfl), (Nat.le_of_ble_eq_true rfl)⟩ (fun v2867 H locs hpo hM hS => ?_)
                  obtain ⟨hpo2868, hpo2869, hpo2870, hpo2871, hpo2872, hpo2873⟩ := hpo
                  have hq_v2867 := tk_rng v2867
                  refine lv_if_ne (tgt := 278) hx hb dX13_reckonAll_271 (by decide) (fun c9 => ?_) (fun c9 => ?_)
                  · have hc2875 : ¬ (v2867.toInt = 0) := fun h9 => c9 ((fi_eq rfl (show (0 : Int32).toInt = 0 by decide)).mpr h9)
                    have hwk_2876 : (-1000000000) ≤ w2866.toInt ∧ w2866.toInt ≤ 1000000000 := by omega
                    refine lv_iconst (v := 0) hx hb dX13_reckonAll_278 (by decide) ?_
                    have hk_0 : (0 : Int32).toInt = 0 := by decide
                    have hk_0 : (0 : Int32).toInt = 0 := by decide
                    refine mz_putI (ty := .boolean) (x := 0) hx hb htl hown hK hD hM hS 38 (Nat.le_of_ble_eq_true rfl) rfl (htl _ mw_1051) (fun _ h9 => h9) rfl (tyX13_ok 38 (by decide)) rfl rfl dX13_reckonAll_279 (fun H locs F hM hS hf9 hj9 => ?_)
                    have hIF := hIF.put hf9 hj9 (show 0 ≤ (0 : Int32).toInt by omega) (show (0 : Int32).toInt ≤ 1 by omega) (by decide)
                    have hFF := mz_frp (K := [38]) (Fa := Fa) hj9 hFF (by decide)
                    have hg_0 := (hj9 20 (by decide)).trans hg_0
                    have hg_1 := (hj9 34 (by decide)).trans hg_1
                    have hf2878 := hf9
                    refine lv_goto (tgt := 347) hx hb dX13_reckonAll_282 (by decide) ?_
                    refine lv_goto (tgt := 10) hx hb dX13_reckonAll_347 (by decide) ?_
                    have hk_0 : (0 : Int32).toInt = 0 := by decide
                    exact ih_l2674 v2833 v2851 0 _ _ _ _ _ _ (by omega) (by omega) (by omega) (by omega) (by omega) (by omega) hM hS hIF hIG hIR hFF hGG hRR hg_0 hg_1 hf2878 (by have h9 := dl.s zo v574.toInt.toNat; rw [hop, if_neg (by omega), if_neg (by omega)] at h9; rw [show v2833.toInt.toNat = v574.toInt.toNat + 1 by omega]; omega) (by omega) _ (lv_sub hl [1, 0, 4, 5] rfl)
                  · have hc2875 : v2867.toInt = 0 := (fi_eq rfl (show (0 : Int32).toInt = 0 by decide)).mp c9
                    refine lv_iconst (v := 1) hx hb dX13_reckonAll_274 (by decide) ?_
                    refine lv_goto (tgt := 279) hx hb dX13_reckonAll_275 (by decide) ?_
                    have hk_1 : (1 : Int32).toInt = 1 := by decide
                    have hk_1 : (1 : Int32).toInt = 1 := by decide
                    refine mz_putI (ty := .boolean) (x := 1) hx hb htl hown hK hD hM hS 38 (Nat.le_of_ble_eq_true rfl) rfl (htl _ mw_1051) (fun _ h9 => h9) rfl (tyX13_ok 38 (by decide)) rfl rfl dX13_reckonAll_279 (fun H locs F hM hS hf9 hj9 => ?_)
                    have hIF := hIF.put hf9 hj9 (show 0 ≤ (1 : Int32).toInt by omega) (show (1 : Int32).toInt ≤ 1 by omega) (by decide)
                    have hFF := mz_frp (K := [38]) (Fa := Fa) hj9 hFF (by decide)
                    have hg_0 := (hj9 20 (by decide)).trans hg_0
                    have hg_1 := (hj9 34 (by decide)).trans hg_1
                    have hf2880 := hf9
                    refine lv_goto (tgt := 347) hx hb dX13_reckonAll_282 (by decide) ?_
                    refine lv_goto (tgt := 10) hx hb dX13_reckonAll_347 (by decide) ?_
                    have hk_1 : (1 : Int32).toInt = 1 := by decide
                    exact ih_l2674 v2833 v2851 1 _ _ _ _ _ _ (by omega) (by omega) (by omega) (by omega) (by omega) (by omega) hM hS hIF hIG hIR hFF hGG hRR hg_0 hg_1 hf2880 (by have h9 := dl.s zo v574.toInt.toNat; rw [hop, if_neg (by omega), if_neg (by omega)] at h9; rw [show v2833.toInt.toNat = v574.toInt.toNat + 1 by omega]; omega) (by omega) _ (lv_sub hl [1, 0, 4, 5] rfl)
            · have hc2834 : ¬ (20 ≤ v2827.toInt) := fun h9 => c9 ((fi_le (show (20 : Int32).toInt = 20 by decide) rfl).mpr h9)
              have hwk_2881 : v2827.toInt ≤ 9 := by omega
              refine lv_aload_n hx hb dX13_reckonAll_107 rfl (lv_at hl 4 rfl) ?_
              refine mz_getR hx hb htl hown hK hM 37 (Nat.le_of_ble_eq_true rfl) (Nat.le_of_ble_eq_true rfl) (htl _ mw_225) (fun _ h9 => h9) dX13_reckonAll_108 ?_
              refine lv_iload_n hx hb dX13_reckonAll_111 rfl (lv_at hl 3 rfl) ?_
              refine lv_iload hx hb dX13_reckonAll_112 (lv_at hl 2 rfl) ?_
              refine lv_if_ne (tgt := 123) hx hb dX13_reckonAll_114 (by decide) (fun c9 => ?_) (fun c9 => ?_)
              · have hc2882 : ¬ (v2827.toInt = 0) := fun h9 => c9 ((fi_eq rfl (show (0 : Int32).toInt = 0 by decide)).mpr h9)
                refine lv_aload_n hx hb dX13_reckonAll_123 rfl (lv_at hl 4 rfl) ?_
                refine mz_getI hx hb htl hown hK hM 20 (Nat.le_of_ble_eq_true rfl) rfl (htl _ mw_675) (fun _ h9 => h9) dX13_reckonAll_124 (fun v9 e9 => ?_)
                refine fx_ti (v := go) (e9.symm.trans hg_0) ?_
                refine lv_if_ne (tgt := 140) hx hb dX13_reckonAll_127 (by decide) (fun c9 => absurd ((fi_eq rfl (show (0 : Int32).toInt = 0 by decide)).mpr (show go.toInt = 0 by omega)) c9) (fun _ => ?_)
                refine lv_aload_n hx hb dX13_reckonAll_130 rfl (lv_at hl 4 rfl) ?_
                refine mz_getR hx hb htl hown hK hM 35 (Nat.le_of_ble_eq_true rfl) (Nat.le_of_ble_eq_true rfl) (htl _ mw_223) (fun _ h9 => h9) dX13_reckonAll_131 ?_
                refine lv_iload hx hb dX13_reckonAll_134 (lv_at hl 2 rfl) ?_
                refine mz_lald hx hb hK hM 35 (Nat.le_of_ble_eq_true rfl) rfl (nn := 13) rfl rfl (by omega) (by omega) dX13_reckonAll_136 (fun w2883 _ => ?_)
                refine lv_goto (tgt := 201) hx hb dX13_reckonAll_137 (by decide) ?_
                refine mz_last (x := w2883) hx hb hK hD hM hS 37 (Nat.le_of_ble_eq_true rfl) rfl (nn := 400) rfl rfl (by omega) (by omega) dX13_reckonAll_201 (fun H locs S hM hS _ _ => ?_)
                obtain ⟨v2885, h_v2885, e_v2885⟩ := tk_inc v575 1 (by decide) (by omega) (by omega)
                refine lv_iinc (v := v2885) (lv' := [(3, .int v2885), (4, .int v2833), (6, .int v2832), (5, .int v2827), (0, .ref am), (2, .int p2)]) hx hb dX13_reckonAll_202 hl (k := 3) rfl e_v2885 (by decide) rfl (fun ls hl => ?_)
                refine lv_goto (tgt := 347) hx hb dX13_reckonAll_205 (by decide) ?_
                refine lv_goto (tgt := 10) hx hb dX13_reckonAll_347 (by decide) ?_
                exact ih_l2674 v2833 v2885 v576 _ _ _ _ _ _ (by omega) (by omega) (by omega) (by omega) (by omega) (by omega) hM hS hIF hIG hIR hFF hGG hRR hg_0 hg_1 hf2 (by have h9 := dl.s zo v574.toInt.toNat; rw [hop, if_pos (by omega)] at h9; rw [show v2833.toInt.toNat = v574.toInt.toNat + 1 by omega]; omega) (by omega) _ (lv_sub hl [1, 0, 4, 5] rfl)
              · have hc2882 : v2827.toInt = 0 := (fi_eq rfl (show (0 : Int32).toInt = 0 by decide)).mp c9
                refine lv_iload hx hb dX13_reckonAll_117 (lv_at hl 1 rfl) ?_
                obtain ⟨w2886, e_w2886, h_w2886⟩ : ∃ z : Int64, v2832.toInt64 = z ∧ z.toInt = v2832.toInt := ⟨_, rfl, fl_w _⟩
                refine lv_i2l (v := w2886) hx hb dX13_reckonAll_119 e_w2886 ?_
                refine lv_goto (tgt := 201) hx hb dX13_reckonAll_120 (by decide) ?_
                refine mz_last (x := w2886) hx hb hK hD hM hS 37 (Nat.le_of_ble_eq_true rfl) rfl (nn := 400) rfl rfl (by omega) (by omega) dX13_reckonAll_201 (fun H locs S hM hS _ _ => ?_)
                obtain ⟨v2888, h_v2888, e_v2888⟩ := tk_inc v575 1 (by decide) (by omega) (by omega)
                refine lv_iinc (v := v2888) (lv' := [(3, .int v2888), (4, .int v2833), (6, .int v2832), (5, .int v2827), (0, .ref am), (2, .int p2)]) hx hb dX13_reckonAll_202 hl (k := 3) rfl e_v2888 (by decide) rfl (fun ls hl => ?_)
                refine lv_goto (tgt := 347) hx hb dX13_reckonAll_205 (by decide) ?_
                refine lv_goto (tgt := 10) hx hb dX13_reckonAll_347 (by decide) ?_
                exact ih_l2674 v2833 v2888 v576 _ _ _ _ _ _ (by omega) (by omega) (by omega) (by omega) (by omega) (by omega) hM hS hIF hIG hIR hFF hGG hRR hg_0 hg_1 hf2 (by have h9 := dl.s zo v574.toInt.toNat; rw [hop, if_pos (by omega)] at h9; rw [show v2833.toInt.toNat = v574.toInt.toNat + 1 by omega]; omega) (by omega) _ (lv_sub hl [1, 0, 4, 5] rfl)
          · have hc2823 : ¬ (go.toInt = 0) := fun h9 => c9 ((fi_eq rfl (show (0 : Int32).toInt = 0 by decide)).mpr h9)
            refine lv_aload_n hx hb dX13_reckonAll_30 rfl (lv_at hl 2 rfl) ?_
            refine mz_getR hx hb htl hown hK hM 24 (Nat.le_of_ble_eq_true rfl) (Nat.le_of_ble_eq_true rfl) (htl _ mw_198) (fun _ h9 => h9) dX13_reckonAll_31 ?_
            refine lv_iload hx hb dX13_reckonAll_34 (lv_at hl 0 rfl) ?_
            refine mz_iald hx hb hK hM 24 (Nat.le_of_ble_eq_true rfl) rfl (nn := 400) rfl rfl (by omega) (by omega) dX13_reckonAll_36 (fun v2889 e_v2889 => ?_)
            have hq_v2889 := tk_rng v2889
            refine lv_goto (tgt := 57) hx hb dX13_reckonAll_37 (by decide) ?_
            refine lv_istore (lv' := [(5, .int v2889), (4, .int v574), (3, .int v575), (0, .ref am), (2, .int p2)]) hx hb dX13_reckonAll_57 hl (by decide) rfl (fun ls hl => ?_)
            refine lv_aload_n hx hb dX13_reckonAll_59 rfl (lv_at hl 3 rfl) ?_
            refine mz_getI hx hb htl hown hK hM 20 (Nat.le_of_ble_eq_true rfl) rfl (htl _ mw_675) (fun _ h9 => h9) dX13_reckonAll_60 (fun v9 e9 => ?_)
            refine fx_ti (v := go) (e9.symm.trans hg_0) ?_
            refine lv_if_eq (tgt := 76) hx hb dX13_reckonAll_63 (by decide) (fun c9 => absurd (show go.toInt = 0 from (fi_eq rfl (show (0 : Int32).toInt = 0 by decide)).mp c9) (by omega)) (fun _ => ?_)
            refine lv_aload_n hx hb dX13_reckonAll_66 rfl (lv_at hl 3 rfl) ?_
            refine mz_getR hx hb htl hown hK hM 25 (Nat.le_of_ble_eq_true rfl) (Nat.le_of_ble_eq_true rfl) (htl _ mw_199) (fun _ h9 => h9) dX13_reckonAll_67 ?_
            refine lv_iload hx hb dX13_reckonAll_70 (lv_at hl 1 rfl) ?_
            refine mz_iald hx hb hK hM 25 (Nat.le_of_ble_eq_true rfl) rfl (nn := 400) rfl rfl (by omega) (by omega) dX13_reckonAll_72 (fun v2890 e_v2890 => ?_)
            have hq_v2890 := tk_rng v2890
            refine lv_goto (tgt := 95) hx hb dX13_reckonAll_73 (by decide) ?_
            refine lv_istore (lv' := [(6, .int v2890), (5, .int v2889), (4, .int v574), (3, .int v575), (0, .ref am), (2, .int p2)]) hx hb dX13_reckonAll_95 hl (by decide) rfl (fun ls hl => ?_)
            have h29 := hx_2 (by omega) v574.toInt.toNat (by omega)
            have hop : zo v574.toInt.toNat = v2889 := h29.1.symm.trans ((congrFun (hRR 24 (by decide)) _).symm.trans e_v2889)
            have har : za v574.toInt.toNat = v2890 := h29.2.symm.trans ((congrFun (hRR 25 (by decide)) _).symm.trans e_v2890)
            have hwk := hx_0.2.2.2 v574.toInt.toNat (by omega) (by omega)
            rw [hop, har, ← hdl] at hwk
            have hle := dl.le zo p1.toInt.toNat v574.toInt.toNat (by omega)
            rw [← hdl] at hle
            have hJ := hwk.2.2.2.2.2
            have hJ1 : 29 ≤ v2889.toInt → v574.toInt + 1 ≤ v2890.toInt ∧ v2890.toInt ≤ p2.toInt := fun h9 => ⟨by have := (hJ h9).1; omega, by have := (hJ h9).2.1; omega⟩
            obtain ⟨v2891, h_v2891, e_v2891⟩ := tk_inc v574 1 (by decide) (by omega) (by omega)
            refine lv_iinc (v := v2891) (lv' := [(4, .int v2891), (6, .int v2890), (5, .int v2889), (3, .int v575), (0, .ref am), (2, .int p2)]) hx hb dX13_reckonAll_97 hl (k := 2) rfl e_v2891 (by decide) rfl (fun ls hl => ?_)
            refine lv_iload hx hb dX13_reckonAll_100 (lv_at hl 2 rfl) ?_
            refine lv_bipush (v := 20) hx hb dX13_reckonAll_102 (by decide) ?_
            refine lv_icmp_ge (tgt := 208) hx hb dX13_reckonAll_104 (by decide) (fun c9 => ?_) (fun c9 => ?_)
            · have hc2892 : 20 ≤ v2889.toInt := (fi_le (show (20 : Int32).toInt = 20 by decide) rfl).mp c9
              refine lv_iload hx hb dX13_reckonAll_208 (lv_at hl 2 rfl) ?_
              refine lv_bipush (v := 28) hx hb dX13_reckonAll_210 (by decide) ?_
              refine lv_icmp_ge (tgt := 285) hx hb dX13_reckonAll_212 (by decide) (fun c9 => ?_) (fun c9 => ?_)
              · have hc2893 : 28 ≤ v2889.toInt := (fi_le (show (28 : Int32).toInt = 28 by decide) rfl).mp c9
                have hwk_2894 : 1 ≤ v575.toInt := by omega
                refine lv_iload hx hb dX13_reckonAll_285 (lv_at hl 2 rfl) ?_
                refine lv_bipush (v := 28) hx hb dX13_reckonAll_287 (by decide) ?_
                refine lv_icmp_ne (tgt := 313) hx hb dX13_reckonAll_289 (by decide) (fun c9 => ?_) (fun c9 => ?_)
                · have hc2895 : ¬ (v2889.toInt = 28) := fun h9 => c9 ((fi_eq rfl (show (28 : Int32).toInt = 28 by decide)).mpr h9)
                  have hwk_2896 : 0 ≤ v2890.toInt + (-1) * v574.toInt + (-1) ∧ 0 ≤ p2.toInt + (-1) * v2890.toInt := by omega
                  refine lv_aload_n hx hb dX13_reckonAll_313 rfl (lv_at hl 4 rfl) ?_
                  refine mz_getR hx hb htl hown hK hM 37 (Nat.le_of_ble_eq_true rfl) (Nat.le_of_ble_eq_true rfl) (htl _ mw_225) (fun _ h9 => h9) dX13_reckonAll_314 ?_
                  refine lv_iload_n hx hb dX13_reckonAll_317 rfl (lv_at hl 3 rfl) ?_
                  refine lv_iconst (v := 1) hx hb dX13_reckonAll_318 (by decide) ?_
                  refine lv_isub hx hb dX13_reckonAll_319 ?_
                  refine tk_sub rfl (show (1 : Int32).toInt = 1 by decide) (by omega) (by omega) (fun v2897 h_v2897 => ?_)
                  refine mz_lald hx hb hK hM 37 (Nat.le_of_ble_eq_true rfl) rfl (nn := 400) rfl rfl (by omega) (by omega) dX13_reckonAll_320 (fun w2898 _ => ?_)
                  refine lv_iload hx hb dX13_reckonAll_321 (lv_at hl 2 rfl) ?_
                  refine lv_bipush (v := 29) hx hb dX13_reckonAll_323 (by decide) ?_
                  refine lv_icmp_ne (tgt := 332) hx hb dX13_reckonAll_325 (by decide) (fun c9 => ?_) (fun c9 => ?_)
                  · have hc2899 : ¬ (v2889.toInt = 29) := fun h9 => c9 ((fi_eq rfl (show (29 : Int32).toInt = 29 by decide)).mpr h9)
                    refine lv_lconst (v := 1) hx hb dX13_reckonAll_332 (by decide) ?_
                    refine W.lcmp hx hb dX13_reckonAll_333 ?_
                    refine lv_if_ne (tgt := 344) hx hb dX13_reckonAll_334 (by decide) (fun c9 => ?_) (fun c9 => ?_)
                    · have hc2900 : ¬ (w2898.toInt = 1) := fun h9 => c9 (((lg_cmp_eq _ _).trans (fl_eq rfl (show (1 : Int64).toInt = 1 by decide))).mpr h9)
                      obtain ⟨v2901, h_v2901, e_v2901⟩ := tk_inc v575 (-1) (by decide) (by omega) (by omega)
                      refine lv_iinc (v := v2901) (lv' := [(3, .int v2901), (4, .int v2891), (6, .int v2890), (5, .int v2889), (0, .ref am), (2, .int p2)]) hx hb dX13_reckonAll_344 hl (k := 3) rfl e_v2901 (by decide) rfl (fun ls hl => ?_)
                      refine lv_goto (tgt := 10) hx hb dX13_reckonAll_347 (by decide) ?_
                      exact ih_l2674 v2891 v2901 v576 _ _ _ _ _ _ (by omega) (by omega) (by omega) (by omega) (by omega) (by omega) hM hS hIF hIG hIR hFF hGG hRR hg_0 hg_1 hf2 (by have h9 := dl.s zo v574.toInt.toNat; rw [hop, if_neg (by omega), if_neg (by omega)] at h9; rw [show v2891.toInt.toNat = v574.toInt.toNat + 1 by omega]; omega) (by omega) _ (lv_sub hl [1, 0, 4, 5] rfl)
                    · have hc2900 : w2898.toInt = 1 := ((lg_cmp_eq _ _).trans (fl_eq rfl (show (1 : Int64).toInt = 1 by decide))).mp c9
                      refine lv_iload hx hb dX13_reckonAll_337 (lv_at hl 1 rfl) ?_
                      refine lv_istore (lv' := [(4, .int v2890), (6, .int v2890), (5, .int v2889), (3, .int v575), (0, .ref am), (2, .int p2)]) hx hb dX13_reckonAll_339 hl (by decide) rfl (fun ls hl => ?_)
                      refine lv_goto (tgt := 347) hx hb dX13_reckonAll_341 (by decide) ?_
                      refine lv_goto (tgt := 10) hx hb dX13_reckonAll_347 (by decide) ?_
                      exact ih_l2674 v2890 v575 v576 _ _ _ _ _ _ (by omega) (by omega) (by omega) (by omega) (by omega) (by omega) hM hS hIF hIG hIR hFF hGG hRR hg_0 hg_1 hf2 (by rw [(hJ (by omega)).2.2]; exact hdl) (by omega) _ (lv_sub hl [0, 3, 4, 5] rfl)
                  · have hc2899 : v2889.toInt = 29 := (fi_eq rfl (show (29 : Int32).toInt = 29 by decide)).mp c9
                    refine lv_lconst (v := 0) hx hb dX13_reckonAll_328 (by decide) ?_
                    refine lv_goto (tgt := 333) hx hb dX13_reckonAll_329 (by decide) ?_
                    refine W.lcmp hx hb dX13_reckonAll_333 ?_
                    refine lv_if_ne (tgt := 344) hx hb dX13_reckonAll_334 (by decide) (fun c9 => ?_) (fun c9 => ?_)
                    · have hc2902 : ¬ (w2898.toInt = 0) := fun h9 => c9 (((lg_cmp_eq _ _).trans (fl_eq rfl (show (0 : Int64).toInt = 0 by decide))).mpr h9)
                      obtain ⟨v2903, h_v2903, e_v2903⟩ := tk_inc v575 (-1) (by decide) (by omega) (by omega)
                      refine lv_iinc (v := v2903) (lv' := [(3, .int v2903), (4, .int v2891), (6, .int v2890), (5, .int v2889), (0, .ref am), (2, .int p2)]) hx hb dX13_reckonAll_344 hl (k := 3) rfl e_v2903 (by decide) rfl (fun ls hl => ?_)
                      refine lv_goto (tgt := 10) hx hb dX13_reckonAll_347 (by decide) ?_
                      exact ih_l2674 v2891 v2903 v576 _ _ _ _ _ _ (by omega) (by omega) (by omega) (by omega) (by omega) (by omega) hM hS hIF hIG hIR hFF hGG hRR hg_0 hg_1 hf2 (by have h9 := dl.s zo v574.toInt.toNat; rw [hop, if_neg (by omega), if_neg (by omega)] at h9; rw [show v2891.toInt.toNat = v574.toInt.toNat + 1 by omega]; omega) (by omega) _ (lv_sub hl [1, 0, 4, 5] rfl)
                    · have hc2902 : w2898.toInt = 0 := ((lg_cmp_eq _ _).trans (fl_eq rfl (show (0 : Int64).toInt = 0 by decide))).mp c9
                      refine lv_iload hx hb dX13_reckonAll_337 (lv_at hl 1 rfl) ?_
                      refine lv_istore (lv' := [(4, .int v2890), (6, .int v2890), (5, .int v2889), (3, .int v575), (0, .ref am), (2, .int p2)]) hx hb dX13_reckonAll_339 hl (by decide) rfl (fun ls hl => ?_)
                      refine lv_goto (tgt := 347) hx hb dX13_reckonAll_341 (by decide) ?_
                      refine lv_goto (tgt := 10) hx hb dX13_reckonAll_347 (by decide) ?_
                      exact ih_l2674 v2890 v575 v576 _ _ _ _ _ _ (by omega) (by omega) (by omega) (by omega) (by omega) (by omega) hM hS hIF hIG hIR hFF hGG hRR hg_0 hg_1 hf2 (by rw [(hJ (by omega)).2.2]; exact hdl) (by omega) _ (lv_sub hl [0, 3, 4, 5] rfl)
                · have hc2895 : v2889.toInt = 28 := (fi_eq rfl (show (28 : Int32).toInt = 28 by decide)).mp c9
                  refine lv_aload_n hx hb dX13_reckonAll_292 rfl (lv_at hl 4 rfl) ?_
                  refine mz_getR hx hb htl hown hK hM 37 (Nat.le_of_ble_eq_true rfl) (Nat.le_of_ble_eq_true rfl) (htl _ mw_225) (fun _ h9 => h9) dX13_reckonAll_293 ?_
                  refine lv_iload_n hx hb dX13_reckonAll_296 rfl (lv_at hl 3 rfl) ?_
                  refine lv_iconst (v := 1) hx hb dX13_reckonAll_297 (by decide) ?_
                  refine lv_isub hx hb dX13_reckonAll_298 ?_
                  refine tk_sub rfl (show (1 : Int32).toInt = 1 by decide) (by omega) (by omega) (fun v2904 h_v2904 => ?_)
                  refine lv_lconst (v := 1) hx hb dX13_reckonAll_299 (by decide) ?_
                  refine lv_aload_n hx hb dX13_reckonAll_300 rfl (lv_at hl 4 rfl) ?_
                  refine mz_getR hx hb htl hown hK hM 37 (Nat.le_of_ble_eq_true rfl) (Nat.le_of_ble_eq_true rfl) (htl _ mw_225) (fun _ h9 => h9) dX13_reckonAll_301 ?_
                  refine lv_iload_n hx hb dX13_reckonAll_304 rfl (lv_at hl 3 rfl) ?_
                  refine lv_iconst (v := 1) hx hb dX13_reckonAll_305 (by decide) ?_
                  refine lv_isub hx hb dX13_reckonAll_306 ?_
                  refine tk_sub rfl (show (1 : Int32).toInt = 1 by decide) (by omega) (by omega) (fun v2905 h_v2905 => ?_)
                  refine mz_lald hx hb hK hM 37 (Nat.le_of_ble_eq_true rfl) rfl (nn := 400) rfl rfl (by omega) (by omega) dX13_reckonAll_307 (fun w2906 _ => ?_)
                  refine lv_lsub hx hb dX13_reckonAll_308 ?_
                  refine tk_anyl (fun w2907 => ?_)
                  refine mz_last (x := w2907) hx hb hK hD hM hS 37 (Nat.le_of_ble_eq_true rfl) rfl (nn := 400) rfl rfl (by omega) (by omega) dX13_reckonAll_309 (fun H locs S hM hS _ _ => ?_)
                  refine lv_goto (tgt := 347) hx hb dX13_reckonAll_310 (by decide) ?_
                  refine lv_goto (tgt := 10) hx hb dX13_reckonAll_347 (by decide) ?_
                  exact ih_l2674 v2891 v575 v576 _ _ _ _ _ _ (by omega) (by omega) (by omega) (by omega) (by omega) (by omega) hM hS hIF hIG hIR hFF hGG hRR hg_0 hg_1 hf2 (by have h9 := dl.s zo v574.toInt.toNat; rw [hop, if_neg (by omega), if_pos (by omega)] at h9; rw [show v2891.toInt.toNat = v574.toInt.toNat + 1 by omega]; omega) (by omega) _ (lv_sub hl [0, 3, 4, 5] rfl)
              · have hc2893 : ¬ (28 ≤ v2889.toInt) := fun h9 => c9 ((fi_le (show (28 : Int32).toInt = 28 by decide) rfl).mpr h9)
                have hwk_2910 : 2 ≤ v575.toInt := by omega
                obtain ⟨v2909, h_v2909, e_v2909⟩ := tk_inc v575 (-1) (by decide) (by omega) (by omega)
                refine lv_iinc (v := v2909) (lv' := [(3, .int v2909), (4, .int v2891), (6, .int v2890), (5, .int v2889), (0, .ref am), (2, .int p2)]) hx hb dX13_reckonAll_215 hl (k := 3) rfl e_v2909 (by decide) rfl (fun ls hl => ?_)
                refine lv_aload_n hx hb dX13_reckonAll_218 rfl (lv_at hl 4 rfl) ?_
                refine mz_getR hx hb htl hown hK hM 37 (Nat.le_of_ble_eq_true rfl) (Nat.le_of_ble_eq_true rfl) (htl _ mw_225) (fun _ h9 => h9) dX13_reckonAll_219 ?_
                refine lv_iload_n hx hb dX13_reckonAll_222 rfl (lv_at hl 0 rfl) ?_
                refine lv_iconst (v := 1) hx hb dX13_reckonAll_223 (by decide) ?_
                refine lv_isub hx hb dX13_reckonAll_224 ?_
                refine tk_sub rfl (show (1 : Int32).toInt = 1 by decide) (by omega) (by omega) (fun v2911 h_v2911 => ?_)
                refine lv_aload_n hx hb dX13_reckonAll_225 rfl (lv_at hl 4 rfl) ?_
                refine lv_iload hx hb dX13_reckonAll_226 (lv_at hl 3 rfl) ?_
                refine lv_aload_n hx hb dX13_reckonAll_228 rfl (lv_at hl 4 rfl) ?_
                refine mz_getR hx hb htl hown hK hM 37 (Nat.le_of_ble_eq_true rfl) (Nat.le_of_ble_eq_true rfl) (htl _ mw_225) (fun _ h9 => h9) dX13_reckonAll_229 ?_
                refine lv_iload_n hx hb dX13_reckonAll_232 rfl (lv_at hl 0 rfl) ?_
                refine lv_iconst (v := 1) hx hb dX13_reckonAll_233 (by decide) ?_
                refine lv_isub hx hb dX13_reckonAll_234 ?_
                refine tk_sub rfl (show (1 : Int32).toInt = 1 by decide) (by omega) (by omega) (fun v2912 h_v2912 => ?_)
                refine mz_lald hx hb hK hM 37 (Nat.le_of_ble_eq_true rfl) rfl (nn := 400) rfl rfl (by omega) (by omega) dX13_reckonAll_235 (fun w2913 _ => ?_)
                refine lv_aload_n hx hb dX13_reckonAll_236 rfl (lv_at hl 4 rfl) ?_
                refine mz_getR hx hb htl hown hK hM 37 (Nat.le_of_ble_eq_true rfl) (Nat.le_of_ble_eq_true rfl) (htl _ mw_225) (fun _ h9 => h9) dX13_reckonAll_237 ?_
                refine lv_iload_n hx hb dX13_reckonAll_240 rfl (lv_at hl 0 rfl) ?_
                refine mz_lald hx hb hK hM 37 (Nat.le_of_ble_eq_true rfl) rfl (nn := 400) rfl rfl (by omega) (by omega) dX13_reckonAll_241 (fun w2914 _ => ?_)
                refine mz_Vl (As := [.int v2889, .long w2913, .long w2914]) (rest := [.int v2911, .ref (ad 37)]) ⟨hx, hb, hml, hown, hts⟩ hK hM hS (k_X13_reckon l D cy ld ad am hD _ _ _ _ v2889 w2913 w2914 hIF hIG hIR) ⟨callB_of 3 hts (wl_in mw_1063) rfl rfl rfl (htl _ mw_5) (htl _ mw_1060) hd_yX13_reckon ⟨(Nat.le_of_ble_eq_true rfl), (Nat.le_of_ble_eq_true rfl)⟩, htl _ mw_1061, htl _ mw_1062⟩ rfl hl.1 rfl (Nat.le_of_ble_eq_true rfl) dX13_reckonAll_242 ⟨(Nat.le_of_ble_eq_true rfl), (Nat.le_of_ble_eq_true rfl)⟩ (fun w2915 H locs F G R S hpo hM hS => ?_)
                obtain ⟨hIF, hIG, hIR, hfr9, hrr9, hgr9⟩ := hpo
                have hq_w2915 := tk_rngL w2915
                have hFF := mz_fr (K := [38]) (Fa := Fa) hfr9 hFF (by decide)
                have hRR := mz_fr (K := []) (Fa := Ra) hrr9 hRR (by decide)
                have hGG := mz_fr (K := [39]) (Fa := Ga) hgr9 hGG (by decide)
                have e_v2889 : R 24 (v574 : Int32).toNatClampNeg = _ := (congrFun (hrr9 24 (by decide)) _).trans e_v2889
                have e_v2890 : R 25 (v574 : Int32).toNatClampNeg = _ := (congrFun (hrr9 25 (by decide)) _).trans e_v2890
                have hg_0 := (hfr9 20 (by decide)).trans hg_0
                have hg_1 := (hfr9 34 (by decide)).trans hg_1
                refine mz_last (x := w2915) hx hb hK hD hM hS 37 (Nat.le_of_ble_eq_true rfl) rfl (nn := 400) rfl rfl (by omega) (by omega) dX13_reckonAll_245 (fun H locs S hM hS _ _ => ?_)
                refine lv_aload_n hx hb dX13_reckonAll_246 rfl (lv_at hl 4 rfl) ?_
                refine lv_aload_n hx hb dX13_reckonAll_247 rfl (lv_at hl 4 rfl) ?_
                refine mz_getI hx hb htl hown hK hM 38 (Nat.le_of_ble_eq_true rfl) rfl (htl _ mw_1051) (fun _ h9 => h9) dX13_reckonAll_248 (fun v2919 hf2918 => ?_)
                have hq_v2919 := tk_rng v2919
                have hr_v2919 : 0 ≤ v2919.toInt ∧ v2919.toInt ≤ 1 := hIF.at hf2918
                refine lv_if_ne (tgt := 274) hx hb dX13_reckonAll_251 (by decide) (fun c9 => ?_) (fun c9 => ?_)
                · have hc2920 : ¬ (v2919.toInt = 0) := fun h9 => c9 ((fi_eq rfl (show (0 : Int32).toInt = 0 by decide)).mpr h9)
                  refine lv_iconst (v := 1) hx hb dX13_reckonAll_274 (by decide) ?_
                  refine lv_goto (tgt := 279) hx hb dX13_reckonAll_275 (by decide) ?_
                  have hk_1 : (1 : Int32).toInt = 1 := by decide
                  have hk_1 : (1 : Int32).toInt = 1 := by decide
                  refine mz_putI (ty := .boolean) (x := 1) hx hb htl hown hK hD hM hS 38 (Nat.le_of_ble_eq_true rfl) rfl (htl _ mw_1051) (fun _ h9 => h9) rfl (tyX13_ok 38 (by decide)) rfl rfl dX13_reckonAll_279 (fun H locs F hM hS hf9 hj9 => ?_)
                  have hIF := hIF.put hf9 hj9 (show 0 ≤ (1 : Int32).toInt by omega) (show (1 : Int32).toInt ≤ 1 by omega) (by decide)
                  have hFF := mz_frp (K := [38]) (Fa := Fa) hj9 hFF (by decide)
                  have hg_0 := (hj9 20 (by decide)).trans hg_0
                  have hg_1 := (hj9 34 (by decide)).trans hg_1
                  have hf2922 := hf9
                  refine lv_goto (tgt := 347) hx hb dX13_reckonAll_282 (by decide) ?_
                  refine lv_goto (tgt := 10) hx hb dX13_reckonAll_347 (by decide) ?_
                  have hk_1 : (1 : Int32).toInt = 1 := by decide
                  exact ih_l2674 v2891 v2909 1 _ _ _ _ _ _ (by omega) (by omega) (by omega) (by omega) (by omega) (by omega) hM hS hIF hIG hIR hFF hGG hRR hg_0 hg_1 hf2922 (by have h9 := dl.s zo v574.toInt.toNat; rw [hop, if_neg (by omega), if_neg (by omega)] at h9; rw [show v2891.toInt.toNat = v574.toInt.toNat + 1 by omega]; omega) (by omega) _ (lv_sub hl [1, 0, 4, 5] rfl)
                · have hc2920 : v2919.toInt = 0 := (fi_eq rfl (show (0 : Int32).toInt = 0 by decide)).mp c9
                  refine lv_aload_n hx hb dX13_reckonAll_254 rfl (lv_at hl 4 rfl) ?_
                  refine mz_getR hx hb htl hown hK hM 37 (Nat.le_of_ble_eq_true rfl) (Nat.le_of_ble_eq_true rfl) (htl _ mw_225) (fun _ h9 => h9) dX13_reckonAll_255 ?_
                  refine lv_iload_n hx hb dX13_reckonAll_258 rfl (lv_at hl 0 rfl) ?_
                  refine lv_iconst (v := 1) hx hb dX13_reckonAll_259 (by decide) ?_
                  refine lv_isub hx hb dX13_reckonAll_260 ?_
                  refine tk_sub rfl (show (1 : Int32).toInt = 1 by decide) (by omega) (by omega) (fun v2923 h_v2923 => ?_)
                  refine mz_lald hx hb hK hM 37 (Nat.le_of_ble_eq_true rfl) rfl (nn := 400) rfl rfl (by omega) (by omega) dX13_reckonAll_261 (fun w2924 _ => ?_)
                  refine lv_ldc2 hx hb hown (htl _ mw_1058) dX13_reckonAll_262 ?_
                  refine lv_ldc2 hx hb hown (htl _ mw_1059) dX13_reckonAll_265 ?_
                  have hk_m1000000000 : ((-1000000000) : Int64).toInt = (-1000000000) := by decide
                  have hk_1000000000 : (1000000000 : Int64).toInt = 1000000000 := by decide
                  refine mz_Sj (As := [.long w2924, .long (-1000000000), .long 1000000000]) (rest := [.ref am]) ⟨hx, hb, hml, hown, hts⟩ hK hM hS (k_X13_in l D cy ld ad am hD _ _ _ _ w2924 (-1000000000) 1000000000) ⟨callB_of 3 hts (wl_in mw_292) rfl rfl rfl (htl _ mw_5) (htl _ mw_290) hd_yX13_in ⟨(Nat.le_of_ble_eq_true rfl), (Nat.le_of_ble_eq_true rfl)⟩, htl _ mw_291⟩ rfl hl.1 rfl (Nat.le_of_ble_eq_true rfl) dX13_reckonAll_268 ⟨(Nat.le_of_ble_eq_true rfl), (Nat.le_of_ble_eq_true rfl)⟩ (fun v2925 H locs hpo hM hS => ?_)
                  obtain ⟨hpo2926, hpo2927, hpo2928, hpo2929, hpo2930, hpo2931⟩ := hpo
                  have hq_v2925 := tk_rng v2925
                  refine lv_if_ne (tgt := 278) hx hb dX13_reckonAll_271 (by decide) (fun c9 => ?_) (fun c9 => ?_)
                  · have hc2933 : ¬ (v2925.toInt = 0) := fun h9 => c9 ((fi_eq rfl (show (0 : Int32).toInt = 0 by decide)).mpr h9)
                    have hwk_2934 : (-1000000000) ≤ w2924.toInt ∧ w2924.toInt ≤ 1000000000 := by omega
                    refine lv_iconst (v := 0) hx hb dX13_reckonAll_278 (by decide) ?_
                    have hk_0 : (0 : Int32).toInt = 0 := by decide
                    have hk_0 : (0 : Int32).toInt = 0 := by decide
                    refine mz_putI (ty := .boolean) (x := 0) hx hb htl hown hK hD hM hS 38 (Nat.le_of_ble_eq_true rfl) rfl (htl _ mw_1051) (fun _ h9 => h9) rfl (tyX13_ok 38 (by decide)) rfl rfl dX13_reckonAll_279 (fun H locs F hM hS hf9 hj9 => ?_)
                    have hIF := hIF.put hf9 hj9 (show 0 ≤ (0 : Int32).toInt by omega) (show (0 : Int32).toInt ≤ 1 by omega) (by decide)
                    have hFF := mz_frp (K := [38]) (Fa := Fa) hj9 hFF (by decide)
                    have hg_0 := (hj9 20 (by decide)).trans hg_0
                    have hg_1 := (hj9 34 (by decide)).trans hg_1
                    have hf2936 := hf9
                    refine lv_goto (tgt := 347) hx hb dX13_reckonAll_282 (by decide) ?_
                    refine lv_goto (tgt := 10) hx hb dX13_reckonAll_347 (by decide) ?_
                    have hk_0 : (0 : Int32).toInt = 0 := by decide
                    exact ih_l2674 v2891 v2909 0 _ _ _ _ _ _ (by omega) (by omega) (by omega) (by omega) (by omega) (by omega) hM hS hIF hIG hIR hFF hGG hRR hg_0 hg_1 hf2936 (by have h9 := dl.s zo v574.toInt.toNat; rw [hop, if_neg (by omega), if_neg (by omega)] at h9; rw [show v2891.toInt.toNat = v574.toInt.toNat + 1 by omega]; omega) (by omega) _ (lv_sub hl [1, 0, 4, 5] rfl)
                  · have hc2933 : v2925.toInt = 0 := (fi_eq rfl (show (0 : Int32).toInt = 0 by decide)).mp c9
                    refine lv_iconst (v := 1) hx hb dX13_reckonAll_274 (by decide) ?_
                    refine lv_goto (tgt := 279) hx hb dX13_reckonAll_275 (by decide) ?_
                    have hk_1 : (1 : Int32).toInt = 1 := by decide
                    have hk_1 : (1 : Int32).toInt = 1 := by decide
                    refine mz_putI (ty := .boolean) (x := 1) hx hb htl hown hK hD hM hS 38 (Nat.le_of_ble_eq_true rfl) rfl (htl _ mw_1051) (fun _ h9 => h9) rfl (tyX13_ok 38 (by decide)) rfl rfl dX13_reckonAll_279 (fun H locs F hM hS hf9 hj9 => ?_)
                    have hIF := hIF.put hf9 hj9 (show 0 ≤ (1 : Int32).toInt by omega) (show (1 : Int32).toInt ≤ 1 by omega) (by decide)
                    have hFF := mz_frp (K := [38]) (Fa := Fa) hj9 hFF (by decide)
                    have hg_0 := (hj9 20 (by decide)).trans hg_0
                    have hg_1 := (hj9 34 (by decide)).trans hg_1
                    have hf2938 := hf9
                    refine lv_goto (tgt := 347) hx hb dX13_reckonAll_282 (by decide) ?_
                    refine lv_goto (tgt := 10) hx hb dX13_reckonAll_347 (by decide) ?_
                    have hk_1 : (1 : Int32).toInt = 1 := by decide
                    exact ih_l2674 v2891 v2909 1 _ _ _ _ _ _ (by omega) (by omega) (by omega) (by omega) (by omega) (by omega) hM hS hIF hIG hIR hFF hGG hRR hg_0 hg_1 hf2938 (by have h9 := dl.s zo v574.toInt.toNat; rw [hop, if_neg (by omega), if_neg (by omega)] at h9; rw [show v2891.toInt.toNat = v574.toInt.toNat + 1 by omega]; omega) (by omega) _ (lv_sub hl [1, 0, 4, 5] rfl)
            · have hc2892 : ¬ (20 ≤ v2889.toInt) := fun h9 => c9 ((fi_le (show (20 : Int32).toInt = 20 by decide) rfl).mpr h9)
              have hwk_2939 : v2889.toInt ≤ 9 := by omega
              refine lv_aload_n hx hb dX13_reckonAll_107 rfl (lv_at hl 4 rfl) ?_
              refine mz_getR hx hb htl hown hK hM 37 (Nat.le_of_ble_eq_true rfl) (Nat.le_of_ble_eq_true rfl) (htl _ mw_225) (fun _ h9 => h9) dX13_reckonAll_108 ?_
              refine lv_iload_n hx hb dX13_reckonAll_111 rfl (lv_at hl 3 rfl) ?_
              refine lv_iload hx hb dX13_reckonAll_112 (lv_at hl 2 rfl) ?_
              refine lv_if_ne (tgt := 123) hx hb dX13_reckonAll_114 (by decide) (fun c9 => ?_) (fun c9 => ?_)
              · have hc2940 : ¬ (v2889.toInt = 0) := fun h9 => c9 ((fi_eq rfl (show (0 : Int32).toInt = 0 by decide)).mpr h9)
                refine lv_aload_n hx hb dX13_reckonAll_123 rfl (lv_at hl 4 rfl) ?_
                refine mz_getI hx hb htl hown hK hM 20 (Nat.le_of_ble_eq_true rfl) rfl (htl _ mw_675) (fun _ h9 => h9) dX13_reckonAll_124 (fun v9 e9 => ?_)
                refine fx_ti (v := go) (e9.symm.trans hg_0) ?_
                refine lv_if_ne (tgt := 140) hx hb dX13_reckonAll_127 (by decide) (fun _ => ?_) (fun c9 => absurd (show go.toInt = 0 from (fi_eq rfl (show (0 : Int32).toInt = 0 by decide)).mp c9) (by omega))
                refine lv_iload hx hb dX13_reckonAll_140 (lv_at hl 2 rfl) ?_
                refine lv_bipush (v := 6) hx hb dX13_reckonAll_142 (by decide) ?_
                refine lv_icmp_ge (tgt := 157) hx hb dX13_reckonAll_144 (by decide) (fun c9 => ?_) (fun c9 => ?_)
                · have hc2941 : 6 ≤ v2889.toInt := (fi_le (show (6 : Int32).toInt = 6 by decide) rfl).mp c9
                  have hwk_2942 : 0 ≤ v2890.toInt ∧ v2890.toInt ≤ 7 := by omega
                  refine lv_iload hx hb dX13_reckonAll_157 (lv_at hl 2 rfl) ?_
                  refine lv_bipush (v := 6) hx hb dX13_reckonAll_159 (by decide) ?_
                  refine lv_icmp_eq (tgt := 178) hx hb dX13_reckonAll_161 (by decide) (fun c9 => ?_) (fun c9 => ?_)
                  · have hc2943 : v2889.toInt = 6 := (fi_eq rfl (show (6 : Int32).toInt = 6 by decide)).mp c9
                    refine lv_aload_n hx hb dX13_reckonAll_178 rfl (lv_at hl 4 rfl) ?_
                    refine lv_iload hx hb dX13_reckonAll_179 (lv_at hl 1 rfl) ?_
                    refine mz_Vj (As := [.int v2890]) (rest := [.int v575, .ref (ad 37)]) ⟨hx, hb, hml, hown, hts⟩ hK hM hS (k_X13_isSinger l D cy ld ad am hD _ _ _ _ v2890 hIF hIG hIR) ⟨callB_of 1 hts (wl_in mw_320) rfl rfl rfl (htl _ mw_5) (htl _ mw_317) hd_yX13_isSinger ⟨(Nat.le_of_ble_eq_true rfl), (Nat.le_of_ble_eq_true rfl)⟩, htl _ mw_318, htl _ mw_319⟩ rfl hl.1 rfl (Nat.le_of_ble_eq_true rfl) dX13_reckonAll_181 ⟨(Nat.le_of_ble_eq_true rfl), (Nat.le_of_ble_eq_true rfl)⟩ (fun v2944 H locs hpo hM hS => ?_)
                    obtain ⟨hpo2945, hpo2946, hpo2947, hpo2948, hpo2949⟩ := hpo
                    have hq_v2944 := tk_rng v2944
                    refine lv_if_eq (tgt := 198) hx hb dX13_reckonAll_184 (by decide) (fun c9 => ?_) (fun c9 => ?_)
                    · have hc2951 : v2944.toInt = 0 := (fi_eq rfl (show (0 : Int32).toInt = 0 by decide)).mp c9
                      refine lv_ldc2 hx hb hown (htl _ mw_691) dX13_reckonAll_198 ?_
                      have hk_m1 : ((-1) : Int64).toInt = (-1) := by decide
                      refine mz_last (x := (-1)) hx hb hK hD hM hS 37 (Nat.le_of_ble_eq_true rfl) rfl (nn := 400) rfl rfl (by omega) (by omega) dX13_reckonAll_201 (fun H locs S hM hS _ _ => ?_)
                      obtain ⟨v2953, h_v2953, e_v2953⟩ := tk_inc v575 1 (by decide) (by omega) (by omega)
                      refine lv_iinc (v := v2953) (lv' := [(3, .int v2953), (4, .int v2891), (6, .int v2890), (5, .int v2889), (0, .ref am), (2, .int p2)]) hx hb dX13_reckonAll_202 hl (k := 3) rfl e_v2953 (by decide) rfl (fun ls hl => ?_)
                      refine lv_goto (tgt := 347) hx hb dX13_reckonAll_205 (by decide) ?_
                      refine lv_goto (tgt := 10) hx hb dX13_reckonAll_347 (by decide) ?_
                      exact ih_l2674 v2891 v2953 v576 _ _ _ _ _ _ (by omega) (by omega) (by omega) (by omega) (by omega) (by omega) hM hS hIF hIG hIR hFF hGG hRR hg_0 hg_1 hf2 (by have h9 := dl.s zo v574.toInt.toNat; rw [hop, if_pos (by omega)] at h9; rw [show v2891.toInt.toNat = v574.toInt.toNat + 1 by omega]; omega) (by omega) _ (lv_sub hl [1, 0, 4, 5] rfl)
                    · have hc2951 : ¬ (v2944.toInt = 0) := fun h9 => c9 ((fi_eq rfl (show (0 : Int32).toInt = 0 by decide)).mpr h9)
                      refine lv_aload_n hx hb dX13_reckonAll_187 rfl (lv_at hl 4 rfl) ?_
                      refine lv_iload hx hb dX13_reckonAll_188 (lv_at hl 1 rfl) ?_
                      refine lv_iconst (v := 0) hx hb dX13_reckonAll_190 (by decide) ?_
                      have hk_0 : (0 : Int32).toInt = 0 := by decide
                      refine mz_Vj (As := [.int v2890, .int 0]) (rest := [.int v575, .ref (ad 37)]) ⟨hx, hb, hml, hown, hts⟩ hK hM hS (k_X13_ofSinger_0 l D cy ld ad am hD _ _ _ _ v2890 hIF hIG hIR (by omega) (by omega)) ⟨callB_of 2 hts (wl_in mw_324) rfl rfl rfl (htl _ mw_5) (htl _ mw_321) hd_yX13_ofSinger ⟨(Nat.le_of_ble_eq_true rfl), (Nat.le_of_ble_eq_true rfl)⟩, htl _ mw_322, htl _ mw_323⟩ rfl hl.1 rfl (Nat.le_of_ble_eq_true rfl) dX13_reckonAll_191 ⟨(Nat.le_of_ble_eq_true rfl), (Nat.le_of_ble_eq_true rfl)⟩ (fun v2954 H locs hpo hM hS => ?_)
                      have hq_v2954 := tk_rng v2954
                      obtain ⟨w2956, e_w2956, h_w2956⟩ : ∃ z : Int64, v2954.toInt64 = z ∧ z.toInt = v2954.toInt := ⟨_, rfl, fl_w _⟩
                      refine lv_i2l (v := w2956) hx hb dX13_reckonAll_194 e_w2956 ?_
                      refine lv_goto (tgt := 201) hx hb dX13_reckonAll_195 (by decide) ?_
                      refine mz_last (x := w2956) hx hb hK hD hM hS 37 (Nat.le_of_ble_eq_true rfl) rfl (nn := 400) rfl rfl (by omega) (by omega) dX13_reckonAll_201 (fun H locs S hM hS _ _ => ?_)
                      obtain ⟨v2958, h_v2958, e_v2958⟩ := tk_inc v575 1 (by decide) (by omega) (by omega)
                      refine lv_iinc (v := v2958) (lv' := [(3, .int v2958), (4, .int v2891), (6, .int v2890), (5, .int v2889), (0, .ref am), (2, .int p2)]) hx hb dX13_reckonAll_202 hl (k := 3) rfl e_v2958 (by decide) rfl (fun ls hl => ?_)
                      refine lv_goto (tgt := 347) hx hb dX13_reckonAll_205 (by decide) ?_
                      refine lv_goto (tgt := 10) hx hb dX13_reckonAll_347 (by decide) ?_
                      exact ih_l2674 v2891 v2958 v576 _ _ _ _ _ _ (by omega) (by omega) (by omega) (by omega) (by omega) (by omega) hM hS hIF hIG hIR hFF hGG hRR hg_0 hg_1 hf2 (by have h9 := dl.s zo v574.toInt.toNat; rw [hop, if_pos (by omega)] at h9; rw [show v2891.toInt.toNat = v574.toInt.toNat + 1 by omega]; omega) (by omega) _ (lv_sub hl [1, 0, 4, 5] rfl)
                  · have hc2943 : ¬ (v2889.toInt = 6) := fun h9 => c9 ((fi_eq rfl (show (6 : Int32).toInt = 6 by decide)).mpr h9)
                    refine lv_aload_n hx hb dX13_reckonAll_164 rfl (lv_at hl 4 rfl) ?_
                    refine mz_getR hx hb htl hown hK hM 3 (Nat.le_of_ble_eq_true rfl) (Nat.le_of_ble_eq_true rfl) (htl _ mw_188) (fun _ h9 => h9) dX13_reckonAll_165 ?_
                    refine lv_bipush (v := 10) hx hb dX13_reckonAll_168 (by decide) ?_
                    refine lv_iload hx hb dX13_reckonAll_170 (lv_at hl 1 rfl) ?_
                    refine lv_iadd hx hb dX13_reckonAll_172 ?_
                    refine tk_add (show (10 : Int32).toInt = 10 by decide) rfl (by omega) (by omega) (fun v2959 h_v2959 => ?_)
                    refine mz_iald hx hb hK hM 3 (Nat.le_of_ble_eq_true rfl) rfl (nn := 5560) rfl rfl (by omega) (by omega) dX13_reckonAll_173 (fun v2960 e_v2960 => ?_)
                    have hq_v2960 := tk_rng v2960
                    obtain ⟨w2961, e_w2961, h_w2961⟩ : ∃ z : Int64, v2960.toInt64 = z ∧ z.toInt = v2960.toInt := ⟨_, rfl, fl_w _⟩
                    refine lv_i2l (v := w2961) hx hb dX13_reckonAll_174 e_w2961 ?_
                    refine lv_goto (tgt := 201) hx hb dX13_reckonAll_175 (by decide) ?_
                    refine mz_last (x := w2961) hx hb hK hD hM hS 37 (Nat.le_of_ble_eq_true rfl) rfl (nn := 400) rfl rfl (by omega) (by omega) dX13_reckonAll_201 (fun H locs S hM hS _ _ => ?_)
                    obtain ⟨v2963, h_v2963, e_v2963⟩ := tk_inc v575 1 (by decide) (by omega) (by omega)
                    refine lv_iinc (v := v2963) (lv' := [(3, .int v2963), (4, .int v2891), (6, .int v2890), (5, .int v2889), (0, .ref am), (2, .int p2)]) hx hb dX13_reckonAll_202 hl (k := 3) rfl e_v2963 (by decide) rfl (fun ls hl => ?_)
                    refine lv_goto (tgt := 347) hx hb dX13_reckonAll_205 (by decide) ?_
                    refine lv_goto (tgt := 10) hx hb dX13_reckonAll_347 (by decide) ?_
                    exact ih_l2674 v2891 v2963 v576 _ _ _ _ _ _ (by omega) (by omega) (by omega) (by omega) (by omega) (by omega) hM hS hIF hIG hIR hFF hGG hRR hg_0 hg_1 hf2 (by have h9 := dl.s zo v574.toInt.toNat; rw [hop, if_pos (by omega)] at h9; rw [show v2891.toInt.toNat = v574.toInt.toNat + 1 by omega]; omega) (by omega) _ (lv_sub hl [1, 0, 4, 5] rfl)
                · have hc2941 : ¬ (6 ≤ v2889.toInt) := fun h9 => c9 ((fi_le (show (6 : Int32).toInt = 6 by decide) rfl).mpr h9)
                  refine lv_aload_n hx hb dX13_reckonAll_147 rfl (lv_at hl 4 rfl) ?_
                  refine mz_getR hx hb htl hown hK hM 36 (Nat.le_of_ble_eq_true rfl) (Nat.le_of_ble_eq_true rfl) (htl _ mw_224) (fun _ h9 => h9) dX13_reckonAll_148 ?_
                  refine lv_iload hx hb dX13_reckonAll_151 (lv_at hl 2 rfl) ?_
                  refine mz_lald hx hb hK hM 36 (Nat.le_of_ble_eq_true rfl) rfl (nn := 13) rfl rfl (by omega) (by omega) dX13_reckonAll_153 (fun w2964 _ => ?_)
                  refine lv_goto (tgt := 201) hx hb dX13_reckonAll_154 (by decide) ?_
                  refine mz_last (x := w2964) hx hb hK hD hM hS 37 (Nat.le_of_ble_eq_true rfl) rfl (nn := 400) rfl rfl (by omega) (by omega) dX13_reckonAll_201 (fun H locs S hM hS _ _ => ?_)
                  obtain ⟨v2966, h_v2966, e_v2966⟩ := tk_inc v575 1 (by decide) (by omega) (by omega)
                  refine lv_iinc (v := v2966) (lv' := [(3, .int v2966), (4, .int v2891), (6, .int v2890), (5, .int v2889), (0, .ref am), (2, .int p2)]) hx hb dX13_reckonAll_202 hl (k := 3) rfl e_v2966 (by decide) rfl (fun ls hl => ?_)
                  refine lv_goto (tgt := 347) hx hb dX13_reckonAll_205 (by decide) ?_
                  refine lv_goto (tgt := 10) hx hb dX13_reckonAll_347 (by decide) ?_
                  exact ih_l2674 v2891 v2966 v576 _ _ _ _ _ _ (by omega) (by omega) (by omega) (by omega) (by omega) (by omega) hM hS hIF hIG hIR hFF hGG hRR hg_0 hg_1 hf2 (by have h9 := dl.s zo v574.toInt.toNat; rw [hop, if_pos (by omega)] at h9; rw [show v2891.toInt.toNat = v574.toInt.toNat + 1 by omega]; omega) (by omega) _ (lv_sub hl [1, 0, 4, 5] rfl)
              · have hc2940 : v2889.toInt = 0 := (fi_eq rfl (show (0 : Int32).toInt = 0 by decide)).mp c9
                refine lv_iload hx hb dX13_reckonAll_117 (lv_at hl 1 rfl) ?_
                obtain ⟨w2967, e_w2967, h_w2967⟩ : ∃ z : Int64, v2890.toInt64 = z ∧ z.toInt = v2890.toInt := ⟨_, rfl, fl_w _⟩
                refine lv_i2l (v := w2967) hx hb dX13_reckonAll_119 e_w2967 ?_
                refine lv_goto (tgt := 201) hx hb dX13_reckonAll_120 (by decide) ?_
                refine mz_last (x := w2967) hx hb hK hD hM hS 37 (Nat.le_of_ble_eq_true rfl) rfl (nn := 400) rfl rfl (by omega) (by omega) dX13_reckonAll_201 (fun H locs S hM hS _ _ => ?_)
                obtain ⟨v2969, h_v2969, e_v2969⟩ := tk_inc v575 1 (by decide) (by omega) (by omega)
                refine lv_iinc (v := v2969) (lv' := [(3, .int v2969), (4, .int v2891), (6, .int v2890), (5, .int v2889), (0, .ref am), (2, .int p2)]) hx hb dX13_reckonAll_202 hl (k := 3) rfl e_v2969 (by decide) rfl (fun ls hl => ?_)
                refine lv_goto (tgt := 347) hx hb dX13_reckonAll_205 (by decide) ?_
                refine lv_goto (tgt := 10) hx hb dX13_reckonAll_347 (by decide) ?_
                exact ih_l2674 v2891 v2969 v576 _ _ _ _ _ _ (by omega) (by omega) (by omega) (by omega) (by omega) (by omega) hM hS hIF hIG hIR hFF hGG hRR hg_0 hg_1 hf2 (by have h9 := dl.s zo v574.toInt.toNat; rw [hop, if_pos (by omega)] at h9; rw [show v2891.toInt.toNat = v574.toInt.toNat + 1 by omega]; omega) (by omega) _ (lv_sub hl [1, 0, 4, 5] rfl)
  have hk_0 : (0 : Int32).toInt = 0 := by decide
  have hk_0 : (0 : Int32).toInt = 0 := by decide
  exact hl2674 401 p1 0 0 _ _ _ _ _ _ (by omega) (by omega) (by omega) (by omega) (by omega) (by omega) hM hS hIF hIG hIR hFF (fun _ _ => rfl) (fun _ _ => rfl) hg_0 hg_1 hf2 (by rw [show p1.toInt.toNat = p1.toInt.toNat from rfl]; show (0 : Int32).toInt = _; rw [show (0 : Int32).toInt = 0 by decide]; omega) (by omega) _ (lv_sub hl [0, 1, 2, 4] rfl)
