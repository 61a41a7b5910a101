theorem hd_yX13_drawSinger : yX13_drawSinger.cls ≠ "java/lang/invoke/MethodHandle" ∧ yX13_drawSinger.cls ≠ "java/lang/invoke/VarHandle" ∧ (parseMethodDescriptor yX13_drawSinger.desc).map (fun d => d.parameters.length) = some 1 := by decide +kernel
theorem dX13_decade_0 : decode cX13_decade 0 = .ok (.aload_n 0, 1) := by decide +kernel
theorem dX13_decade_1 : decode cX13_decade 1 = .ok (.iconst 0, 1) := by decide +kernel
theorem dX13_decade_2 : decode cX13_decade 2 = .ok (.putfield 170, 3) := by decide +kernel
theorem dX13_decade_5 : decode cX13_decade 5 = .ok (.iload_n 1, 1) := by decide +kernel
theorem dX13_decade_6 : decode cX13_decade 6 = .ok (.i2l, 1) := by decide +kernel
theorem dX13_decade_7 : decode cX13_decade 7 = .ok (.lconst 0, 1) := by decide +kernel
theorem dX13_decade_8 : decode cX13_decade 8 = .ok (.ldc2_w 265, 3) := by decide +kernel
theorem dX13_decade_11 : decode cX13_decade 11 = .ok (.invokestatic 190, 3) := by decide +kernel
theorem dX13_decade_14 : decode cX13_decade 14 = .ok (.ifCond .eq 15, 3) := by decide +kernel
theorem dX13_decade_29 : decode cX13_decade 29 = .ok (.aload_n 0, 1) := by decide +kernel
theorem dX13_decade_30 : decode cX13_decade 30 = .ok (.iconst (-1), 1) := by decide +kernel
theorem dX13_decade_31 : decode cX13_decade 31 = .ok (.invokevirtual 183, 3) := by decide +kernel
theorem dX13_decade_34 : decode cX13_decade 34 = .ok (.ireturn, 1) := by decide +kernel
theorem dX13_decade_17 : decode cX13_decade 17 = .ok (.iload_n 2, 1) := by decide +kernel
theorem dX13_decade_18 : decode cX13_decade 18 = .ok (.i2l, 1) := by decide +kernel
theorem dX13_decade_19 : decode cX13_decade 19 = .ok (.lconst 1, 1) := by decide +kernel
theorem dX13_decade_20 : decode cX13_decade 20 = .ok (.ldc2_w 638, 3) := by decide +kernel
theorem dX13_decade_23 : decode cX13_decade 23 = .ok (.invokestatic 190, 3) := by decide +kernel
theorem dX13_decade_26 : decode cX13_decade 26 = .ok (.ifCond .ne 9, 3) := by decide +kernel
theorem dX13_decade_35 : decode cX13_decade 35 = .ok (.aload_n 0, 1) := by decide +kernel
theorem dX13_decade_36 : decode cX13_decade 36 = .ok (.getfield 13, 3) := by decide +kernel
theorem dX13_decade_39 : decode cX13_decade 39 = .ok (.iconst 1, 1) := by decide +kernel
theorem dX13_decade_40 : decode cX13_decade 40 = .ok (.iaload, 1) := by decide +kernel
theorem dX13_decade_41 : decode cX13_decade 41 = .ok (.ifCond .eq 19, 3) := by decide +kernel
theorem dX13_decade_60 : decode cX13_decade 60 = .ok (.aload_n 0, 1) := by decide +kernel
theorem dX13_decade_61 : decode cX13_decade 61 = .ok (.bipush (-3), 2) := by decide +kernel
theorem dX13_decade_63 : decode cX13_decade 63 = .ok (.invokevirtual 183, 3) := by decide +kernel
theorem dX13_decade_66 : decode cX13_decade 66 = .ok (.ireturn, 1) := by decide +kernel
theorem dX13_decade_44 : decode cX13_decade 44 = .ok (.aload_n 0, 1) := by decide +kernel
theorem dX13_decade_45 : decode cX13_decade 45 = .ok (.iconst 0, 1) := by decide +kernel
theorem dX13_decade_46 : decode cX13_decade 46 = .ok (.invokevirtual 635, 3) := by decide +kernel
theorem dX13_decade_49 : decode cX13_decade 49 = .ok (.ifCond .eq 11, 3) := by decide +kernel
theorem dX13_decade_52 : decode cX13_decade 52 = .ok (.aload_n 0, 1) := by decide +kernel
theorem dX13_decade_53 : decode cX13_decade 53 = .ok (.iconst 1, 1) := by decide +kernel
theorem dX13_decade_54 : decode cX13_decade 54 = .ok (.invokevirtual 635, 3) := by decide +kernel
theorem dX13_decade_57 : decode cX13_decade 57 = .ok (.ifCond .ne 10, 3) := by decide +kernel
theorem dX13_decade_67 : decode cX13_decade 67 = .ok (.aload_n 0, 1) := by decide +kernel
theorem dX13_decade_68 : decode cX13_decade 68 = .ok (.bipush 16, 2) := by decide +kernel
theorem dX13_decade_70 : decode cX13_decade 70 = .ok (.invokevirtual 179, 3) := by decide +kernel
theorem dX13_decade_73 : decode cX13_decade 73 = .ok (.aload_n 0, 1) := by decide +kernel
theorem dX13_decade_74 : decode cX13_decade 74 = .ok (.iload_n 1, 1) := by decide +kernel
theorem dX13_decade_75 : decode cX13_decade 75 = .ok (.i2l, 1) := by decide +kernel
theorem dX13_decade_76 : decode cX13_decade 76 = .ok (.putfield 507, 3) := by decide +kernel
theorem dX13_decade_79 : decode cX13_decade 79 = .ok (.aload_n 0, 1) := by decide +kernel
theorem dX13_decade_80 : decode cX13_decade 80 = .ok (.aload_n 0, 1) := by decide +kernel
theorem dX13_decade_81 : decode cX13_decade 81 = .ok (.getfield 13, 3) := by decide +kernel
theorem dX13_decade_84 : decode cX13_decade 84 = .ok (.iconst 0, 1) := by decide +kernel
theorem dX13_decade_85 : decode cX13_decade 85 = .ok (.iaload, 1) := by decide +kernel
theorem dX13_decade_86 : decode cX13_decade 86 = .ok (.putfield 164, 3) := by decide +kernel
theorem dX13_decade_89 : decode cX13_decade 89 = .ok (.iconst 0, 1) := by decide +kernel
theorem dX13_decade_90 : decode cX13_decade 90 = .ok (.istore_n 3, 1) := by decide +kernel
theorem dX13_decade_91 : decode cX13_decade 91 = .ok (.iload_n 3, 1) := by decide +kernel
theorem dX13_decade_92 : decode cX13_decade 92 = .ok (.bipush 8, 2) := by decide +kernel
theorem dX13_decade_94 : decode cX13_decade 94 = .ok (.if_icmp .ge 16, 3) := by decide +kernel
theorem dX13_decade_110 : decode cX13_decade 110 = .ok (.iconst 0, 1) := by decide +kernel
theorem dX13_decade_111 : decode cX13_decade 111 = .ok (.istore_n 3, 1) := by decide +kernel
theorem dX13_decade_112 : decode cX13_decade 112 = .ok (.iconst 1, 1) := by decide +kernel
theorem dX13_decade_113 : decode cX13_decade 113 = .ok (.istore 4, 2) := by decide +kernel
theorem dX13_decade_115 : decode cX13_decade 115 = .ok (.iconst 0, 1) := by decide +kernel
theorem dX13_decade_116 : decode cX13_decade 116 = .ok (.istore 5, 2) := by decide +kernel
theorem dX13_decade_118 : decode cX13_decade 118 = .ok (.iload 5, 2) := by decide +kernel
theorem dX13_decade_120 : decode cX13_decade 120 = .ok (.iload_n 2, 1) := by decide +kernel
theorem dX13_decade_279 : decode cX13_decade 279 = .ok (.iconst 0, 1) := by decide +kernel
theorem dX13_decade_280 : decode cX13_decade 280 = .ok (.istore 5, 2) := by decide +kernel
theorem dX13_decade_282 : decode cX13_decade 282 = .ok (.iload 5, 2) := by decide +kernel
theorem dX13_decade_284 : decode cX13_decade 284 = .ok (.aload_n 0, 1) := by decide +kernel
theorem dX13_decade_285 : decode cX13_decade 285 = .ok (.getfield 164, 3) := by decide +kernel
theorem dX13_decade_288 : decode cX13_decade 288 = .ok (.if_icmp .ge 23, 3) := by decide +kernel
theorem dX13_decade_311 : decode cX13_decade 311 = .ok (.aload_n 0, 1) := by decide +kernel
theorem dX13_decade_312 : decode cX13_decade 312 = .ok (.getfield 158, 3) := by decide +kernel
theorem dX13_decade_315 : decode cX13_decade 315 = .ok (.iconst 0, 1) := by decide +kernel
theorem dX13_decade_316 : decode cX13_decade 316 = .ok (.aload_n 0, 1) := by decide +kernel
theorem dX13_decade_317 : decode cX13_decade 317 = .ok (.getfield 13, 3) := by decide +kernel
theorem dX13_decade_320 : decode cX13_decade 320 = .ok (.bipush 10, 2) := by decide +kernel
theorem dX13_decade_322 : decode cX13_decade 322 = .ok (.iaload, 1) := by decide +kernel
theorem dX13_decade_323 : decode cX13_decade 323 = .ok (.iastore, 1) := by decide +kernel
theorem dX13_decade_324 : decode cX13_decade 324 = .ok (.aload_n 0, 1) := by decide +kernel
theorem dX13_decade_325 : decode cX13_decade 325 = .ok (.getfield 158, 3) := by decide +kernel
theorem dX13_decade_328 : decode cX13_decade 328 = .ok (.iconst 1, 1) := by decide +kernel
theorem dX13_decade_329 : decode cX13_decade 329 = .ok (.aload_n 0, 1) := by decide +kernel
theorem dX13_decade_330 : decode cX13_decade 330 = .ok (.getfield 13, 3) := by decide +kernel
theorem dX13_decade_333 : decode cX13_decade 333 = .ok (.bipush 11, 2) := by decide +kernel
theorem dX13_decade_335 : decode cX13_decade 335 = .ok (.iaload, 1) := by decide +kernel
theorem dX13_decade_336 : decode cX13_decade 336 = .ok (.iastore, 1) := by decide +kernel
theorem dX13_decade_337 : decode cX13_decade 337 = .ok (.aload_n 0, 1) := by decide +kernel
theorem dX13_decade_338 : decode cX13_decade 338 = .ok (.bipush 16, 2) := by decide +kernel
theorem dX13_decade_340 : decode cX13_decade 340 = .ok (.invokevirtual 187, 3) := by decide +kernel
theorem dX13_decade_343 : decode cX13_decade 343 = .ok (.aload_n 0, 1) := by decide +kernel
theorem dX13_decade_344 : decode cX13_decade 344 = .ok (.iload_n 3, 1) := by decide +kernel
theorem dX13_decade_345 : decode cX13_decade 345 = .ok (.invokevirtual 183, 3) := by decide +kernel
theorem dX13_decade_348 : decode cX13_decade 348 = .ok (.ireturn, 1) := by decide +kernel
theorem dX13_decade_291 : decode cX13_decade 291 = .ok (.aload_n 0, 1) := by decide +kernel
theorem dX13_decade_292 : decode cX13_decade 292 = .ok (.getfield 155, 3) := by decide +kernel
theorem dX13_decade_295 : decode cX13_decade 295 = .ok (.iload 5, 2) := by decide +kernel
theorem dX13_decade_297 : decode cX13_decade 297 = .ok (.aload_n 0, 1) := by decide +kernel
theorem dX13_decade_298 : decode cX13_decade 298 = .ok (.iload 5, 2) := by decide +kernel
theorem dX13_decade_300 : decode cX13_decade 300 = .ok (.iconst 0, 1) := by decide +kernel
theorem dX13_decade_301 : decode cX13_decade 301 = .ok (.invokevirtual 207, 3) := by decide +kernel
theorem dX13_decade_304 : decode cX13_decade 304 = .ok (.iastore, 1) := by decide +kernel
theorem dX13_decade_305 : decode cX13_decade 305 = .ok (.iinc 5 1, 3) := by decide +kernel
theorem dX13_decade_308 : decode cX13_decade 308 = .ok (.goto (-26), 3) := by decide +kernel
theorem dX13_decade_121 : decode cX13_decade 121 = .ok (.if_icmp .ge 158, 3) := by decide +kernel
theorem dX13_decade_124 : decode cX13_decade 124 = .ok (.iload 4, 2) := by decide +kernel
theorem dX13_decade_126 : decode cX13_decade 126 = .ok (.ifCond .eq 153, 3) := by decide +kernel
theorem dX13_decade_129 : decode cX13_decade 129 = .ok (.aload_n 0, 1) := by decide +kernel
theorem dX13_decade_130 : decode cX13_decade 130 = .ok (.iconst 0, 1) := by decide +kernel
theorem dX13_decade_131 : decode cX13_decade 131 = .ok (.invokevirtual 640, 3) := by decide +kernel
theorem dX13_decade_134 : decode cX13_decade 134 = .ok (.istore 6, 2) := by decide +kernel
theorem dX13_decade_136 : decode cX13_decade 136 = .ok (.aload_n 0, 1) := by decide +kernel
theorem dX13_decade_137 : decode cX13_decade 137 = .ok (.iconst 1, 1) := by decide +kernel
theorem dX13_decade_138 : decode cX13_decade 138 = .ok (.invokevirtual 640, 3) := by decide +kernel
theorem dX13_decade_141 : decode cX13_decade 141 = .ok (.istore 7, 2) := by decide +kernel
theorem dX13_decade_143 : decode cX13_decade 143 = .ok (.aload_n 0, 1) := by decide +kernel
theorem dX13_decade_144 : decode cX13_decade 144 = .ok (.bipush 20, 2) := by decide +kernel
theorem dX13_decade_146 : decode cX13_decade 146 = .ok (.invokevirtual 516, 3) := by decide +kernel
theorem dX13_decade_149 : decode cX13_decade 149 = .ok (.iconst 1, 1) := by decide +kernel
theorem dX13_decade_150 : decode cX13_decade 150 = .ok (.iadd, 1) := by decide +kernel
theorem dX13_decade_151 : decode cX13_decade 151 = .ok (.istore 8, 2) := by decide +kernel
theorem dX13_decade_153 : decode cX13_decade 153 = .ok (.aload_n 0, 1) := by decide +kernel
theorem dX13_decade_154 : decode cX13_decade 154 = .ok (.iload 6, 2) := by decide +kernel
theorem dX13_decade_156 : decode cX13_decade 156 = .ok (.iconst 0, 1) := by decide +kernel
theorem dX13_decade_157 : decode cX13_decade 157 = .ok (.invokevirtual 207, 3) := by decide +kernel
theorem dX13_decade_160 : decode cX13_decade 160 = .ok (.ifCond .le 85, 3) := by decide +kernel
theorem dX13_decade_245 : decode cX13_decade 245 = .ok (.aload_n 0, 1) := by decide +kernel
theorem dX13_decade_246 : decode cX13_decade 246 = .ok (.iconst 0, 1) := by decide +kernel
theorem dX13_decade_247 : decode cX13_decade 247 = .ok (.invokevirtual 412, 3) := by decide +kernel
theorem dX13_decade_250 : decode cX13_decade 250 = .ok (.sipush 999, 3) := by decide +kernel
theorem dX13_decade_261 : decode cX13_decade 261 = .ok (.istore 4, 2) := by decide +kernel
theorem dX13_decade_263 : decode cX13_decade 263 = .ok (.iload 4, 2) := by decide +kernel
theorem dX13_decade_265 : decode cX13_decade 265 = .ok (.ifCond .eq 8, 3) := by decide +kernel
theorem dX13_decade_273 : decode cX13_decade 273 = .ok (.iinc 5 1, 3) := by decide +kernel
theorem dX13_decade_276 : decode cX13_decade 276 = .ok (.goto (-158), 3) := by decide +kernel
theorem dX13_decade_268 : decode cX13_decade 268 = .ok (.aload_n 0, 1) := by decide +kernel
theorem dX13_decade_269 : decode cX13_decade 269 = .ok (.invokevirtual 486, 3) := by decide +kernel
theorem dX13_decade_272 : decode cX13_decade 272 = .ok (.pop, 1) := by decide +kernel
theorem dX13_decade_253 : decode cX13_decade 253 = .ok (.if_icmp .ge 7, 3) := by decide +kernel
theorem dX13_decade_260 : decode cX13_decade 260 = .ok (.iconst 0, 1) := by decide +kernel
theorem dX13_decade_256 : decode cX13_decade 256 = .ok (.iconst 1, 1) := by decide +kernel
theorem dX13_decade_257 : decode cX13_decade 257 = .ok (.goto 4, 3) := by decide +kernel
theorem dX13_decade_163 : decode cX13_decade 163 = .ok (.aload_n 0, 1) := by decide +kernel
theorem dX13_decade_164 : decode cX13_decade 164 = .ok (.iload 7, 2) := by decide +kernel
theorem dX13_decade_166 : decode cX13_decade 166 = .ok (.iconst 0, 1) := by decide +kernel
theorem dX13_decade_167 : decode cX13_decade 167 = .ok (.invokevirtual 207, 3) := by decide +kernel
theorem dX13_decade_170 : decode cX13_decade 170 = .ok (.ifCond .le 75, 3) := by decide +kernel
theorem dX13_decade_173 : decode cX13_decade 173 = .ok (.aload_n 0, 1) := by decide +kernel
theorem dX13_decade_174 : decode cX13_decade 174 = .ok (.iload 6, 2) := by decide +kernel
theorem dX13_decade_176 : decode cX13_decade 176 = .ok (.iload 7, 2) := by decide +kernel
theorem dX13_decade_178 : decode cX13_decade 178 = .ok (.iload 8, 2) := by decide +kernel
theorem dX13_decade_180 : decode cX13_decade 180 = .ok (.bipush (-2), 2) := by decide +kernel
theorem dX13_decade_182 : decode cX13_decade 182 = .ok (.bipush (-2), 2) := by decide +kernel
theorem dX13_decade_184 : decode cX13_decade 184 = .ok (.invokevirtual 525, 3) := by decide +kernel
theorem dX13_decade_187 : decode cX13_decade 187 = .ok (.istore 9, 2) := by decide +kernel
theorem dX13_decade_189 : decode cX13_decade 189 = .ok (.iload_n 3, 1) := by decide +kernel
theorem dX13_decade_190 : decode cX13_decade 190 = .ok (.iload 9, 2) := by decide +kernel
theorem dX13_decade_192 : decode cX13_decade 192 = .ok (.iconst 1, 1) := by decide +kernel
theorem dX13_decade_201 : decode cX13_decade 201 = .ok (.iadd, 1) := by decide +kernel
theorem dX13_decade_202 : decode cX13_decade 202 = .ok (.istore_n 3, 1) := by decide +kernel
theorem dX13_decade_203 : decode cX13_decade 203 = .ok (.aload_n 0, 1) := by decide +kernel
theorem dX13_decade_204 : decode cX13_decade 204 = .ok (.getfield 161, 3) := by decide +kernel
theorem dX13_decade_207 : decode cX13_decade 207 = .ok (.iload 7, 2) := by decide +kernel
theorem dX13_decade_209 : decode cX13_decade 209 = .ok (.dup2, 1) := by decide +kernel
theorem dX13_decade_210 : decode cX13_decade 210 = .ok (.iaload, 1) := by decide +kernel
theorem dX13_decade_211 : decode cX13_decade 211 = .ok (.iload 9, 2) := by decide +kernel
theorem dX13_decade_213 : decode cX13_decade 213 = .ok (.iconst 1, 1) := by decide +kernel
theorem dX13_decade_222 : decode cX13_decade 222 = .ok (.iadd, 1) := by decide +kernel
theorem dX13_decade_223 : decode cX13_decade 223 = .ok (.iastore, 1) := by decide +kernel
theorem dX13_decade_224 : decode cX13_decade 224 = .ok (.aload_n 0, 1) := by decide +kernel
theorem dX13_decade_225 : decode cX13_decade 225 = .ok (.getfield 161, 3) := by decide +kernel
theorem dX13_decade_228 : decode cX13_decade 228 = .ok (.iload 6, 2) := by decide +kernel
theorem dX13_decade_230 : decode cX13_decade 230 = .ok (.dup2, 1) := by decide +kernel
theorem dX13_decade_231 : decode cX13_decade 231 = .ok (.iaload, 1) := by decide +kernel
theorem dX13_decade_232 : decode cX13_decade 232 = .ok (.iload 9, 2) := by decide +kernel
theorem dX13_decade_234 : decode cX13_decade 234 = .ok (.iconst (-1), 1) := by decide +kernel
theorem dX13_decade_243 : decode cX13_decade 243 = .ok (.iadd, 1) := by decide +kernel
theorem dX13_decade_244 : decode cX13_decade 244 = .ok (.iastore, 1) := by decide +kernel
theorem dX13_decade_235 : decode cX13_decade 235 = .ok (.if_icmp .ne 7, 3) := by decide +kernel
theorem dX13_decade_242 : decode cX13_decade 242 = .ok (.iconst 0, 1) := by decide +kernel
theorem dX13_decade_238 : decode cX13_decade 238 = .ok (.iconst 1, 1) := by decide +kernel
theorem dX13_decade_239 : decode cX13_decade 239 = .ok (.goto 4, 3) := by decide +kernel
theorem dX13_decade_214 : decode cX13_decade 214 = .ok (.if_icmp .ne 7, 3) := by decide +kernel
theorem dX13_decade_221 : decode cX13_decade 221 = .ok (.iconst 0, 1) := by decide +kernel
theorem dX13_decade_217 : decode cX13_decade 217 = .ok (.iconst 1, 1) := by decide +kernel
theorem dX13_decade_218 : decode cX13_decade 218 = .ok (.goto 4, 3) := by decide +kernel
theorem dX13_decade_193 : decode cX13_decade 193 = .ok (.if_icmp .ne 7, 3) := by decide +kernel
theorem dX13_decade_200 : decode cX13_decade 200 = .ok (.iconst 0, 1) := by decide +kernel
theorem dX13_decade_196 : decode cX13_decade 196 = .ok (.iconst 1, 1) := by decide +kernel
theorem dX13_decade_197 : decode cX13_decade 197 = .ok (.goto 4, 3) := by decide +kernel
theorem dX13_decade_97 : decode cX13_decade 97 = .ok (.aload_n 0, 1) := by decide +kernel
theorem dX13_decade_98 : decode cX13_decade 98 = .ok (.getfield 161, 3) := by decide +kernel
theorem dX13_decade_101 : decode cX13_decade 101 = .ok (.iload_n 3, 1) := by decide +kernel
theorem dX13_decade_102 : decode cX13_decade 102 = .ok (.iconst 0, 1) := by decide +kernel
theorem dX13_decade_103 : decode cX13_decade 103 = .ok (.iastore, 1) := by decide +kernel
theorem dX13_decade_104 : decode cX13_decade 104 = .ok (.iinc 3 1, 3) := by decide +kernel
theorem dX13_decade_107 : decode cX13_decade 107 = .ok (.goto (-16), 3) := by decide +kernel
set_option maxHeartbeats 4000000 in
set_option maxRecDepth 100000 in
theorem k_X13_decade (l : Launch) (D : va_G) (cy : Nat → ClassId) (ld ad : Nat → Nat) (am : Nat) (hD : mz_D ad am) (Fa : Nat → Int32) (Ga : Nat → Int64) (Ra : Nat → Nat → Int32) (Sa : Nat → Nat → Int64) (p1 : Int32) (p2 : Int32) (g0 : Int32) (hIF : mz_IF true Fa) (hIG : mz_IG Ga) (hIR : mz_IR [] true Ra) (hg_0 : Ra 3 0 = g0) : Met l yX13_decade (wl yX13_decade cX13_decade 10 (some .int)) ({ frames := 12, cells := 0, slots := 0, locals := 770 }) (mz_p D cy ld ad am Fa Ga Ra Sa [.ref am, .int p1, .int p2]) (mz_i D cy ad am (fun r F G R S => mz_IF true F ∧ mz_IG G ∧ mz_IR [] true R ∧ (∀ k : Nat, k ∉ ([0, 1, 34, 38, 41, 69] : List Nat) → F k = Fa k) ∧ (∀ k : Nat, k ∉ ([2, 3, 6, 42, 66, 67, 68] : List Nat) → R k = Ra k) ∧ (∀ k : Nat, k ∉ ([39, 40, 47] : List Nat) → G k = Ga k) ∧ rK1 (Ra 3) (R 3) ∧ (-3) ≤ r.toInt ∧ r.toInt ≤ 60)) 0 0 (mz_W ad am) := by sorry
