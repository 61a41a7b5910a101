theorem hd_yX13_drawSinger : yX13_drawSinger.cls ≠ "java/lang/invoke/MethodHandle" ∧ yX13_drawSinger.cls ≠ "java/lang/invoke/VarHandle" ∧ (parseMethodDescriptor yX13_drawSinger.desc).map (fun d => d.parameters.length) = some 1 := by decide +kernel
theorem dX13_decade_0 : decode cX13_decade 0 = .ok (.aload_n 0, 1) := by decide +kernel
theorem dX13_decade_1 : decode cX13_decade 1 = .ok (.iconst 0, 1) := by decide +kernel
theorem dX13_decade_2 : decode cX13_decade 2 = .ok (.putfield 170, 3) := by decide +kernel
theorem dX13_decade_5 : decode cX13_decade 5 = .ok (.iload_n 1, 1) := by decide +kernel
theorem dX13_decade_6 : decode cX13_decade 6 = .ok (.i2l, 1) := by decide +kernel
theorem dX13_decade_7 : decode cX13_decade 7 = .ok (.lconst 0, 1) := by decide +kernel
theorem dX13_decade_8 : decode cX13_decade 8 = .ok (.ldc2_w 265, 3) := by decide +kernel
theorem dX13_decade_11 : decode cX13_decade 11 = .ok (.invokestatic 190, 3) := by decide +kernel
theorem dX13_decade_14 : decode cX13_decade 14 = .ok (.ifCond .eq 15, 3) := by decide +kernel
theorem dX13_decade_29 : decode cX13_decade 29 = .ok (.aload_n 0, 1) := by decide +kernel
theorem dX13_decade_30 : decode cX13_decade 30 = .ok (.iconst (-1), 1) := by decide +kernel
theorem dX13_decade_31 : decode cX13_decade 31 = .ok (.invokevirtual 183, 3) := by decide +kernel
theorem dX13_decade_34 : decode cX13_decade 34 = .ok (.ireturn, 1) := by decide +kernel
theorem dX13_decade_17 : decode cX13_decade 17 = .ok (.iload_n 2, 1) := by decide +kernel
theorem dX13_decade_18 : decode cX13_decade 18 = .ok (.i2l, 1) := by decide +kernel
theorem dX13_decade_19 : decode cX13_decade 19 = .ok (.lconst 1, 1) := by decide +kernel
theorem dX13_decade_20 : decode cX13_decade 20 = .ok (.ldc2_w 638, 3) := by decide +kernel
theorem dX13_decade_23 : decode cX13_decade 23 = .ok (.invokestatic 190, 3) := by decide +kernel
theorem dX13_decade_26 : decode cX13_decade 26 = .ok (.ifCond .ne 9, 3) := by decide +kernel
theorem dX13_decade_35 : decode cX13_decade 35 = .ok (.aload_n 0, 1) := by decide +kernel
theorem dX13_decade_36 : decode cX13_decade 36 = .ok (.getfield 13, 3) := by decide +kernel
theorem dX13_decade_39 : decode cX13_decade 39 = .ok (.iconst 1, 1) := by decide +kernel
theorem dX13_decade_40 : decode cX13_decade 40 = .ok (.iaload, 1) := by decide +kernel
theorem dX13_decade_41 : decode cX13_decade 41 = .ok (.ifCond .eq 19, 3) := by decide +kernel
theorem dX13_decade_60 : decode cX13_decade 60 = .ok (.aload_n 0, 1) := by decide +kernel
theorem dX13_decade_61 : decode cX13_decade 61 = .ok (.bipush (-3), 2) := by decide +kernel
theorem dX13_decade_63 : decode cX13_decade 63 = .ok (.invokevirtual 183, 3) := by decide +kernel
theorem dX13_decade_66 : decode cX13_decade 66 = .ok (.ireturn, 1) := by decide +kernel
theorem dX13_decade_44 : decode cX13_decade 44 = .ok (.aload_n 0, 1) := by decide +kernel
theorem dX13_decade_45 : decode cX13_decade 45 = .ok (.iconst 0, 1) := by decide +kernel
theorem dX13_decade_46 : decode cX13_decade 46 = .ok (.invokevirtual 635, 3) := by decide +kernel
theorem dX13_decade_49 : decode cX13_decade 49 = .ok (.ifCond .eq 11, 3) := by decide +kernel
theorem dX13_decade_52 : decode cX13_decade 52 = .ok (.aload_n 0, 1) := by decide +kernel
theorem dX13_decade_53 : decode cX13_decade 53 = .ok (.iconst 1, 1) := by decide +kernel
theorem dX13_decade_54 : decode cX13_decade 54 = .ok (.invokevirtual 635, 3) := by decide +kernel
theorem dX13_decade_57 : decode cX13_decade 57 = .ok (.ifCond .ne 10, 3) := by decide +kernel
theorem dX13_decade_67 : decode cX13_decade 67 = .ok (.aload_n 0, 1) := by decide +kernel
theorem dX13_decade_68 : decode cX13_decade 68 = .ok (.bipush 16, 2) := by decide +kernel
theorem dX13_decade_70 : decode cX13_decade 70 = .ok (.invokevirtual 179, 3) := by decide +kernel
theorem dX13_decade_73 : decode cX13_decade 73 = .ok (.aload_n 0, 1) := by decide +kernel
theorem dX13_decade_74 : decode cX13_decade 74 = .ok (.iload_n 1, 1) := by decide +kernel
theorem dX13_decade_75 : decode cX13_decade 75 = .ok (.i2l, 1) := by decide +kernel
theorem dX13_decade_76 : decode cX13_decade 76 = .ok (.putfield 507, 3) := by decide +kernel
theorem dX13_decade_79 : decode cX13_decade 79 = .ok (.aload_n 0, 1) := by decide +kernel
theorem dX13_decade_80 : decode cX13_decade 80 = .ok (.aload_n 0, 1) := by decide +kernel
theorem dX13_decade_81 : decode cX13_decade 81 = .ok (.getfield 13, 3) := by decide +kernel
theorem dX13_decade_84 : decode cX13_decade 84 = .ok (.iconst 0, 1) := by decide +kernel
theorem dX13_decade_85 : decode cX13_decade 85 = .ok (.iaload, 1) := by decide +kernel
theorem dX13_decade_86 : decode cX13_decade 86 = .ok (.putfield 164, 3) := by decide +kernel
theorem dX13_decade_89 : decode cX13_decade 89 = .ok (.iconst 0, 1) := by decide +kernel
theorem dX13_decade_90 : decode cX13_decade 90 = .ok (.istore_n 3, 1) := by decide +kernel
theorem dX13_decade_91 : decode cX13_decade 91 = .ok (.iload_n 3, 1) := by decide +kernel
theorem dX13_decade_92 : decode cX13_decade 92 = .ok (.bipush 8, 2) := by decide +kernel
theorem dX13_decade_94 : decode cX13_decade 94 = .ok (.if_icmp .ge 16, 3) := by decide +kernel
theorem dX13_decade_110 : decode cX13_decade 110 = .ok (.iconst 0, 1) := by decide +kernel
theorem dX13_decade_111 : decode cX13_decade 111 = .ok (.istore_n 3, 1) := by decide +kernel
theorem dX13_decade_112 : decode cX13_decade 112 = .ok (.iconst 1, 1) := by decide +kernel
theorem dX13_decade_113 : decode cX13_decade 113 = .ok (.istore 4, 2) := by decide +kernel
theorem dX13_decade_115 : decode cX13_decade 115 = .ok (.iconst 0, 1) := by decide +kernel
theorem dX13_decade_116 : decode cX13_decade 116 = .ok (.istore 5, 2) := by decide +kernel
theorem dX13_decade_118 : decode cX13_decade 118 = .ok (.iload 5, 2) := by decide +kernel
theorem dX13_decade_120 : decode cX13_decade 120 = .ok (.iload_n 2, 1) := by decide +kernel
theorem dX13_decade_279 : decode cX13_decade 279 = .ok (.iconst 0, 1) := by decide +kernel
theorem dX13_decade_280 : decode cX13_decade 280 = .ok (.istore 5, 2) := by decide +kernel
theorem dX13_decade_282 : decode cX13_decade 282 = .ok (.iload 5, 2) := by decide +kernel
theorem dX13_decade_284 : decode cX13_decade 284 = .ok (.aload_n 0, 1) := by decide +kernel
theorem dX13_decade_285 : decode cX13_decade 285 = .ok (.getfield 164, 3) := by decide +kernel
theorem dX13_decade_288 : decode cX13_decade 288 = .ok (.if_icmp .ge 23, 3) := by decide +kernel
theorem dX13_decade_311 : decode cX13_decade 311 = .ok (.aload_n 0, 1) := by decide +kernel
theorem dX13_decade_312 : decode cX13_decade 312 = .ok (.getfield 158, 3) := by decide +kernel
theorem dX13_decade_315 : decode cX13_decade 315 = .ok (.iconst 0, 1) := by decide +kernel
theorem dX13_decade_316 : decode cX13_decade 316 = .ok (.aload_n 0, 1) := by decide +kernel
theorem dX13_decade_317 : decode cX13_decade 317 = .ok (.getfield 13, 3) := by decide +kernel
theorem dX13_decade_320 : decode cX13_decade 320 = .ok (.bipush 10, 2) := by decide +kernel
theorem dX13_decade_322 : decode cX13_decade 322 = .ok (.iaload, 1) := by decide +kernel
theorem dX13_decade_323 : decode cX13_decade 323 = .ok (.iastore, 1) := by decide +kernel
theorem dX13_decade_324 : decode cX13_decade 324 = .ok (.aload_n 0, 1) := by decide +kernel
theorem dX13_decade_325 : decode cX13_decade 325 = .ok (.getfield 158, 3) := by decide +kernel
theorem dX13_decade_328 : decode cX13_decade 328 = .ok (.iconst 1, 1) := by decide +kernel
theorem dX13_decade_329 : decode cX13_decade 329 = .ok (.aload_n 0, 1) := by decide +kernel
theorem dX13_decade_330 : decode cX13_decade 330 = .ok (.getfield 13, 3) := by decide +kernel
theorem dX13_decade_333 : decode cX13_decade 333 = .ok (.bipush 11, 2) := by decide +kernel
theorem dX13_decade_335 : decode cX13_decade 335 = .ok (.iaload, 1) := by decide +kernel
theorem dX13_decade_336 : decode cX13_decade 336 = .ok (.iastore, 1) := by decide +kernel
theorem dX13_decade_337 : decode cX13_decade 337 = .ok (.aload_n 0, 1) := by decide +kernel
theorem dX13_decade_338 : decode cX13_decade 338 = .ok (.bipush 16, 2) := by decide +kernel
theorem dX13_decade_340 : decode cX13_decade 340 = .ok (.invokevirtual 187, 3) := by decide +kernel
theorem dX13_decade_343 : decode cX13_decade 343 = .ok (.aload_n 0, 1) := by decide +kernel
theorem dX13_decade_344 : decode cX13_decade 344 = .ok (.iload_n 3, 1) := by decide +kernel
theorem dX13_decade_345 : decode cX13_decade 345 = .ok (.invokevirtual 183, 3) := by decide +kernel
theorem dX13_decade_348 : decode cX13_decade 348 = .ok (.ireturn, 1) := by decide +kernel
theorem dX13_decade_291 : decode cX13_decade 291 = .ok (.aload_n 0, 1) := by decide +kernel
theorem dX13_decade_292 : decode cX13_decade 292 = .ok (.getfield 155, 3) := by decide +kernel
theorem dX13_decade_295 : decode cX13_decade 295 = .ok (.iload 5, 2) := by decide +kernel
theorem dX13_decade_297 : decode cX13_decade 297 = .ok (.aload_n 0, 1) := by decide +kernel
theorem dX13_decade_298 : decode cX13_decade 298 = .ok (.iload 5, 2) := by decide +kernel
theorem dX13_decade_300 : decode cX13_decade 300 = .ok (.iconst 0, 1) := by decide +kernel
theorem dX13_decade_301 : decode cX13_decade 301 = .ok (.invokevirtual 207, 3) := by decide +kernel
theorem dX13_decade_304 : decode cX13_decade 304 = .ok (.iastore, 1) := by decide +kernel
theorem dX13_decade_305 : decode cX13_decade 305 = .ok (.iinc 5 1, 3) := by decide +kernel
theorem dX13_decade_308 : decode cX13_decade 308 = .ok (.goto (-26), 3) := by decide +kernel
theorem dX13_decade_121 : decode cX13_decade 121 = .ok (.if_icmp .ge 158, 3) := by decide +kernel
theorem dX13_decade_124 : decode cX13_decade 124 = .ok (.iload 4, 2) := by decide +kernel
theorem dX13_decade_126 : decode cX13_decade 126 = .ok (.ifCond .eq 153, 3) := by decide +kernel
theorem dX13_decade_129 : decode cX13_decade 129 = .ok (.aload_n 0, 1) := by decide +kernel
theorem dX13_decade_130 : decode cX13_decade 130 = .ok (.iconst 0, 1) := by decide +kernel
theorem dX13_decade_131 : decode cX13_decade 131 = .ok (.invokevirtual 640, 3) := by decide +kernel
theorem dX13_decade_134 : decode cX13_decade 134 = .ok (.istore 6, 2) := by decide +kernel
theorem dX13_decade_136 : decode cX13_decade 136 = .ok (.aload_n 0, 1) := by decide +kernel
theorem dX13_decade_137 : decode cX13_decade 137 = .ok (.iconst 1, 1) := by decide +kernel
theorem dX13_decade_138 : decode cX13_decade 138 = .ok (.invokevirtual 640, 3) := by decide +kernel
theorem dX13_decade_141 : decode cX13_decade 141 = .ok (.istore 7, 2) := by decide +kernel
theorem dX13_decade_143 : decode cX13_decade 143 = .ok (.aload_n 0, 1) := by decide +kernel
theorem dX13_decade_144 : decode cX13_decade 144 = .ok (.bipush 20, 2) := by decide +kernel
theorem dX13_decade_146 : decode cX13_decade 146 = .ok (.invokevirtual 516, 3) := by decide +kernel
theorem dX13_decade_149 : decode cX13_decade 149 = .ok (.iconst 1, 1) := by decide +kernel
theorem dX13_decade_150 : decode cX13_decade 150 = .ok (.iadd, 1) := by decide +kernel
theorem dX13_decade_151 : decode cX13_decade 151 = .ok (.istore 8, 2) := by decide +kernel
theorem dX13_decade_153 : decode cX13_decade 153 = .ok (.aload_n 0, 1) := by decide +kernel
theorem dX13_decade_154 : decode cX13_decade 154 = .ok (.iload 6, 2) := by decide +kernel
theorem dX13_decade_156 : decode cX13_decade 156 = .ok (.iconst 0, 1) := by decide +kernel
theorem dX13_decade_157 : decode cX13_decade 157 = .ok (.invokevirtual 207, 3) := by decide +kernel
theorem dX13_decade_160 : decode cX13_decade 160 = .ok (.ifCond .le 85, 3) := by decide +kernel
theorem dX13_decade_245 : decode cX13_decade 245 = .ok (.aload_n 0, 1) := by decide +kernel
theorem dX13_decade_246 : decode cX13_decade 246 = .ok (.iconst 0, 1) := by decide +kernel
theorem dX13_decade_247 : decode cX13_decade 247 = .ok (.invokevirtual 412, 3) := by decide +kernel
theorem dX13_decade_250 : decode cX13_decade 250 = .ok (.sipush 999, 3) := by decide +kernel
theorem dX13_decade_261 : decode cX13_decade 261 = .ok (.istore 4, 2) := by decide +kernel
theorem dX13_decade_263 : decode cX13_decade 263 = .ok (.iload 4, 2) := by decide +kernel
theorem dX13_decade_265 : decode cX13_decade 265 = .ok (.ifCond .eq 8, 3) := by decide +kernel
theorem dX13_decade_273 : decode cX13_decade 273 = .ok (.iinc 5 1, 3) := by decide +kernel
theorem dX13_decade_276 : decode cX13_decade 276 = .ok (.goto (-158), 3) := by decide +kernel
theorem dX13_decade_268 : decode cX13_decade 268 = .ok (.aload_n 0, 1) := by decide +kernel
theorem dX13_decade_269 : decode cX13_decade 269 = .ok (.invokevirtual 486, 3) := by decide +kernel
theorem dX13_decade_272 : decode cX13_decade 272 = .ok (.pop, 1) := by decide +kernel
theorem dX13_decade_253 : decode cX13_decade 253 = .ok (.if_icmp .ge 7, 3) := by decide +kernel
theorem dX13_decade_260 : decode cX13_decade 260 = .ok (.iconst 0, 1) := by decide +kernel
theorem dX13_decade_256 : decode cX13_decade 256 = .ok (.iconst 1, 1) := by decide +kernel
theorem dX13_decade_257 : decode cX13_decade 257 = .ok (.goto 4, 3) := by decide +kernel
theorem dX13_decade_163 : decode cX13_decade 163 = .ok (.aload_n 0, 1) := by decide +kernel
theorem dX13_decade_164 : decode cX13_decade 164 = .ok (.iload 7, 2) := by decide +kernel
theorem dX13_decade_166 : decode cX13_decade 166 = .ok (.iconst 0, 1) := by decide +kernel
theorem dX13_decade_167 : decode cX13_decade 167 = .ok (.invokevirtual 207, 3) := by decide +kernel
theorem dX13_decade_170 : decode cX13_decade 170 = .ok (.ifCond .le 75, 3) := by decide +kernel
theorem dX13_decade_173 : decode cX13_decade 173 = .ok (.aload_n 0, 1) := by decide +kernel
theorem dX13_decade_174 : decode cX13_decade 174 = .ok (.iload 6, 2) := by decide +kernel
theorem dX13_decade_176 : decode cX13_decade 176 = .ok (.iload 7, 2) := by decide +kernel
theorem dX13_decade_178 : decode cX13_decade 178 = .ok (.iload 8, 2) := by decide +kernel
theorem dX13_decade_180 : decode cX13_decade 180 = .ok (.bipush (-2), 2) := by decide +kernel
theorem dX13_decade_182 : decode cX13_decade 182 = .ok (.bipush (-2), 2) := by decide +kernel
theorem dX13_decade_184 : decode cX13_decade 184 = .ok (.invokevirtual 525, 3) := by decide +kernel
theorem dX13_decade_187 : decode cX13_decade 187 = .ok (.istore 9, 2) := by decide +kernel
theorem dX13_decade_189 : decode cX13_decade 189 = .ok (.iload_n 3, 1) := by decide +kernel
theorem dX13_decade_190 : decode cX13_decade 190 = .ok (.iload 9, 2) := by decide +kernel
theorem dX13_decade_192 : decode cX13_decade 192 = .ok (.iconst 1, 1) := by decide +kernel
theorem dX13_decade_201 : decode cX13_decade 201 = .ok (.iadd, 1) := by decide +kernel
theorem dX13_decade_202 : decode cX13_decade 202 = .ok (.istore_n 3, 1) := by decide +kernel
theorem dX13_decade_203 : decode cX13_decade 203 = .ok (.aload_n 0, 1) := by decide +kernel
theorem dX13_decade_204 : decode cX13_decade 204 = .ok (.getfield 161, 3) := by decide +kernel
theorem dX13_decade_207 : decode cX13_decade 207 = .ok (.iload 7, 2) := by decide +kernel
theorem dX13_decade_209 : decode cX13_decade 209 = .ok (.dup2, 1) := by decide +kernel
theorem dX13_decade_210 : decode cX13_decade 210 = .ok (.iaload, 1) := by decide +kernel
theorem dX13_decade_211 : decode cX13_decade 211 = .ok (.iload 9, 2) := by decide +kernel
theorem dX13_decade_213 : decode cX13_decade 213 = .ok (.iconst 1, 1) := by decide +kernel
theorem dX13_decade_222 : decode cX13_decade 222 = .ok (.iadd, 1) := by decide +kernel
theorem dX13_decade_223 : decode cX13_decade 223 = .ok (.iastore, 1) := by decide +kernel
theorem dX13_decade_224 : decode cX13_decade 224 = .ok (.aload_n 0, 1) := by decide +kernel
theorem dX13_decade_225 : decode cX13_decade 225 = .ok (.getfield 161, 3) := by decide +kernel
theorem dX13_decade_228 : decode cX13_decade 228 = .ok (.iload 6, 2) := by decide +kernel
theorem dX13_decade_230 : decode cX13_decade 230 = .ok (.dup2, 1) := by decide +kernel
theorem dX13_decade_231 : decode cX13_decade 231 = .ok (.iaload, 1) := by decide +kernel
theorem dX13_decade_232 : decode cX13_decade 232 = .ok (.iload 9, 2) := by decide +kernel
theorem dX13_decade_234 : decode cX13_decade 234 = .ok (.iconst (-1), 1) := by decide +kernel
theorem dX13_decade_243 : decode cX13_decade 243 = .ok (.iadd, 1) := by decide +kernel
theorem dX13_decade_244 : decode cX13_decade 244 = .ok (.iastore, 1) := by decide +kernel
theorem dX13_decade_235 : decode cX13_decade 235 = .ok (.if_icmp .ne 7, 3) := by decide +kernel
theorem dX13_decade_242 : decode cX13_decade 242 = .ok (.iconst 0, 1) := by decide +kernel
theorem dX13_decade_238 : decode cX13_decade 238 = .ok (.iconst 1, 1) := by decide +kernel
theorem dX13_decade_239 : decode cX13_decade 239 = .ok (.goto 4, 3) := by decide +kernel
theorem dX13_decade_214 : decode cX13_decade 214 = .ok (.if_icmp .ne 7, 3) := by decide +kernel
theorem dX13_decade_221 : decode cX13_decade 221 = .ok (.iconst 0, 1) := by decide +kernel
theorem dX13_decade_217 : decode cX13_decade 217 = .ok (.iconst 1, 1) := by decide +kernel
theorem dX13_decade_218 : decode cX13_decade 218 = .ok (.goto 4, 3) := by decide +kernel
theorem dX13_decade_193 : decode cX13_decade 193 = .ok (.if_icmp .ne 7, 3) := by decide +kernel
theorem dX13_decade_200 : decode cX13_decade 200 = .ok (.iconst 0, 1) := by decide +kernel
theorem dX13_decade_196 : decode cX13_decade 196 = .ok (.iconst 1, 1) := by decide +kernel
theorem dX13_decade_197 : decode cX13_decade 197 = .ok (.goto 4, 3) := by decide +kernel
theorem dX13_decade_97 : decode cX13_decade 97 = .ok (.aload_n 0, 1) := by decide +kernel
theorem dX13_decade_98 : decode cX13_decade 98 = .ok (.getfield 161, 3) := by decide +kernel
theorem dX13_decade_101 : decode cX13_decade 101 = .ok (.iload_n 3, 1) := by decide +kernel
theorem dX13_decade_102 : decode cX13_decade 102 = .ok (.iconst 0, 1) := by decide +kernel
theorem dX13_decade_103 : decode cX13_decade 103 = .ok (.iastore, 1) := by decide +kernel
theorem dX13_decade_104 : decode cX13_decade 104 = .ok (.iinc 3 1, 3) := by decide +kernel
theorem dX13_decade_107 : decode cX13_decade 107 = .ok (.goto (-16), 3) := by decide +kernel
set_option maxHeartbeats 4000000 in
set_option maxRecDepth 100000 in
theorem k_X13_decade (l : Launch) (D : va_G) (cy : Nat → ClassId) (ld ad : Nat → Nat) (am : Nat) (hD : mz_D ad am) (Fa : Nat → Int32) (Ga : Nat → Int64) (Ra : Nat → Nat → Int32) (Sa : Nat → Nat → Int64) (p1 : Int32) (p2 : Int32) (g0 : Int32) (hIF : mz_IF true Fa) (hIG : mz_IG Ga) (hIR : mz_IR [] true Ra) (hg_0 : Ra 3 0 = g0) : Met l yX13_decade (wl yX13_decade cX13_decade 10 (some .int)) ({ frames := 12, cells := 0, slots := 0, locals := 770 }) (mz_p D cy ld ad am Fa Ga Ra Sa [.ref am, .int p1, .int p2]) (mz_i D cy ad am (fun r F G R S => mz_IF true F ∧ mz_IG G ∧ mz_IR [] true R ∧ (∀ k : Nat, k ∉ ([0, 1, 34, 38, 41, 69] : List Nat) → F k = Fa k) ∧ (∀ k : Nat, k ∉ ([2, 3, 6, 42, 66, 67, 68] : List Nat) → R k = Ra k) ∧ (∀ k : Nat, k ∉ ([39, 40, 47] : List Nat) → G k = Ga k) ∧ rK1 (Ra 3) (R 3) ∧ (-3) ≤ r.toInt ∧ r.toInt ≤ 60)) 0 0 (mz_W ad am) := by
  refine mz_met (y := yX13_decade) (cc := cX13_decade) (maxL := 10) (ret := (some .int)) (av := [.ref am, .int p1, .int p2]) _ (by decide) (Nat.le_of_ble_eq_true rfl) ?_
  intro p e s m args below meth c hx hb hr hml hts htl hown hlocks hK H locs hM hS ls hl
  have hown : s.vm.findClass RX13 = some m.cls := hown
  have hl : lv_has ls 10 [(0, .ref am), (1, .int p1), (2, .int p2)] := hl
  have hr_p1 := tk_rng p1
  have hr_p2 := tk_rng p2
  have hq_g0 := tk_rng g0
  have hr_g0 : 0 ≤ g0.toInt ∧ g0.toInt ≤ 8 := by have h9 := mz_r3c 0 (hIR.at 3) hg_0 (by decide); unfold mE at h9; omega
  refine lv_aload_n hx hb dX13_decade_0 rfl (lv_at hl 0 rfl) ?_
  refine lv_iconst (v := 0) hx hb dX13_decade_1 (by decide) ?_
  have hk_0 : (0 : Int32).toInt = 0 := by decide
  refine mz_putI (ty := .int) (x := 0) hx hb htl hown hK hD hM hS 0 (Nat.le_of_ble_eq_true rfl) rfl (htl _ mw_286) (fun _ h9 => h9) rfl (tyX13_ok 0 (by decide)) rfl rfl dX13_decade_2 (fun H locs F hM hS hf9 hj9 => ?_)
  have hIF := hIF.put hf9 hj9 (tk_rng _).1 (tk_rng _).2 (by decide)
  have hFF := mz_frp (K := [0, 1, 34, 38, 41, 69]) (Fa := Fa) hj9 (fun _ _ => rfl) (by decide)
  have hf2 := hf9
  refine lv_iload_n hx hb dX13_decade_5 rfl (lv_at hl 1 rfl) ?_
  obtain ⟨w3, e_w3, h_w3⟩ : ∃ z : Int64, p1.toInt64 = z ∧ z.toInt = p1.toInt := ⟨_, rfl, fl_w _⟩
  refine lv_i2l (v := w3) hx hb dX13_decade_6 e_w3 ?_
  refine lv_lconst (v := 0) hx hb dX13_decade_7 (by decide) ?_
  refine lv_ldc2 hx hb hown (htl _ mw_692) dX13_decade_8 ?_
  have hk_0 : (0 : Int64).toInt = 0 := by decide
  have hk_1000000 : (1000000 : Int64).toInt = 1000000 := by decide
  refine mz_Sj (As := [.long w3, .long 0, .long 1000000]) (rest := []) ⟨hx, hb, hml, hown, hts⟩ hK hM hS (k_X13_in l D cy ld ad am hD _ _ _ _ w3 0 1000000) ⟨callB_of 3 hts (wl_in mw_292) rfl rfl rfl (htl _ mw_5) (htl _ mw_290) hd_yX13_in ⟨(Nat.le_of_ble_eq_true rfl), (Nat.le_of_ble_eq_true rfl)⟩, htl _ mw_291⟩ rfl hl.1 rfl (Nat.le_of_ble_eq_true rfl) dX13_decade_11 ⟨(Nat.le_of_ble_eq_true rfl), (Nat.le_of_ble_eq_true rfl)⟩ (fun v4 H locs hpo hM hS => ?_)
  obtain ⟨hpo5, hpo6, hpo10, hpo11, hpo12, hpo13⟩ := hpo
  have hq_v4 := tk_rng v4
  refine lv_if_eq (tgt := 29) hx hb dX13_decade_14 (by decide) (fun c9 => ?_) (fun c9 => ?_)
  · have hc15 : v4.toInt = 0 := (fi_eq rfl (show (0 : Int32).toInt = 0 by decide)).mp c9
    refine lv_aload_n hx hb dX13_decade_29 rfl (lv_at hl 0 rfl) ?_
    refine lv_iconst (v := (-1)) hx hb dX13_decade_30 (by decide) ?_
    have hk_m1 : ((-1) : Int32).toInt = (-1) := by decide
    refine mz_Vi (As := [.int (-1)]) (rest := []) ⟨hx, hb, hml, hown, hts⟩ hK hM hS (k_X13_tell l D cy ld ad am hD _ _ _ _ (-1) hIF hIG hIR (by omega) (by omega)) ⟨callB_of 1 hts (wl_in mw_296) rfl rfl rfl (htl _ mw_5) (htl _ mw_293) hd_yX13_tell ⟨(Nat.le_of_ble_eq_true rfl), (Nat.le_of_ble_eq_true rfl)⟩, htl _ mw_294, htl _ mw_295⟩ rfl hl.1 rfl (Nat.le_of_ble_eq_true rfl) dX13_decade_31 ⟨(Nat.le_of_ble_eq_true rfl), (Nat.le_of_ble_eq_true rfl)⟩ (fun v16 H locs F G R S hpo hM hS => ?_)
    obtain ⟨hIF, hIG, hIR, hfr9, hrr9, hgr9, hpo17⟩ := hpo
    have hq_v16 := tk_rng v16
    have hFF := mz_fr (K := [0, 1, 34, 38, 41, 69]) (Fa := Fa) hfr9 hFF (by decide)
    have hRR := mz_fr (K := [2, 3, 6, 42, 66, 67, 68]) (Fa := Ra) hrr9 (fun _ _ => rfl) (by decide)
    have hGG := mz_fr (K := [39, 40, 47]) (Fa := Ga) hgr9 (fun _ _ => rfl) (by decide)
    have hrel : rK1 (Ra 3) (R 3) := (rK1.refl rfl).trans (rK1.refl (hrr9 3 (by decide)))
    have hg_0 : R 3 0 = _ := (congrFun (hrr9 3 (by decide)) 0).trans hg_0
    have hf2 := (hfr9 0 (by decide)).trans hf2
    exact mz_iret (v := v16) hx hb hr rfl hlocks ⟨hIF, hIG, hIR, hFF, hRR, hGG, hrel, (by omega), (by omega)⟩ hM hS dX13_decade_34
  · have hc15 : ¬ (v4.toInt = 0) := fun h9 => c9 ((fi_eq rfl (show (0 : Int32).toInt = 0 by decide)).mpr h9)
    have hwk_19 : 0 ≤ w3.toInt ∧ w3.toInt ≤ 1000000 := by omega
    refine lv_iload_n hx hb dX13_decade_17 rfl (lv_at hl 2 rfl) ?_
    obtain ⟨w20, e_w20, h_w20⟩ : ∃ z : Int64, p2.toInt64 = z ∧ z.toInt = p2.toInt := ⟨_, rfl, fl_w _⟩
    refine lv_i2l (v := w20) hx hb dX13_decade_18 e_w20 ?_
    refine lv_lconst (v := 1) hx hb dX13_decade_19 (by decide) ?_
    refine lv_ldc2 hx hb hown (htl _ mw_1684) dX13_decade_20 ?_
    have hk_1 : (1 : Int64).toInt = 1 := by decide
    have hk_60 : (60 : Int64).toInt = 60 := by decide
    refine mz_Sj (As := [.long w20, .long 1, .long 60]) (rest := []) ⟨hx, hb, hml, hown, hts⟩ hK hM hS (k_X13_in l D cy ld ad am hD _ _ _ _ w20 1 60) ⟨callB_of 3 hts (wl_in mw_292) rfl rfl rfl (htl _ mw_5) (htl _ mw_290) hd_yX13_in ⟨(Nat.le_of_ble_eq_true rfl), (Nat.le_of_ble_eq_true rfl)⟩, htl _ mw_291⟩ rfl hl.1 rfl (Nat.le_of_ble_eq_true rfl) dX13_decade_23 ⟨(Nat.le_of_ble_eq_true rfl), (Nat.le_of_ble_eq_true rfl)⟩ (fun v21 H locs hpo hM hS => ?_)
    obtain ⟨hpo22, hpo23, hpo24, hpo25, hpo26, hpo27⟩ := hpo
    have hq_v21 := tk_rng v21
    refine lv_if_ne (tgt := 35) hx hb dX13_decade_26 (by decide) (fun c9 => ?_) (fun c9 => ?_)
    · have hc29 : ¬ (v21.toInt = 0) := fun h9 => c9 ((fi_eq rfl (show (0 : Int32).toInt = 0 by decide)).mpr h9)
      have hwk_30 : 1 ≤ w20.toInt ∧ w20.toInt ≤ 60 := by omega
      refine lv_aload_n hx hb dX13_decade_35 rfl (lv_at hl 0 rfl) ?_
      refine mz_getR hx hb htl hown hK hM 3 (Nat.le_of_ble_eq_true rfl) (Nat.le_of_ble_eq_true rfl) (htl _ mw_188) (fun _ h9 => h9) dX13_decade_36 ?_
      refine lv_iconst (v := 1) hx hb dX13_decade_39 (by decide) ?_
      refine mz_iald hx hb hK hM 3 (Nat.le_of_ble_eq_true rfl) rfl (nn := 5560) rfl (I := 1) (by decide) (by decide) (by decide) dX13_decade_40 (fun v32 hf31 => ?_)
      have hf31 : Ra 3 1 = v32 := hf31
      have hq_v32 := tk_rng v32
      have hr_v32 : 0 ≤ v32.toInt ∧ v32.toInt ≤ 10 := by have h9 := mz_r3c 1 (hIR.at 3) hf31 (by decide); unfold mE at h9; omega
      refine lv_if_eq (tgt := 60) hx hb dX13_decade_41 (by decide) (fun c9 => ?_) (fun c9 => ?_)
      · have hc33 : v32.toInt = 0 := (fi_eq rfl (show (0 : Int32).toInt = 0 by decide)).mp c9
        refine lv_aload_n hx hb dX13_decade_60 rfl (lv_at hl 0 rfl) ?_
        refine lv_bipush (v := (-3)) hx hb dX13_decade_61 (by decide) ?_
        have hk_m3 : ((-3) : Int32).toInt = (-3) := by decide
        refine mz_Vi (As := [.int (-3)]) (rest := []) ⟨hx, hb, hml, hown, hts⟩ hK hM hS (k_X13_tell l D cy ld ad am hD _ _ _ _ (-3) hIF hIG hIR (by omega) (by omega)) ⟨callB_of 1 hts (wl_in mw_296) rfl rfl rfl (htl _ mw_5) (htl _ mw_293) hd_yX13_tell ⟨(Nat.le_of_ble_eq_true rfl), (Nat.le_of_ble_eq_true rfl)⟩, htl _ mw_294, htl _ mw_295⟩ rfl hl.1 rfl (Nat.le_of_ble_eq_true rfl) dX13_decade_63 ⟨(Nat.le_of_ble_eq_true rfl), (Nat.le_of_ble_eq_true rfl)⟩ (fun v34 H locs F G R S hpo hM hS => ?_)
        obtain ⟨hIF, hIG, hIR, hfr9, hrr9, hgr9, hpo35⟩ := hpo
        have hq_v34 := tk_rng v34
        have hFF := mz_fr (K := [0, 1, 34, 38, 41, 69]) (Fa := Fa) hfr9 hFF (by decide)
        have hRR := mz_fr (K := [2, 3, 6, 42, 66, 67, 68]) (Fa := Ra) hrr9 (fun _ _ => rfl) (by decide)
        have hGG := mz_fr (K := [39, 40, 47]) (Fa := Ga) hgr9 (fun _ _ => rfl) (by decide)
        have hrel : rK1 (Ra 3) (R 3) := (rK1.refl rfl).trans (rK1.refl (hrr9 3 (by decide)))
        have hg_0 : R 3 0 = _ := (congrFun (hrr9 3 (by decide)) 0).trans hg_0
        have hf2 := (hfr9 0 (by decide)).trans hf2
        have hf31 : R 3 1 = _ := (congrFun (hrr9 3 (by decide)) 1).trans hf31
        exact mz_iret (v := v34) hx hb hr rfl hlocks ⟨hIF, hIG, hIR, hFF, hRR, hGG, hrel, (by omega), (by omega)⟩ hM hS dX13_decade_66
      · have hc33 : ¬ (v32.toInt = 0) := fun h9 => c9 ((fi_eq rfl (show (0 : Int32).toInt = 0 by decide)).mpr h9)
        refine lv_aload_n hx hb dX13_decade_44 rfl (lv_at hl 0 rfl) ?_
        refine lv_iconst (v := 0) hx hb dX13_decade_45 (by decide) ?_
        have hk_0 : (0 : Int32).toInt = 0 := by decide
        refine mz_Vj (As := [.int 0]) (rest := []) ⟨hx, hb, hml, hown, hts⟩ hK hM hS (k_X13_manyOf_x l D cy ld ad am hD _ _ _ _ 0 g0 (hIF.weak) hIG hIR hg_0) ⟨callB_of 1 hts (wl_in mw_1688) rfl rfl rfl (htl _ mw_5) (htl _ mw_1685) hd_yX13_manyOf ⟨(Nat.le_of_ble_eq_true rfl), (Nat.le_of_ble_eq_true rfl)⟩, htl _ mw_1686, htl _ mw_1687⟩ rfl hl.1 rfl (Nat.le_of_ble_eq_true rfl) dX13_decade_46 ⟨(Nat.le_of_ble_eq_true rfl), (Nat.le_of_ble_eq_true rfl)⟩ (fun v37 H locs hpo hM hS => ?_)
        obtain ⟨hpo38, hpo39, hpo40, hpo41, hx42⟩ := hpo
        have hq_v37 := tk_rng v37
        refine lv_if_eq (tgt := 60) hx hb dX13_decade_49 (by decide) (fun c9 => ?_) (fun c9 => ?_)
        · have hc44 : v37.toInt = 0 := (fi_eq rfl (show (0 : Int32).toInt = 0 by decide)).mp c9
          refine lv_aload_n hx hb dX13_decade_60 rfl (lv_at hl 0 rfl) ?_
          refine lv_bipush (v := (-3)) hx hb dX13_decade_61 (by decide) ?_
          have hk_m3 : ((-3) : Int32).toInt = (-3) := by decide
          refine mz_Vi (As := [.int (-3)]) (rest := []) ⟨hx, hb, hml, hown, hts⟩ hK hM hS (k_X13_tell l D cy ld ad am hD _ _ _ _ (-3) hIF hIG hIR (by omega) (by omega)) ⟨callB_of 1 hts (wl_in mw_296) rfl rfl rfl (htl _ mw_5) (htl _ mw_293) hd_yX13_tell ⟨(Nat.le_of_ble_eq_true rfl), (Nat.le_of_ble_eq_true rfl)⟩, htl _ mw_294, htl _ mw_295⟩ rfl hl.1 rfl (Nat.le_of_ble_eq_true rfl) dX13_decade_63 ⟨(Nat.le_of_ble_eq_true rfl), (Nat.le_of_ble_eq_true rfl)⟩ (fun v45 H locs F G R S hpo hM hS => ?_)
          obtain ⟨hIF, hIG, hIR, hfr9, hrr9, hgr9, hpo46⟩ := hpo
          have hq_v45 := tk_rng v45
          have hFF := mz_fr (K := [0, 1, 34, 38, 41, 69]) (Fa := Fa) hfr9 hFF (by decide)
          have hRR := mz_fr (K := [2, 3, 6, 42, 66, 67, 68]) (Fa := Ra) hrr9 (fun _ _ => rfl) (by decide)
          have hGG := mz_fr (K := [39, 40, 47]) (Fa := Ga) hgr9 (fun _ _ => rfl) (by decide)
          have hrel : rK1 (Ra 3) (R 3) := (rK1.refl rfl).trans (rK1.refl (hrr9 3 (by decide)))
          have hg_0 : R 3 0 = _ := (congrFun (hrr9 3 (by decide)) 0).trans hg_0
          have hf2 := (hfr9 0 (by decide)).trans hf2
          have hf31 : R 3 1 = _ := (congrFun (hrr9 3 (by decide)) 1).trans hf31
          exact mz_iret (v := v45) hx hb hr rfl hlocks ⟨hIF, hIG, hIR, hFF, hRR, hGG, hrel, (by omega), (by omega)⟩ hM hS dX13_decade_66
        · have hc44 : ¬ (v37.toInt = 0) := fun h9 => c9 ((fi_eq rfl (show (0 : Int32).toInt = 0 by decide)).mpr h9)
          refine lv_aload_n hx hb dX13_decade_52 rfl (lv_at hl 0 rfl) ?_
          refine lv_iconst (v := 1) hx hb dX13_decade_53 (by decide) ?_
          have hk_1 : (1 : Int32).toInt = 1 := by decide
          refine mz_Vj (As := [.int 1]) (rest := []) ⟨hx, hb, hml, hown, hts⟩ hK hM hS (k_X13_manyOf_x l D cy ld ad am hD _ _ _ _ 1 g0 (hIF.weak) hIG hIR hg_0) ⟨callB_of 1 hts (wl_in mw_1688) rfl rfl rfl (htl _ mw_5) (htl _ mw_1685) hd_yX13_manyOf ⟨(Nat.le_of_ble_eq_true rfl), (Nat.le_of_ble_eq_true rfl)⟩, htl _ mw_1686, htl _ mw_1687⟩ rfl hl.1 rfl (Nat.le_of_ble_eq_true rfl) dX13_decade_54 ⟨(Nat.le_of_ble_eq_true rfl), (Nat.le_of_ble_eq_true rfl)⟩ (fun v48 H locs hpo hM hS => ?_)
          obtain ⟨hpo49, hpo50, hpo51, hpo52, hx53⟩ := hpo
          have hq_v48 := tk_rng v48
          refine lv_if_ne (tgt := 67) hx hb dX13_decade_57 (by decide) (fun c9 => ?_) (fun c9 => ?_)
          · have hc55 : ¬ (v48.toInt = 0) := fun h9 => c9 ((fi_eq rfl (show (0 : Int32).toInt = 0 by decide)).mpr h9)
            refine lv_aload_n hx hb dX13_decade_67 rfl (lv_at hl 0 rfl) ?_
            have hC : 1 ≤ cn (Ra 3) (0 : Int32).toInt g0.toInt.toNat ∧ 1 ≤ cn (Ra 3) (1 : Int32).toInt g0.toInt.toNat := ⟨by rw [← hx42]; omega, by rw [← hx53]; omega⟩
            refine lv_bipush (v := 16) hx hb dX13_decade_68 (by decide) ?_
            have hk_16 : (16 : Int32).toInt = 16 := by decide
            refine mz_Vv (As := [.int 16]) (rest := []) ⟨hx, hb, hml, hown, hts⟩ hK hM hS (k_X13_keepAll l D cy ld ad am hD _ _ _ _ 16 hIF hIG hIR (by omega) (by omega)) ⟨callB_of 1 hts (wl_in mw_1033) rfl rfl rfl (htl _ mw_5) (htl _ mw_1030) hd_yX13_keepAll ⟨(Nat.le_of_ble_eq_true rfl), (Nat.le_of_ble_eq_true rfl)⟩, htl _ mw_1031, htl _ mw_1032⟩ rfl hl.1 rfl (Nat.le_of_ble_eq_true rfl) dX13_decade_70 ⟨(Nat.le_of_ble_eq_true rfl), (Nat.le_of_ble_eq_true rfl)⟩ (fun H locs F G R S hpo hM hS => ?_)
            obtain ⟨hIF, hIG, hIR, hfr9, hrr9, hgr9⟩ := hpo
            have hFF := mz_fr (K := [0, 1, 34, 38, 41, 69]) (Fa := Fa) hfr9 hFF (by decide)
            have hRR := mz_fr (K := [2, 3, 6, 42, 66, 67, 68]) (Fa := Ra) hrr9 (fun _ _ => rfl) (by decide)
            have hGG := mz_fr (K := [39, 40, 47]) (Fa := Ga) hgr9 (fun _ _ => rfl) (by decide)
            have hrel : rK1 (Ra 3) (R 3) := (rK1.refl rfl).trans (rK1.refl (hrr9 3 (by decide)))
            have hg_0 : R 3 0 = _ := (congrFun (hrr9 3 (by decide)) 0).trans hg_0
            have hf2 := (hfr9 0 (by decide)).trans hf2
            have hf31 : R 3 1 = _ := (congrFun (hrr9 3 (by decide)) 1).trans hf31
            have hC : 1 ≤ cn (R 3) (0 : Int32).toInt g0.toInt.toNat ∧ 1 ≤ cn (R 3) (1 : Int32).toInt g0.toInt.toNat := by rw [hrr9 3 (by decide)]; exact hC
            refine lv_aload_n hx hb dX13_decade_73 rfl (lv_at hl 0 rfl) ?_
            refine lv_iload_n hx hb dX13_decade_74 rfl (lv_at hl 1 rfl) ?_
            obtain ⟨w57, e_w57, h_w57⟩ : ∃ z : Int64, p1.toInt64 = z ∧ z.toInt = p1.toInt := ⟨_, rfl, fl_w _⟩
            refine lv_i2l (v := w57) hx hb dX13_decade_75 e_w57 ?_
            refine mz_putJ (ty := .long) (x := w57) hx hb htl hown hK hD hM hS 47 (Nat.le_of_ble_eq_true rfl) rfl (htl _ mw_1386) (fun _ h9 => h9) rfl (tyX13_ok 47 (by decide)) rfl rfl dX13_decade_76 (fun H locs G hM hS hf9 hj9 => ?_)
            have hIG := mz_IG.put47 hf9 (by omega) (by omega)
            have hGG := mz_frp (K := [39, 40, 47]) (Fa := Ga) hj9 hGG (by decide)
            have hf59 := hf9
            refine lv_aload_n hx hb dX13_decade_79 rfl (lv_at hl 0 rfl) ?_
            refine lv_aload_n hx hb dX13_decade_80 rfl (lv_at hl 0 rfl) ?_
            refine mz_getR hx hb htl hown hK hM 3 (Nat.le_of_ble_eq_true rfl) (Nat.le_of_ble_eq_true rfl) (htl _ mw_188) (fun _ h9 => h9) dX13_decade_81 ?_
            refine lv_iconst (v := 0) hx hb dX13_decade_84 (by decide) ?_
            refine mz_iald hx hb hK hM 3 (Nat.le_of_ble_eq_true rfl) rfl (nn := 5560) rfl (I := 0) (by decide) (by decide) (by decide) dX13_decade_85 (fun v9 e9 => ?_)
            refine fx_ti (v := g0) (e9.symm.trans (show R 3 (0 : Int32).toNatClampNeg = _ from hg_0)) ?_
            refine mz_putI (ty := .int) (x := g0) hx hb htl hown hK hD hM hS 69 (Nat.le_of_ble_eq_true rfl) rfl (htl _ mw_244) (fun _ h9 => h9) rfl (tyX13_ok 69 (by decide)) rfl rfl dX13_decade_86 (fun H locs F hM hS hf9 hj9 => ?_)
            have hIF := hIF.put hf9 hj9 (show (-1) ≤ (g0 : Int32).toInt by omega) (show (g0 : Int32).toInt ≤ 8 by omega) (by decide)
            have hFF := mz_frp (K := [0, 1, 34, 38, 41, 69]) (Fa := Fa) hj9 hFF (by decide)
            have hf2 := (hj9 0 (by decide)).trans hf2
            have hf61 := hf9
            refine lv_iconst (v := 0) hx hb dX13_decade_89 (by decide) ?_
            refine lv_istore_n (lv' := [(3, .int 0), (0, .ref am), (1, .int p1), (2, .int p2)]) hx hb dX13_decade_90 rfl hl (by decide) rfl (fun ls hl => ?_)
            have hl11226 : ∀ (N_l11226 : Nat) (v3073 : Int32) (H : Heap) (locs : List Loc) (R : Nat → Nat → Int32), (v3073.toInt ≤ 8) → (0 ≤ v3073.toInt) → (mz_S D cy ad am F G R S H) → (va_S (mz_W ad am) s.heap H locs) → (mz_IR [] true R) → (∀ k : Nat, k ∉ ([2, 3, 6, 42, 66, 67, 68] : List Nat) → R k = Ra k) → (rK1 (Ra 3) (R 3)) → (R 3 0 = g0) → (R 3 1 = v32) → (1 ≤ cn (R 3) (0 : Int32).toInt g0.toInt.toNat ∧ 1 ≤ cn (R 3) (1 : Int32).toInt g0.toInt.toNat) → ((-1) * v3073.toInt + 8 < (N_l11226 : Int)) → ∀ ls : Array Slot, lv_has ls 10 [(3, .int v3073), (0, .ref am), (2, .int p2)] → W p l e ({ frames := 12, cells := 0, slots := 0, locals := 770 }) s m args below meth c H locs 0 0 (MQ below (mz_i D cy ad am (fun r F G R S => mz_IF true F ∧ mz_IG G ∧ mz_IR [] true R ∧ (∀ k : Nat, k ∉ ([0, 1, 34, 38, 41, 69] : List Nat) → F k = Fa k) ∧ (∀ k : Nat, k ∉ ([2, 3, 6, 42, 66, 67, 68] : List Nat) → R k = Ra k) ∧ (∀ k : Nat, k ∉ ([39, 40, 47] : List Nat) → G k = Ga k) ∧ rK1 (Ra 3) (R 3) ∧ (-3) ≤ r.toInt ∧ r.toInt ≤ 60)) args s 0 0 (mz_W ad am)) (F0 m 91 ls []) := by
              intro N_l11226
              induction N_l11226 with
              | zero => intro v3073 H locs R hq0_l11226 hq1_l11226 hM hS hIR hRR hrel hg_0 hf31 hC hm_l11226 ls hl; exfalso; omega
              | succ N_l11226 ih_l11226 =>
                intro v3073 H locs R hq0_l11226 hq1_l11226 hM hS hIR hRR hrel hg_0 hf31 hC hm_l11226 ls hl
                refine lv_iload_n hx hb dX13_decade_91 rfl (lv_at hl 0 rfl) ?_
                refine lv_bipush (v := 8) hx hb dX13_decade_92 (by decide) ?_
                refine lv_icmp_ge (tgt := 110) hx hb dX13_decade_94 (by decide) (fun c9 => ?_) (fun c9 => ?_)
                · have hc11227 : 8 ≤ v3073.toInt := (fi_le (show (8 : Int32).toInt = 8 by decide) rfl).mp c9
                  refine lv_iconst (v := 0) hx hb dX13_decade_110 (by decide) ?_
                  refine lv_istore_n (lv' := [(3, .int 0), (0, .ref am), (2, .int p2)]) hx hb dX13_decade_111 rfl hl (by decide) rfl (fun ls hl => ?_)
                  refine lv_iconst (v := 1) hx hb dX13_decade_112 (by decide) ?_
                  refine lv_istore (lv' := [(4, .int 1), (3, .int 0), (0, .ref am), (2, .int p2)]) hx hb dX13_decade_113 hl (by decide) rfl (fun ls hl => ?_)
                  refine lv_iconst (v := 0) hx hb dX13_decade_115 (by decide) ?_
                  refine lv_istore (lv' := [(5, .int 0), (4, .int 1), (3, .int 0), (0, .ref am), (2, .int p2)]) hx hb dX13_decade_116 hl (by decide) rfl (fun ls hl => ?_)
                  have hl13361 : ∀ (N_l13361 : Nat) (v11230 : Int32) (v11231 : Int32) (v11232 : Int32) (H : Heap) (locs : List Loc) (F : Nat → Int32) (G : Nat → Int64) (R : Nat → Nat → Int32) (S : Nat → Nat → Int64), (0 ≤ v11231.toInt) → (v11231.toInt ≤ 1) → (0 ≤ p2.toInt + (-1) * v11230.toInt) → (0 ≤ v11232.toInt) → (0 ≤ v11230.toInt + (-1) * v11232.toInt) → (mz_S D cy ad am F G R S H) → (va_S (mz_W ad am) s.heap H locs) → (mz_IF true F) → (mz_IG G) → (mz_IR [] true R) → (∀ k : Nat, k ∉ ([0, 1, 34, 38, 41, 69] : List Nat) → F k = Fa k) → (∀ k : Nat, k ∉ ([39, 40, 47] : List Nat) → G k = Ga k) → (∀ k : Nat, k ∉ ([2, 3, 6, 42, 66, 67, 68] : List Nat) → R k = Ra k) → (rK1 (Ra 3) (R 3)) → (R 3 0 = g0) → (F 0 = 0) → (R 3 1 = v32) → (F 69 = g0) → (1 ≤ cn (R 3) (0 : Int32).toInt g0.toInt.toNat ∧ 1 ≤ cn (R 3) (1 : Int32).toInt g0.toInt.toNat) → ((-1) * v11230.toInt + 60 < (N_l13361 : Int)) → ∀ ls : Array Slot, lv_has ls 10 [(5, .int v11230), (4, .int v11231), (3, .int v11232), (0, .ref am), (2, .int p2)] → W p l e ({ frames := 12, cells := 0, slots := 0, locals := 770 }) s m args below meth c H locs 0 0 (MQ below (mz_i D cy ad am (fun r F G R S => mz_IF true F ∧ mz_IG G ∧ mz_IR [] true R ∧ (∀ k : Nat, k ∉ ([0, 1, 34, 38, 41, 69] : List Nat) → F k = Fa k) ∧ (∀ k : Nat, k ∉ ([2, 3, 6, 42, 66, 67, 68] : List Nat) → R k = Ra k) ∧ (∀ k : Nat, k ∉ ([39, 40, 47] : List Nat) → G k = Ga k) ∧ rK1 (Ra 3) (R 3) ∧ (-3) ≤ r.toInt ∧ r.toInt ≤ 60)) args s 0 0 (mz_W ad am)) (F0 m 118 ls []) := by
                    intro N_l13361
                    induction N_l13361 with
                    | zero => intro v11230 v11231 v11232 H locs F G R S hq0_l13361 hq1_l13361 hq2_l13361 hq3_l13361 hq4_l13361 hM hS hIF hIG hIR hFF hGG hRR hrel hg_0 hf2 hf31 hf61 hC hm_l13361 ls hl; exfalso; omega
                    | succ N_l13361 ih_l13361 =>
                      intro v11230 v11231 v11232 H locs F G R S hq0_l13361 hq1_l13361 hq2_l13361 hq3_l13361 hq4_l13361 hM hS hIF hIG hIR hFF hGG hRR hrel hg_0 hf2 hf31 hf61 hC hm_l13361 ls hl
                      refine lv_iload hx hb dX13_decade_118 (lv_at hl 0 rfl) ?_
                      refine lv_iload_n hx hb dX13_decade_120 rfl (lv_at hl 4 rfl) ?_
                      have hj13463 : ∀ (_ : Unit), ∀ ls : Array Slot, lv_has ls 10 [(3, .int v11232), (0, .ref am)] → W p l e ({ frames := 12, cells := 0, slots := 0, locals := 770 }) s m args below meth c H locs 0 0 (MQ below (mz_i D cy ad am (fun r F G R S => mz_IF true F ∧ mz_IG G ∧ mz_IR [] true R ∧ (∀ k : Nat, k ∉ ([0, 1, 34, 38, 41, 69] : List Nat) → F k = Fa k) ∧ (∀ k : Nat, k ∉ ([2, 3, 6, 42, 66, 67, 68] : List Nat) → R k = Ra k) ∧ (∀ k : Nat, k ∉ ([39, 40, 47] : List Nat) → G k = Ga k) ∧ rK1 (Ra 3) (R 3) ∧ (-3) ≤ r.toInt ∧ r.toInt ≤ 60)) args s 0 0 (mz_W ad am)) (F0 m 279 ls []) := by
                        intro _  ls hl
                        refine lv_iconst (v := 0) hx hb dX13_decade_279 (by decide) ?_
                        refine lv_istore (lv' := [(5, .int 0), (3, .int v11232), (0, .ref am)]) hx hb dX13_decade_280 hl (by decide) rfl (fun ls hl => ?_)
                        have hl13584 : ∀ (N_l13584 : Nat) (v13464 : Int32) (H : Heap) (locs : List Loc) (R : Nat → Nat → Int32), (0 ≤ g0.toInt + (-1) * v13464.toInt) → (0 ≤ v13464.toInt) → (mz_S D cy ad am F G R S H) → (va_S (mz_W ad am) s.heap H locs) → (mz_IR [] true R) → (∀ k : Nat, k ∉ ([2, 3, 6, 42, 66, 67, 68] : List Nat) → R k = Ra k) → (rK1 (Ra 3) (R 3)) → (R 3 0 = g0) → (R 3 1 = v32) → ((-1) * v13464.toInt + 8 < (N_l13584 : Int)) → ∀ ls : Array Slot, lv_has ls 10 [(5, .int v13464), (3, .int v11232), (0, .ref am)] → W p l e ({ frames := 12, cells := 0, slots := 0, locals := 770 }) s m args below meth c H locs 0 0 (MQ below (mz_i D cy ad am (fun r F G R S => mz_IF true F ∧ mz_IG G ∧ mz_IR [] true R ∧ (∀ k : Nat, k ∉ ([0, 1, 34, 38, 41, 69] : List Nat) → F k = Fa k) ∧ (∀ k : Nat, k ∉ ([2, 3, 6, 42, 66, 67, 68] : List Nat) → R k = Ra k) ∧ (∀ k : Nat, k ∉ ([39, 40, 47] : List Nat) → G k = Ga k) ∧ rK1 (Ra 3) (R 3) ∧ (-3) ≤ r.toInt ∧ r.toInt ≤ 60)) args s 0 0 (mz_W ad am)) (F0 m 282 ls []) := by
                          intro N_l13584
                          induction N_l13584 with
                          | zero => intro v13464 H locs R hq0_l13584 hq1_l13584 hM hS hIR hRR hrel hg_0 hf31 hm_l13584 ls hl; exfalso; omega
                          | succ N_l13584 ih_l13584 =>
                            intro v13464 H locs R hq0_l13584 hq1_l13584 hM hS hIR hRR hrel hg_0 hf31 hm_l13584 ls hl
                            refine lv_iload hx hb dX13_decade_282 (lv_at hl 0 rfl) ?_
                            refine lv_aload_n hx hb dX13_decade_284 rfl (lv_at hl 2 rfl) ?_
                            refine mz_getI hx hb htl hown hK hM 69 (Nat.le_of_ble_eq_true rfl) rfl (htl _ mw_244) (fun _ h9 => h9) dX13_decade_285 (fun v9 e9 => ?_)
                            refine fx_ti (v := g0) (e9.symm.trans hf61) ?_
                            refine lv_icmp_ge (tgt := 311) hx hb dX13_decade_288 (by decide) (fun c9 => ?_) (fun c9 => ?_)
                            · have hc13585 : g0.toInt ≤ v13464.toInt := (fi_le rfl rfl).mp c9
                              refine lv_aload_n hx hb dX13_decade_311 rfl (lv_at hl 2 rfl) ?_
                              refine mz_getR hx hb htl hown hK hM 67 (Nat.le_of_ble_eq_true rfl) (Nat.le_of_ble_eq_true rfl) (htl _ mw_242) (fun _ h9 => h9) dX13_decade_312 ?_
                              refine lv_iconst (v := 0) hx hb dX13_decade_315 (by decide) ?_
                              refine lv_aload_n hx hb dX13_decade_316 rfl (lv_at hl 2 rfl) ?_
                              refine mz_getR hx hb htl hown hK hM 3 (Nat.le_of_ble_eq_true rfl) (Nat.le_of_ble_eq_true rfl) (htl _ mw_188) (fun _ h9 => h9) dX13_decade_317 ?_
                              refine lv_bipush (v := 10) hx hb dX13_decade_320 (by decide) ?_
                              refine mz_iald hx hb hK hM 3 (Nat.le_of_ble_eq_true rfl) rfl (nn := 5560) rfl (I := 10) (by decide) (by decide) (by decide) dX13_decade_322 (fun v13591 hf13590 => ?_)
                              have hf13590 : R 3 10 = v13591 := hf13590
                              have hq_v13591 := tk_rng v13591
                              have hk_0 : (0 : Int32).toInt = 0 := by decide
                              refine mz_iast (x := v13591) hx hb hK hD hM hS 67 (Nat.le_of_ble_eq_true rfl) rfl (nn := 2) rfl (I := 0) (by decide) (by decide) (by decide) dX13_decade_323 (fun H locs R hM hS hw9 hj9 => ?_)
                              have hIR := hIR.put hw9 hj9 trivial
                              have hRR := mz_frp (K := [2, 3, 6, 42, 66, 67, 68]) (Fa := Ra) hj9 hRR (by decide)
                              have hrel : rK1 (Ra 3) (R 3) := (hj9 3 (by decide)) ▸ hrel
                              have hg_0 : R 3 0 = _ := (congrFun (hj9 3 (by decide)) 0).trans hg_0
                              have hf31 : R 3 1 = _ := (congrFun (hj9 3 (by decide)) 1).trans hf31
                              have hf13590 : R 3 10 = _ := (congrFun (hj9 3 (by decide)) 10).trans hf13590
                              refine lv_aload_n hx hb dX13_decade_324 rfl (lv_at hl 2 rfl) ?_
                              refine mz_getR hx hb htl hown hK hM 67 (Nat.le_of_ble_eq_true rfl) (Nat.le_of_ble_eq_true rfl) (htl _ mw_242) (fun _ h9 => h9) dX13_decade_325 ?_
                              refine lv_iconst (v := 1) hx hb dX13_decade_328 (by decide) ?_
                              refine lv_aload_n hx hb dX13_decade_329 rfl (lv_at hl 2 rfl) ?_
                              refine mz_getR hx hb htl hown hK hM 3 (Nat.le_of_ble_eq_true rfl) (Nat.le_of_ble_eq_true rfl) (htl _ mw_188) (fun _ h9 => h9) dX13_decade_330 ?_
                              refine lv_bipush (v := 11) hx hb dX13_decade_333 (by decide) ?_
                              refine mz_iald hx hb hK hM 3 (Nat.le_of_ble_eq_true rfl) rfl (nn := 5560) rfl (I := 11) (by decide) (by decide) (by decide) dX13_decade_335 (fun v13594 hf13593 => ?_)
                              have hf13593 : R 3 11 = v13594 := hf13593
                              have hq_v13594 := tk_rng v13594
                              have hk_1 : (1 : Int32).toInt = 1 := by decide
                              refine mz_iast (x := v13594) hx hb hK hD hM hS 67 (Nat.le_of_ble_eq_true rfl) rfl (nn := 2) rfl (I := 1) (by decide) (by decide) (by decide) dX13_decade_336 (fun H locs R hM hS hw9 hj9 => ?_)
                              have hIR := hIR.put hw9 hj9 trivial
                              have hRR := mz_frp (K := [2, 3, 6, 42, 66, 67, 68]) (Fa := Ra) hj9 hRR (by decide)
                              have hrel : rK1 (Ra 3) (R 3) := (hj9 3 (by decide)) ▸ hrel
                              have hg_0 : R 3 0 = _ := (congrFun (hj9 3 (by decide)) 0).trans hg_0
                              have hf31 : R 3 1 = _ := (congrFun (hj9 3 (by decide)) 1).trans hf31
                              have hf13590 : R 3 10 = _ := (congrFun (hj9 3 (by decide)) 10).trans hf13590
                              have hf13593 : R 3 11 = _ := (congrFun (hj9 3 (by decide)) 11).trans hf13593
                              refine lv_aload_n hx hb dX13_decade_337 rfl (lv_at hl 2 rfl) ?_
                              refine lv_bipush (v := 16) hx hb dX13_decade_338 (by decide) ?_
                              have hk_16 : (16 : Int32).toInt = 16 := by decide
                              refine mz_Vv (As := [.int 16]) (rest := []) ⟨hx, hb, hml, hown, hts⟩ hK hM hS (k_X13_putBack l D cy ld ad am hD _ _ _ _ 16 hIF hIG hIR (by omega) (by omega)) ⟨callB_of 1 hts (wl_in mw_1162) rfl rfl rfl (htl _ mw_5) (htl _ mw_1159) hd_yX13_putBack ⟨(Nat.le_of_ble_eq_true rfl), (Nat.le_of_ble_eq_true rfl)⟩, htl _ mw_1160, htl _ mw_1161⟩ rfl hl.1 rfl (Nat.le_of_ble_eq_true rfl) dX13_decade_340 ⟨(Nat.le_of_ble_eq_true rfl), (Nat.le_of_ble_eq_true rfl)⟩ (fun H locs F G R S hpo hM hS => ?_)
                              obtain ⟨hIF, hIG, hIR, hfr9, hrr9, hgr9, hrel9⟩ := hpo
                              have hFF := mz_fr (K := [0, 1, 34, 38, 41, 69]) (Fa := Fa) hfr9 hFF (by decide)
                              have hRR := mz_fr (K := [2, 3, 6, 42, 66, 67, 68]) (Fa := Ra) hrr9 hRR (by decide)
                              have hGG := mz_fr (K := [39, 40, 47]) (Fa := Ga) hgr9 hGG (by decide)
                              have hrel := hrel.trans hrel9
                              have hg_0 : R 3 0 = _ := (hrel9 0 (by omega)).trans hg_0
                              have hf2 := (hfr9 0 (by decide)).trans hf2
                              have hf31 : R 3 1 = _ := (hrel9 1 (by omega)).trans hf31
                              have hf61 := (hfr9 69 (by decide)).trans hf61
                              refine lv_aload_n hx hb dX13_decade_343 rfl (lv_at hl 2 rfl) ?_
                              refine lv_iload_n hx hb dX13_decade_344 rfl (lv_at hl 1 rfl) ?_
                              refine mz_Vi (As := [.int v11232]) (rest := []) ⟨hx, hb, hml, hown, hts⟩ hK hM hS (k_X13_tell l D cy ld ad am hD _ _ _ _ v11232 hIF hIG hIR (by omega) (by omega)) ⟨callB_of 1 hts (wl_in mw_296) rfl rfl rfl (htl _ mw_5) (htl _ mw_293) hd_yX13_tell ⟨(Nat.le_of_ble_eq_true rfl), (Nat.le_of_ble_eq_true rfl)⟩, htl _ mw_294, htl _ mw_295⟩ rfl hl.1 rfl (Nat.le_of_ble_eq_true rfl) dX13_decade_345 ⟨(Nat.le_of_ble_eq_true rfl), (Nat.le_of_ble_eq_true rfl)⟩ (fun v13597 H locs F G R S hpo hM hS => ?_)
                              obtain ⟨hIF, hIG, hIR, hfr9, hrr9, hgr9, hpo13598⟩ := hpo
                              have hq_v13597 := tk_rng v13597
                              have hFF := mz_fr (K := [0, 1, 34, 38, 41, 69]) (Fa := Fa) hfr9 hFF (by decide)
                              have hRR := mz_fr (K := [2, 3, 6, 42, 66, 67, 68]) (Fa := Ra) hrr9 hRR (by decide)
                              have hGG := mz_fr (K := [39, 40, 47]) (Fa := Ga) hgr9 hGG (by decide)
                              have hrel : rK1 (Ra 3) (R 3) := hrel.trans (rK1.refl (hrr9 3 (by decide)))
                              have hg_0 : R 3 0 = _ := (congrFun (hrr9 3 (by decide)) 0).trans hg_0
                              have hf2 := (hfr9 0 (by decide)).trans hf2
                              have hf31 : R 3 1 = _ := (congrFun (hrr9 3 (by decide)) 1).trans hf31
                              have hf61 := (hfr9 69 (by decide)).trans hf61
                              exact mz_iret (v := v13597) hx hb hr rfl hlocks ⟨hIF, hIG, hIR, hFF, hRR, hGG, hrel, (by omega), (by omega)⟩ hM hS dX13_decade_348
                            · have hc13585 : ¬ (g0.toInt ≤ v13464.toInt) := fun h9 => c9 ((fi_le rfl rfl).mpr h9)
                              refine lv_aload_n hx hb dX13_decade_291 rfl (lv_at hl 2 rfl) ?_
                              refine mz_getR hx hb htl hown hK hM 66 (Nat.le_of_ble_eq_true rfl) (Nat.le_of_ble_eq_true rfl) (htl _ mw_241) (fun _ h9 => h9) dX13_decade_292 ?_
                              refine lv_iload hx hb dX13_decade_295 (lv_at hl 0 rfl) ?_
                              refine lv_aload_n hx hb dX13_decade_297 rfl (lv_at hl 2 rfl) ?_
                              refine lv_iload hx hb dX13_decade_298 (lv_at hl 0 rfl) ?_
                              refine lv_iconst (v := 0) hx hb dX13_decade_300 (by decide) ?_
                              have hk_0 : (0 : Int32).toInt = 0 := by decide
                              refine mz_Vj (As := [.int v13464, .int 0]) (rest := [.int v13464, .ref (ad 66)]) ⟨hx, hb, hml, hown, hts⟩ hK hM hS (k_X13_ofSinger_0 l D cy ld ad am hD _ _ _ _ v13464 (hIF.weak) hIG hIR (by omega) (by omega)) ⟨callB_of 2 hts (wl_in mw_324) rfl rfl rfl (htl _ mw_5) (htl _ mw_321) hd_yX13_ofSinger ⟨(Nat.le_of_ble_eq_true rfl), (Nat.le_of_ble_eq_true rfl)⟩, htl _ mw_322, htl _ mw_323⟩ rfl hl.1 rfl (Nat.le_of_ble_eq_true rfl) dX13_decade_301 ⟨(Nat.le_of_ble_eq_true rfl), (Nat.le_of_ble_eq_true rfl)⟩ (fun v13600 H locs hpo hM hS => ?_)
                              have hq_v13600 := tk_rng v13600
                              refine mz_iast (x := v13600) hx hb hK hD hM hS 66 (Nat.le_of_ble_eq_true rfl) rfl (nn := 8) rfl rfl (by omega) (by omega) dX13_decade_304 (fun H locs R hM hS hw9 hj9 => ?_)
                              have hIR := hIR.put hw9 hj9 trivial
                              have hRR := mz_frp (K := [2, 3, 6, 42, 66, 67, 68]) (Fa := Ra) hj9 hRR (by decide)
                              have hrel : rK1 (Ra 3) (R 3) := (hj9 3 (by decide)) ▸ hrel
                              have hg_0 : R 3 0 = _ := (congrFun (hj9 3 (by decide)) 0).trans hg_0
                              have hf31 : R 3 1 = _ := (congrFun (hj9 3 (by decide)) 1).trans hf31
                              obtain ⟨v13603, h_v13603, e_v13603⟩ := tk_inc v13464 1 (by decide) (by omega) (by omega)
                              refine lv_iinc (v := v13603) (lv' := [(5, .int v13603), (3, .int v11232), (0, .ref am)]) hx hb dX13_decade_305 hl (k := 0) rfl e_v13603 (by decide) rfl (fun ls hl => ?_)
                              refine lv_goto (tgt := 282) hx hb dX13_decade_308 (by decide) ?_
                              exact ih_l13584 v13603 _ _ _ (by omega) (by omega) hM hS hIR hRR hrel hg_0 hf31 (by omega) _ (lv_sub hl [0, 1, 2] rfl)
                        have hk_0 : (0 : Int32).toInt = 0 := by decide
                        exact hl13584 9 0 _ _ _ (by omega) (by omega) hM hS hIR hRR hrel hg_0 hf31 (by omega) _ (lv_sub hl [0, 1, 2] rfl)
                      refine lv_icmp_ge (tgt := 279) hx hb dX13_decade_121 (by decide) (fun c9 => ?_) (fun c9 => ?_)
                      · have hc13362 : p2.toInt ≤ v11230.toInt := (fi_le rfl rfl).mp c9
                        exact hj13463 () _ (lv_sub hl [2, 3] rfl)
                      · have hc13362 : ¬ (p2.toInt ≤ v11230.toInt) := fun h9 => c9 ((fi_le rfl rfl).mpr h9)
                        refine lv_iload hx hb dX13_decade_124 (lv_at hl 1 rfl) ?_
                        refine lv_if_eq (tgt := 279) hx hb dX13_decade_126 (by decide) (fun c9 => ?_) (fun c9 => ?_)
                        · have hc13604 : v11231.toInt = 0 := (fi_eq rfl (show (0 : Int32).toInt = 0 by decide)).mp c9
                          exact hj13463 () _ (lv_sub hl [2, 3] rfl)
                        · have hc13604 : ¬ (v11231.toInt = 0) := fun h9 => c9 ((fi_eq rfl (show (0 : Int32).toInt = 0 by decide)).mpr h9)
                          refine lv_aload_n hx hb dX13_decade_129 rfl (lv_at hl 3 rfl) ?_
                          refine lv_iconst (v := 0) hx hb dX13_decade_130 (by decide) ?_
                          have hk_0 : (0 : Int32).toInt = 0 := by decide
                          refine mz_Vi (As := [.int 0]) (rest := []) ⟨hx, hb, hml, hown, hts⟩ hK hM hS (k_X13_drawSinger l D cy ld ad am hD _ _ _ _ 0 g0 hIF hIG hIR hg_0 hC.1) ⟨callB_of 1 hts (wl_in mw_1692) rfl rfl rfl (htl _ mw_5) (htl _ mw_1689) hd_yX13_drawSinger ⟨(Nat.le_of_ble_eq_true rfl), (Nat.le_of_ble_eq_true rfl)⟩, htl _ mw_1690, htl _ mw_1691⟩ rfl hl.1 rfl (Nat.le_of_ble_eq_true rfl) dX13_decade_131 ⟨(Nat.le_of_ble_eq_true rfl), (Nat.le_of_ble_eq_true rfl)⟩ (fun v13605 H locs F G R S hpo hM hS => ?_)
                          obtain ⟨hIF, hIG, hIR, hfr9, hrr9, hgr9, hpo13606, hpo13607, hpo13608, hpo13609⟩ := hpo
                          have hq_v13605 := tk_rng v13605
                          have hFF := mz_fr (K := [0, 1, 34, 38, 41, 69]) (Fa := Fa) hfr9 hFF (by decide)
                          have hRR := mz_fr (K := [2, 3, 6, 42, 66, 67, 68]) (Fa := Ra) hrr9 hRR (by decide)
                          have hGG := mz_fr (K := [39, 40, 47]) (Fa := Ga) hgr9 hGG (by decide)
                          have hrel : rK1 (Ra 3) (R 3) := hrel.trans (rK1.refl (hrr9 3 (by decide)))
                          have hg_0 : R 3 0 = _ := (congrFun (hrr9 3 (by decide)) 0).trans hg_0
                          have hf2 := (hfr9 0 (by decide)).trans hf2
                          have hf31 : R 3 1 = _ := (congrFun (hrr9 3 (by decide)) 1).trans hf31
                          have hf61 := (hfr9 69 (by decide)).trans hf61
                          have hC : 1 ≤ cn (R 3) (0 : Int32).toInt g0.toInt.toNat ∧ 1 ≤ cn (R 3) (1 : Int32).toInt g0.toInt.toNat := by rw [hrr9 3 (by decide)]; exact hC
                          refine lv_istore (lv' := [(6, .int v13605), (5, .int v11230), (4, .int v11231), (3, .int v11232), (0, .ref am), (2, .int p2)]) hx hb dX13_decade_134 hl (by decide) rfl (fun ls hl => ?_)
                          refine lv_aload_n hx hb dX13_decade_136 rfl (lv_at hl 4 rfl) ?_
                          refine lv_iconst (v := 1) hx hb dX13_decade_137 (by decide) ?_
                          have hk_1 : (1 : Int32).toInt = 1 := by decide
                          refine mz_Vi (As := [.int 1]) (rest := []) ⟨hx, hb, hml, hown, hts⟩ hK hM hS (k_X13_drawSinger l D cy ld ad am hD _ _ _ _ 1 g0 hIF hIG hIR hg_0 hC.2) ⟨callB_of 1 hts (wl_in mw_1692) rfl rfl rfl (htl _ mw_5) (htl _ mw_1689) hd_yX13_drawSinger ⟨(Nat.le_of_ble_eq_true rfl), (Nat.le_of_ble_eq_true rfl)⟩, htl _ mw_1690, htl _ mw_1691⟩ rfl hl.1 rfl (Nat.le_of_ble_eq_true rfl) dX13_decade_138 ⟨(Nat.le_of_ble_eq_true rfl), (Nat.le_of_ble_eq_true rfl)⟩ (fun v13611 H locs F G R S hpo hM hS => ?_)
                          obtain ⟨hIF, hIG, hIR, hfr9, hrr9, hgr9, hpo13612, hpo13613, hpo13614, hpo13615⟩ := hpo
                          have hq_v13611 := tk_rng v13611
                          have hFF := mz_fr (K := [0, 1, 34, 38, 41, 69]) (Fa := Fa) hfr9 hFF (by decide)
                          have hRR := mz_fr (K := [2, 3, 6, 42, 66, 67, 68]) (Fa := Ra) hrr9 hRR (by decide)
                          have hGG := mz_fr (K := [39, 40, 47]) (Fa := Ga) hgr9 hGG (by decide)
                          have hrel : rK1 (Ra 3) (R 3) := hrel.trans (rK1.refl (hrr9 3 (by decide)))
                          have hg_0 : R 3 0 = _ := (congrFun (hrr9 3 (by decide)) 0).trans hg_0
                          have hf2 := (hfr9 0 (by decide)).trans hf2
                          have hf31 : R 3 1 = _ := (congrFun (hrr9 3 (by decide)) 1).trans hf31
                          have hf61 := (hfr9 69 (by decide)).trans hf61
                          have hC : 1 ≤ cn (R 3) (0 : Int32).toInt g0.toInt.toNat ∧ 1 ≤ cn (R 3) (1 : Int32).toInt g0.toInt.toNat := by rw [hrr9 3 (by decide)]; exact hC
                          refine lv_istore (lv' := [(7, .int v13611), (6, .int v13605), (5, .int v11230), (4, .int v11231), (3, .int v11232), (0, .ref am), (2, .int p2)]) hx hb dX13_decade_141 hl (by decide) rfl (fun ls hl => ?_)
                          refine lv_aload_n hx hb dX13_decade_143 rfl (lv_at hl 5 rfl) ?_
                          refine lv_bipush (v := 20) hx hb dX13_decade_144 (by decide) ?_
                          have hk_20 : (20 : Int32).toInt = 20 := by decide
                          refine mz_Vi (As := [.int 20]) (rest := []) ⟨hx, hb, hml, hown, hts⟩ hK hM hS (k_X13_draw l D cy ld ad am hD _ _ _ _ 20 hIF hIG hIR (by omega) (by omega)) ⟨callB_of 1 hts (wl_in mw_1385) rfl rfl rfl (htl _ mw_5) (htl _ mw_1382) hd_yX13_draw ⟨(Nat.le_of_ble_eq_true rfl), (Nat.le_of_ble_eq_true rfl)⟩, htl _ mw_1383, htl _ mw_1384⟩ rfl hl.1 rfl (Nat.le_of_ble_eq_true rfl) dX13_decade_146 ⟨(Nat.le_of_ble_eq_true rfl), (Nat.le_of_ble_eq_true rfl)⟩ (fun v13617 H locs F G R S hpo hM hS => ?_)
                          obtain ⟨hIF, hIG, hIR, hfr9, hrr9, hgr9, hpo13618, hpo13619, hpo13620, hpo13621⟩ := hpo
                          have hq_v13617 := tk_rng v13617
                          have hFF := mz_fr (K := [0, 1, 34, 38, 41, 69]) (Fa := Fa) hfr9 hFF (by decide)
                          have hRR := mz_fr (K := [2, 3, 6, 42, 66, 67, 68]) (Fa := Ra) hrr9 hRR (by decide)
                          have hGG := mz_fr (K := [39, 40, 47]) (Fa := Ga) hgr9 hGG (by decide)
                          have hrel : rK1 (Ra 3) (R 3) := hrel.trans (rK1.refl (hrr9 3 (by decide)))
                          have hg_0 : R 3 0 = _ := (congrFun (hrr9 3 (by decide)) 0).trans hg_0
                          have hf2 := (hfr9 0 (by decide)).trans hf2
                          have hf31 : R 3 1 = _ := (congrFun (hrr9 3 (by decide)) 1).trans hf31
                          have hf61 := (hfr9 69 (by decide)).trans hf61
                          have hC : 1 ≤ cn (R 3) (0 : Int32).toInt g0.toInt.toNat ∧ 1 ≤ cn (R 3) (1 : Int32).toInt g0.toInt.toNat := by rw [hrr9 3 (by decide)]; exact hC
                          refine lv_iconst (v := 1) hx hb dX13_decade_149 (by decide) ?_
                          refine lv_iadd hx hb dX13_decade_150 ?_
                          refine tk_add rfl (show (1 : Int32).toInt = 1 by decide) (by omega) (by omega) (fun v13623 h_v13623 => ?_)
                          refine lv_istore (lv' := [(8, .int v13623), (7, .int v13611), (6, .int v13605), (5, .int v11230), (4, .int v11231), (3, .int v11232), (0, .ref am), (2, .int p2)]) hx hb dX13_decade_151 hl (by decide) rfl (fun ls hl => ?_)
                          refine lv_aload_n hx hb dX13_decade_153 rfl (lv_at hl 6 rfl) ?_
                          refine lv_iload hx hb dX13_decade_154 (lv_at hl 2 rfl) ?_
                          refine lv_iconst (v := 0) hx hb dX13_decade_156 (by decide) ?_
                          have hk_0 : (0 : Int32).toInt = 0 := by decide
                          refine mz_Vj (As := [.int v13605, .int 0]) (rest := []) ⟨hx, hb, hml, hown, hts⟩ hK hM hS (k_X13_ofSinger_0 l D cy ld ad am hD _ _ _ _ v13605 (hIF.weak) hIG hIR (by omega) (by omega)) ⟨callB_of 2 hts (wl_in mw_324) rfl rfl rfl (htl _ mw_5) (htl _ mw_321) hd_yX13_ofSinger ⟨(Nat.le_of_ble_eq_true rfl), (Nat.le_of_ble_eq_true rfl)⟩, htl _ mw_322, htl _ mw_323⟩ rfl hl.1 rfl (Nat.le_of_ble_eq_true rfl) dX13_decade_157 ⟨(Nat.le_of_ble_eq_true rfl), (Nat.le_of_ble_eq_true rfl)⟩ (fun v13624 H locs hpo hM hS => ?_)
                          have hq_v13624 := tk_rng v13624
                          refine lv_if_le (tgt := 245) hx hb dX13_decade_160 (by decide) (fun c9 => ?_) (fun c9 => ?_)
                          · have hc13626 : v13624.toInt ≤ 0 := (fi_le rfl (show (0 : Int32).toInt = 0 by decide)).mp c9
                            refine lv_aload_n hx hb dX13_decade_245 rfl (lv_at hl 6 rfl) ?_
                            refine lv_iconst (v := 0) hx hb dX13_decade_246 (by decide) ?_
                            obtain ⟨v13628, hf13627⟩ : ∃ z : Int32, R 3 6 = z := ⟨_, rfl⟩
                            have hq_v13628 := tk_rng v13628
                            have hk_0 : (0 : Int32).toInt = 0 := by decide
                            refine mz_Vj (As := [.int 0]) (rest := []) ⟨hx, hb, hml, hown, hts⟩ hK hM hS (k_X13_term_0 l D cy ld ad am hD _ _ _ _ v13628 hf13627) ⟨callB_of 1 hts (wl_in mw_1042) rfl rfl rfl (htl _ mw_5) (htl _ mw_1039) hd_yX13_term ⟨(Nat.le_of_ble_eq_true rfl), (Nat.le_of_ble_eq_true rfl)⟩, htl _ mw_1040, htl _ mw_1041⟩ rfl hl.1 rfl (Nat.le_of_ble_eq_true rfl) dX13_decade_247 ⟨(Nat.le_of_ble_eq_true rfl), (Nat.le_of_ble_eq_true rfl)⟩ (fun v13629 H locs hpo hM hS => ?_)
                            have hpo13630 := hpo
                            have hq_v13629 := tk_rng v13629
                            refine lv_sipush (v := 999) hx hb dX13_decade_250 (by decide) ?_
                            have hj13635 : ∀ (v13634 : Int32), (0 ≤ v11231.toInt + (-1) * v13634.toInt) → (0 ≤ (-1) * v11231.toInt + v13634.toInt + 1) → ∀ ls : Array Slot, lv_has ls 10 [(5, .int v11230), (3, .int v11232), (0, .ref am), (2, .int p2)] → W p l e ({ frames := 12, cells := 0, slots := 0, locals := 770 }) s m args below meth c H locs 0 0 (MQ below (mz_i D cy ad am (fun r F G R S => mz_IF true F ∧ mz_IG G ∧ mz_IR [] true R ∧ (∀ k : Nat, k ∉ ([0, 1, 34, 38, 41, 69] : List Nat) → F k = Fa k) ∧ (∀ k : Nat, k ∉ ([2, 3, 6, 42, 66, 67, 68] : List Nat) → R k = Ra k) ∧ (∀ k : Nat, k ∉ ([39, 40, 47] : List Nat) → G k = Ga k) ∧ rK1 (Ra 3) (R 3) ∧ (-3) ≤ r.toInt ∧ r.toInt ≤ 60)) args s 0 0 (mz_W ad am)) (F0 m 261 ls [.int v13634]) := by
                              intro v13634 hq0_j13635 hq1_j13635 ls hl
                              refine lv_istore (lv' := [(4, .int v13634), (5, .int v11230), (3, .int v11232), (0, .ref am), (2, .int p2)]) hx hb dX13_decade_261 hl (by decide) rfl (fun ls hl => ?_)
                              refine lv_iload hx hb dX13_decade_263 (lv_at hl 0 rfl) ?_
                              refine lv_if_eq (tgt := 273) hx hb dX13_decade_265 (by decide) (fun c9 => ?_) (fun c9 => ?_)
                              · have hc13636 : v13634.toInt = 0 := (fi_eq rfl (show (0 : Int32).toInt = 0 by decide)).mp c9
                                obtain ⟨v13637, h_v13637, e_v13637⟩ := tk_inc v11230 1 (by decide) (by omega) (by omega)
                                refine lv_iinc (v := v13637) (lv' := [(5, .int v13637), (4, .int v13634), (3, .int v11232), (0, .ref am), (2, .int p2)]) hx hb dX13_decade_273 hl (k := 1) rfl e_v13637 (by decide) rfl (fun ls hl => ?_)
                                refine lv_goto (tgt := 118) hx hb dX13_decade_276 (by decide) ?_
                                exact ih_l13361 v13637 v13634 v11232 _ _ _ _ _ _ (by omega) (by omega) (by omega) (by omega) (by omega) hM hS hIF hIG hIR hFF hGG hRR hrel hg_0 hf2 hf31 hf61 hC (by omega) _ (lv_sub hl [0, 1, 2, 3, 4] rfl)
                              · have hc13636 : ¬ (v13634.toInt = 0) := fun h9 => c9 ((fi_eq rfl (show (0 : Int32).toInt = 0 by decide)).mpr h9)
                                refine lv_aload_n hx hb dX13_decade_268 rfl (lv_at hl 3 rfl) ?_
                                refine mz_Vi (As := []) (rest := []) ⟨hx, hb, hml, hown, hts⟩ hK hM hS (k_X13_dawnIt l D cy ld ad am hD _ _ _ _ hIF hIG hIR) ⟨callB_of 0 hts (wl_in mw_1149) rfl rfl rfl (htl _ mw_5) (htl _ mw_1146) hd_yX13_dawnIt ⟨(Nat.le_of_ble_eq_true rfl), (Nat.le_of_ble_eq_true rfl)⟩, htl _ mw_1147, htl _ mw_1148⟩ rfl hl.1 rfl (Nat.le_of_ble_eq_true rfl) dX13_decade_269 ⟨(Nat.le_of_ble_eq_true rfl), (Nat.le_of_ble_eq_true rfl)⟩ (fun v13638 H locs F G R S hpo hM hS => ?_)
                                obtain ⟨hIF, hIG, hIR, hfr9, hrr9, hgr9, hrel9, hpo13639, hpo13640, hpo13641⟩ := hpo
                                have hq_v13638 := tk_rng v13638
                                have hFF := mz_fr (K := [0, 1, 34, 38, 41, 69]) (Fa := Fa) hfr9 hFF (by decide)
                                have hRR := mz_fr (K := [2, 3, 6, 42, 66, 67, 68]) (Fa := Ra) hrr9 hRR (by decide)
                                have hGG := mz_fr (K := [39, 40, 47]) (Fa := Ga) hgr9 hGG (by decide)
                                have hrel := hrel.trans hrel9.k1
                                have hg_0 : R 3 0 = _ := (hrel9 0 (by omega)).trans hg_0
                                have hf2 := (hfr9 0 (by decide)).trans hf2
                                have hf31 : R 3 1 = _ := (hrel9 1 (by omega)).trans hf31
                                have hf61 := (hfr9 69 (by decide)).trans hf61
                                have hC : 1 ≤ cn (R 3) (0 : Int32).toInt g0.toInt.toNat ∧ 1 ≤ cn (R 3) (1 : Int32).toInt g0.toInt.toNat := by rw [cn.rel hrel9 _ (by omega), cn.rel hrel9 _ (by omega)]; exact hC
                                refine lv_pop hx hb dX13_decade_272 rfl ?_
                                obtain ⟨v13643, h_v13643, e_v13643⟩ := tk_inc v11230 1 (by decide) (by omega) (by omega)
                                refine lv_iinc (v := v13643) (lv' := [(5, .int v13643), (4, .int v13634), (3, .int v11232), (0, .ref am), (2, .int p2)]) hx hb dX13_decade_273 hl (k := 1) rfl e_v13643 (by decide) rfl (fun ls hl => ?_)
                                refine lv_goto (tgt := 118) hx hb dX13_decade_276 (by decide) ?_
                                exact ih_l13361 v13643 v13634 v11232 _ _ _ _ _ _ (by omega) (by omega) (by omega) (by omega) (by omega) hM hS hIF hIG hIR hFF hGG hRR hrel hg_0 hf2 hf31 hf61 hC (by omega) _ (lv_sub hl [0, 1, 2, 3, 4] rfl)
                            refine lv_icmp_ge (tgt := 260) hx hb dX13_decade_253 (by decide) (fun c9 => ?_) (fun c9 => ?_)
                            · have hc13632 : 999 ≤ v13629.toInt := (fi_le (show (999 : Int32).toInt = 999 by decide) rfl).mp c9
                              refine lv_iconst (v := 0) hx hb dX13_decade_260 (by decide) ?_
                              have hk_0 : (0 : Int32).toInt = 0 := by decide
                              exact hj13635 0 (by omega) (by omega) _ (lv_sub hl [3, 5, 6, 7] rfl)
                            · have hc13632 : ¬ (999 ≤ v13629.toInt) := fun h9 => c9 ((fi_le (show (999 : Int32).toInt = 999 by decide) rfl).mpr h9)
                              refine lv_iconst (v := 1) hx hb dX13_decade_256 (by decide) ?_
                              refine lv_goto (tgt := 261) hx hb dX13_decade_257 (by decide) ?_
                              have hk_1 : (1 : Int32).toInt = 1 := by decide
                              exact hj13635 1 (by omega) (by omega) _ (lv_sub hl [3, 5, 6, 7] rfl)
                          · have hc13626 : ¬ (v13624.toInt ≤ 0) := fun h9 => c9 ((fi_le rfl (show (0 : Int32).toInt = 0 by decide)).mpr h9)
                            refine lv_aload_n hx hb dX13_decade_163 rfl (lv_at hl 6 rfl) ?_
                            refine lv_iload hx hb dX13_decade_164 (lv_at hl 1 rfl) ?_
                            refine lv_iconst (v := 0) hx hb dX13_decade_166 (by decide) ?_
                            have hk_0 : (0 : Int32).toInt = 0 := by decide
                            refine mz_Vj (As := [.int v13611, .int 0]) (rest := []) ⟨hx, hb, hml, hown, hts⟩ hK hM hS (k_X13_ofSinger_0 l D cy ld ad am hD _ _ _ _ v13611 (hIF.weak) hIG hIR (by omega) (by omega)) ⟨callB_of 2 hts (wl_in mw_324) rfl rfl rfl (htl _ mw_5) (htl _ mw_321) hd_yX13_ofSinger ⟨(Nat.le_of_ble_eq_true rfl), (Nat.le_of_ble_eq_true rfl)⟩, htl _ mw_322, htl _ mw_323⟩ rfl hl.1 rfl (Nat.le_of_ble_eq_true rfl) dX13_decade_167 ⟨(Nat.le_of_ble_eq_true rfl), (Nat.le_of_ble_eq_true rfl)⟩ (fun v13644 H locs hpo hM hS => ?_)
                            have hq_v13644 := tk_rng v13644
                            refine lv_if_le (tgt := 245) hx hb dX13_decade_170 (by decide) (fun c9 => ?_) (fun c9 => ?_)
                            · have hc13646 : v13644.toInt ≤ 0 := (fi_le rfl (show (0 : Int32).toInt = 0 by decide)).mp c9
                              refine lv_aload_n hx hb dX13_decade_245 rfl (lv_at hl 6 rfl) ?_
                              refine lv_iconst (v := 0) hx hb dX13_decade_246 (by decide) ?_
                              obtain ⟨v13648, hf13647⟩ : ∃ z : Int32, R 3 6 = z := ⟨_, rfl⟩
                              have hq_v13648 := tk_rng v13648
                              have hk_0 : (0 : Int32).toInt = 0 := by decide
                              refine mz_Vj (As := [.int 0]) (rest := []) ⟨hx, hb, hml, hown, hts⟩ hK hM hS (k_X13_term_0 l D cy ld ad am hD _ _ _ _ v13648 hf13647) ⟨callB_of 1 hts (wl_in mw_1042) rfl rfl rfl (htl _ mw_5) (htl _ mw_1039) hd_yX13_term ⟨(Nat.le_of_ble_eq_true rfl), (Nat.le_of_ble_eq_true rfl)⟩, htl _ mw_1040, htl _ mw_1041⟩ rfl hl.1 rfl (Nat.le_of_ble_eq_true rfl) dX13_decade_247 ⟨(Nat.le_of_ble_eq_true rfl), (Nat.le_of_ble_eq_true rfl)⟩ (fun v13649 H locs hpo hM hS => ?_)
                              have hpo13650 := hpo
                              have hq_v13649 := tk_rng v13649
                              refine lv_sipush (v := 999) hx hb dX13_decade_250 (by decide) ?_
                              have hj13655 : ∀ (v13654 : Int32), (0 ≤ v11231.toInt + (-1) * v13654.toInt) → (0 ≤ (-1) * v11231.toInt + v13654.toInt + 1) → ∀ ls : Array Slot, lv_has ls 10 [(5, .int v11230), (3, .int v11232), (0, .ref am), (2, .int p2)] → W p l e ({ frames := 12, cells := 0, slots := 0, locals := 770 }) s m args below meth c H locs 0 0 (MQ below (mz_i D cy ad am (fun r F G R S => mz_IF true F ∧ mz_IG G ∧ mz_IR [] true R ∧ (∀ k : Nat, k ∉ ([0, 1, 34, 38, 41, 69] : List Nat) → F k = Fa k) ∧ (∀ k : Nat, k ∉ ([2, 3, 6, 42, 66, 67, 68] : List Nat) → R k = Ra k) ∧ (∀ k : Nat, k ∉ ([39, 40, 47] : List Nat) → G k = Ga k) ∧ rK1 (Ra 3) (R 3) ∧ (-3) ≤ r.toInt ∧ r.toInt ≤ 60)) args s 0 0 (mz_W ad am)) (F0 m 261 ls [.int v13654]) := by
                                intro v13654 hq0_j13655 hq1_j13655 ls hl
                                refine lv_istore (lv' := [(4, .int v13654), (5, .int v11230), (3, .int v11232), (0, .ref am), (2, .int p2)]) hx hb dX13_decade_261 hl (by decide) rfl (fun ls hl => ?_)
                                refine lv_iload hx hb dX13_decade_263 (lv_at hl 0 rfl) ?_
                                refine lv_if_eq (tgt := 273) hx hb dX13_decade_265 (by decide) (fun c9 => ?_) (fun c9 => ?_)
                                · have hc13656 : v13654.toInt = 0 := (fi_eq rfl (show (0 : Int32).toInt = 0 by decide)).mp c9
                                  obtain ⟨v13657, h_v13657, e_v13657⟩ := tk_inc v11230 1 (by decide) (by omega) (by omega)
                                  refine lv_iinc (v := v13657) (lv' := [(5, .int v13657), (4, .int v13654), (3, .int v11232), (0, .ref am), (2, .int p2)]) hx hb dX13_decade_273 hl (k := 1) rfl e_v13657 (by decide) rfl (fun ls hl => ?_)
                                  refine lv_goto (tgt := 118) hx hb dX13_decade_276 (by decide) ?_
                                  exact ih_l13361 v13657 v13654 v11232 _ _ _ _ _ _ (by omega) (by omega) (by omega) (by omega) (by omega) hM hS hIF hIG hIR hFF hGG hRR hrel hg_0 hf2 hf31 hf61 hC (by omega) _ (lv_sub hl [0, 1, 2, 3, 4] rfl)
                                · have hc13656 : ¬ (v13654.toInt = 0) := fun h9 => c9 ((fi_eq rfl (show (0 : Int32).toInt = 0 by decide)).mpr h9)
                                  refine lv_aload_n hx hb dX13_decade_268 rfl (lv_at hl 3 rfl) ?_
                                  refine mz_Vi (As := []) (rest := []) ⟨hx, hb, hml, hown, hts⟩ hK hM hS (k_X13_dawnIt l D cy ld ad am hD _ _ _ _ hIF hIG hIR) ⟨callB_of 0 hts (wl_in mw_1149) rfl rfl rfl (htl _ mw_5) (htl _ mw_1146) hd_yX13_dawnIt ⟨(Nat.le_of_ble_eq_true rfl), (Nat.le_of_ble_eq_true rfl)⟩, htl _ mw_1147, htl _ mw_1148⟩ rfl hl.1 rfl (Nat.le_of_ble_eq_true rfl) dX13_decade_269 ⟨(Nat.le_of_ble_eq_true rfl), (Nat.le_of_ble_eq_true rfl)⟩ (fun v13658 H locs F G R S hpo hM hS => ?_)
                                  obtain ⟨hIF, hIG, hIR, hfr9, hrr9, hgr9, hrel9, hpo13659, hpo13660, hpo13661⟩ := hpo
                                  have hq_v13658 := tk_rng v13658
                                  have hFF := mz_fr (K := [0, 1, 34, 38, 41, 69]) (Fa := Fa) hfr9 hFF (by decide)
                                  have hRR := mz_fr (K := [2, 3, 6, 42, 66, 67, 68]) (Fa := Ra) hrr9 hRR (by decide)
                                  have hGG := mz_fr (K := [39, 40, 47]) (Fa := Ga) hgr9 hGG (by decide)
                                  have hrel := hrel.trans hrel9.k1
                                  have hg_0 : R 3 0 = _ := (hrel9 0 (by omega)).trans hg_0
                                  have hf2 := (hfr9 0 (by decide)).trans hf2
                                  have hf31 : R 3 1 = _ := (hrel9 1 (by omega)).trans hf31
                                  have hf61 := (hfr9 69 (by decide)).trans hf61
                                  have hC : 1 ≤ cn (R 3) (0 : Int32).toInt g0.toInt.toNat ∧ 1 ≤ cn (R 3) (1 : Int32).toInt g0.toInt.toNat := by rw [cn.rel hrel9 _ (by omega), cn.rel hrel9 _ (by omega)]; exact hC
                                  refine lv_pop hx hb dX13_decade_272 rfl ?_
                                  obtain ⟨v13663, h_v13663, e_v13663⟩ := tk_inc v11230 1 (by decide) (by omega) (by omega)
                                  refine lv_iinc (v := v13663) (lv' := [(5, .int v13663), (4, .int v13654), (3, .int v11232), (0, .ref am), (2, .int p2)]) hx hb dX13_decade_273 hl (k := 1) rfl e_v13663 (by decide) rfl (fun ls hl => ?_)
                                  refine lv_goto (tgt := 118) hx hb dX13_decade_276 (by decide) ?_
                                  exact ih_l13361 v13663 v13654 v11232 _ _ _ _ _ _ (by omega) (by omega) (by omega) (by omega) (by omega) hM hS hIF hIG hIR hFF hGG hRR hrel hg_0 hf2 hf31 hf61 hC (by omega) _ (lv_sub hl [0, 1, 2, 3, 4] rfl)
                              refine lv_icmp_ge (tgt := 260) hx hb dX13_decade_253 (by decide) (fun c9 => ?_) (fun c9 => ?_)
                              · have hc13652 : 999 ≤ v13649.toInt := (fi_le (show (999 : Int32).toInt = 999 by decide) rfl).mp c9
                                refine lv_iconst (v := 0) hx hb dX13_decade_260 (by decide) ?_
                                have hk_0 : (0 : Int32).toInt = 0 := by decide
                                exact hj13655 0 (by omega) (by omega) _ (lv_sub hl [3, 5, 6, 7] rfl)
                              · have hc13652 : ¬ (999 ≤ v13649.toInt) := fun h9 => c9 ((fi_le (show (999 : Int32).toInt = 999 by decide) rfl).mpr h9)
                                refine lv_iconst (v := 1) hx hb dX13_decade_256 (by decide) ?_
                                refine lv_goto (tgt := 261) hx hb dX13_decade_257 (by decide) ?_
                                have hk_1 : (1 : Int32).toInt = 1 := by decide
                                exact hj13655 1 (by omega) (by omega) _ (lv_sub hl [3, 5, 6, 7] rfl)
                            · have hc13646 : ¬ (v13644.toInt ≤ 0) := fun h9 => c9 ((fi_le rfl (show (0 : Int32).toInt = 0 by decide)).mpr h9)
                              refine lv_aload_n hx hb dX13_decade_173 rfl (lv_at hl 6 rfl) ?_
                              refine lv_iload hx hb dX13_decade_174 (lv_at hl 2 rfl) ?_
                              refine lv_iload hx hb dX13_decade_176 (lv_at hl 1 rfl) ?_
                              refine lv_iload hx hb dX13_decade_178 (lv_at hl 0 rfl) ?_
                              refine lv_bipush (v := (-2)) hx hb dX13_decade_180 (by decide) ?_
                              refine lv_bipush (v := (-2)) hx hb dX13_decade_182 (by decide) ?_
                              have hk_m2 : ((-2) : Int32).toInt = (-2) := by decide
                              have hk_m2 : ((-2) : Int32).toInt = (-2) := by decide
                              refine mz_Vi (As := [.int v13605, .int v13611, .int v13623, .int (-2), .int (-2)]) (rest := []) ⟨hx, hb, hml, hown, hts⟩ hK hM hS (k_X13_result l D cy ld ad am hD _ _ _ _ v13605 v13611 v13623 (-2) (-2) hIF hIG hIR (by omega) (by omega) (by omega) (by omega) (by omega) (by omega) (by omega) (by omega) (by omega) (by omega)) ⟨callB_of 5 hts (wl_in mw_1373) rfl rfl rfl (htl _ mw_5) (htl _ mw_1370) hd_yX13_result ⟨(Nat.le_of_ble_eq_true rfl), (Nat.le_of_ble_eq_true rfl)⟩, htl _ mw_1371, htl _ mw_1372⟩ rfl hl.1 rfl (Nat.le_of_ble_eq_true rfl) dX13_decade_184 ⟨(Nat.le_of_ble_eq_true rfl), (Nat.le_of_ble_eq_true rfl)⟩ (fun v13664 H locs F G R S hpo hM hS => ?_)
                              obtain ⟨hIF, hIG, hIR, hfr9, hrr9, hgr9, hrel9, hpo13665, hpo13666⟩ := hpo
                              have hq_v13664 := tk_rng v13664
                              have hFF := mz_fr (K := [0, 1, 34, 38, 41, 69]) (Fa := Fa) hfr9 hFF (by decide)
                              have hRR := mz_fr (K := [2, 3, 6, 42, 66, 67, 68]) (Fa := Ra) hrr9 hRR (by decide)
                              have hGG := mz_fr (K := [39, 40, 47]) (Fa := Ga) hgr9 hGG (by decide)
                              have hrel := hrel.trans hrel9.k1
                              have hg_0 : R 3 0 = _ := (hrel9 0 (by omega)).trans hg_0
                              have hf2 := (hfr9 0 (by decide)).trans hf2
                              have hf31 : R 3 1 = _ := (hrel9 1 (by omega)).trans hf31
                              have hf61 := (hfr9 69 (by decide)).trans hf61
                              have hC : 1 ≤ cn (R 3) (0 : Int32).toInt g0.toInt.toNat ∧ 1 ≤ cn (R 3) (1 : Int32).toInt g0.toInt.toNat := by rw [cn.rel hrel9 _ (by omega), cn.rel hrel9 _ (by omega)]; exact hC
                              refine lv_istore (lv' := [(9, .int v13664), (8, .int v13623), (7, .int v13611), (6, .int v13605), (5, .int v11230), (4, .int v11231), (3, .int v11232), (0, .ref am), (2, .int p2)]) hx hb dX13_decade_187 hl (by decide) rfl (fun ls hl => ?_)
                              refine lv_iload_n hx hb dX13_decade_189 rfl (lv_at hl 6 rfl) ?_
                              refine lv_iload hx hb dX13_decade_190 (lv_at hl 0 rfl) ?_
                              refine lv_iconst (v := 1) hx hb dX13_decade_192 (by decide) ?_
                              have hj13671 : ∀ (v13670 : Int32), (0 ≤ v13664.toInt + (-1) * v13670.toInt + 1) → (0 ≤ (-1) * v13664.toInt + v13670.toInt) → (0 ≤ v11231.toInt + (-1) * v13670.toInt) → (0 ≤ (-1) * v11231.toInt + v13670.toInt + 1) → ∀ ls : Array Slot, lv_has ls 10 [(9, .int v13664), (7, .int v13611), (6, .int v13605), (5, .int v11230), (0, .ref am), (2, .int p2)] → W p l e ({ frames := 12, cells := 0, slots := 0, locals := 770 }) s m args below meth c H locs 0 0 (MQ below (mz_i D cy ad am (fun r F G R S => mz_IF true F ∧ mz_IG G ∧ mz_IR [] true R ∧ (∀ k : Nat, k ∉ ([0, 1, 34, 38, 41, 69] : List Nat) → F k = Fa k) ∧ (∀ k : Nat, k ∉ ([2, 3, 6, 42, 66, 67, 68] : List Nat) → R k = Ra k) ∧ (∀ k : Nat, k ∉ ([39, 40, 47] : List Nat) → G k = Ga k) ∧ rK1 (Ra 3) (R 3) ∧ (-3) ≤ r.toInt ∧ r.toInt ≤ 60)) args s 0 0 (mz_W ad am)) (F0 m 201 ls [.int v13670, .int v11232]) := by
                                intro v13670 hq0_j13671 hq1_j13671 hq2_j13671 hq3_j13671 ls hl
                                refine lv_iadd hx hb dX13_decade_201 ?_
                                refine tk_add rfl rfl (by omega) (by omega) (fun v13672 h_v13672 => ?_)
                                refine lv_istore_n (lv' := [(3, .int v13672), (9, .int v13664), (7, .int v13611), (6, .int v13605), (5, .int v11230), (0, .ref am), (2, .int p2)]) hx hb dX13_decade_202 rfl hl (by decide) rfl (fun ls hl => ?_)
                                refine lv_aload_n hx hb dX13_decade_203 rfl (lv_at hl 5 rfl) ?_
                                refine mz_getR hx hb htl hown hK hM 68 (Nat.le_of_ble_eq_true rfl) (Nat.le_of_ble_eq_true rfl) (htl _ mw_243) (fun _ h9 => h9) dX13_decade_204 ?_
                                refine lv_iload hx hb dX13_decade_207 (lv_at hl 2 rfl) ?_
                                refine lv_dup2_11 hx hb dX13_decade_209 rfl rfl ?_
                                refine mz_iald hx hb hK hM 68 (Nat.le_of_ble_eq_true rfl) rfl (nn := 8) rfl rfl (by omega) (by omega) dX13_decade_210 (fun v13673 e_v13673 => ?_)
                                have hq_v13673 := tk_rng v13673
                                refine lv_iload hx hb dX13_decade_211 (lv_at hl 1 rfl) ?_
                                refine lv_iconst (v := 1) hx hb dX13_decade_213 (by decide) ?_
                                have hj13677 : ∀ (v13676 : Int32), (0 ≤ v13676.toInt) → (v13676.toInt ≤ 1) → (0 ≤ v13672.toInt + (-1) * v13676.toInt) → (0 ≤ v13664.toInt + (-1) * v13676.toInt + 1) → (0 ≤ (-1) * v13664.toInt + v13676.toInt) → ∀ ls : Array Slot, lv_has ls 10 [(3, .int v13672), (9, .int v13664), (6, .int v13605), (5, .int v11230), (0, .ref am), (2, .int p2)] → W p l e ({ frames := 12, cells := 0, slots := 0, locals := 770 }) s m args below meth c H locs 0 0 (MQ below (mz_i D cy ad am (fun r F G R S => mz_IF true F ∧ mz_IG G ∧ mz_IR [] true R ∧ (∀ k : Nat, k ∉ ([0, 1, 34, 38, 41, 69] : List Nat) → F k = Fa k) ∧ (∀ k : Nat, k ∉ ([2, 3, 6, 42, 66, 67, 68] : List Nat) → R k = Ra k) ∧ (∀ k : Nat, k ∉ ([39, 40, 47] : List Nat) → G k = Ga k) ∧ rK1 (Ra 3) (R 3) ∧ (-3) ≤ r.toInt ∧ r.toInt ≤ 60)) args s 0 0 (mz_W ad am)) (F0 m 222 ls [.int v13676, .int v13673, .int v13611, .ref (ad 68)]) := by
                                  intro v13676 hq0_j13677 hq1_j13677 hq2_j13677 hq3_j13677 hq4_j13677 ls hl
                                  refine lv_iadd hx hb dX13_decade_222 ?_
                                  obtain ⟨v13678, hm_v13678⟩ : ∃ z : Int32, v13673 + v13676 = z := ⟨_, rfl⟩
                                  refine fx_ti hm_v13678 ?_
                                  refine mz_iast (x := v13678) hx hb hK hD hM hS 68 (Nat.le_of_ble_eq_true rfl) rfl (nn := 8) rfl rfl (by omega) (by omega) dX13_decade_223 (fun H locs R hM hS hw9 hj9 => ?_)
                                  have hIR := hIR.put hw9 hj9 trivial
                                  have hC : 1 ≤ cn (R 3) (0 : Int32).toInt g0.toInt.toNat ∧ 1 ≤ cn (R 3) (1 : Int32).toInt g0.toInt.toNat := by rw [hj9 3 (by decide)]; exact hC
                                  have hRR := mz_frp (K := [2, 3, 6, 42, 66, 67, 68]) (Fa := Ra) hj9 hRR (by decide)
                                  have hrel : rK1 (Ra 3) (R 3) := (hj9 3 (by decide)) ▸ hrel
                                  have hg_0 : R 3 0 = _ := (congrFun (hj9 3 (by decide)) 0).trans hg_0
                                  have hf31 : R 3 1 = _ := (congrFun (hj9 3 (by decide)) 1).trans hf31
                                  refine lv_aload_n hx hb dX13_decade_224 rfl (lv_at hl 4 rfl) ?_
                                  refine mz_getR hx hb htl hown hK hM 68 (Nat.le_of_ble_eq_true rfl) (Nat.le_of_ble_eq_true rfl) (htl _ mw_243) (fun _ h9 => h9) dX13_decade_225 ?_
                                  refine lv_iload hx hb dX13_decade_228 (lv_at hl 2 rfl) ?_
                                  refine lv_dup2_11 hx hb dX13_decade_230 rfl rfl ?_
                                  refine mz_iald hx hb hK hM 68 (Nat.le_of_ble_eq_true rfl) rfl (nn := 8) rfl rfl (by omega) (by omega) dX13_decade_231 (fun v13680 e_v13680 => ?_)
                                  have hq_v13680 := tk_rng v13680
                                  refine lv_iload hx hb dX13_decade_232 (lv_at hl 1 rfl) ?_
                                  refine lv_iconst (v := (-1)) hx hb dX13_decade_234 (by decide) ?_
                                  have hj13684 : ∀ (v13683 : Int32), (0 ≤ v13683.toInt) → (v13683.toInt ≤ 1) → ∀ ls : Array Slot, lv_has ls 10 [(3, .int v13672), (5, .int v11230), (0, .ref am), (2, .int p2)] → W p l e ({ frames := 12, cells := 0, slots := 0, locals := 770 }) s m args below meth c H locs 0 0 (MQ below (mz_i D cy ad am (fun r F G R S => mz_IF true F ∧ mz_IG G ∧ mz_IR [] true R ∧ (∀ k : Nat, k ∉ ([0, 1, 34, 38, 41, 69] : List Nat) → F k = Fa k) ∧ (∀ k : Nat, k ∉ ([2, 3, 6, 42, 66, 67, 68] : List Nat) → R k = Ra k) ∧ (∀ k : Nat, k ∉ ([39, 40, 47] : List Nat) → G k = Ga k) ∧ rK1 (Ra 3) (R 3) ∧ (-3) ≤ r.toInt ∧ r.toInt ≤ 60)) args s 0 0 (mz_W ad am)) (F0 m 243 ls [.int v13683, .int v13680, .int v13605, .ref (ad 68)]) := by
                                    intro v13683 hq0_j13684 hq1_j13684 ls hl
                                    refine lv_iadd hx hb dX13_decade_243 ?_
                                    obtain ⟨v13685, hm_v13685⟩ : ∃ z : Int32, v13680 + v13683 = z := ⟨_, rfl⟩
                                    refine fx_ti hm_v13685 ?_
                                    refine mz_iast (x := v13685) hx hb hK hD hM hS 68 (Nat.le_of_ble_eq_true rfl) rfl (nn := 8) rfl rfl (by omega) (by omega) dX13_decade_244 (fun H locs R hM hS hw9 hj9 => ?_)
                                    have hIR := hIR.put hw9 hj9 trivial
                                    have hC : 1 ≤ cn (R 3) (0 : Int32).toInt g0.toInt.toNat ∧ 1 ≤ cn (R 3) (1 : Int32).toInt g0.toInt.toNat := by rw [hj9 3 (by decide)]; exact hC
                                    have hRR := mz_frp (K := [2, 3, 6, 42, 66, 67, 68]) (Fa := Ra) hj9 hRR (by decide)
                                    have hrel : rK1 (Ra 3) (R 3) := (hj9 3 (by decide)) ▸ hrel
                                    have hg_0 : R 3 0 = _ := (congrFun (hj9 3 (by decide)) 0).trans hg_0
                                    have hf31 : R 3 1 = _ := (congrFun (hj9 3 (by decide)) 1).trans hf31
                                    refine lv_aload_n hx hb dX13_decade_245 rfl (lv_at hl 2 rfl) ?_
                                    refine lv_iconst (v := 0) hx hb dX13_decade_246 (by decide) ?_
                                    obtain ⟨v13688, hf13687⟩ : ∃ z : Int32, R 3 6 = z := ⟨_, rfl⟩
                                    have hq_v13688 := tk_rng v13688
                                    have hk_0 : (0 : Int32).toInt = 0 := by decide
                                    refine mz_Vj (As := [.int 0]) (rest := []) ⟨hx, hb, hml, hown, hts⟩ hK hM hS (k_X13_term_0 l D cy ld ad am hD _ _ _ _ v13688 hf13687) ⟨callB_of 1 hts (wl_in mw_1042) rfl rfl rfl (htl _ mw_5) (htl _ mw_1039) hd_yX13_term ⟨(Nat.le_of_ble_eq_true rfl), (Nat.le_of_ble_eq_true rfl)⟩, htl _ mw_1040, htl _ mw_1041⟩ rfl hl.1 rfl (Nat.le_of_ble_eq_true rfl) dX13_decade_247 ⟨(Nat.le_of_ble_eq_true rfl), (Nat.le_of_ble_eq_true rfl)⟩ (fun v13689 H locs hpo hM hS => ?_)
                                    have hpo13690 := hpo
                                    have hq_v13689 := tk_rng v13689
                                    refine lv_sipush (v := 999) hx hb dX13_decade_250 (by decide) ?_
                                    have hj13695 : ∀ (v13694 : Int32), (0 ≤ v13694.toInt) → (v13694.toInt ≤ 1) → ∀ ls : Array Slot, lv_has ls 10 [(3, .int v13672), (5, .int v11230), (0, .ref am), (2, .int p2)] → W p l e ({ frames := 12, cells := 0, slots := 0, locals := 770 }) s m args below meth c H locs 0 0 (MQ below (mz_i D cy ad am (fun r F G R S => mz_IF true F ∧ mz_IG G ∧ mz_IR [] true R ∧ (∀ k : Nat, k ∉ ([0, 1, 34, 38, 41, 69] : List Nat) → F k = Fa k) ∧ (∀ k : Nat, k ∉ ([2, 3, 6, 42, 66, 67, 68] : List Nat) → R k = Ra k) ∧ (∀ k : Nat, k ∉ ([39, 40, 47] : List Nat) → G k = Ga k) ∧ rK1 (Ra 3) (R 3) ∧ (-3) ≤ r.toInt ∧ r.toInt ≤ 60)) args s 0 0 (mz_W ad am)) (F0 m 261 ls [.int v13694]) := by
                                      intro v13694 hq0_j13695 hq1_j13695 ls hl
                                      refine lv_istore (lv' := [(4, .int v13694), (3, .int v13672), (5, .int v11230), (0, .ref am), (2, .int p2)]) hx hb dX13_decade_261 hl (by decide) rfl (fun ls hl => ?_)
                                      refine lv_iload hx hb dX13_decade_263 (lv_at hl 0 rfl) ?_
                                      refine lv_if_eq (tgt := 273) hx hb dX13_decade_265 (by decide) (fun c9 => ?_) (fun c9 => ?_)
                                      · have hc13696 : v13694.toInt = 0 := (fi_eq rfl (show (0 : Int32).toInt = 0 by decide)).mp c9
                                        obtain ⟨v13697, h_v13697, e_v13697⟩ := tk_inc v11230 1 (by decide) (by omega) (by omega)
                                        refine lv_iinc (v := v13697) (lv' := [(5, .int v13697), (4, .int v13694), (3, .int v13672), (0, .ref am), (2, .int p2)]) hx hb dX13_decade_273 hl (k := 2) rfl e_v13697 (by decide) rfl (fun ls hl => ?_)
                                        refine lv_goto (tgt := 118) hx hb dX13_decade_276 (by decide) ?_
                                        exact ih_l13361 v13697 v13694 v13672 _ _ _ _ _ _ (by omega) (by omega) (by omega) (by omega) (by omega) hM hS hIF hIG hIR hFF hGG hRR hrel hg_0 hf2 hf31 hf61 hC (by omega) _ (lv_sub hl [0, 1, 2, 3, 4] rfl)
                                      · have hc13696 : ¬ (v13694.toInt = 0) := fun h9 => c9 ((fi_eq rfl (show (0 : Int32).toInt = 0 by decide)).mpr h9)
                                        refine lv_aload_n hx hb dX13_decade_268 rfl (lv_at hl 3 rfl) ?_
                                        refine mz_Vi (As := []) (rest := []) ⟨hx, hb, hml, hown, hts⟩ hK hM hS (k_X13_dawnIt l D cy ld ad am hD _ _ _ _ hIF hIG hIR) ⟨callB_of 0 hts (wl_in mw_1149) rfl rfl rfl (htl _ mw_5) (htl _ mw_1146) hd_yX13_dawnIt ⟨(Nat.le_of_ble_eq_true rfl), (Nat.le_of_ble_eq_true rfl)⟩, htl _ mw_1147, htl _ mw_1148⟩ rfl hl.1 rfl (Nat.le_of_ble_eq_true rfl) dX13_decade_269 ⟨(Nat.le_of_ble_eq_true rfl), (Nat.le_of_ble_eq_true rfl)⟩ (fun v13698 H locs F G R S hpo hM hS => ?_)
                                        obtain ⟨hIF, hIG, hIR, hfr9, hrr9, hgr9, hrel9, hpo13699, hpo13700, hpo13701⟩ := hpo
                                        have hq_v13698 := tk_rng v13698
                                        have hFF := mz_fr (K := [0, 1, 34, 38, 41, 69]) (Fa := Fa) hfr9 hFF (by decide)
                                        have hRR := mz_fr (K := [2, 3, 6, 42, 66, 67, 68]) (Fa := Ra) hrr9 hRR (by decide)
                                        have hGG := mz_fr (K := [39, 40, 47]) (Fa := Ga) hgr9 hGG (by decide)
                                        have hrel := hrel.trans hrel9.k1
                                        have hg_0 : R 3 0 = _ := (hrel9 0 (by omega)).trans hg_0
                                        have hf2 := (hfr9 0 (by decide)).trans hf2
                                        have hf31 : R 3 1 = _ := (hrel9 1 (by omega)).trans hf31
                                        have hf61 := (hfr9 69 (by decide)).trans hf61
                                        have hC : 1 ≤ cn (R 3) (0 : Int32).toInt g0.toInt.toNat ∧ 1 ≤ cn (R 3) (1 : Int32).toInt g0.toInt.toNat := by rw [cn.rel hrel9 _ (by omega), cn.rel hrel9 _ (by omega)]; exact hC
                                        refine lv_pop hx hb dX13_decade_272 rfl ?_
                                        obtain ⟨v13703, h_v13703, e_v13703⟩ := tk_inc v11230 1 (by decide) (by omega) (by omega)
                                        refine lv_iinc (v := v13703) (lv' := [(5, .int v13703), (4, .int v13694), (3, .int v13672), (0, .ref am), (2, .int p2)]) hx hb dX13_decade_273 hl (k := 2) rfl e_v13703 (by decide) rfl (fun ls hl => ?_)
                                        refine lv_goto (tgt := 118) hx hb dX13_decade_276 (by decide) ?_
                                        exact ih_l13361 v13703 v13694 v13672 _ _ _ _ _ _ (by omega) (by omega) (by omega) (by omega) (by omega) hM hS hIF hIG hIR hFF hGG hRR hrel hg_0 hf2 hf31 hf61 hC (by omega) _ (lv_sub hl [0, 1, 2, 3, 4] rfl)
                                    refine lv_icmp_ge (tgt := 260) hx hb dX13_decade_253 (by decide) (fun c9 => ?_) (fun c9 => ?_)
                                    · have hc13692 : 999 ≤ v13689.toInt := (fi_le (show (999 : Int32).toInt = 999 by decide) rfl).mp c9
                                      refine lv_iconst (v := 0) hx hb dX13_decade_260 (by decide) ?_
                                      have hk_0 : (0 : Int32).toInt = 0 := by decide
                                      exact hj13695 0 (by omega) (by omega) _ (lv_sub hl [0, 1, 2, 3] rfl)
                                    · have hc13692 : ¬ (999 ≤ v13689.toInt) := fun h9 => c9 ((fi_le (show (999 : Int32).toInt = 999 by decide) rfl).mpr h9)
                                      refine lv_iconst (v := 1) hx hb dX13_decade_256 (by decide) ?_
                                      refine lv_goto (tgt := 261) hx hb dX13_decade_257 (by decide) ?_
                                      have hk_1 : (1 : Int32).toInt = 1 := by decide
                                      exact hj13695 1 (by omega) (by omega) _ (lv_sub hl [0, 1, 2, 3] rfl)
                                  refine lv_icmp_ne (tgt := 242) hx hb dX13_decade_235 (by decide) (fun c9 => ?_) (fun c9 => ?_)
                                  · have hc13681 : ¬ (v13664.toInt = (-1)) := fun h9 => c9 ((fi_eq rfl (show ((-1) : Int32).toInt = (-1) by decide)).mpr h9)
                                    refine lv_iconst (v := 0) hx hb dX13_decade_242 (by decide) ?_
                                    have hk_0 : (0 : Int32).toInt = 0 := by decide
                                    exact hj13684 0 (by omega) (by omega) _ (lv_sub hl [0, 3, 4, 5] rfl)
                                  · have hc13681 : v13664.toInt = (-1) := (fi_eq rfl (show ((-1) : Int32).toInt = (-1) by decide)).mp c9
                                    refine lv_iconst (v := 1) hx hb dX13_decade_238 (by decide) ?_
                                    refine lv_goto (tgt := 243) hx hb dX13_decade_239 (by decide) ?_
                                    have hk_1 : (1 : Int32).toInt = 1 := by decide
                                    exact hj13684 1 (by omega) (by omega) _ (lv_sub hl [0, 3, 4, 5] rfl)
                                refine lv_icmp_ne (tgt := 221) hx hb dX13_decade_214 (by decide) (fun c9 => ?_) (fun c9 => ?_)
                                · have hc13674 : ¬ (v13664.toInt = 1) := fun h9 => c9 ((fi_eq rfl (show (1 : Int32).toInt = 1 by decide)).mpr h9)
                                  refine lv_iconst (v := 0) hx hb dX13_decade_221 (by decide) ?_
                                  have hk_0 : (0 : Int32).toInt = 0 := by decide
                                  exact hj13677 0 (by omega) (by omega) (by omega) (by omega) (by omega) _ (lv_sub hl [0, 1, 3, 4, 5, 6] rfl)
                                · have hc13674 : v13664.toInt = 1 := (fi_eq rfl (show (1 : Int32).toInt = 1 by decide)).mp c9
                                  refine lv_iconst (v := 1) hx hb dX13_decade_217 (by decide) ?_
                                  refine lv_goto (tgt := 222) hx hb dX13_decade_218 (by decide) ?_
                                  have hk_1 : (1 : Int32).toInt = 1 := by decide
                                  exact hj13677 1 (by omega) (by omega) (by omega) (by omega) (by omega) _ (lv_sub hl [0, 1, 3, 4, 5, 6] rfl)
                              refine lv_icmp_ne (tgt := 200) hx hb dX13_decade_193 (by decide) (fun c9 => ?_) (fun c9 => ?_)
                              · have hc13668 : ¬ (v13664.toInt = 1) := fun h9 => c9 ((fi_eq rfl (show (1 : Int32).toInt = 1 by decide)).mpr h9)
                                refine lv_iconst (v := 0) hx hb dX13_decade_200 (by decide) ?_
                                have hk_0 : (0 : Int32).toInt = 0 := by decide
                                exact hj13671 0 (by omega) (by omega) (by omega) (by omega) _ (lv_sub hl [0, 2, 3, 4, 7, 8] rfl)
                              · have hc13668 : v13664.toInt = 1 := (fi_eq rfl (show (1 : Int32).toInt = 1 by decide)).mp c9
                                refine lv_iconst (v := 1) hx hb dX13_decade_196 (by decide) ?_
                                refine lv_goto (tgt := 201) hx hb dX13_decade_197 (by decide) ?_
                                have hk_1 : (1 : Int32).toInt = 1 := by decide
                                exact hj13671 1 (by omega) (by omega) (by omega) (by omega) _ (lv_sub hl [0, 2, 3, 4, 7, 8] rfl)
                  have hk_0 : (0 : Int32).toInt = 0 := by decide
                  have hk_1 : (1 : Int32).toInt = 1 := by decide
                  have hk_0 : (0 : Int32).toInt = 0 := by decide
                  exact hl13361 61 0 1 0 _ _ _ _ _ _ (by omega) (by omega) (by omega) (by omega) (by omega) hM hS hIF hIG hIR hFF hGG hRR hrel hg_0 hf2 hf31 hf61 hC (by omega) _ (lv_sub hl [0, 1, 2, 3, 4] rfl)
                · have hc11227 : ¬ (8 ≤ v3073.toInt) := fun h9 => c9 ((fi_le (show (8 : Int32).toInt = 8 by decide) rfl).mpr h9)
                  refine lv_aload_n hx hb dX13_decade_97 rfl (lv_at hl 1 rfl) ?_
                  refine mz_getR hx hb htl hown hK hM 68 (Nat.le_of_ble_eq_true rfl) (Nat.le_of_ble_eq_true rfl) (htl _ mw_243) (fun _ h9 => h9) dX13_decade_98 ?_
                  refine lv_iload_n hx hb dX13_decade_101 rfl (lv_at hl 0 rfl) ?_
                  refine lv_iconst (v := 0) hx hb dX13_decade_102 (by decide) ?_
                  have hk_0 : (0 : Int32).toInt = 0 := by decide
                  refine mz_iast (x := 0) hx hb hK hD hM hS 68 (Nat.le_of_ble_eq_true rfl) rfl (nn := 8) rfl rfl (by omega) (by omega) dX13_decade_103 (fun H locs R hM hS hw9 hj9 => ?_)
                  have hIR := hIR.put hw9 hj9 trivial
                  have hC : 1 ≤ cn (R 3) (0 : Int32).toInt g0.toInt.toNat ∧ 1 ≤ cn (R 3) (1 : Int32).toInt g0.toInt.toNat := by rw [hj9 3 (by decide)]; exact hC
                  have hRR := mz_frp (K := [2, 3, 6, 42, 66, 67, 68]) (Fa := Ra) hj9 hRR (by decide)
                  have hrel : rK1 (Ra 3) (R 3) := (hj9 3 (by decide)) ▸ hrel
                  have hg_0 : R 3 0 = _ := (congrFun (hj9 3 (by decide)) 0).trans hg_0
                  have hf31 : R 3 1 = _ := (congrFun (hj9 3 (by decide)) 1).trans hf31
                  obtain ⟨v13705, h_v13705, e_v13705⟩ := tk_inc v3073 1 (by decide) (by omega) (by omega)
                  refine lv_iinc (v := v13705) (lv' := [(3, .int v13705), (0, .ref am), (2, .int p2)]) hx hb dX13_decade_104 hl (k := 0) rfl e_v13705 (by decide) rfl (fun ls hl => ?_)
                  refine lv_goto (tgt := 91) hx hb dX13_decade_107 (by decide) ?_
                  exact ih_l11226 v13705 _ _ _ (by omega) (by omega) hM hS hIR hRR hrel hg_0 hf31 hC (by omega) _ (lv_sub hl [0, 1, 2] rfl)
            have hk_0 : (0 : Int32).toInt = 0 := by decide
            exact hl11226 9 0 _ _ _ (by omega) (by omega) hM hS hIR hRR hrel hg_0 hf31 hC (by omega) _ (lv_sub hl [0, 1, 3] rfl)
          · have hc55 : v48.toInt = 0 := (fi_eq rfl (show (0 : Int32).toInt = 0 by decide)).mp c9
            refine lv_aload_n hx hb dX13_decade_60 rfl (lv_at hl 0 rfl) ?_
            refine lv_bipush (v := (-3)) hx hb dX13_decade_61 (by decide) ?_
            have hk_m3 : ((-3) : Int32).toInt = (-3) := by decide
            refine mz_Vi (As := [.int (-3)]) (rest := []) ⟨hx, hb, hml, hown, hts⟩ hK hM hS (k_X13_tell l D cy ld ad am hD _ _ _ _ (-3) hIF hIG hIR (by omega) (by omega)) ⟨callB_of 1 hts (wl_in mw_296) rfl rfl rfl (htl _ mw_5) (htl _ mw_293) hd_yX13_tell ⟨(Nat.le_of_ble_eq_true rfl), (Nat.le_of_ble_eq_true rfl)⟩, htl _ mw_294, htl _ mw_295⟩ rfl hl.1 rfl (Nat.le_of_ble_eq_true rfl) dX13_decade_63 ⟨(Nat.le_of_ble_eq_true rfl), (Nat.le_of_ble_eq_true rfl)⟩ (fun v13706 H locs F G R S hpo hM hS => ?_)
            obtain ⟨hIF, hIG, hIR, hfr9, hrr9, hgr9, hpo13707⟩ := hpo
            have hq_v13706 := tk_rng v13706
            have hFF := mz_fr (K := [0, 1, 34, 38, 41, 69]) (Fa := Fa) hfr9 hFF (by decide)
            have hRR := mz_fr (K := [2, 3, 6, 42, 66, 67, 68]) (Fa := Ra) hrr9 (fun _ _ => rfl) (by decide)
            have hGG := mz_fr (K := [39, 40, 47]) (Fa := Ga) hgr9 (fun _ _ => rfl) (by decide)
            have hrel : rK1 (Ra 3) (R 3) := (rK1.refl rfl).trans (rK1.refl (hrr9 3 (by decide)))
            have hg_0 : R 3 0 = _ := (congrFun (hrr9 3 (by decide)) 0).trans hg_0
            have hf2 := (hfr9 0 (by decide)).trans hf2
            have hf31 : R 3 1 = _ := (congrFun (hrr9 3 (by decide)) 1).trans hf31
            exact mz_iret (v := v13706) hx hb hr rfl hlocks ⟨hIF, hIG, hIR, hFF, hRR, hGG, hrel, (by omega), (by omega)⟩ hM hS dX13_decade_66
    · have hc29 : v21.toInt = 0 := (fi_eq rfl (show (0 : Int32).toInt = 0 by decide)).mp c9
      refine lv_aload_n hx hb dX13_decade_29 rfl (lv_at hl 0 rfl) ?_
      refine lv_iconst (v := (-1)) hx hb dX13_decade_30 (by decide) ?_
      have hk_m1 : ((-1) : Int32).toInt = (-1) := by decide
      refine mz_Vi (As := [.int (-1)]) (rest := []) ⟨hx, hb, hml, hown, hts⟩ hK hM hS (k_X13_tell l D cy ld ad am hD _ _ _ _ (-1) hIF hIG hIR (by omega) (by omega)) ⟨callB_of 1 hts (wl_in mw_296) rfl rfl rfl (htl _ mw_5) (htl _ mw_293) hd_yX13_tell ⟨(Nat.le_of_ble_eq_true rfl), (Nat.le_of_ble_eq_true rfl)⟩, htl _ mw_294, htl _ mw_295⟩ rfl hl.1 rfl (Nat.le_of_ble_eq_true rfl) dX13_decade_31 ⟨(Nat.le_of_ble_eq_true rfl), (Nat.le_of_ble_eq_true rfl)⟩ (fun v13709 H locs F G R S hpo hM hS => ?_)
      obtain ⟨hIF, hIG, hIR, hfr9, hrr9, hgr9, hpo13710⟩ := hpo
      have hq_v13709 := tk_rng v13709
      have hFF := mz_fr (K := [0, 1, 34, 38, 41, 69]) (Fa := Fa) hfr9 hFF (by decide)
      have hRR := mz_fr (K := [2, 3, 6, 42, 66, 67, 68]) (Fa := Ra) hrr9 (fun _ _ => rfl) (by decide)
      have hGG := mz_fr (K := [39, 40, 47]) (Fa := Ga) hgr9 (fun _ _ => rfl) (by decide)
      have hrel : rK1 (Ra 3) (R 3) := (rK1.refl rfl).trans (rK1.refl (hrr9 3 (by decide)))
      have hg_0 : R 3 0 = _ := (congrFun (hrr9 3 (by decide)) 0).trans hg_0
      have hf2 := (hfr9 0 (by decide)).trans hf2
      exact mz_iret (v := v13709) hx hb hr rfl hlocks ⟨hIF, hIG, hIR, hFF, hRR, hGG, hrel, (by omega), (by omega)⟩ hM hS dX13_decade_34
