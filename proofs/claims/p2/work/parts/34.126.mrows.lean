theorem hd_yX13_areFoes : yX13_areFoes.cls ≠ "java/lang/invoke/MethodHandle" ∧ yX13_areFoes.cls ≠ "java/lang/invoke/VarHandle" ∧ (parseMethodDescriptor yX13_areFoes.desc).map (fun d => d.parameters.length) = some 2 := by decide +kernel
theorem hd_yX13_resultOnPaper : yX13_resultOnPaper.cls ≠ "java/lang/invoke/MethodHandle" ∧ yX13_resultOnPaper.cls ≠ "java/lang/invoke/VarHandle" ∧ (parseMethodDescriptor yX13_resultOnPaper.desc).map (fun d => d.parameters.length) = some 4 := by decide +kernel
theorem dX13_saddle_0 : decode cX13_saddle 0 = .ok (.aload_n 0, 1) := by decide +kernel
theorem dX13_saddle_1 : decode cX13_saddle 1 = .ok (.iconst 0, 1) := by decide +kernel
theorem dX13_saddle_2 : decode cX13_saddle 2 = .ok (.putfield 170, 3) := by decide +kernel
theorem dX13_saddle_5 : decode cX13_saddle 5 = .ok (.aload_n 0, 1) := by decide +kernel
theorem dX13_saddle_6 : decode cX13_saddle 6 = .ok (.getfield 13, 3) := by decide +kernel
theorem dX13_saddle_9 : decode cX13_saddle 9 = .ok (.iconst 1, 1) := by decide +kernel
theorem dX13_saddle_10 : decode cX13_saddle 10 = .ok (.iaload, 1) := by decide +kernel
theorem dX13_saddle_11 : decode cX13_saddle 11 = .ok (.istore 4, 2) := by decide +kernel
theorem dX13_saddle_13 : decode cX13_saddle 13 = .ok (.aload_n 0, 1) := by decide +kernel
theorem dX13_saddle_14 : decode cX13_saddle 14 = .ok (.iload_n 1, 1) := by decide +kernel
theorem dX13_saddle_15 : decode cX13_saddle 15 = .ok (.iload_n 2, 1) := by decide +kernel
theorem dX13_saddle_16 : decode cX13_saddle 16 = .ok (.invokevirtual 529, 3) := by decide +kernel
theorem dX13_saddle_19 : decode cX13_saddle 19 = .ok (.ifCond .eq 20, 3) := by decide +kernel
theorem dX13_saddle_39 : decode cX13_saddle 39 = .ok (.sipush (-1000), 3) := by decide +kernel
theorem dX13_saddle_42 : decode cX13_saddle 42 = .ok (.ireturn, 1) := by decide +kernel
theorem dX13_saddle_22 : decode cX13_saddle 22 = .ok (.iload 4, 2) := by decide +kernel
theorem dX13_saddle_24 : decode cX13_saddle 24 = .ok (.ifCond .eq 15, 3) := by decide +kernel
theorem dX13_saddle_27 : decode cX13_saddle 27 = .ok (.iload_n 3, 1) := by decide +kernel
theorem dX13_saddle_28 : decode cX13_saddle 28 = .ok (.i2l, 1) := by decide +kernel
theorem dX13_saddle_29 : decode cX13_saddle 29 = .ok (.lconst 0, 1) := by decide +kernel
theorem dX13_saddle_30 : decode cX13_saddle 30 = .ok (.ldc2_w 533, 3) := by decide +kernel
theorem dX13_saddle_33 : decode cX13_saddle 33 = .ok (.invokestatic 190, 3) := by decide +kernel
theorem dX13_saddle_36 : decode cX13_saddle 36 = .ok (.ifCond .ne 7, 3) := by decide +kernel
theorem dX13_saddle_43 : decode cX13_saddle 43 = .ok (.iconst 0, 1) := by decide +kernel
theorem dX13_saddle_44 : decode cX13_saddle 44 = .ok (.istore 5, 2) := by decide +kernel
theorem dX13_saddle_46 : decode cX13_saddle 46 = .ok (.iload 5, 2) := by decide +kernel
theorem dX13_saddle_48 : decode cX13_saddle 48 = .ok (.iload 4, 2) := by decide +kernel
theorem dX13_saddle_50 : decode cX13_saddle 50 = .ok (.if_icmp .ge 48, 3) := by decide +kernel
theorem dX13_saddle_98 : decode cX13_saddle 98 = .ok (.bipush (-9), 2) := by decide +kernel
theorem dX13_saddle_100 : decode cX13_saddle 100 = .ok (.istore 5, 2) := by decide +kernel
theorem dX13_saddle_102 : decode cX13_saddle 102 = .ok (.iconst 0, 1) := by decide +kernel
theorem dX13_saddle_103 : decode cX13_saddle 103 = .ok (.istore 6, 2) := by decide +kernel
theorem dX13_saddle_105 : decode cX13_saddle 105 = .ok (.bipush 9, 2) := by decide +kernel
theorem dX13_saddle_107 : decode cX13_saddle 107 = .ok (.istore 7, 2) := by decide +kernel
theorem dX13_saddle_109 : decode cX13_saddle 109 = .ok (.iconst 0, 1) := by decide +kernel
theorem dX13_saddle_110 : decode cX13_saddle 110 = .ok (.istore 8, 2) := by decide +kernel
theorem dX13_saddle_112 : decode cX13_saddle 112 = .ok (.iconst 0, 1) := by decide +kernel
theorem dX13_saddle_113 : decode cX13_saddle 113 = .ok (.istore 9, 2) := by decide +kernel
theorem dX13_saddle_115 : decode cX13_saddle 115 = .ok (.iload 9, 2) := by decide +kernel
theorem dX13_saddle_117 : decode cX13_saddle 117 = .ok (.iload 4, 2) := by decide +kernel
theorem dX13_saddle_119 : decode cX13_saddle 119 = .ok (.if_icmp .ge 173, 3) := by decide +kernel
theorem dX13_saddle_292 : decode cX13_saddle 292 = .ok (.iload_n 3, 1) := by decide +kernel
theorem dX13_saddle_293 : decode cX13_saddle 293 = .ok (.ifCond .ne 8, 3) := by decide +kernel
theorem dX13_saddle_301 : decode cX13_saddle 301 = .ok (.iload_n 3, 1) := by decide +kernel
theorem dX13_saddle_302 : decode cX13_saddle 302 = .ok (.iconst 1, 1) := by decide +kernel
theorem dX13_saddle_303 : decode cX13_saddle 303 = .ok (.if_icmp .ne 8, 3) := by decide +kernel
theorem dX13_saddle_311 : decode cX13_saddle 311 = .ok (.iload_n 3, 1) := by decide +kernel
theorem dX13_saddle_312 : decode cX13_saddle 312 = .ok (.iconst 2, 1) := by decide +kernel
theorem dX13_saddle_313 : decode cX13_saddle 313 = .ok (.if_icmp .ne 8, 3) := by decide +kernel
theorem dX13_saddle_321 : decode cX13_saddle 321 = .ok (.iload 8, 2) := by decide +kernel
theorem dX13_saddle_323 : decode cX13_saddle 323 = .ok (.ireturn, 1) := by decide +kernel
theorem dX13_saddle_316 : decode cX13_saddle 316 = .ok (.iload 6, 2) := by decide +kernel
theorem dX13_saddle_318 : decode cX13_saddle 318 = .ok (.goto 5, 3) := by decide +kernel
theorem dX13_saddle_306 : decode cX13_saddle 306 = .ok (.iload 7, 2) := by decide +kernel
theorem dX13_saddle_308 : decode cX13_saddle 308 = .ok (.goto 15, 3) := by decide +kernel
theorem dX13_saddle_296 : decode cX13_saddle 296 = .ok (.iload 5, 2) := by decide +kernel
theorem dX13_saddle_298 : decode cX13_saddle 298 = .ok (.goto 25, 3) := by decide +kernel
theorem dX13_saddle_122 : decode cX13_saddle 122 = .ok (.bipush 9, 2) := by decide +kernel
theorem dX13_saddle_124 : decode cX13_saddle 124 = .ok (.istore 10, 2) := by decide +kernel
theorem dX13_saddle_126 : decode cX13_saddle 126 = .ok (.bipush (-9), 2) := by decide +kernel
theorem dX13_saddle_128 : decode cX13_saddle 128 = .ok (.istore 11, 2) := by decide +kernel
theorem dX13_saddle_130 : decode cX13_saddle 130 = .ok (.iconst 0, 1) := by decide +kernel
theorem dX13_saddle_131 : decode cX13_saddle 131 = .ok (.istore 12, 2) := by decide +kernel
theorem dX13_saddle_133 : decode cX13_saddle 133 = .ok (.iload 12, 2) := by decide +kernel
theorem dX13_saddle_135 : decode cX13_saddle 135 = .ok (.iload 4, 2) := by decide +kernel
theorem dX13_saddle_137 : decode cX13_saddle 137 = .ok (.if_icmp .ge 85, 3) := by decide +kernel
theorem dX13_saddle_222 : decode cX13_saddle 222 = .ok (.iload 10, 2) := by decide +kernel
theorem dX13_saddle_224 : decode cX13_saddle 224 = .ok (.iload 5, 2) := by decide +kernel
theorem dX13_saddle_236 : decode cX13_saddle 236 = .ok (.istore 6, 2) := by decide +kernel
theorem dX13_saddle_238 : decode cX13_saddle 238 = .ok (.iload 10, 2) := by decide +kernel
theorem dX13_saddle_240 : decode cX13_saddle 240 = .ok (.iload 5, 2) := by decide +kernel
theorem dX13_saddle_252 : decode cX13_saddle 252 = .ok (.istore 5, 2) := by decide +kernel
theorem dX13_saddle_254 : decode cX13_saddle 254 = .ok (.iload 11, 2) := by decide +kernel
theorem dX13_saddle_256 : decode cX13_saddle 256 = .ok (.iload 7, 2) := by decide +kernel
theorem dX13_saddle_268 : decode cX13_saddle 268 = .ok (.istore 8, 2) := by decide +kernel
theorem dX13_saddle_270 : decode cX13_saddle 270 = .ok (.iload 11, 2) := by decide +kernel
theorem dX13_saddle_272 : decode cX13_saddle 272 = .ok (.iload 7, 2) := by decide +kernel
theorem dX13_saddle_284 : decode cX13_saddle 284 = .ok (.istore 7, 2) := by decide +kernel
theorem dX13_saddle_286 : decode cX13_saddle 286 = .ok (.iinc 9 1, 3) := by decide +kernel
theorem dX13_saddle_289 : decode cX13_saddle 289 = .ok (.goto (-174), 3) := by decide +kernel
theorem dX13_saddle_274 : decode cX13_saddle 274 = .ok (.if_icmp .ge 8, 3) := by decide +kernel
theorem dX13_saddle_282 : decode cX13_saddle 282 = .ok (.iload 7, 2) := by decide +kernel
theorem dX13_saddle_277 : decode cX13_saddle 277 = .ok (.iload 11, 2) := by decide +kernel
theorem dX13_saddle_279 : decode cX13_saddle 279 = .ok (.goto 5, 3) := by decide +kernel
theorem dX13_saddle_258 : decode cX13_saddle 258 = .ok (.if_icmp .ge 8, 3) := by decide +kernel
theorem dX13_saddle_266 : decode cX13_saddle 266 = .ok (.iload 8, 2) := by decide +kernel
theorem dX13_saddle_261 : decode cX13_saddle 261 = .ok (.iload 9, 2) := by decide +kernel
theorem dX13_saddle_263 : decode cX13_saddle 263 = .ok (.goto 5, 3) := by decide +kernel
theorem dX13_saddle_242 : decode cX13_saddle 242 = .ok (.if_icmp .le 8, 3) := by decide +kernel
theorem dX13_saddle_250 : decode cX13_saddle 250 = .ok (.iload 5, 2) := by decide +kernel
theorem dX13_saddle_245 : decode cX13_saddle 245 = .ok (.iload 10, 2) := by decide +kernel
theorem dX13_saddle_247 : decode cX13_saddle 247 = .ok (.goto 5, 3) := by decide +kernel
theorem dX13_saddle_226 : decode cX13_saddle 226 = .ok (.if_icmp .le 8, 3) := by decide +kernel
theorem dX13_saddle_234 : decode cX13_saddle 234 = .ok (.iload 6, 2) := by decide +kernel
theorem dX13_saddle_229 : decode cX13_saddle 229 = .ok (.iload 9, 2) := by decide +kernel
theorem dX13_saddle_231 : decode cX13_saddle 231 = .ok (.goto 5, 3) := by decide +kernel
theorem dX13_saddle_140 : decode cX13_saddle 140 = .ok (.aload_n 0, 1) := by decide +kernel
theorem dX13_saddle_141 : decode cX13_saddle 141 = .ok (.getfield 125, 3) := by decide +kernel
theorem dX13_saddle_144 : decode cX13_saddle 144 = .ok (.bipush 10, 2) := by decide +kernel
theorem dX13_saddle_146 : decode cX13_saddle 146 = .ok (.iload 9, 2) := by decide +kernel
theorem dX13_saddle_148 : decode cX13_saddle 148 = .ok (.imul, 1) := by decide +kernel
theorem dX13_saddle_149 : decode cX13_saddle 149 = .ok (.iload 12, 2) := by decide +kernel
theorem dX13_saddle_151 : decode cX13_saddle 151 = .ok (.iadd, 1) := by decide +kernel
theorem dX13_saddle_152 : decode cX13_saddle 152 = .ok (.iaload, 1) := by decide +kernel
theorem dX13_saddle_153 : decode cX13_saddle 153 = .ok (.iload 10, 2) := by decide +kernel
theorem dX13_saddle_176 : decode cX13_saddle 176 = .ok (.istore 10, 2) := by decide +kernel
theorem dX13_saddle_178 : decode cX13_saddle 178 = .ok (.aload_n 0, 1) := by decide +kernel
theorem dX13_saddle_179 : decode cX13_saddle 179 = .ok (.getfield 125, 3) := by decide +kernel
theorem dX13_saddle_182 : decode cX13_saddle 182 = .ok (.bipush 10, 2) := by decide +kernel
theorem dX13_saddle_184 : decode cX13_saddle 184 = .ok (.iload 12, 2) := by decide +kernel
theorem dX13_saddle_186 : decode cX13_saddle 186 = .ok (.imul, 1) := by decide +kernel
theorem dX13_saddle_187 : decode cX13_saddle 187 = .ok (.iload 9, 2) := by decide +kernel
theorem dX13_saddle_189 : decode cX13_saddle 189 = .ok (.iadd, 1) := by decide +kernel
theorem dX13_saddle_190 : decode cX13_saddle 190 = .ok (.iaload, 1) := by decide +kernel
theorem dX13_saddle_191 : decode cX13_saddle 191 = .ok (.iload 11, 2) := by decide +kernel
theorem dX13_saddle_214 : decode cX13_saddle 214 = .ok (.istore 11, 2) := by decide +kernel
theorem dX13_saddle_216 : decode cX13_saddle 216 = .ok (.iinc 12 1, 3) := by decide +kernel
theorem dX13_saddle_219 : decode cX13_saddle 219 = .ok (.goto (-86), 3) := by decide +kernel
theorem dX13_saddle_193 : decode cX13_saddle 193 = .ok (.if_icmp .le 19, 3) := by decide +kernel
theorem dX13_saddle_212 : decode cX13_saddle 212 = .ok (.iload 11, 2) := by decide +kernel
theorem dX13_saddle_196 : decode cX13_saddle 196 = .ok (.aload_n 0, 1) := by decide +kernel
theorem dX13_saddle_197 : decode cX13_saddle 197 = .ok (.getfield 125, 3) := by decide +kernel
theorem dX13_saddle_200 : decode cX13_saddle 200 = .ok (.bipush 10, 2) := by decide +kernel
theorem dX13_saddle_202 : decode cX13_saddle 202 = .ok (.iload 12, 2) := by decide +kernel
theorem dX13_saddle_204 : decode cX13_saddle 204 = .ok (.imul, 1) := by decide +kernel
theorem dX13_saddle_205 : decode cX13_saddle 205 = .ok (.iload 9, 2) := by decide +kernel
theorem dX13_saddle_207 : decode cX13_saddle 207 = .ok (.iadd, 1) := by decide +kernel
theorem dX13_saddle_208 : decode cX13_saddle 208 = .ok (.iaload, 1) := by decide +kernel
theorem dX13_saddle_209 : decode cX13_saddle 209 = .ok (.goto 5, 3) := by decide +kernel
theorem dX13_saddle_155 : decode cX13_saddle 155 = .ok (.if_icmp .ge 19, 3) := by decide +kernel
theorem dX13_saddle_174 : decode cX13_saddle 174 = .ok (.iload 10, 2) := by decide +kernel
theorem dX13_saddle_158 : decode cX13_saddle 158 = .ok (.aload_n 0, 1) := by decide +kernel
theorem dX13_saddle_159 : decode cX13_saddle 159 = .ok (.getfield 125, 3) := by decide +kernel
theorem dX13_saddle_162 : decode cX13_saddle 162 = .ok (.bipush 10, 2) := by decide +kernel
theorem dX13_saddle_164 : decode cX13_saddle 164 = .ok (.iload 9, 2) := by decide +kernel
theorem dX13_saddle_166 : decode cX13_saddle 166 = .ok (.imul, 1) := by decide +kernel
theorem dX13_saddle_167 : decode cX13_saddle 167 = .ok (.iload 12, 2) := by decide +kernel
theorem dX13_saddle_169 : decode cX13_saddle 169 = .ok (.iadd, 1) := by decide +kernel
theorem dX13_saddle_170 : decode cX13_saddle 170 = .ok (.iaload, 1) := by decide +kernel
theorem dX13_saddle_171 : decode cX13_saddle 171 = .ok (.goto 5, 3) := by decide +kernel
theorem dX13_saddle_53 : decode cX13_saddle 53 = .ok (.iconst 0, 1) := by decide +kernel
theorem dX13_saddle_54 : decode cX13_saddle 54 = .ok (.istore 6, 2) := by decide +kernel
theorem dX13_saddle_56 : decode cX13_saddle 56 = .ok (.iload 6, 2) := by decide +kernel
theorem dX13_saddle_58 : decode cX13_saddle 58 = .ok (.iload 4, 2) := by decide +kernel
theorem dX13_saddle_60 : decode cX13_saddle 60 = .ok (.if_icmp .ge 32, 3) := by decide +kernel
theorem dX13_saddle_92 : decode cX13_saddle 92 = .ok (.iinc 5 1, 3) := by decide +kernel
theorem dX13_saddle_95 : decode cX13_saddle 95 = .ok (.goto (-49), 3) := by decide +kernel
theorem dX13_saddle_63 : decode cX13_saddle 63 = .ok (.aload_n 0, 1) := by decide +kernel
theorem dX13_saddle_64 : decode cX13_saddle 64 = .ok (.getfield 125, 3) := by decide +kernel
theorem dX13_saddle_67 : decode cX13_saddle 67 = .ok (.bipush 10, 2) := by decide +kernel
theorem dX13_saddle_69 : decode cX13_saddle 69 = .ok (.iload 5, 2) := by decide +kernel
theorem dX13_saddle_71 : decode cX13_saddle 71 = .ok (.imul, 1) := by decide +kernel
theorem dX13_saddle_72 : decode cX13_saddle 72 = .ok (.iload 6, 2) := by decide +kernel
theorem dX13_saddle_74 : decode cX13_saddle 74 = .ok (.iadd, 1) := by decide +kernel
theorem dX13_saddle_75 : decode cX13_saddle 75 = .ok (.aload_n 0, 1) := by decide +kernel
theorem dX13_saddle_76 : decode cX13_saddle 76 = .ok (.iload_n 1, 1) := by decide +kernel
theorem dX13_saddle_77 : decode cX13_saddle 77 = .ok (.iload_n 2, 1) := by decide +kernel
theorem dX13_saddle_78 : decode cX13_saddle 78 = .ok (.iload 5, 2) := by decide +kernel
theorem dX13_saddle_80 : decode cX13_saddle 80 = .ok (.iload 6, 2) := by decide +kernel
theorem dX13_saddle_82 : decode cX13_saddle 82 = .ok (.invokevirtual 535, 3) := by decide +kernel
theorem dX13_saddle_85 : decode cX13_saddle 85 = .ok (.iastore, 1) := by decide +kernel
theorem dX13_saddle_86 : decode cX13_saddle 86 = .ok (.iinc 6 1, 3) := by decide +kernel
theorem dX13_saddle_89 : decode cX13_saddle 89 = .ok (.goto (-33), 3) := by decide +kernel
set_option maxHeartbeats 4000000 in
set_option maxRecDepth 100000 in
theorem k_X13_saddle (l : Launch) (D : va_G) (cy : Nat → ClassId) (ld ad : Nat → Nat) (am : Nat) (hD : mz_D ad am) (Fa : Nat → Int32) (Ga : Nat → Int64) (Ra : Nat → Nat → Int32) (Sa : Nat → Nat → Int64) (p1 : Int32) (p2 : Int32) (p3 : Int32) (hIF : mz_IF true Fa) (hIG : mz_IG Ga) (hIR : mz_IR [] true Ra) : Met l yX13_saddle (wl yX13_saddle cX13_saddle 13 (some .int)) ({ frames := 13, cells := 0, slots := 0, locals := 840 }) (mz_p D cy ld ad am Fa Ga Ra Sa [.ref am, .int p1, .int p2, .int p3]) (mz_i D cy ad am (fun r F G R S => mz_IF true F ∧ mz_IG G ∧ mz_IR [] true R ∧ (∀ k : Nat, k ∉ ([0, 34, 38, 41] : List Nat) → F k = Fa k) ∧ (∀ k : Nat, k ∉ ([3, 6, 48] : List Nat) → R k = Ra k) ∧ (∀ k : Nat, k ∉ ([39, 40, 47] : List Nat) → G k = Ga k) ∧ rK1 (Ra 3) (R 3))) 0 0 (mz_W ad am) := by sorry
