theorem hd_yX13_readBehind : yX13_readBehind.cls ≠ "java/lang/invoke/MethodHandle" ∧ yX13_readBehind.cls ≠ "java/lang/invoke/VarHandle" ∧ (parseMethodDescriptor yX13_readBehind.desc).map (fun d => d.parameters.length) = some 2 := by decide +kernel
theorem dX13_readOrder_221 : decode cX13_readOrder 221 = .ok (.aload_n 0, 1) := by decide +kernel
theorem dX13_readOrder_222 : decode cX13_readOrder 222 = .ok (.getfield 149, 3) := by decide +kernel
theorem dX13_readOrder_225 : decode cX13_readOrder 225 = .ok (.iload_n 2, 1) := by decide +kernel
theorem dX13_readOrder_226 : decode cX13_readOrder 226 = .ok (.bipush 7, 2) := by decide +kernel
theorem dX13_readOrder_228 : decode cX13_readOrder 228 = .ok (.iadd, 1) := by decide +kernel
theorem dX13_readOrder_229 : decode cX13_readOrder 229 = .ok (.aload_n 0, 1) := by decide +kernel
theorem dX13_readOrder_230 : decode cX13_readOrder 230 = .ok (.getfield 275, 3) := by decide +kernel
theorem dX13_readOrder_233 : decode cX13_readOrder 233 = .ok (.iastore, 1) := by decide +kernel
theorem dX13_readOrder_234 : decode cX13_readOrder 234 = .ok (.aload_n 0, 1) := by decide +kernel
theorem dX13_readOrder_235 : decode cX13_readOrder 235 = .ok (.getfield 236, 3) := by decide +kernel
theorem dX13_readOrder_238 : decode cX13_readOrder 238 = .ok (.ifCond .ne 22, 3) := by decide +kernel
theorem dX13_readOrder_241 : decode cX13_readOrder 241 = .ok (.aload_n 0, 1) := by decide +kernel
theorem dX13_readOrder_242 : decode cX13_readOrder 242 = .ok (.ldc2_w 375, 3) := by decide +kernel
theorem dX13_readOrder_245 : decode cX13_readOrder 245 = .ok (.invokevirtual 296, 3) := by decide +kernel
theorem dX13_readOrder_248 : decode cX13_readOrder 248 = .ok (.ifCond .eq 12, 3) := by decide +kernel
theorem dX13_readOrder_260 : decode cX13_readOrder 260 = .ok (.aload_n 0, 1) := by decide +kernel
theorem dX13_readOrder_261 : decode cX13_readOrder 261 = .ok (.getfield 149, 3) := by decide +kernel
theorem dX13_readOrder_264 : decode cX13_readOrder 264 = .ok (.iload_n 2, 1) := by decide +kernel
theorem dX13_readOrder_265 : decode cX13_readOrder 265 = .ok (.bipush 8, 2) := by decide +kernel
theorem dX13_readOrder_267 : decode cX13_readOrder 267 = .ok (.iadd, 1) := by decide +kernel
theorem dX13_readOrder_268 : decode cX13_readOrder 268 = .ok (.aload_n 0, 1) := by decide +kernel
theorem dX13_readOrder_269 : decode cX13_readOrder 269 = .ok (.getfield 275, 3) := by decide +kernel
theorem dX13_readOrder_272 : decode cX13_readOrder 272 = .ok (.iastore, 1) := by decide +kernel
theorem dX13_readOrder_273 : decode cX13_readOrder 273 = .ok (.return_, 1) := by decide +kernel
theorem dX13_readOrder_251 : decode cX13_readOrder 251 = .ok (.aload_n 0, 1) := by decide +kernel
theorem dX13_readOrder_252 : decode cX13_readOrder 252 = .ok (.invokevirtual 240, 3) := by decide +kernel
theorem dX13_readOrder_255 : decode cX13_readOrder 255 = .ok (.aload_n 0, 1) := by decide +kernel
theorem dX13_readOrder_256 : decode cX13_readOrder 256 = .ok (.iconst 1, 1) := by decide +kernel
theorem dX13_readOrder_257 : decode cX13_readOrder 257 = .ok (.invokevirtual 372, 3) := by decide +kernel
theorem dX13_readOrder_173 : decode cX13_readOrder 173 = .ok (.aload_n 0, 1) := by decide +kernel
theorem dX13_readOrder_174 : decode cX13_readOrder 174 = .ok (.getfield 149, 3) := by decide +kernel
theorem dX13_readOrder_177 : decode cX13_readOrder 177 = .ok (.iload_n 2, 1) := by decide +kernel
theorem dX13_readOrder_178 : decode cX13_readOrder 178 = .ok (.bipush 9, 2) := by decide +kernel
theorem dX13_readOrder_180 : decode cX13_readOrder 180 = .ok (.iadd, 1) := by decide +kernel
theorem dX13_readOrder_181 : decode cX13_readOrder 181 = .ok (.iconst 1, 1) := by decide +kernel
theorem dX13_readOrder_182 : decode cX13_readOrder 182 = .ok (.iastore, 1) := by decide +kernel
theorem dX13_readOrder_183 : decode cX13_readOrder 183 = .ok (.aload_n 0, 1) := by decide +kernel
theorem dX13_readOrder_184 : decode cX13_readOrder 184 = .ok (.getfield 236, 3) := by decide +kernel
theorem dX13_readOrder_187 : decode cX13_readOrder 187 = .ok (.ifCond .ne 34, 3) := by decide +kernel
theorem dX13_readOrder_190 : decode cX13_readOrder 190 = .ok (.aload_n 0, 1) := by decide +kernel
theorem dX13_readOrder_191 : decode cX13_readOrder 191 = .ok (.ldc2_w 612, 3) := by decide +kernel
theorem dX13_readOrder_194 : decode cX13_readOrder 194 = .ok (.invokevirtual 296, 3) := by decide +kernel
theorem dX13_readOrder_197 : decode cX13_readOrder 197 = .ok (.ifCond .eq 24, 3) := by decide +kernel
theorem dX13_readOrder_200 : decode cX13_readOrder 200 = .ok (.aload_n 0, 1) := by decide +kernel
theorem dX13_readOrder_201 : decode cX13_readOrder 201 = .ok (.invokevirtual 240, 3) := by decide +kernel
theorem dX13_readOrder_204 : decode cX13_readOrder 204 = .ok (.aload_n 0, 1) := by decide +kernel
theorem dX13_readOrder_205 : decode cX13_readOrder 205 = .ok (.getfield 149, 3) := by decide +kernel
theorem dX13_readOrder_208 : decode cX13_readOrder 208 = .ok (.iload_n 2, 1) := by decide +kernel
theorem dX13_readOrder_209 : decode cX13_readOrder 209 = .ok (.bipush 9, 2) := by decide +kernel
theorem dX13_readOrder_211 : decode cX13_readOrder 211 = .ok (.iadd, 1) := by decide +kernel
theorem dX13_readOrder_212 : decode cX13_readOrder 212 = .ok (.aload_n 0, 1) := by decide +kernel
theorem dX13_readOrder_213 : decode cX13_readOrder 213 = .ok (.lconst 1, 1) := by decide +kernel
theorem dX13_readOrder_214 : decode cX13_readOrder 214 = .ok (.ldc2_w 288, 3) := by decide +kernel
theorem dX13_readOrder_217 : decode cX13_readOrder 217 = .ok (.invokevirtual 333, 3) := by decide +kernel
theorem dX13_readOrder_220 : decode cX13_readOrder 220 = .ok (.iastore, 1) := by decide +kernel
theorem dX13_readOrder_0 : decode cX13_readOrder 0 = .ok (.aload_n 0, 1) := by decide +kernel
theorem dX13_readOrder_1 : decode cX13_readOrder 1 = .ok (.ldc2_w 596, 3) := by decide +kernel
theorem dX13_readOrder_4 : decode cX13_readOrder 4 = .ok (.invokevirtual 296, 3) := by decide +kernel
theorem dX13_readOrder_57 : decode cX13_readOrder 57 = .ok (.istore_n 1, 1) := by decide +kernel
theorem dX13_readOrder_58 : decode cX13_readOrder 58 = .ok (.aload_n 0, 1) := by decide +kernel
theorem dX13_readOrder_59 : decode cX13_readOrder 59 = .ok (.iload_n 1, 1) := by decide +kernel
theorem dX13_readOrder_60 : decode cX13_readOrder 60 = .ok (.iconst (-1), 1) := by decide +kernel
theorem dX13_readOrder_61 : decode cX13_readOrder 61 = .ok (.if_icmp .eq 16, 3) := by decide +kernel
theorem dX13_readOrder_77 : decode cX13_readOrder 77 = .ok (.iconst 0, 1) := by decide +kernel
theorem dX13_readOrder_78 : decode cX13_readOrder 78 = .ok (.invokevirtual 271, 3) := by decide +kernel
theorem dX13_readOrder_81 : decode cX13_readOrder 81 = .ok (.aload_n 0, 1) := by decide +kernel
theorem dX13_readOrder_82 : decode cX13_readOrder 82 = .ok (.getfield 236, 3) := by decide +kernel
theorem dX13_readOrder_85 : decode cX13_readOrder 85 = .ok (.ifCond .eq 4, 3) := by decide +kernel
theorem dX13_readOrder_88 : decode cX13_readOrder 88 = .ok (.return_, 1) := by decide +kernel
theorem dX13_readOrder_64 : decode cX13_readOrder 64 = .ok (.aload_n 0, 1) := by decide +kernel
theorem dX13_readOrder_65 : decode cX13_readOrder 65 = .ok (.getfield 369, 3) := by decide +kernel
theorem dX13_readOrder_68 : decode cX13_readOrder 68 = .ok (.bipush 12, 2) := by decide +kernel
theorem dX13_readOrder_70 : decode cX13_readOrder 70 = .ok (.if_icmp .ge 7, 3) := by decide +kernel
theorem dX13_readOrder_73 : decode cX13_readOrder 73 = .ok (.iconst 1, 1) := by decide +kernel
theorem dX13_readOrder_74 : decode cX13_readOrder 74 = .ok (.goto 4, 3) := by decide +kernel
theorem dX13_readOrder_89 : decode cX13_readOrder 89 = .ok (.bipush 10, 2) := by decide +kernel
theorem dX13_readOrder_91 : decode cX13_readOrder 91 = .ok (.aload_n 0, 1) := by decide +kernel
theorem dX13_readOrder_92 : decode cX13_readOrder 92 = .ok (.getfield 369, 3) := by decide +kernel
theorem dX13_readOrder_95 : decode cX13_readOrder 95 = .ok (.imul, 1) := by decide +kernel
theorem dX13_readOrder_96 : decode cX13_readOrder 96 = .ok (.istore_n 2, 1) := by decide +kernel
theorem dX13_readOrder_97 : decode cX13_readOrder 97 = .ok (.aload_n 0, 1) := by decide +kernel
theorem dX13_readOrder_98 : decode cX13_readOrder 98 = .ok (.dup, 1) := by decide +kernel
theorem dX13_readOrder_99 : decode cX13_readOrder 99 = .ok (.getfield 369, 3) := by decide +kernel
theorem dX13_readOrder_102 : decode cX13_readOrder 102 = .ok (.iconst 1, 1) := by decide +kernel
theorem dX13_readOrder_103 : decode cX13_readOrder 103 = .ok (.iadd, 1) := by decide +kernel
theorem dX13_readOrder_104 : decode cX13_readOrder 104 = .ok (.putfield 369, 3) := by decide +kernel
theorem dX13_readOrder_107 : decode cX13_readOrder 107 = .ok (.iconst 0, 1) := by decide +kernel
theorem dX13_readOrder_108 : decode cX13_readOrder 108 = .ok (.istore_n 3, 1) := by decide +kernel
theorem dX13_readOrder_109 : decode cX13_readOrder 109 = .ok (.iload_n 3, 1) := by decide +kernel
theorem dX13_readOrder_110 : decode cX13_readOrder 110 = .ok (.bipush 10, 2) := by decide +kernel
theorem dX13_readOrder_112 : decode cX13_readOrder 112 = .ok (.if_icmp .ge 18, 3) := by decide +kernel
theorem dX13_readOrder_130 : decode cX13_readOrder 130 = .ok (.aload_n 0, 1) := by decide +kernel
theorem dX13_readOrder_131 : decode cX13_readOrder 131 = .ok (.getfield 149, 3) := by decide +kernel
theorem dX13_readOrder_134 : decode cX13_readOrder 134 = .ok (.iload_n 2, 1) := by decide +kernel
theorem dX13_readOrder_135 : decode cX13_readOrder 135 = .ok (.iload_n 1, 1) := by decide +kernel
theorem dX13_readOrder_136 : decode cX13_readOrder 136 = .ok (.iastore, 1) := by decide +kernel
theorem dX13_readOrder_137 : decode cX13_readOrder 137 = .ok (.iload_n 1, 1) := by decide +kernel
theorem dX13_readOrder_138 : decode cX13_readOrder 138 = .ok (.iconst 2, 1) := by decide +kernel
theorem dX13_readOrder_139 : decode cX13_readOrder 139 = .ok (.if_icmp .ge 10, 3) := by decide +kernel
theorem dX13_readOrder_149 : decode cX13_readOrder 149 = .ok (.iload_n 1, 1) := by decide +kernel
theorem dX13_readOrder_150 : decode cX13_readOrder 150 = .ok (.ifCond .ne 23, 3) := by decide +kernel
theorem dX13_readOrder_142 : decode cX13_readOrder 142 = .ok (.aload_n 0, 1) := by decide +kernel
theorem dX13_readOrder_143 : decode cX13_readOrder 143 = .ok (.iload_n 2, 1) := by decide +kernel
theorem dX13_readOrder_144 : decode cX13_readOrder 144 = .ok (.iconst 1, 1) := by decide +kernel
theorem dX13_readOrder_145 : decode cX13_readOrder 145 = .ok (.iadd, 1) := by decide +kernel
theorem dX13_readOrder_146 : decode cX13_readOrder 146 = .ok (.invokevirtual 593, 3) := by decide +kernel
theorem dX13_readOrder_153 : decode cX13_readOrder 153 = .ok (.aload_n 0, 1) := by decide +kernel
theorem dX13_readOrder_154 : decode cX13_readOrder 154 = .ok (.iload_n 2, 1) := by decide +kernel
theorem dX13_readOrder_155 : decode cX13_readOrder 155 = .ok (.iconst 3, 1) := by decide +kernel
theorem dX13_readOrder_156 : decode cX13_readOrder 156 = .ok (.iadd, 1) := by decide +kernel
theorem dX13_readOrder_157 : decode cX13_readOrder 157 = .ok (.ldc2_w 604, 3) := by decide +kernel
theorem dX13_readOrder_160 : decode cX13_readOrder 160 = .ok (.invokevirtual 606, 3) := by decide +kernel
theorem dX13_readOrder_163 : decode cX13_readOrder 163 = .ok (.aload_n 0, 1) := by decide +kernel
theorem dX13_readOrder_164 : decode cX13_readOrder 164 = .ok (.iload_n 2, 1) := by decide +kernel
theorem dX13_readOrder_165 : decode cX13_readOrder 165 = .ok (.iconst 5, 1) := by decide +kernel
theorem dX13_readOrder_166 : decode cX13_readOrder 166 = .ok (.iadd, 1) := by decide +kernel
theorem dX13_readOrder_167 : decode cX13_readOrder 167 = .ok (.ldc2_w 610, 3) := by decide +kernel
theorem dX13_readOrder_170 : decode cX13_readOrder 170 = .ok (.invokevirtual 606, 3) := by decide +kernel
theorem dX13_readOrder_115 : decode cX13_readOrder 115 = .ok (.aload_n 0, 1) := by decide +kernel
theorem dX13_readOrder_116 : decode cX13_readOrder 116 = .ok (.getfield 149, 3) := by decide +kernel
theorem dX13_readOrder_119 : decode cX13_readOrder 119 = .ok (.iload_n 2, 1) := by decide +kernel
theorem dX13_readOrder_120 : decode cX13_readOrder 120 = .ok (.iload_n 3, 1) := by decide +kernel
theorem dX13_readOrder_121 : decode cX13_readOrder 121 = .ok (.iadd, 1) := by decide +kernel
theorem dX13_readOrder_122 : decode cX13_readOrder 122 = .ok (.iconst 0, 1) := by decide +kernel
theorem dX13_readOrder_123 : decode cX13_readOrder 123 = .ok (.iastore, 1) := by decide +kernel
theorem dX13_readOrder_124 : decode cX13_readOrder 124 = .ok (.iinc 3 1, 3) := by decide +kernel
theorem dX13_readOrder_127 : decode cX13_readOrder 127 = .ok (.goto (-18), 3) := by decide +kernel
theorem dX13_readOrder_7 : decode cX13_readOrder 7 = .ok (.ifCond .eq 7, 3) := by decide +kernel
theorem dX13_readOrder_14 : decode cX13_readOrder 14 = .ok (.aload_n 0, 1) := by decide +kernel
theorem dX13_readOrder_15 : decode cX13_readOrder 15 = .ok (.ldc2_w 598, 3) := by decide +kernel
theorem dX13_readOrder_18 : decode cX13_readOrder 18 = .ok (.invokevirtual 296, 3) := by decide +kernel
theorem dX13_readOrder_21 : decode cX13_readOrder 21 = .ok (.ifCond .eq 7, 3) := by decide +kernel
theorem dX13_readOrder_28 : decode cX13_readOrder 28 = .ok (.aload_n 0, 1) := by decide +kernel
theorem dX13_readOrder_29 : decode cX13_readOrder 29 = .ok (.ldc2_w 600, 3) := by decide +kernel
theorem dX13_readOrder_32 : decode cX13_readOrder 32 = .ok (.invokevirtual 296, 3) := by decide +kernel
theorem dX13_readOrder_35 : decode cX13_readOrder 35 = .ok (.ifCond .eq 7, 3) := by decide +kernel
theorem dX13_readOrder_42 : decode cX13_readOrder 42 = .ok (.aload_n 0, 1) := by decide +kernel
theorem dX13_readOrder_43 : decode cX13_readOrder 43 = .ok (.ldc2_w 602, 3) := by decide +kernel
theorem dX13_readOrder_46 : decode cX13_readOrder 46 = .ok (.invokevirtual 296, 3) := by decide +kernel
theorem dX13_readOrder_49 : decode cX13_readOrder 49 = .ok (.ifCond .eq 7, 3) := by decide +kernel
theorem dX13_readOrder_56 : decode cX13_readOrder 56 = .ok (.iconst (-1), 1) := by decide +kernel
theorem dX13_readOrder_52 : decode cX13_readOrder 52 = .ok (.iconst 3, 1) := by decide +kernel
theorem dX13_readOrder_53 : decode cX13_readOrder 53 = .ok (.goto 4, 3) := by decide +kernel
theorem dX13_readOrder_38 : decode cX13_readOrder 38 = .ok (.iconst 2, 1) := by decide +kernel
theorem dX13_readOrder_39 : decode cX13_readOrder 39 = .ok (.goto 18, 3) := by decide +kernel
theorem dX13_readOrder_24 : decode cX13_readOrder 24 = .ok (.iconst 1, 1) := by decide +kernel
theorem dX13_readOrder_25 : decode cX13_readOrder 25 = .ok (.goto 32, 3) := by decide +kernel
theorem dX13_readOrder_10 : decode cX13_readOrder 10 = .ok (.iconst 0, 1) := by decide +kernel
theorem dX13_readOrder_11 : decode cX13_readOrder 11 = .ok (.goto 46, 3) := by decide +kernel
set_option maxHeartbeats 4000000 in
set_option maxRecDepth 100000 in
theorem kz_X13_readOrder_c2 (l : Launch) (D : va_G) (cy : Nat → ClassId) (ld ad : Nat → Nat) (am : Nat) (hD : mz_D ad am) (Fa : Nat → Int32) (Ga : Nat → Int64) (Ra : Nat → Nat → Int32) (Sa : Nat → Nat → Int64) (gf : Int32) (gt : Int32) (gs : Int32) (gp : Int32) (gw : Int64) (gb : Int32) (gc : Int32) (gn : Int32) {p : Program} {e : Env} {s : State} {m : MethodId} {args : Array Value} {below : List Frame} {meth : Method} {c : Code} (hx : p.tables.exec = Jvm.exec) (hb : c.code = cX13_readOrder) (hr : meth.sig.returnType = none) (hml : c.maxLocals = 4) (hts : ∀ w ∈ wl yX13_readOrder cX13_readOrder 4 none, w.before args s = true) (htl : ∀ w ∈ wsA, w.before args s = true) (hown : s.vm.findClass RX13 = some m.cls) (hlocks : meth.locks = false) (hK : kk_K D cy ld s) (hp_0 : 0 ≤ (-1) * gf.toInt + gt.toInt) (hp_1 : 0 ≤ gp.toInt + (-1) * gt.toInt) (hp_2 : (1 ≤ gs.toInt → 0 ≤ (-1) * gf.toInt + gt.toInt + (-1))) (hp_3 : (27 ≤ gw.toInt → 1 ≤ gs.toInt → gs.toInt ≤ 1 → 0 ≤ (-1) * gf.toInt + gt.toInt + (-2))) (hp_4 : 0 ≤ (-1) * gc.toInt + gf.toInt) (hp_5 : gb.toInt ≤ 0) (hg_0 : Fa 14 = gf) (hg_1 : Fa 15 = gt) (hg_2 : Fa 16 = gs) (hg_3 : Fa 13 = gp) (hg_4 : Ga 17 = gw) (hg_5 : Fa 19 = gb) (hg_6 : Fa 23 = gc) (hg_7 : Fa 21 = gn) (hx_0 : CLS 10 [1, 3, 5, 7] (Ra 24) (Ra 25) (Ra 61) gc.toInt gn.toInt) (hx_1 : TMS (Ra 61) gn.toInt) (v101 : Int32) (v105 : Int32) (v108 : Int32) (v109 : Int32) (v38 : Int32) (v97 : Int32) (v99 : Int32) (w103 : Int64) (H : Heap) (locs : List Loc) (F : Nat → Int32) (G : Nat → Int64) (R : Nat → Nat → Int32) (S : Nat → Nat → Int64) (hq0_kz_X13_readOrder_c2 : v101.toInt ≤ 3) (hq1_kz_X13_readOrder_c2 : 0 ≤ v105.toInt) (hq2_kz_X13_readOrder_c2 : 1 ≤ v109.toInt) (hq3_kz_X13_readOrder_c2 : v109.toInt ≤ 12) (hq4_kz_X13_readOrder_c2 : 2 ≤ v38.toInt) (hq5_kz_X13_readOrder_c2 : v38.toInt ≤ 3) (hq6_kz_X13_readOrder_c2 : v99.toInt ≤ 400) (hq7_kz_X13_readOrder_c2 : 0 ≤ gt.toInt + (-1) * v38.toInt + 1) (hq8_kz_X13_readOrder_c2 : 0 ≤ (-1) * gf.toInt + gt.toInt + (-1)) (hq9_kz_X13_readOrder_c2 : 0 ≤ (-1) * v97.toInt + v99.toInt) (hq10_kz_X13_readOrder_c2 : 0 ≤ gp.toInt + (-1) * v99.toInt) (hq11_kz_X13_readOrder_c2 : 0 ≤ (-1) * gt.toInt + v97.toInt) (hq12_kz_X13_readOrder_c2 : (-10) * gn.toInt + v108.toInt = 0) (hq13_kz_X13_readOrder_c2 : (-1) * gn.toInt + v109.toInt + (-1) = 0) (hq14_kz_X13_readOrder_c2 : 0 ≤ gb.toInt + (-1) * v105.toInt) (hq15_kz_X13_readOrder_c2 : 0 ≤ gc.toInt + (-1) * v105.toInt) (hq16_kz_X13_readOrder_c2 : 0 ≤ gs.toInt + (-1) * v105.toInt + (-1)) (hq17_kz_X13_readOrder_c2 : 0 ≤ (-1) * gs.toInt + v105.toInt + 1) (hq18_kz_X13_readOrder_c2 : 0 ≤ (-1) * gb.toInt + v101.toInt) (hM : mz_S D cy ad am F G R S H) (hS : va_S (mz_W ad am) s.heap H locs) (hIF : mz_IF false F) (hIG : mz_IG G) (hIR : mz_IR [] true R) (hFF : ∀ k : Nat, k ∉ ([14, 15, 16, 18, 19, 21, 23, 26, 29, 30] : List Nat) → F k = Fa k) (hGG : ∀ k : Nat, k ∉ ([17] : List Nat) → G k = Ga k) (hRR : ∀ k : Nat, k ∉ ([24, 25, 27, 28, 61] : List Nat) → R k = Ra k) (hg_3 : F 13 = gp) (hg_6 : F 23 = gc) (hf96 : F 14 = v97) (hf98 : F 15 = v99) (hf100 : F 16 = v101) (hf102 : G 17 = w103) (hf104 : F 19 = v105) (hf111 : F 21 = v109) (hc0_kz_X13_readOrder_c2 : (27 ≤ gw.toInt → 1 ≤ gs.toInt → gs.toInt ≤ 1 → 0 ≤ (-1) * gf.toInt + gt.toInt + (-2))) (hc1_kz_X13_readOrder_c2 : (1 ≤ v101.toInt → 0 ≤ (-1) * v97.toInt + v99.toInt + (-1))) (hc2_kz_X13_readOrder_c2 : (27 ≤ w103.toInt → 1 ≤ v101.toInt → v101.toInt ≤ 1 → 0 ≤ (-1) * v97.toInt + v99.toInt + (-2))) (hc3_kz_X13_readOrder_c2 : (27 ≤ gw.toInt → 1 ≤ gs.toInt → gs.toInt ≤ 1 → 0 ≤ (-1) * gf.toInt + gt.toInt + (-2))) (hL22 : low (10 * gn.toInt.toNat) (Ra 61) (R 61)) (hC : v105.toInt = 0 → CLS 10 [1, 3, 5, 7] (R 24) (R 25) (Ra 61) gc.toInt gn.toInt) (h22_1 : R 61 (10 * gn.toInt.toNat + 1) = 0) (h22_2 : R 61 (10 * gn.toInt.toNat + 2) = 0) (h22_3 : R 61 (10 * gn.toInt.toNat + 3) = 0) (h22_4 : R 61 (10 * gn.toInt.toNat + 4) = 0) (h22_5 : R 61 (10 * gn.toInt.toNat + 5) = 0) (h22_6 : R 61 (10 * gn.toInt.toNat + 6) = 0) (h22_7 : R 61 (10 * gn.toInt.toNat + 7) = 0) (h22_8 : R 61 (10 * gn.toInt.toNat + 8) = 0) (h22_0 : R 61 (10 * gn.toInt.toNat + 0) = v38) (h22_9 : R 61 (10 * gn.toInt.toNat + 9) = 1) (ls : Array Slot) (hl : lv_has ls 4 [(2, .int v108), (0, .ref am)]) : W p l e ({ frames := 12, cells := 0, slots := 0, locals := 770 }) s m args below meth c H locs 0 0 (MQ below (mz_w D cy ad am (fun F G R S => mz_IF false F ∧ mz_IG G ∧ mz_IR [] true R ∧ (∀ k : Nat, k ∉ ([14, 15, 16, 18, 19, 21, 23, 26, 29, 30] : List Nat) → F k = Fa k) ∧ (∀ k : Nat, k ∉ ([24, 25, 27, 28, 61] : List Nat) → R k = Ra k) ∧ (∀ k : Nat, k ∉ ([17] : List Nat) → G k = Ga k) ∧ 0 ≤ (-1) * (F 14).toInt + (F 15).toInt ∧ 0 ≤ gp.toInt + (-1) * (F 15).toInt ∧ (1 ≤ (F 16).toInt → 0 ≤ (-1) * (F 14).toInt + (F 15).toInt + (-1)) ∧ (27 ≤ (G 17).toInt → 1 ≤ (F 16).toInt → (F 16).toInt ≤ 1 → 0 ≤ (-1) * (F 14).toInt + (F 15).toInt + (-2)) ∧ 0 ≤ (-1) * gf.toInt + (F 14).toInt ∧ 0 ≤ (-1) * gc.toInt + (F 23).toInt ∧ 0 ≤ (-1) * (F 23).toInt + (F 14).toInt ∧ 0 ≤ (-1) * gb.toInt + (F 19).toInt ∧ ((F 19).toInt ≤ 0 → 0 ≤ (-1) * gf.toInt + (F 14).toInt + (-1)) ∧ ((F 19).toInt = 0 → CLS 10 [1, 3, 5, 7] (R 24) (R 25) (R 61) (F 23).toInt (F 21).toInt) ∧ ((F 19).toInt = 0 → TMS (R 61) (F 21).toInt))) args s 0 0 (mz_W ad am)) (F0 m 221 ls []) := by
  have hq_gb := tk_rng gb
  have hq_gc := tk_rng gc
  have hq_gf := tk_rng gf
  have hq_gn := tk_rng gn
  have hq_gp := tk_rng gp
  have hq_gs := tk_rng gs
  have hq_gt := tk_rng gt
  have hq_gw := tk_rngL gw
  have hq_v101 := tk_rng v101
  have hq_v105 := tk_rng v105
  have hq_v108 := tk_rng v108
  have hq_v109 := tk_rng v109
  have hq_v38 := tk_rng v38
  have hq_v97 := tk_rng v97
  have hq_v99 := tk_rng v99
  have hq_w103 := tk_rngL w103
  have hr_gp : 0 ≤ gp.toInt ∧ gp.toInt ≤ 400 := hIF.at hg_3
  have hr_gc : 0 ≤ gc.toInt ∧ gc.toInt ≤ 400 := hIF.at hg_6
  have hr_v97 : 0 ≤ v97.toInt ∧ v97.toInt ≤ 400 := hIF.at hf96
  have hr_v99 : 0 ≤ v99.toInt ∧ v99.toInt ≤ 400 := hIF.at hf98
  have hr_v101 : 0 ≤ v101.toInt ∧ v101.toInt ≤ 3 := hIF.at hf100
  have hr_v105 : 0 ≤ v105.toInt ∧ v105.toInt ≤ 1 := hIF.at hf104
  have hr_v109 : 0 ≤ v109.toInt ∧ v109.toInt ≤ 12 := hIF.at hf111
  refine lv_aload_n hx hb dX13_readOrder_221 rfl (lv_at hl 1 rfl) ?_
  refine mz_getR hx hb htl hown hK hM 61 (Nat.le_of_ble_eq_true rfl) (Nat.le_of_ble_eq_true rfl) (htl _ mw_239) (fun _ h9 => h9) dX13_readOrder_222 ?_
  refine lv_iload_n hx hb dX13_readOrder_225 rfl (lv_at hl 0 rfl) ?_
  refine lv_bipush (v := 7) hx hb dX13_readOrder_226 (by decide) ?_
  refine lv_iadd hx hb dX13_readOrder_228 ?_
  refine tk_add rfl (show (7 : Int32).toInt = 7 by decide) (by omega) (by omega) (fun v3351 h_v3351 => ?_)
  refine lv_aload_n hx hb dX13_readOrder_229 rfl (lv_at hl 1 rfl) ?_
  refine mz_getI hx hb htl hown hK hM 23 (Nat.le_of_ble_eq_true rfl) rfl (htl _ mw_670) (fun _ h9 => h9) dX13_readOrder_230 (fun v9 e9 => ?_)
  refine fx_ti (v := gc) (e9.symm.trans hg_6) ?_
  refine mz_iast (x := gc) hx hb hK hD hM hS 61 (Nat.le_of_ble_eq_true rfl) rfl (nn := 120) rfl rfl (by omega) (by omega) dX13_readOrder_233 (fun H locs R hM hS hw9 hj9 => ?_)
  have hIR := hIR.put hw9 hj9 trivial
  have hL22 : low (10 * gn.toInt.toNat) (Ra 61) (R 61) := fun j hj => by rw [hw9, pk_un (fun h9 => by have h8 := tk_nat (i := v3351) rfl (by omega); omega)]; exact hL22 j hj
  have h22_1 : R 61 (10 * gn.toInt.toNat + 1) = 0 := by rw [hw9, pk_un (fun h9 => by have h8 := tk_nat (i := v3351) rfl (by omega); omega)]; exact h22_1
  have h22_2 : R 61 (10 * gn.toInt.toNat + 2) = 0 := by rw [hw9, pk_un (fun h9 => by have h8 := tk_nat (i := v3351) rfl (by omega); omega)]; exact h22_2
  have h22_3 : R 61 (10 * gn.toInt.toNat + 3) = 0 := by rw [hw9, pk_un (fun h9 => by have h8 := tk_nat (i := v3351) rfl (by omega); omega)]; exact h22_3
  have h22_4 : R 61 (10 * gn.toInt.toNat + 4) = 0 := by rw [hw9, pk_un (fun h9 => by have h8 := tk_nat (i := v3351) rfl (by omega); omega)]; exact h22_4
  have h22_5 : R 61 (10 * gn.toInt.toNat + 5) = 0 := by rw [hw9, pk_un (fun h9 => by have h8 := tk_nat (i := v3351) rfl (by omega); omega)]; exact h22_5
  have h22_6 : R 61 (10 * gn.toInt.toNat + 6) = 0 := by rw [hw9, pk_un (fun h9 => by have h8 := tk_nat (i := v3351) rfl (by omega); omega)]; exact h22_6
  have h22_8 : R 61 (10 * gn.toInt.toNat + 8) = 0 := by rw [hw9, pk_un (fun h9 => by have h8 := tk_nat (i := v3351) rfl (by omega); omega)]; exact h22_8
  have h22_0 : R 61 (10 * gn.toInt.toNat + 0) = v38 := by rw [hw9, pk_un (fun h9 => by have h8 := tk_nat (i := v3351) rfl (by omega); omega)]; exact h22_0
  have h22_9 : R 61 (10 * gn.toInt.toNat + 9) = 1 := by rw [hw9, pk_un (fun h9 => by have h8 := tk_nat (i := v3351) rfl (by omega); omega)]; exact h22_9
  have hC9 := hC
  have hC : v105.toInt = 0 → CLS 10 [1, 3, 5, 7] (R 24) (R 25) (Ra 61) gc.toInt gn.toInt := fun h9 => (hC9 (by omega)).to (hj9 24 (by decide)) (hj9 25 (by decide))
  have h22_7 : R 61 (10 * gn.toInt.toNat + 7) = gc := by rw [hw9, show 10 * gn.toInt.toNat + 7 = (v3351 : Int32).toNatClampNeg by show _ = v3351.toInt.toNat; omega]; exact pk_us
  have hRR := mz_frp (K := [24, 25, 27, 28, 61]) (Fa := Ra) hj9 hRR (by decide)
  refine lv_aload_n hx hb dX13_readOrder_234 rfl (lv_at hl 1 rfl) ?_
  refine mz_getI hx hb htl hown hK hM 19 (Nat.le_of_ble_eq_true rfl) rfl (htl _ mw_668) (fun _ h9 => h9) dX13_readOrder_235 (fun v9 e9 => ?_)
  refine fx_ti (v := v105) (e9.symm.trans hf104) ?_
  refine lv_if_ne (tgt := 260) hx hb dX13_readOrder_238 (by decide) (fun c9 => absurd ((fi_eq rfl (show (0 : Int32).toInt = 0 by decide)).mpr (show v105.toInt = 0 by omega)) c9) (fun _ => ?_)
  refine lv_aload_n hx hb dX13_readOrder_241 rfl (lv_at hl 1 rfl) ?_
  refine lv_ldc2 hx hb hown (htl _ mw_705) dX13_readOrder_242 ?_
  have hk_294 : (294 : Int64).toInt = 294 := by decide
  refine mz_Vj (As := [.long 294]) (rest := []) ⟨hx, hb, hml, hown, hts⟩ hK hM hS (k_X13_isWord l D cy ld ad am hD _ _ _ _ 294 v101 w103 hIF hIG hIR hf100 hf102) ⟨callB_of 1 hts (wl_in mw_709) rfl rfl rfl (htl _ mw_5) (htl _ mw_706) hd_yX13_isWord ⟨(Nat.le_of_ble_eq_true rfl), (Nat.le_of_ble_eq_true rfl)⟩, htl _ mw_707, htl _ mw_708⟩ rfl hl.1 rfl (Nat.le_of_ble_eq_true rfl) dX13_readOrder_245 ⟨(Nat.le_of_ble_eq_true rfl), (Nat.le_of_ble_eq_true rfl)⟩ (fun v3353 H locs hpo hM hS => ?_)
  obtain ⟨hpo3354, hpo3355, hpo3356, hpo3357, hpo3358⟩ := hpo
  have hq_v3353 := tk_rng v3353
  refine lv_if_eq (tgt := 260) hx hb dX13_readOrder_248 (by decide) (fun c9 => ?_) (fun c9 => ?_)
  · have hc3360 : v3353.toInt = 0 := (fi_eq rfl (show (0 : Int32).toInt = 0 by decide)).mp c9
    refine lv_aload_n hx hb dX13_readOrder_260 rfl (lv_at hl 1 rfl) ?_
    refine mz_getR hx hb htl hown hK hM 61 (Nat.le_of_ble_eq_true rfl) (Nat.le_of_ble_eq_true rfl) (htl _ mw_239) (fun _ h9 => h9) dX13_readOrder_261 ?_
    refine lv_iload_n hx hb dX13_readOrder_264 rfl (lv_at hl 0 rfl) ?_
    refine lv_bipush (v := 8) hx hb dX13_readOrder_265 (by decide) ?_
    refine lv_iadd hx hb dX13_readOrder_267 ?_
    refine tk_add rfl (show (8 : Int32).toInt = 8 by decide) (by omega) (by omega) (fun v3361 h_v3361 => ?_)
    refine lv_aload_n hx hb dX13_readOrder_268 rfl (lv_at hl 1 rfl) ?_
    refine mz_getI hx hb htl hown hK hM 23 (Nat.le_of_ble_eq_true rfl) rfl (htl _ mw_670) (fun _ h9 => h9) dX13_readOrder_269 (fun v9 e9 => ?_)
    refine fx_ti (v := gc) (e9.symm.trans hg_6) ?_
    refine mz_iast (x := gc) hx hb hK hD hM hS 61 (Nat.le_of_ble_eq_true rfl) rfl (nn := 120) rfl rfl (by omega) (by omega) dX13_readOrder_272 (fun H locs R hM hS hw9 hj9 => ?_)
    have hIR := hIR.put hw9 hj9 trivial
    have hL22 : low (10 * gn.toInt.toNat) (Ra 61) (R 61) := fun j hj => by rw [hw9, pk_un (fun h9 => by have h8 := tk_nat (i := v3361) rfl (by omega); omega)]; exact hL22 j hj
    have h22_1 : R 61 (10 * gn.toInt.toNat + 1) = 0 := by rw [hw9, pk_un (fun h9 => by have h8 := tk_nat (i := v3361) rfl (by omega); omega)]; exact h22_1
    have h22_2 : R 61 (10 * gn.toInt.toNat + 2) = 0 := by rw [hw9, pk_un (fun h9 => by have h8 := tk_nat (i := v3361) rfl (by omega); omega)]; exact h22_2
    have h22_3 : R 61 (10 * gn.toInt.toNat + 3) = 0 := by rw [hw9, pk_un (fun h9 => by have h8 := tk_nat (i := v3361) rfl (by omega); omega)]; exact h22_3
    have h22_4 : R 61 (10 * gn.toInt.toNat + 4) = 0 := by rw [hw9, pk_un (fun h9 => by have h8 := tk_nat (i := v3361) rfl (by omega); omega)]; exact h22_4
    have h22_5 : R 61 (10 * gn.toInt.toNat + 5) = 0 := by rw [hw9, pk_un (fun h9 => by have h8 := tk_nat (i := v3361) rfl (by omega); omega)]; exact h22_5
    have h22_6 : R 61 (10 * gn.toInt.toNat + 6) = 0 := by rw [hw9, pk_un (fun h9 => by have h8 := tk_nat (i := v3361) rfl (by omega); omega)]; exact h22_6
    have h22_7 : R 61 (10 * gn.toInt.toNat + 7) = gc := by rw [hw9, pk_un (fun h9 => by have h8 := tk_nat (i := v3361) rfl (by omega); omega)]; exact h22_7
    have h22_0 : R 61 (10 * gn.toInt.toNat + 0) = v38 := by rw [hw9, pk_un (fun h9 => by have h8 := tk_nat (i := v3361) rfl (by omega); omega)]; exact h22_0
    have h22_9 : R 61 (10 * gn.toInt.toNat + 9) = 1 := by rw [hw9, pk_un (fun h9 => by have h8 := tk_nat (i := v3361) rfl (by omega); omega)]; exact h22_9
    have hC9 := hC
    have hC : v105.toInt = 0 → CLS 10 [1, 3, 5, 7] (R 24) (R 25) (Ra 61) gc.toInt gn.toInt := fun h9 => (hC9 (by omega)).to (hj9 24 (by decide)) (hj9 25 (by decide))
    have h22_8 : R 61 (10 * gn.toInt.toNat + 8) = gc := by rw [hw9, show 10 * gn.toInt.toNat + 8 = (v3361 : Int32).toNatClampNeg by show _ = v3361.toInt.toNat; omega]; exact pk_us
    have hRR := mz_frp (K := [24, 25, 27, 28, 61]) (Fa := Ra) hj9 hRR (by decide)
    have hk_0 : (0 : Int32).toInt = 0 := by decide
    have hk_0 : (0 : Int32).toInt = 0 := by decide
    have hk_0 : (0 : Int32).toInt = 0 := by decide
    have hk_0 : (0 : Int32).toInt = 0 := by decide
    have hk_0 : (0 : Int32).toInt = 0 := by decide
    have hk_0 : (0 : Int32).toInt = 0 := by decide
    have hk_1 : (1 : Int32).toInt = 1 := by decide
    exact mz_vret hx hb hr hlocks ⟨hIF, hIG, hIR, hFF, hRR, hGG, (by rw [hf96, hf98]; omega), (by rw [hf98]; omega), (by rw [hf96, hf98, hf100]; omega), (by rw [hf96, hf98, hf100, hf102]; omega), (by rw [hf96]; omega), (by rw [hg_6]; omega), (by rw [hf96, hg_6]; omega), (by rw [hf104]; omega), (by rw [hf96, hf104]; omega), (by rw [hf104, hg_6, hf111]; exact fun h9 => mz_snoc (N := gn.toInt.toNat) (hC h9) (by omega) (by omega) hL22 (by decide) (by omega) (by intro d hd; simp only [List.mem_cons, List.not_mem_nil, or_false] at hd; rcases hd with rfl | rfl | rfl | rfl <;> first | (rw [show 10 * gn.toInt.toNat + 1 + 1 = 10 * gn.toInt.toNat + 2 from rfl, h22_1, h22_2]; exact ⟨WFX.nil (by omega) (by omega), by omega⟩) | (rw [show 10 * gn.toInt.toNat + 3 + 1 = 10 * gn.toInt.toNat + 4 from rfl, h22_3, h22_4]; exact ⟨WFX.nil (by omega) (by omega), by omega⟩) | (rw [show 10 * gn.toInt.toNat + 5 + 1 = 10 * gn.toInt.toNat + 6 from rfl, h22_5, h22_6]; exact ⟨WFX.nil (by omega) (by omega), by omega⟩) | (rw [show 10 * gn.toInt.toNat + 7 + 1 = 10 * gn.toInt.toNat + 8 from rfl, h22_7, h22_8]; exact ⟨WFX.nil (by omega) (by omega), by omega⟩))), (by rw [hf104, hf111]; exact fun h9 => TMS.snoc (N := gn.toInt.toNat) hx_1 (by omega) (by omega) hL22 h22_9 (by omega) (by omega))⟩ hM hS dX13_readOrder_273
  · have hc3360 : ¬ (v3353.toInt = 0) := fun h9 => c9 ((fi_eq rfl (show (0 : Int32).toInt = 0 by decide)).mpr h9)
    have hwk_3363 : w103.toInt + (-294) = 0 ∧ v101.toInt + (-1) = 0 := by omega
    have hwk_3364 : 0 ≤ (-1) * v97.toInt + v99.toInt + (-1) := by omega
    have hwk_3365 : 0 ≤ (-1) * v97.toInt + v99.toInt + (-2) := by omega
    refine lv_aload_n hx hb dX13_readOrder_251 rfl (lv_at hl 1 rfl) ?_
    refine mz_Vv (As := []) (rest := []) ⟨hx, hb, hml, hown, hts⟩ hK hM hS (k_X13_next l D cy ld ad am hD _ _ _ _ v99 gp hIF hIG hIR hf98 hg_3 (by omega)) ⟨callB_of 0 hts (wl_in mw_685) rfl rfl rfl (htl _ mw_5) (htl _ mw_682) hd_yX13_next ⟨(Nat.le_of_ble_eq_true rfl), (Nat.le_of_ble_eq_true rfl)⟩, htl _ mw_683, htl _ mw_684⟩ rfl hl.1 rfl (Nat.le_of_ble_eq_true rfl) dX13_readOrder_252 ⟨(Nat.le_of_ble_eq_true rfl), (Nat.le_of_ble_eq_true rfl)⟩ (fun H locs F G R S hpo hM hS => ?_)
    obtain ⟨hIF, hIG, hIR, hfr9, hrr9, hgr9, hpo3366, hpo3367, hpo3368, hpo3369, hpo3370⟩ := hpo
    have hFF := mz_fr (K := [14, 15, 16, 18, 19, 21, 23, 26, 29, 30]) (Fa := Fa) hfr9 hFF (by decide)
    have hRR := mz_fr (K := [24, 25, 27, 28, 61]) (Fa := Ra) hrr9 hRR (by decide)
    have hGG := mz_fr (K := [17]) (Fa := Ga) hgr9 hGG (by decide)
    have hg_3 := (hfr9 13 (by decide)).trans hg_3
    have hg_6 := (hfr9 23 (by decide)).trans hg_6
    have hf104 := (hfr9 19 (by decide)).trans hf104
    have hf111 := (hfr9 21 (by decide)).trans hf111
    obtain ⟨v3373, hf3372⟩ : ∃ z : Int32, F 14 = z := ⟨_, rfl⟩
    have hq_v3373 := tk_rng v3373
    rw [hf3372] at hpo3366 hpo3367 hpo3369 hpo3370
    have hr_v3373 : 0 ≤ v3373.toInt ∧ v3373.toInt ≤ 400 := hIF.at hf3372
    obtain ⟨v3375, hf3374⟩ : ∃ z : Int32, F 15 = z := ⟨_, rfl⟩
    have hq_v3375 := tk_rng v3375
    rw [hf3374] at hpo3367 hpo3368 hpo3369 hpo3370
    have hr_v3375 : 0 ≤ v3375.toInt ∧ v3375.toInt ≤ 400 := hIF.at hf3374
    obtain ⟨v3377, hf3376⟩ : ∃ z : Int32, F 16 = z := ⟨_, rfl⟩
    have hq_v3377 := tk_rng v3377
    rw [hf3376] at hpo3369 hpo3370
    have hr_v3377 : 0 ≤ v3377.toInt ∧ v3377.toInt ≤ 3 := hIF.at hf3376
    obtain ⟨w3379, hf3378⟩ : ∃ z : Int64, G 17 = z := ⟨_, rfl⟩
    have hq_w3379 := tk_rngL w3379
    rw [hf3378] at hpo3370
    have hL22 := hL22.to (hrr9 61 (by decide))
    have h22_1 := (congrFun (hrr9 61 (by decide)) _).trans h22_1
    have h22_2 := (congrFun (hrr9 61 (by decide)) _).trans h22_2
    have h22_3 := (congrFun (hrr9 61 (by decide)) _).trans h22_3
    have h22_4 := (congrFun (hrr9 61 (by decide)) _).trans h22_4
    have h22_5 := (congrFun (hrr9 61 (by decide)) _).trans h22_5
    have h22_6 := (congrFun (hrr9 61 (by decide)) _).trans h22_6
    have h22_7 := (congrFun (hrr9 61 (by decide)) _).trans h22_7
    have h22_8 := (congrFun (hrr9 61 (by decide)) _).trans h22_8
    have h22_0 := (congrFun (hrr9 61 (by decide)) _).trans h22_0
    have h22_9 := (congrFun (hrr9 61 (by decide)) _).trans h22_9
    have hC9 := hC
    have hC : v105.toInt = 0 → CLS 10 [1, 3, 5, 7] (R 24) (R 25) (Ra 61) gc.toInt gn.toInt := fun h9 => (hC9 (by omega)).to (hrr9 24 (by decide)) (hrr9 25 (by decide))
    refine lv_aload_n hx hb dX13_readOrder_255 rfl (lv_at hl 1 rfl) ?_
    refine lv_iconst (v := 1) hx hb dX13_readOrder_256 (by decide) ?_
    have hk_1 : (1 : Int32).toInt = 1 := by decide
    refine mz_Vv (As := [.int 1]) (rest := []) ⟨hx, hb, hml, hown, hts⟩ hK hM hS (k_X13_readExpression l D cy ld ad am hD _ _ _ _ 1 v3373 v3375 v3377 gp w3379 v105 gc hIF hIG hIR hf3372 hf3374 hf3376 hg_3 hf3378 hf104 hg_6 (by omega) (by omega) (by omega) (by omega) (by omega) (by omega) (by omega) (by omega)) ⟨callB_of 1 hts (wl_in mw_717) rfl rfl rfl (htl _ mw_5) (htl _ mw_714) hd_yX13_readExpression ⟨(Nat.le_of_ble_eq_true rfl), (Nat.le_of_ble_eq_true rfl)⟩, htl _ mw_715, htl _ mw_716⟩ rfl hl.1 rfl (Nat.le_of_ble_eq_true rfl) dX13_readOrder_257 ⟨(Nat.le_of_ble_eq_true rfl), (Nat.le_of_ble_eq_true rfl)⟩ (fun H locs F G R S hpo hM hS => ?_)
    obtain ⟨hIF, hIG, hIR, hfr9, hrr9, hgr9, hpo3380, hpo3381, hpo3382, hpo3383, hpo3384, hpo3385, hpo3386, hx3387⟩ := hpo
    have hFF := mz_fr (K := [14, 15, 16, 18, 19, 21, 23, 26, 29, 30]) (Fa := Fa) hfr9 hFF (by decide)
    have hRR := mz_fr (K := [24, 25, 27, 28, 61]) (Fa := Ra) hrr9 hRR (by decide)
    have hGG := mz_fr (K := [17]) (Fa := Ga) hgr9 hGG (by decide)
    have hg_3 := (hfr9 13 (by decide)).trans hg_3
    have hf111 := (hfr9 21 (by decide)).trans hf111
    obtain ⟨v3390, hf3389⟩ : ∃ z : Int32, F 14 = z := ⟨_, rfl⟩
    have hq_v3390 := tk_rng v3390
    rw [hf3389] at hpo3380 hpo3382 hpo3383 hpo3384 hpo3385
    have hr_v3390 : 0 ≤ v3390.toInt ∧ v3390.toInt ≤ 400 := hIF.at hf3389
    obtain ⟨v3392, hf3391⟩ : ∃ z : Int32, F 15 = z := ⟨_, rfl⟩
    have hq_v3392 := tk_rng v3392
    rw [hf3391] at hpo3380 hpo3381 hpo3382 hpo3383
    have hr_v3392 : 0 ≤ v3392.toInt ∧ v3392.toInt ≤ 400 := hIF.at hf3391
    obtain ⟨v3394, hf3393⟩ : ∃ z : Int32, F 16 = z := ⟨_, rfl⟩
    have hq_v3394 := tk_rng v3394
    rw [hf3393] at hpo3382 hpo3383
    have hr_v3394 : 0 ≤ v3394.toInt ∧ v3394.toInt ≤ 3 := hIF.at hf3393
    obtain ⟨w3396, hf3395⟩ : ∃ z : Int64, G 17 = z := ⟨_, rfl⟩
    have hq_w3396 := tk_rngL w3396
    rw [hf3395] at hpo3383
    obtain ⟨v3398, hf3397⟩ : ∃ z : Int32, F 19 = z := ⟨_, rfl⟩
    have hq_v3398 := tk_rng v3398
    have hr_v3398 : 0 ≤ v3398.toInt ∧ v3398.toInt ≤ 1 := hIF.at hf3397
    obtain ⟨v3400, hf3399⟩ : ∃ z : Int32, F 23 = z := ⟨_, rfl⟩
    have hq_v3400 := tk_rng v3400
    rw [hf3399] at hpo3385 hpo3386
    have hr_v3400 : 0 ≤ v3400.toInt ∧ v3400.toInt ≤ 400 := hIF.at hf3399
    have hL22 := hL22.to (hrr9 61 (by decide))
    have h22_1 := (congrFun (hrr9 61 (by decide)) _).trans h22_1
    have h22_2 := (congrFun (hrr9 61 (by decide)) _).trans h22_2
    have h22_3 := (congrFun (hrr9 61 (by decide)) _).trans h22_3
    have h22_4 := (congrFun (hrr9 61 (by decide)) _).trans h22_4
    have h22_5 := (congrFun (hrr9 61 (by decide)) _).trans h22_5
    have h22_6 := (congrFun (hrr9 61 (by decide)) _).trans h22_6
    have h22_7 := (congrFun (hrr9 61 (by decide)) _).trans h22_7
    have h22_8 := (congrFun (hrr9 61 (by decide)) _).trans h22_8
    have h22_0 := (congrFun (hrr9 61 (by decide)) _).trans h22_0
    have h22_9 := (congrFun (hrr9 61 (by decide)) _).trans h22_9
    have hE9 : v3398.toInt = 0 → WFC (R 24) (R 25) gc.toInt.toNat v3400.toInt.toNat ∧ low gc.toInt.toNat _ (R 24) ∧ low gc.toInt.toNat _ (R 25) := fun h9 => by have h8 := hx3387 (by rw [hf3397]; exact h9); rw [hf3399] at h8; exact h8
    have hC9 := hC (by omega)
    have hC : v3398.toInt = 0 → CLS 10 [1, 3, 5, 7] (R 24) (R 25) (Ra 61) gc.toInt gn.toInt := fun h9 => hC9.low (N := gc.toInt.toNat) (by omega) (hE9 h9).2.1 (hE9 h9).2.2
    have hX3401 : v3398.toInt = 0 → WFX (R 24) (R 25) gc v3400 := fun h9 => ⟨by omega, by omega, by omega, (hE9 h9).1⟩
    refine lv_aload_n hx hb dX13_readOrder_260 rfl (lv_at hl 1 rfl) ?_
    refine mz_getR hx hb htl hown hK hM 61 (Nat.le_of_ble_eq_true rfl) (Nat.le_of_ble_eq_true rfl) (htl _ mw_239) (fun _ h9 => h9) dX13_readOrder_261 ?_
    refine lv_iload_n hx hb dX13_readOrder_264 rfl (lv_at hl 0 rfl) ?_
    refine lv_bipush (v := 8) hx hb dX13_readOrder_265 (by decide) ?_
    refine lv_iadd hx hb dX13_readOrder_267 ?_
    refine tk_add rfl (show (8 : Int32).toInt = 8 by decide) (by omega) (by omega) (fun v3402 h_v3402 => ?_)
    refine lv_aload_n hx hb dX13_readOrder_268 rfl (lv_at hl 1 rfl) ?_
    refine mz_getI hx hb htl hown hK hM 23 (Nat.le_of_ble_eq_true rfl) rfl (htl _ mw_670) (fun _ h9 => h9) dX13_readOrder_269 (fun v9 e9 => ?_)
    refine fx_ti (v := v3400) (e9.symm.trans hf3399) ?_
    refine mz_iast (x := v3400) hx hb hK hD hM hS 61 (Nat.le_of_ble_eq_true rfl) rfl (nn := 120) rfl rfl (by omega) (by omega) dX13_readOrder_272 (fun H locs R hM hS hw9 hj9 => ?_)
    have hIR := hIR.put hw9 hj9 trivial
    have hL22 : low (10 * gn.toInt.toNat) (Ra 61) (R 61) := fun j hj => by rw [hw9, pk_un (fun h9 => by have h8 := tk_nat (i := v3402) rfl (by omega); omega)]; exact hL22 j hj
    have h22_1 : R 61 (10 * gn.toInt.toNat + 1) = 0 := by rw [hw9, pk_un (fun h9 => by have h8 := tk_nat (i := v3402) rfl (by omega); omega)]; exact h22_1
    have h22_2 : R 61 (10 * gn.toInt.toNat + 2) = 0 := by rw [hw9, pk_un (fun h9 => by have h8 := tk_nat (i := v3402) rfl (by omega); omega)]; exact h22_2
    have h22_3 : R 61 (10 * gn.toInt.toNat + 3) = 0 := by rw [hw9, pk_un (fun h9 => by have h8 := tk_nat (i := v3402) rfl (by omega); omega)]; exact h22_3
    have h22_4 : R 61 (10 * gn.toInt.toNat + 4) = 0 := by rw [hw9, pk_un (fun h9 => by have h8 := tk_nat (i := v3402) rfl (by omega); omega)]; exact h22_4
    have h22_5 : R 61 (10 * gn.toInt.toNat + 5) = 0 := by rw [hw9, pk_un (fun h9 => by have h8 := tk_nat (i := v3402) rfl (by omega); omega)]; exact h22_5
    have h22_6 : R 61 (10 * gn.toInt.toNat + 6) = 0 := by rw [hw9, pk_un (fun h9 => by have h8 := tk_nat (i := v3402) rfl (by omega); omega)]; exact h22_6
    have h22_7 : R 61 (10 * gn.toInt.toNat + 7) = gc := by rw [hw9, pk_un (fun h9 => by have h8 := tk_nat (i := v3402) rfl (by omega); omega)]; exact h22_7
    have h22_0 : R 61 (10 * gn.toInt.toNat + 0) = v38 := by rw [hw9, pk_un (fun h9 => by have h8 := tk_nat (i := v3402) rfl (by omega); omega)]; exact h22_0
    have h22_9 : R 61 (10 * gn.toInt.toNat + 9) = 1 := by rw [hw9, pk_un (fun h9 => by have h8 := tk_nat (i := v3402) rfl (by omega); omega)]; exact h22_9
    have hC9 := hC
    have hC : v3398.toInt = 0 → CLS 10 [1, 3, 5, 7] (R 24) (R 25) (Ra 61) gc.toInt gn.toInt := fun h9 => (hC9 (by omega)).to (hj9 24 (by decide)) (hj9 25 (by decide))
    have hX34019 := hX3401
    have hX3401 : v3398.toInt = 0 → WFX (R 24) (R 25) gc v3400 := fun h9 => by rw [hj9 24 (by decide), hj9 25 (by decide)]; exact hX34019 (by omega)
    have h22_8 : R 61 (10 * gn.toInt.toNat + 8) = v3400 := by rw [hw9, show 10 * gn.toInt.toNat + 8 = (v3402 : Int32).toNatClampNeg by show _ = v3402.toInt.toNat; omega]; exact pk_us
    have hRR := mz_frp (K := [24, 25, 27, 28, 61]) (Fa := Ra) hj9 hRR (by decide)
    have hk_0 : (0 : Int32).toInt = 0 := by decide
    have hk_0 : (0 : Int32).toInt = 0 := by decide
    have hk_0 : (0 : Int32).toInt = 0 := by decide
    have hk_0 : (0 : Int32).toInt = 0 := by decide
    have hk_0 : (0 : Int32).toInt = 0 := by decide
    have hk_0 : (0 : Int32).toInt = 0 := by decide
    have hk_1 : (1 : Int32).toInt = 1 := by decide
    exact mz_vret hx hb hr hlocks ⟨hIF, hIG, hIR, hFF, hRR, hGG, (by rw [hf3389, hf3391]; omega), (by rw [hf3391]; omega), (by rw [hf3389, hf3391, hf3393]; omega), (by rw [hf3389, hf3391, hf3393, hf3395]; omega), (by rw [hf3389]; omega), (by rw [hf3399]; omega), (by rw [hf3389, hf3399]; omega), (by rw [hf3397]; omega), (by rw [hf3389, hf3397]; omega), (by rw [hf3397, hf3399, hf111]; exact fun h9 => mz_snoc (N := gn.toInt.toNat) (hC h9) (by omega) (by omega) hL22 (by decide) (by omega) (by intro d hd; simp only [List.mem_cons, List.not_mem_nil, or_false] at hd; rcases hd with rfl | rfl | rfl | rfl <;> first | (rw [show 10 * gn.toInt.toNat + 1 + 1 = 10 * gn.toInt.toNat + 2 from rfl, h22_1, h22_2]; exact ⟨WFX.nil (by omega) (by omega), by omega⟩) | (rw [show 10 * gn.toInt.toNat + 3 + 1 = 10 * gn.toInt.toNat + 4 from rfl, h22_3, h22_4]; exact ⟨WFX.nil (by omega) (by omega), by omega⟩) | (rw [show 10 * gn.toInt.toNat + 5 + 1 = 10 * gn.toInt.toNat + 6 from rfl, h22_5, h22_6]; exact ⟨WFX.nil (by omega) (by omega), by omega⟩) | (rw [show 10 * gn.toInt.toNat + 7 + 1 = 10 * gn.toInt.toNat + 8 from rfl, h22_7, h22_8]; exact ⟨hX3401 h9, by omega⟩))), (by rw [hf3397, hf111]; exact fun h9 => TMS.snoc (N := gn.toInt.toNat) hx_1 (by omega) (by omega) hL22 h22_9 (by omega) (by omega))⟩ hM hS dX13_readOrder_273
set_option maxHeartbeats 4000000 in
set_option maxRecDepth 100000 in
theorem kz_X13_readOrder_c3 (l : Launch) (D : va_G) (cy : Nat → ClassId) (ld ad : Nat → Nat) (am : Nat) (hD : mz_D ad am) (Fa : Nat → Int32) (Ga : Nat → Int64) (Ra : Nat → Nat → Int32) (Sa : Nat → Nat → Int64) (gf : Int32) (gt : Int32) (gs : Int32) (gp : Int32) (gw : Int64) (gb : Int32) (gc : Int32) (gn : Int32) {p : Program} {e : Env} {s : State} {m : MethodId} {args : Array Value} {below : List Frame} {meth : Method} {c : Code} (hx : p.tables.exec = Jvm.exec) (hb : c.code = cX13_readOrder) (hr : meth.sig.returnType = none) (hml : c.maxLocals = 4) (hts : ∀ w ∈ wl yX13_readOrder cX13_readOrder 4 none, w.before args s = true) (htl : ∀ w ∈ wsA, w.before args s = true) (hown : s.vm.findClass RX13 = some m.cls) (hlocks : meth.locks = false) (hK : kk_K D cy ld s) (hp_0 : 0 ≤ (-1) * gf.toInt + gt.toInt) (hp_1 : 0 ≤ gp.toInt + (-1) * gt.toInt) (hp_2 : (1 ≤ gs.toInt → 0 ≤ (-1) * gf.toInt + gt.toInt + (-1))) (hp_3 : (27 ≤ gw.toInt → 1 ≤ gs.toInt → gs.toInt ≤ 1 → 0 ≤ (-1) * gf.toInt + gt.toInt + (-2))) (hp_4 : 0 ≤ (-1) * gc.toInt + gf.toInt) (hp_5 : gb.toInt ≤ 0) (hg_0 : Fa 14 = gf) (hg_1 : Fa 15 = gt) (hg_2 : Fa 16 = gs) (hg_3 : Fa 13 = gp) (hg_4 : Ga 17 = gw) (hg_5 : Fa 19 = gb) (hg_6 : Fa 23 = gc) (hg_7 : Fa 21 = gn) (hx_0 : CLS 10 [1, 3, 5, 7] (Ra 24) (Ra 25) (Ra 61) gc.toInt gn.toInt) (hx_1 : TMS (Ra 61) gn.toInt) (v108 : Int32) (v109 : Int32) (v3422 : Int32) (v3432 : Int32) (v3434 : Int32) (v3436 : Int32) (v3440 : Int32) (v38 : Int32) (w3438 : Int64) (H : Heap) (locs : List Loc) (F : Nat → Int32) (G : Nat → Int64) (R : Nat → Nat → Int32) (S : Nat → Nat → Int64) (hq0_kz_X13_readOrder_c3 : v109.toInt ≤ 12) (hq1_kz_X13_readOrder_c3 : v3434.toInt ≤ 400) (hq2_kz_X13_readOrder_c3 : 0 ≤ v3436.toInt) (hq3_kz_X13_readOrder_c3 : v3436.toInt ≤ 3) (hq4_kz_X13_readOrder_c3 : 0 ≤ v3440.toInt) (hq5_kz_X13_readOrder_c3 : 2 ≤ v38.toInt) (hq6_kz_X13_readOrder_c3 : v38.toInt ≤ 3) (hq7_kz_X13_readOrder_c3 : 0 ≤ gt.toInt + (-1) * v38.toInt + 1) (hq8_kz_X13_readOrder_c3 : 0 ≤ (-1) * gf.toInt + gt.toInt + (-1)) (hq9_kz_X13_readOrder_c3 : (-10) * gn.toInt + v108.toInt = 0) (hq10_kz_X13_readOrder_c3 : (-1) * gn.toInt + v109.toInt + (-1) = 0) (hq11_kz_X13_readOrder_c3 : 0 ≤ (-1) * v3432.toInt + v3434.toInt) (hq12_kz_X13_readOrder_c3 : 0 ≤ gp.toInt + (-1) * v3434.toInt) (hq13_kz_X13_readOrder_c3 : 0 ≤ gb.toInt + (-1) * v3440.toInt + 1) (hq14_kz_X13_readOrder_c3 : 0 ≤ gc.toInt + (-1) * v3440.toInt + 1) (hq15_kz_X13_readOrder_c3 : 0 ≤ gs.toInt + (-1) * v3440.toInt) (hq16_kz_X13_readOrder_c3 : 0 ≤ (-1) * gs.toInt + v108.toInt + 1) (hq17_kz_X13_readOrder_c3 : 0 ≤ (-1) * gt.toInt + v3432.toInt + (-2)) (hq18_kz_X13_readOrder_c3 : 0 ≤ (-1) * gs.toInt + v3436.toInt + 1) (hq19_kz_X13_readOrder_c3 : 0 ≤ (-1) * gs.toInt + v3440.toInt + 1) (hq20_kz_X13_readOrder_c3 : 0 ≤ (-1) * gs.toInt + v38.toInt + (-1)) (hM : mz_S D cy ad am F G R S H) (hS : va_S (mz_W ad am) s.heap H locs) (hIF : mz_IF false F) (hIG : mz_IG G) (hIR : mz_IR [] true R) (hFF : ∀ k : Nat, k ∉ ([14, 15, 16, 18, 19, 21, 23, 26, 29, 30] : List Nat) → F k = Fa k) (hGG : ∀ k : Nat, k ∉ ([17] : List Nat) → G k = Ga k) (hRR : ∀ k : Nat, k ∉ ([24, 25, 27, 28, 61] : List Nat) → R k = Ra k) (hg_3 : F 13 = gp) (hg_6 : F 23 = gc) (hf111 : F 21 = v109) (hf3431 : F 14 = v3432) (hf3433 : F 15 = v3434) (hf3435 : F 16 = v3436) (hf3437 : G 17 = w3438) (hf3439 : F 19 = v3440) (hc0_kz_X13_readOrder_c3 : (27 ≤ gw.toInt → 1 ≤ gs.toInt → gs.toInt ≤ 1 → 0 ≤ (-1) * gf.toInt + gt.toInt + (-2))) (hc1_kz_X13_readOrder_c3 : (27 ≤ gw.toInt → 1 ≤ gs.toInt → gs.toInt ≤ 1 → 0 ≤ (-1) * gf.toInt + gt.toInt + (-2))) (hc2_kz_X13_readOrder_c3 : (1 ≤ v3436.toInt → 0 ≤ (-1) * v3432.toInt + v3434.toInt + (-1))) (hc3_kz_X13_readOrder_c3 : (27 ≤ w3438.toInt → 1 ≤ v3436.toInt → v3436.toInt ≤ 1 → 0 ≤ (-1) * v3432.toInt + v3434.toInt + (-2))) (hL22 : low (10 * gn.toInt.toNat) (Ra 61) (R 61)) (hC : v3440.toInt = 0 → CLS 10 [1, 3, 5, 7] (R 24) (R 25) (Ra 61) gc.toInt gn.toInt) (h22_1 : R 61 (10 * gn.toInt.toNat + 1) = 0) (h22_2 : R 61 (10 * gn.toInt.toNat + 2) = 0) (h22_3 : R 61 (10 * gn.toInt.toNat + 3) = 0) (h22_4 : R 61 (10 * gn.toInt.toNat + 4) = 0) (h22_5 : R 61 (10 * gn.toInt.toNat + 5) = 0) (h22_6 : R 61 (10 * gn.toInt.toNat + 6) = 0) (h22_7 : R 61 (10 * gn.toInt.toNat + 7) = 0) (h22_8 : R 61 (10 * gn.toInt.toNat + 8) = 0) (h22_0 : R 61 (10 * gn.toInt.toNat + 0) = v38) (h22_9 : R 61 (10 * gn.toInt.toNat + 9) = v3422) (ls : Array Slot) (hl : lv_has ls 4 [(2, .int v108), (0, .ref am)]) : W p l e ({ frames := 12, cells := 0, slots := 0, locals := 770 }) s m args below meth c H locs 0 0 (MQ below (mz_w D cy ad am (fun F G R S => mz_IF false F ∧ mz_IG G ∧ mz_IR [] true R ∧ (∀ k : Nat, k ∉ ([14, 15, 16, 18, 19, 21, 23, 26, 29, 30] : List Nat) → F k = Fa k) ∧ (∀ k : Nat, k ∉ ([24, 25, 27, 28, 61] : List Nat) → R k = Ra k) ∧ (∀ k : Nat, k ∉ ([17] : List Nat) → G k = Ga k) ∧ 0 ≤ (-1) * (F 14).toInt + (F 15).toInt ∧ 0 ≤ gp.toInt + (-1) * (F 15).toInt ∧ (1 ≤ (F 16).toInt → 0 ≤ (-1) * (F 14).toInt + (F 15).toInt + (-1)) ∧ (27 ≤ (G 17).toInt → 1 ≤ (F 16).toInt → (F 16).toInt ≤ 1 → 0 ≤ (-1) * (F 14).toInt + (F 15).toInt + (-2)) ∧ 0 ≤ (-1) * gf.toInt + (F 14).toInt ∧ 0 ≤ (-1) * gc.toInt + (F 23).toInt ∧ 0 ≤ (-1) * (F 23).toInt + (F 14).toInt ∧ 0 ≤ (-1) * gb.toInt + (F 19).toInt ∧ ((F 19).toInt ≤ 0 → 0 ≤ (-1) * gf.toInt + (F 14).toInt + (-1)) ∧ ((F 19).toInt = 0 → CLS 10 [1, 3, 5, 7] (R 24) (R 25) (R 61) (F 23).toInt (F 21).toInt) ∧ ((F 19).toInt = 0 → TMS (R 61) (F 21).toInt))) args s 0 0 (mz_W ad am)) (F0 m 221 ls []) := by
  have hq_gb := tk_rng gb
  have hq_gc := tk_rng gc
  have hq_gf := tk_rng gf
  have hq_gn := tk_rng gn
  have hq_gp := tk_rng gp
  have hq_gs := tk_rng gs
  have hq_gt := tk_rng gt
  have hq_gw := tk_rngL gw
  have hq_v108 := tk_rng v108
  have hq_v109 := tk_rng v109
  have hq_v3422 := tk_rng v3422
  have hq_v3432 := tk_rng v3432
  have hq_v3434 := tk_rng v3434
  have hq_v3436 := tk_rng v3436
  have hq_v3440 := tk_rng v3440
  have hq_v38 := tk_rng v38
  have hq_w3438 := tk_rngL w3438
  have hr_gp : 0 ≤ gp.toInt ∧ gp.toInt ≤ 400 := hIF.at hg_3
  have hr_gc : 0 ≤ gc.toInt ∧ gc.toInt ≤ 400 := hIF.at hg_6
  have hr_v109 : 0 ≤ v109.toInt ∧ v109.toInt ≤ 12 := hIF.at hf111
  have hr_v3432 : 0 ≤ v3432.toInt ∧ v3432.toInt ≤ 400 := hIF.at hf3431
  have hr_v3434 : 0 ≤ v3434.toInt ∧ v3434.toInt ≤ 400 := hIF.at hf3433
  have hr_v3436 : 0 ≤ v3436.toInt ∧ v3436.toInt ≤ 3 := hIF.at hf3435
  have hr_v3440 : 0 ≤ v3440.toInt ∧ v3440.toInt ≤ 1 := hIF.at hf3439
  refine lv_aload_n hx hb dX13_readOrder_221 rfl (lv_at hl 1 rfl) ?_
  refine mz_getR hx hb htl hown hK hM 61 (Nat.le_of_ble_eq_true rfl) (Nat.le_of_ble_eq_true rfl) (htl _ mw_239) (fun _ h9 => h9) dX13_readOrder_222 ?_
  refine lv_iload_n hx hb dX13_readOrder_225 rfl (lv_at hl 0 rfl) ?_
  refine lv_bipush (v := 7) hx hb dX13_readOrder_226 (by decide) ?_
  refine lv_iadd hx hb dX13_readOrder_228 ?_
  refine tk_add rfl (show (7 : Int32).toInt = 7 by decide) (by omega) (by omega) (fun v3443 h_v3443 => ?_)
  refine lv_aload_n hx hb dX13_readOrder_229 rfl (lv_at hl 1 rfl) ?_
  refine mz_getI hx hb htl hown hK hM 23 (Nat.le_of_ble_eq_true rfl) rfl (htl _ mw_670) (fun _ h9 => h9) dX13_readOrder_230 (fun v9 e9 => ?_)
  refine fx_ti (v := gc) (e9.symm.trans hg_6) ?_
  refine mz_iast (x := gc) hx hb hK hD hM hS 61 (Nat.le_of_ble_eq_true rfl) rfl (nn := 120) rfl rfl (by omega) (by omega) dX13_readOrder_233 (fun H locs R hM hS hw9 hj9 => ?_)
  have hIR := hIR.put hw9 hj9 trivial
  have hL22 : low (10 * gn.toInt.toNat) (Ra 61) (R 61) := fun j hj => by rw [hw9, pk_un (fun h9 => by have h8 := tk_nat (i := v3443) rfl (by omega); omega)]; exact hL22 j hj
  have h22_1 : R 61 (10 * gn.toInt.toNat + 1) = 0 := by rw [hw9, pk_un (fun h9 => by have h8 := tk_nat (i := v3443) rfl (by omega); omega)]; exact h22_1
  have h22_2 : R 61 (10 * gn.toInt.toNat + 2) = 0 := by rw [hw9, pk_un (fun h9 => by have h8 := tk_nat (i := v3443) rfl (by omega); omega)]; exact h22_2
  have h22_3 : R 61 (10 * gn.toInt.toNat + 3) = 0 := by rw [hw9, pk_un (fun h9 => by have h8 := tk_nat (i := v3443) rfl (by omega); omega)]; exact h22_3
  have h22_4 : R 61 (10 * gn.toInt.toNat + 4) = 0 := by rw [hw9, pk_un (fun h9 => by have h8 := tk_nat (i := v3443) rfl (by omega); omega)]; exact h22_4
  have h22_5 : R 61 (10 * gn.toInt.toNat + 5) = 0 := by rw [hw9, pk_un (fun h9 => by have h8 := tk_nat (i := v3443) rfl (by omega); omega)]; exact h22_5
  have h22_6 : R 61 (10 * gn.toInt.toNat + 6) = 0 := by rw [hw9, pk_un (fun h9 => by have h8 := tk_nat (i := v3443) rfl (by omega); omega)]; exact h22_6
  have h22_8 : R 61 (10 * gn.toInt.toNat + 8) = 0 := by rw [hw9, pk_un (fun h9 => by have h8 := tk_nat (i := v3443) rfl (by omega); omega)]; exact h22_8
  have h22_0 : R 61 (10 * gn.toInt.toNat + 0) = v38 := by rw [hw9, pk_un (fun h9 => by have h8 := tk_nat (i := v3443) rfl (by omega); omega)]; exact h22_0
  have h22_9 : R 61 (10 * gn.toInt.toNat + 9) = v3422 := by rw [hw9, pk_un (fun h9 => by have h8 := tk_nat (i := v3443) rfl (by omega); omega)]; exact h22_9
  have hC9 := hC
  have hC : v3440.toInt = 0 → CLS 10 [1, 3, 5, 7] (R 24) (R 25) (Ra 61) gc.toInt gn.toInt := fun h9 => (hC9 (by omega)).to (hj9 24 (by decide)) (hj9 25 (by decide))
  have h22_7 : R 61 (10 * gn.toInt.toNat + 7) = gc := by rw [hw9, show 10 * gn.toInt.toNat + 7 = (v3443 : Int32).toNatClampNeg by show _ = v3443.toInt.toNat; omega]; exact pk_us
  have hRR := mz_frp (K := [24, 25, 27, 28, 61]) (Fa := Ra) hj9 hRR (by decide)
  refine lv_aload_n hx hb dX13_readOrder_234 rfl (lv_at hl 1 rfl) ?_
  refine mz_getI hx hb htl hown hK hM 19 (Nat.le_of_ble_eq_true rfl) rfl (htl _ mw_668) (fun _ h9 => h9) dX13_readOrder_235 (fun v9 e9 => ?_)
  refine fx_ti (v := v3440) (e9.symm.trans hf3439) ?_
  refine lv_if_ne (tgt := 260) hx hb dX13_readOrder_238 (by decide) (fun c9 => ?_) (fun c9 => ?_)
  · have hc3445 : ¬ (v3440.toInt = 0) := fun h9 => c9 ((fi_eq rfl (show (0 : Int32).toInt = 0 by decide)).mpr h9)
    refine lv_aload_n hx hb dX13_readOrder_260 rfl (lv_at hl 1 rfl) ?_
    refine mz_getR hx hb htl hown hK hM 61 (Nat.le_of_ble_eq_true rfl) (Nat.le_of_ble_eq_true rfl) (htl _ mw_239) (fun _ h9 => h9) dX13_readOrder_261 ?_
    refine lv_iload_n hx hb dX13_readOrder_264 rfl (lv_at hl 0 rfl) ?_
    refine lv_bipush (v := 8) hx hb dX13_readOrder_265 (by decide) ?_
    refine lv_iadd hx hb dX13_readOrder_267 ?_
    refine tk_add rfl (show (8 : Int32).toInt = 8 by decide) (by omega) (by omega) (fun v3446 h_v3446 => ?_)
    refine lv_aload_n hx hb dX13_readOrder_268 rfl (lv_at hl 1 rfl) ?_
    refine mz_getI hx hb htl hown hK hM 23 (Nat.le_of_ble_eq_true rfl) rfl (htl _ mw_670) (fun _ h9 => h9) dX13_readOrder_269 (fun v9 e9 => ?_)
    refine fx_ti (v := gc) (e9.symm.trans hg_6) ?_
    refine mz_iast (x := gc) hx hb hK hD hM hS 61 (Nat.le_of_ble_eq_true rfl) rfl (nn := 120) rfl rfl (by omega) (by omega) dX13_readOrder_272 (fun H locs R hM hS hw9 hj9 => ?_)
    have hIR := hIR.put hw9 hj9 trivial
    have hL22 : low (10 * gn.toInt.toNat) (Ra 61) (R 61) := fun j hj => by rw [hw9, pk_un (fun h9 => by have h8 := tk_nat (i := v3446) rfl (by omega); omega)]; exact hL22 j hj
    have h22_1 : R 61 (10 * gn.toInt.toNat + 1) = 0 := by rw [hw9, pk_un (fun h9 => by have h8 := tk_nat (i := v3446) rfl (by omega); omega)]; exact h22_1
    have h22_2 : R 61 (10 * gn.toInt.toNat + 2) = 0 := by rw [hw9, pk_un (fun h9 => by have h8 := tk_nat (i := v3446) rfl (by omega); omega)]; exact h22_2
    have h22_3 : R 61 (10 * gn.toInt.toNat + 3) = 0 := by rw [hw9, pk_un (fun h9 => by have h8 := tk_nat (i := v3446) rfl (by omega); omega)]; exact h22_3
    have h22_4 : R 61 (10 * gn.toInt.toNat + 4) = 0 := by rw [hw9, pk_un (fun h9 => by have h8 := tk_nat (i := v3446) rfl (by omega); omega)]; exact h22_4
    have h22_5 : R 61 (10 * gn.toInt.toNat + 5) = 0 := by rw [hw9, pk_un (fun h9 => by have h8 := tk_nat (i := v3446) rfl (by omega); omega)]; exact h22_5
    have h22_6 : R 61 (10 * gn.toInt.toNat + 6) = 0 := by rw [hw9, pk_un (fun h9 => by have h8 := tk_nat (i := v3446) rfl (by omega); omega)]; exact h22_6
    have h22_7 : R 61 (10 * gn.toInt.toNat + 7) = gc := by rw [hw9, pk_un (fun h9 => by have h8 := tk_nat (i := v3446) rfl (by omega); omega)]; exact h22_7
    have h22_0 : R 61 (10 * gn.toInt.toNat + 0) = v38 := by rw [hw9, pk_un (fun h9 => by have h8 := tk_nat (i := v3446) rfl (by omega); omega)]; exact h22_0
    have h22_9 : R 61 (10 * gn.toInt.toNat + 9) = v3422 := by rw [hw9, pk_un (fun h9 => by have h8 := tk_nat (i := v3446) rfl (by omega); omega)]; exact h22_9
    have hC9 := hC
    have hC : v3440.toInt = 0 → CLS 10 [1, 3, 5, 7] (R 24) (R 25) (Ra 61) gc.toInt gn.toInt := fun h9 => (hC9 (by omega)).to (hj9 24 (by decide)) (hj9 25 (by decide))
    have h22_8 : R 61 (10 * gn.toInt.toNat + 8) = gc := by rw [hw9, show 10 * gn.toInt.toNat + 8 = (v3446 : Int32).toNatClampNeg by show _ = v3446.toInt.toNat; omega]; exact pk_us
    have hRR := mz_frp (K := [24, 25, 27, 28, 61]) (Fa := Ra) hj9 hRR (by decide)
    exact mz_vret hx hb hr hlocks ⟨hIF, hIG, hIR, hFF, hRR, hGG, (by rw [hf3431, hf3433]; omega), (by rw [hf3433]; omega), (by rw [hf3431, hf3433, hf3435]; omega), (by rw [hf3431, hf3433, hf3435, hf3437]; omega), (by rw [hf3431]; omega), (by rw [hg_6]; omega), (by rw [hf3431, hg_6]; omega), (by rw [hf3439]; omega), (by rw [hf3431, hf3439]; omega), (by rw [hf3439]; exact fun h9 => absurd h9 (by omega)), (by rw [hf3439]; exact fun h9 => absurd h9 (by omega))⟩ hM hS dX13_readOrder_273
  · have hc3445 : v3440.toInt = 0 := (fi_eq rfl (show (0 : Int32).toInt = 0 by decide)).mp c9
    refine lv_aload_n hx hb dX13_readOrder_241 rfl (lv_at hl 1 rfl) ?_
    refine lv_ldc2 hx hb hown (htl _ mw_705) dX13_readOrder_242 ?_
    have hk_294 : (294 : Int64).toInt = 294 := by decide
    refine mz_Vj (As := [.long 294]) (rest := []) ⟨hx, hb, hml, hown, hts⟩ hK hM hS (k_X13_isWord l D cy ld ad am hD _ _ _ _ 294 v3436 w3438 hIF hIG hIR hf3435 hf3437) ⟨callB_of 1 hts (wl_in mw_709) rfl rfl rfl (htl _ mw_5) (htl _ mw_706) hd_yX13_isWord ⟨(Nat.le_of_ble_eq_true rfl), (Nat.le_of_ble_eq_true rfl)⟩, htl _ mw_707, htl _ mw_708⟩ rfl hl.1 rfl (Nat.le_of_ble_eq_true rfl) dX13_readOrder_245 ⟨(Nat.le_of_ble_eq_true rfl), (Nat.le_of_ble_eq_true rfl)⟩ (fun v3448 H locs hpo hM hS => ?_)
    obtain ⟨hpo3449, hpo3450, hpo3451, hpo3452, hpo3453⟩ := hpo
    have hq_v3448 := tk_rng v3448
    refine lv_if_eq (tgt := 260) hx hb dX13_readOrder_248 (by decide) (fun c9 => ?_) (fun c9 => ?_)
    · have hc3455 : v3448.toInt = 0 := (fi_eq rfl (show (0 : Int32).toInt = 0 by decide)).mp c9
      refine lv_aload_n hx hb dX13_readOrder_260 rfl (lv_at hl 1 rfl) ?_
      refine mz_getR hx hb htl hown hK hM 61 (Nat.le_of_ble_eq_true rfl) (Nat.le_of_ble_eq_true rfl) (htl _ mw_239) (fun _ h9 => h9) dX13_readOrder_261 ?_
      refine lv_iload_n hx hb dX13_readOrder_264 rfl (lv_at hl 0 rfl) ?_
      refine lv_bipush (v := 8) hx hb dX13_readOrder_265 (by decide) ?_
      refine lv_iadd hx hb dX13_readOrder_267 ?_
      refine tk_add rfl (show (8 : Int32).toInt = 8 by decide) (by omega) (by omega) (fun v3456 h_v3456 => ?_)
      refine lv_aload_n hx hb dX13_readOrder_268 rfl (lv_at hl 1 rfl) ?_
      refine mz_getI hx hb htl hown hK hM 23 (Nat.le_of_ble_eq_true rfl) rfl (htl _ mw_670) (fun _ h9 => h9) dX13_readOrder_269 (fun v9 e9 => ?_)
      refine fx_ti (v := gc) (e9.symm.trans hg_6) ?_
      refine mz_iast (x := gc) hx hb hK hD hM hS 61 (Nat.le_of_ble_eq_true rfl) rfl (nn := 120) rfl rfl (by omega) (by omega) dX13_readOrder_272 (fun H locs R hM hS hw9 hj9 => ?_)
      have hIR := hIR.put hw9 hj9 trivial
      have hL22 : low (10 * gn.toInt.toNat) (Ra 61) (R 61) := fun j hj => by rw [hw9, pk_un (fun h9 => by have h8 := tk_nat (i := v3456) rfl (by omega); omega)]; exact hL22 j hj
      have h22_1 : R 61 (10 * gn.toInt.toNat + 1) = 0 := by rw [hw9, pk_un (fun h9 => by have h8 := tk_nat (i := v3456) rfl (by omega); omega)]; exact h22_1
      have h22_2 : R 61 (10 * gn.toInt.toNat + 2) = 0 := by rw [hw9, pk_un (fun h9 => by have h8 := tk_nat (i := v3456) rfl (by omega); omega)]; exact h22_2
      have h22_3 : R 61 (10 * gn.toInt.toNat + 3) = 0 := by rw [hw9, pk_un (fun h9 => by have h8 := tk_nat (i := v3456) rfl (by omega); omega)]; exact h22_3
      have h22_4 : R 61 (10 * gn.toInt.toNat + 4) = 0 := by rw [hw9, pk_un (fun h9 => by have h8 := tk_nat (i := v3456) rfl (by omega); omega)]; exact h22_4
      have h22_5 : R 61 (10 * gn.toInt.toNat + 5) = 0 := by rw [hw9, pk_un (fun h9 => by have h8 := tk_nat (i := v3456) rfl (by omega); omega)]; exact h22_5
      have h22_6 : R 61 (10 * gn.toInt.toNat + 6) = 0 := by rw [hw9, pk_un (fun h9 => by have h8 := tk_nat (i := v3456) rfl (by omega); omega)]; exact h22_6
      have h22_7 : R 61 (10 * gn.toInt.toNat + 7) = gc := by rw [hw9, pk_un (fun h9 => by have h8 := tk_nat (i := v3456) rfl (by omega); omega)]; exact h22_7
      have h22_0 : R 61 (10 * gn.toInt.toNat + 0) = v38 := by rw [hw9, pk_un (fun h9 => by have h8 := tk_nat (i := v3456) rfl (by omega); omega)]; exact h22_0
      have h22_9 : R 61 (10 * gn.toInt.toNat + 9) = v3422 := by rw [hw9, pk_un (fun h9 => by have h8 := tk_nat (i := v3456) rfl (by omega); omega)]; exact h22_9
      have hC9 := hC
      have hC : v3440.toInt = 0 → CLS 10 [1, 3, 5, 7] (R 24) (R 25) (Ra 61) gc.toInt gn.toInt := fun h9 => (hC9 (by omega)).to (hj9 24 (by decide)) (hj9 25 (by decide))
      have h22_8 : R 61 (10 * gn.toInt.toNat + 8) = gc := by rw [hw9, show 10 * gn.toInt.toNat + 8 = (v3456 : Int32).toNatClampNeg by show _ = v3456.toInt.toNat; omega]; exact pk_us
      have hRR := mz_frp (K := [24, 25, 27, 28, 61]) (Fa := Ra) hj9 hRR (by decide)
      have hk_0 : (0 : Int32).toInt = 0 := by decide
      have hk_0 : (0 : Int32).toInt = 0 := by decide
      have hk_0 : (0 : Int32).toInt = 0 := by decide
      have hk_0 : (0 : Int32).toInt = 0 := by decide
      have hk_0 : (0 : Int32).toInt = 0 := by decide
      have hk_0 : (0 : Int32).toInt = 0 := by decide
      exact mz_vret hx hb hr hlocks ⟨hIF, hIG, hIR, hFF, hRR, hGG, (by rw [hf3431, hf3433]; omega), (by rw [hf3433]; omega), (by rw [hf3431, hf3433, hf3435]; omega), (by rw [hf3431, hf3433, hf3435, hf3437]; omega), (by rw [hf3431]; omega), (by rw [hg_6]; omega), (by rw [hf3431, hg_6]; omega), (by rw [hf3439]; omega), (by rw [hf3431, hf3439]; omega), (by rw [hf3439, hg_6, hf111]; exact fun h9 => mz_snoc (N := gn.toInt.toNat) (hC h9) (by omega) (by omega) hL22 (by decide) (by omega) (by intro d hd; simp only [List.mem_cons, List.not_mem_nil, or_false] at hd; rcases hd with rfl | rfl | rfl | rfl <;> first | (rw [show 10 * gn.toInt.toNat + 1 + 1 = 10 * gn.toInt.toNat + 2 from rfl, h22_1, h22_2]; exact ⟨WFX.nil (by omega) (by omega), by omega⟩) | (rw [show 10 * gn.toInt.toNat + 3 + 1 = 10 * gn.toInt.toNat + 4 from rfl, h22_3, h22_4]; exact ⟨WFX.nil (by omega) (by omega), by omega⟩) | (rw [show 10 * gn.toInt.toNat + 5 + 1 = 10 * gn.toInt.toNat + 6 from rfl, h22_5, h22_6]; exact ⟨WFX.nil (by omega) (by omega), by omega⟩) | (rw [show 10 * gn.toInt.toNat + 7 + 1 = 10 * gn.toInt.toNat + 8 from rfl, h22_7, h22_8]; exact ⟨WFX.nil (by omega) (by omega), by omega⟩))), (by rw [hf3439, hf111]; exact fun h9 => TMS.snoc (N := gn.toInt.toNat) hx_1 (by omega) (by omega) hL22 h22_9 (by omega) (by omega))⟩ hM hS dX13_readOrder_273
    · have hc3455 : ¬ (v3448.toInt = 0) := fun h9 => c9 ((fi_eq rfl (show (0 : Int32).toInt = 0 by decide)).mpr h9)
      have hwk_3458 : w3438.toInt + (-294) = 0 ∧ v3436.toInt + (-1) = 0 := by omega
      have hwk_3459 : 0 ≤ (-1) * v3432.toInt + v3434.toInt + (-1) := by omega
      have hwk_3460 : 0 ≤ (-1) * v3432.toInt + v3434.toInt + (-2) := by omega
      refine lv_aload_n hx hb dX13_readOrder_251 rfl (lv_at hl 1 rfl) ?_
      refine mz_Vv (As := []) (rest := []) ⟨hx, hb, hml, hown, hts⟩ hK hM hS (k_X13_next l D cy ld ad am hD _ _ _ _ v3434 gp hIF hIG hIR hf3433 hg_3 (by omega)) ⟨callB_of 0 hts (wl_in mw_685) rfl rfl rfl (htl _ mw_5) (htl _ mw_682) hd_yX13_next ⟨(Nat.le_of_ble_eq_true rfl), (Nat.le_of_ble_eq_true rfl)⟩, htl _ mw_683, htl _ mw_684⟩ rfl hl.1 rfl (Nat.le_of_ble_eq_true rfl) dX13_readOrder_252 ⟨(Nat.le_of_ble_eq_true rfl), (Nat.le_of_ble_eq_true rfl)⟩ (fun H locs F G R S hpo hM hS => ?_)
      obtain ⟨hIF, hIG, hIR, hfr9, hrr9, hgr9, hpo3461, hpo3462, hpo3463, hpo3464, hpo3465⟩ := hpo
      have hFF := mz_fr (K := [14, 15, 16, 18, 19, 21, 23, 26, 29, 30]) (Fa := Fa) hfr9 hFF (by decide)
      have hRR := mz_fr (K := [24, 25, 27, 28, 61]) (Fa := Ra) hrr9 hRR (by decide)
      have hGG := mz_fr (K := [17]) (Fa := Ga) hgr9 hGG (by decide)
      have hg_3 := (hfr9 13 (by decide)).trans hg_3
      have hg_6 := (hfr9 23 (by decide)).trans hg_6
      have hf111 := (hfr9 21 (by decide)).trans hf111
      have hf3439 := (hfr9 19 (by decide)).trans hf3439
      obtain ⟨v3468, hf3467⟩ : ∃ z : Int32, F 14 = z := ⟨_, rfl⟩
      have hq_v3468 := tk_rng v3468
      rw [hf3467] at hpo3461 hpo3462 hpo3464 hpo3465
      have hr_v3468 : 0 ≤ v3468.toInt ∧ v3468.toInt ≤ 400 := hIF.at hf3467
      obtain ⟨v3470, hf3469⟩ : ∃ z : Int32, F 15 = z := ⟨_, rfl⟩
      have hq_v3470 := tk_rng v3470
      rw [hf3469] at hpo3462 hpo3463 hpo3464 hpo3465
      have hr_v3470 : 0 ≤ v3470.toInt ∧ v3470.toInt ≤ 400 := hIF.at hf3469
      obtain ⟨v3472, hf3471⟩ : ∃ z : Int32, F 16 = z := ⟨_, rfl⟩
      have hq_v3472 := tk_rng v3472
      rw [hf3471] at hpo3464 hpo3465
      have hr_v3472 : 0 ≤ v3472.toInt ∧ v3472.toInt ≤ 3 := hIF.at hf3471
      obtain ⟨w3474, hf3473⟩ : ∃ z : Int64, G 17 = z := ⟨_, rfl⟩
      have hq_w3474 := tk_rngL w3474
      rw [hf3473] at hpo3465
      have hL22 := hL22.to (hrr9 61 (by decide))
      have h22_1 := (congrFun (hrr9 61 (by decide)) _).trans h22_1
      have h22_2 := (congrFun (hrr9 61 (by decide)) _).trans h22_2
      have h22_3 := (congrFun (hrr9 61 (by decide)) _).trans h22_3
      have h22_4 := (congrFun (hrr9 61 (by decide)) _).trans h22_4
      have h22_5 := (congrFun (hrr9 61 (by decide)) _).trans h22_5
      have h22_6 := (congrFun (hrr9 61 (by decide)) _).trans h22_6
      have h22_7 := (congrFun (hrr9 61 (by decide)) _).trans h22_7
      have h22_8 := (congrFun (hrr9 61 (by decide)) _).trans h22_8
      have h22_0 := (congrFun (hrr9 61 (by decide)) _).trans h22_0
      have h22_9 := (congrFun (hrr9 61 (by decide)) _).trans h22_9
      have hC9 := hC
      have hC : v3440.toInt = 0 → CLS 10 [1, 3, 5, 7] (R 24) (R 25) (Ra 61) gc.toInt gn.toInt := fun h9 => (hC9 (by omega)).to (hrr9 24 (by decide)) (hrr9 25 (by decide))
      refine lv_aload_n hx hb dX13_readOrder_255 rfl (lv_at hl 1 rfl) ?_
      refine lv_iconst (v := 1) hx hb dX13_readOrder_256 (by decide) ?_
      have hk_1 : (1 : Int32).toInt = 1 := by decide
      refine mz_Vv (As := [.int 1]) (rest := []) ⟨hx, hb, hml, hown, hts⟩ hK hM hS (k_X13_readExpression l D cy ld ad am hD _ _ _ _ 1 v3468 v3470 v3472 gp w3474 v3440 gc hIF hIG hIR hf3467 hf3469 hf3471 hg_3 hf3473 hf3439 hg_6 (by omega) (by omega) (by omega) (by omega) (by omega) (by omega) (by omega) (by omega)) ⟨callB_of 1 hts (wl_in mw_717) rfl rfl rfl (htl _ mw_5) (htl _ mw_714) hd_yX13_readExpression ⟨(Nat.le_of_ble_eq_true rfl), (Nat.le_of_ble_eq_true rfl)⟩, htl _ mw_715, htl _ mw_716⟩ rfl hl.1 rfl (Nat.le_of_ble_eq_true rfl) dX13_readOrder_257 ⟨(Nat.le_of_ble_eq_true rfl), (Nat.le_of_ble_eq_true rfl)⟩ (fun H locs F G R S hpo hM hS => ?_)
      obtain ⟨hIF, hIG, hIR, hfr9, hrr9, hgr9, hpo3475, hpo3476, hpo3477, hpo3478, hpo3479, hpo3480, hpo3481, hx3482⟩ := hpo
      have hFF := mz_fr (K := [14, 15, 16, 18, 19, 21, 23, 26, 29, 30]) (Fa := Fa) hfr9 hFF (by decide)
      have hRR := mz_fr (K := [24, 25, 27, 28, 61]) (Fa := Ra) hrr9 hRR (by decide)
      have hGG := mz_fr (K := [17]) (Fa := Ga) hgr9 hGG (by decide)
      have hg_3 := (hfr9 13 (by decide)).trans hg_3
      have hf111 := (hfr9 21 (by decide)).trans hf111
      obtain ⟨v3485, hf3484⟩ : ∃ z : Int32, F 14 = z := ⟨_, rfl⟩
      have hq_v3485 := tk_rng v3485
      rw [hf3484] at hpo3475 hpo3477 hpo3478 hpo3479 hpo3480
      have hr_v3485 : 0 ≤ v3485.toInt ∧ v3485.toInt ≤ 400 := hIF.at hf3484
      obtain ⟨v3487, hf3486⟩ : ∃ z : Int32, F 15 = z := ⟨_, rfl⟩
      have hq_v3487 := tk_rng v3487
      rw [hf3486] at hpo3475 hpo3476 hpo3477 hpo3478
      have hr_v3487 : 0 ≤ v3487.toInt ∧ v3487.toInt ≤ 400 := hIF.at hf3486
      obtain ⟨v3489, hf3488⟩ : ∃ z : Int32, F 16 = z := ⟨_, rfl⟩
      have hq_v3489 := tk_rng v3489
      rw [hf3488] at hpo3477 hpo3478
      have hr_v3489 : 0 ≤ v3489.toInt ∧ v3489.toInt ≤ 3 := hIF.at hf3488
      obtain ⟨w3491, hf3490⟩ : ∃ z : Int64, G 17 = z := ⟨_, rfl⟩
      have hq_w3491 := tk_rngL w3491
      rw [hf3490] at hpo3478
      obtain ⟨v3493, hf3492⟩ : ∃ z : Int32, F 19 = z := ⟨_, rfl⟩
      have hq_v3493 := tk_rng v3493
      have hr_v3493 : 0 ≤ v3493.toInt ∧ v3493.toInt ≤ 1 := hIF.at hf3492
      obtain ⟨v3495, hf3494⟩ : ∃ z : Int32, F 23 = z := ⟨_, rfl⟩
      have hq_v3495 := tk_rng v3495
      rw [hf3494] at hpo3480 hpo3481
      have hr_v3495 : 0 ≤ v3495.toInt ∧ v3495.toInt ≤ 400 := hIF.at hf3494
      have hL22 := hL22.to (hrr9 61 (by decide))
      have h22_1 := (congrFun (hrr9 61 (by decide)) _).trans h22_1
      have h22_2 := (congrFun (hrr9 61 (by decide)) _).trans h22_2
      have h22_3 := (congrFun (hrr9 61 (by decide)) _).trans h22_3
      have h22_4 := (congrFun (hrr9 61 (by decide)) _).trans h22_4
      have h22_5 := (congrFun (hrr9 61 (by decide)) _).trans h22_5
      have h22_6 := (congrFun (hrr9 61 (by decide)) _).trans h22_6
      have h22_7 := (congrFun (hrr9 61 (by decide)) _).trans h22_7
      have h22_8 := (congrFun (hrr9 61 (by decide)) _).trans h22_8
      have h22_0 := (congrFun (hrr9 61 (by decide)) _).trans h22_0
      have h22_9 := (congrFun (hrr9 61 (by decide)) _).trans h22_9
      have hE9 : v3493.toInt = 0 → WFC (R 24) (R 25) gc.toInt.toNat v3495.toInt.toNat ∧ low gc.toInt.toNat _ (R 24) ∧ low gc.toInt.toNat _ (R 25) := fun h9 => by have h8 := hx3482 (by rw [hf3492]; exact h9); rw [hf3494] at h8; exact h8
      have hC9 := hC (by omega)
      have hC : v3493.toInt = 0 → CLS 10 [1, 3, 5, 7] (R 24) (R 25) (Ra 61) gc.toInt gn.toInt := fun h9 => hC9.low (N := gc.toInt.toNat) (by omega) (hE9 h9).2.1 (hE9 h9).2.2
      have hX3496 : v3493.toInt = 0 → WFX (R 24) (R 25) gc v3495 := fun h9 => ⟨by omega, by omega, by omega, (hE9 h9).1⟩
      refine lv_aload_n hx hb dX13_readOrder_260 rfl (lv_at hl 1 rfl) ?_
      refine mz_getR hx hb htl hown hK hM 61 (Nat.le_of_ble_eq_true rfl) (Nat.le_of_ble_eq_true rfl) (htl _ mw_239) (fun _ h9 => h9) dX13_readOrder_261 ?_
      refine lv_iload_n hx hb dX13_readOrder_264 rfl (lv_at hl 0 rfl) ?_
      refine lv_bipush (v := 8) hx hb dX13_readOrder_265 (by decide) ?_
      refine lv_iadd hx hb dX13_readOrder_267 ?_
      refine tk_add rfl (show (8 : Int32).toInt = 8 by decide) (by omega) (by omega) (fun v3497 h_v3497 => ?_)
      refine lv_aload_n hx hb dX13_readOrder_268 rfl (lv_at hl 1 rfl) ?_
      refine mz_getI hx hb htl hown hK hM 23 (Nat.le_of_ble_eq_true rfl) rfl (htl _ mw_670) (fun _ h9 => h9) dX13_readOrder_269 (fun v9 e9 => ?_)
      refine fx_ti (v := v3495) (e9.symm.trans hf3494) ?_
      refine mz_iast (x := v3495) hx hb hK hD hM hS 61 (Nat.le_of_ble_eq_true rfl) rfl (nn := 120) rfl rfl (by omega) (by omega) dX13_readOrder_272 (fun H locs R hM hS hw9 hj9 => ?_)
      have hIR := hIR.put hw9 hj9 trivial
      have hL22 : low (10 * gn.toInt.toNat) (Ra 61) (R 61) := fun j hj => by rw [hw9, pk_un (fun h9 => by have h8 := tk_nat (i := v3497) rfl (by omega); omega)]; exact hL22 j hj
      have h22_1 : R 61 (10 * gn.toInt.toNat + 1) = 0 := by rw [hw9, pk_un (fun h9 => by have h8 := tk_nat (i := v3497) rfl (by omega); omega)]; exact h22_1
      have h22_2 : R 61 (10 * gn.toInt.toNat + 2) = 0 := by rw [hw9, pk_un (fun h9 => by have h8 := tk_nat (i := v3497) rfl (by omega); omega)]; exact h22_2
      have h22_3 : R 61 (10 * gn.toInt.toNat + 3) = 0 := by rw [hw9, pk_un (fun h9 => by have h8 := tk_nat (i := v3497) rfl (by omega); omega)]; exact h22_3
      have h22_4 : R 61 (10 * gn.toInt.toNat + 4) = 0 := by rw [hw9, pk_un (fun h9 => by have h8 := tk_nat (i := v3497) rfl (by omega); omega)]; exact h22_4
      have h22_5 : R 61 (10 * gn.toInt.toNat + 5) = 0 := by rw [hw9, pk_un (fun h9 => by have h8 := tk_nat (i := v3497) rfl (by omega); omega)]; exact h22_5
      have h22_6 : R 61 (10 * gn.toInt.toNat + 6) = 0 := by rw [hw9, pk_un (fun h9 => by have h8 := tk_nat (i := v3497) rfl (by omega); omega)]; exact h22_6
      have h22_7 : R 61 (10 * gn.toInt.toNat + 7) = gc := by rw [hw9, pk_un (fun h9 => by have h8 := tk_nat (i := v3497) rfl (by omega); omega)]; exact h22_7
      have h22_0 : R 61 (10 * gn.toInt.toNat + 0) = v38 := by rw [hw9, pk_un (fun h9 => by have h8 := tk_nat (i := v3497) rfl (by omega); omega)]; exact h22_0
      have h22_9 : R 61 (10 * gn.toInt.toNat + 9) = v3422 := by rw [hw9, pk_un (fun h9 => by have h8 := tk_nat (i := v3497) rfl (by omega); omega)]; exact h22_9
      have hC9 := hC
      have hC : v3493.toInt = 0 → CLS 10 [1, 3, 5, 7] (R 24) (R 25) (Ra 61) gc.toInt gn.toInt := fun h9 => (hC9 (by omega)).to (hj9 24 (by decide)) (hj9 25 (by decide))
      have hX34969 := hX3496
      have hX3496 : v3493.toInt = 0 → WFX (R 24) (R 25) gc v3495 := fun h9 => by rw [hj9 24 (by decide), hj9 25 (by decide)]; exact hX34969 (by omega)
      have h22_8 : R 61 (10 * gn.toInt.toNat + 8) = v3495 := by rw [hw9, show 10 * gn.toInt.toNat + 8 = (v3497 : Int32).toNatClampNeg by show _ = v3497.toInt.toNat; omega]; exact pk_us
      have hRR := mz_frp (K := [24, 25, 27, 28, 61]) (Fa := Ra) hj9 hRR (by decide)
      have hk_0 : (0 : Int32).toInt = 0 := by decide
      have hk_0 : (0 : Int32).toInt = 0 := by decide
      have hk_0 : (0 : Int32).toInt = 0 := by decide
      have hk_0 : (0 : Int32).toInt = 0 := by decide
      have hk_0 : (0 : Int32).toInt = 0 := by decide
      have hk_0 : (0 : Int32).toInt = 0 := by decide
      exact mz_vret hx hb hr hlocks ⟨hIF, hIG, hIR, hFF, hRR, hGG, (by rw [hf3484, hf3486]; omega), (by rw [hf3486]; omega), (by rw [hf3484, hf3486, hf3488]; omega), (by rw [hf3484, hf3486, hf3488, hf3490]; omega), (by rw [hf3484]; omega), (by rw [hf3494]; omega), (by rw [hf3484, hf3494]; omega), (by rw [hf3492]; omega), (by rw [hf3484, hf3492]; omega), (by rw [hf3492, hf3494, hf111]; exact fun h9 => mz_snoc (N := gn.toInt.toNat) (hC h9) (by omega) (by omega) hL22 (by decide) (by omega) (by intro d hd; simp only [List.mem_cons, List.not_mem_nil, or_false] at hd; rcases hd with rfl | rfl | rfl | rfl <;> first | (rw [show 10 * gn.toInt.toNat + 1 + 1 = 10 * gn.toInt.toNat + 2 from rfl, h22_1, h22_2]; exact ⟨WFX.nil (by omega) (by omega), by omega⟩) | (rw [show 10 * gn.toInt.toNat + 3 + 1 = 10 * gn.toInt.toNat + 4 from rfl, h22_3, h22_4]; exact ⟨WFX.nil (by omega) (by omega), by omega⟩) | (rw [show 10 * gn.toInt.toNat + 5 + 1 = 10 * gn.toInt.toNat + 6 from rfl, h22_5, h22_6]; exact ⟨WFX.nil (by omega) (by omega), by omega⟩) | (rw [show 10 * gn.toInt.toNat + 7 + 1 = 10 * gn.toInt.toNat + 8 from rfl, h22_7, h22_8]; exact ⟨hX3496 h9, by omega⟩))), (by rw [hf3492, hf111]; exact fun h9 => TMS.snoc (N := gn.toInt.toNat) hx_1 (by omega) (by omega) hL22 h22_9 (by omega) (by omega))⟩ hM hS dX13_readOrder_273
set_option maxHeartbeats 4000000 in
set_option maxRecDepth 100000 in
theorem kz_X13_readOrder_c1 (l : Launch) (D : va_G) (cy : Nat → ClassId) (ld ad : Nat → Nat) (am : Nat) (hD : mz_D ad am) (Fa : Nat → Int32) (Ga : Nat → Int64) (Ra : Nat → Nat → Int32) (Sa : Nat → Nat → Int64) (gf : Int32) (gt : Int32) (gs : Int32) (gp : Int32) (gw : Int64) (gb : Int32) (gc : Int32) (gn : Int32) {p : Program} {e : Env} {s : State} {m : MethodId} {args : Array Value} {below : List Frame} {meth : Method} {c : Code} (hx : p.tables.exec = Jvm.exec) (hb : c.code = cX13_readOrder) (hr : meth.sig.returnType = none) (hml : c.maxLocals = 4) (hts : ∀ w ∈ wl yX13_readOrder cX13_readOrder 4 none, w.before args s = true) (htl : ∀ w ∈ wsA, w.before args s = true) (hown : s.vm.findClass RX13 = some m.cls) (hlocks : meth.locks = false) (hK : kk_K D cy ld s) (hp_0 : 0 ≤ (-1) * gf.toInt + gt.toInt) (hp_1 : 0 ≤ gp.toInt + (-1) * gt.toInt) (hp_2 : (1 ≤ gs.toInt → 0 ≤ (-1) * gf.toInt + gt.toInt + (-1))) (hp_3 : (27 ≤ gw.toInt → 1 ≤ gs.toInt → gs.toInt ≤ 1 → 0 ≤ (-1) * gf.toInt + gt.toInt + (-2))) (hp_4 : 0 ≤ (-1) * gc.toInt + gf.toInt) (hp_5 : gb.toInt ≤ 0) (hg_0 : Fa 14 = gf) (hg_1 : Fa 15 = gt) (hg_2 : Fa 16 = gs) (hg_3 : Fa 13 = gp) (hg_4 : Ga 17 = gw) (hg_5 : Fa 19 = gb) (hg_6 : Fa 23 = gc) (hg_7 : Fa 21 = gn) (hx_0 : CLS 10 [1, 3, 5, 7] (Ra 24) (Ra 25) (Ra 61) gc.toInt gn.toInt) (hx_1 : TMS (Ra 61) gn.toInt) (v101 : Int32) (v105 : Int32) (v108 : Int32) (v109 : Int32) (v38 : Int32) (v97 : Int32) (v99 : Int32) (w103 : Int64) (H : Heap) (locs : List Loc) (F : Nat → Int32) (G : Nat → Int64) (R : Nat → Nat → Int32) (S : Nat → Nat → Int64) (hq0_kz_X13_readOrder_c1 : v101.toInt ≤ 3) (hq1_kz_X13_readOrder_c1 : 0 ≤ v105.toInt) (hq2_kz_X13_readOrder_c1 : 1 ≤ v109.toInt) (hq3_kz_X13_readOrder_c1 : v109.toInt ≤ 12) (hq4_kz_X13_readOrder_c1 : 2 ≤ v38.toInt) (hq5_kz_X13_readOrder_c1 : v38.toInt ≤ 3) (hq6_kz_X13_readOrder_c1 : v99.toInt ≤ 400) (hq7_kz_X13_readOrder_c1 : 0 ≤ gt.toInt + (-1) * v38.toInt + 1) (hq8_kz_X13_readOrder_c1 : 0 ≤ (-1) * gf.toInt + gt.toInt + (-1)) (hq9_kz_X13_readOrder_c1 : 0 ≤ (-1) * v97.toInt + v99.toInt) (hq10_kz_X13_readOrder_c1 : 0 ≤ gp.toInt + (-1) * v99.toInt) (hq11_kz_X13_readOrder_c1 : 0 ≤ (-1) * gt.toInt + v97.toInt) (hq12_kz_X13_readOrder_c1 : (-10) * gn.toInt + v108.toInt = 0) (hq13_kz_X13_readOrder_c1 : (-1) * gn.toInt + v109.toInt + (-1) = 0) (hq14_kz_X13_readOrder_c1 : 0 ≤ gb.toInt + (-1) * v105.toInt) (hq15_kz_X13_readOrder_c1 : 0 ≤ gc.toInt + (-1) * v105.toInt) (hq16_kz_X13_readOrder_c1 : 0 ≤ gs.toInt + (-1) * v105.toInt + (-1)) (hq17_kz_X13_readOrder_c1 : 0 ≤ (-1) * gs.toInt + v101.toInt + 1) (hq18_kz_X13_readOrder_c1 : 0 ≤ (-1) * gs.toInt + v105.toInt + 1) (hM : mz_S D cy ad am F G R S H) (hS : va_S (mz_W ad am) s.heap H locs) (hIF : mz_IF false F) (hIG : mz_IG G) (hIR : mz_IR [] true R) (hFF : ∀ k : Nat, k ∉ ([14, 15, 16, 18, 19, 21, 23, 26, 29, 30] : List Nat) → F k = Fa k) (hGG : ∀ k : Nat, k ∉ ([17] : List Nat) → G k = Ga k) (hRR : ∀ k : Nat, k ∉ ([24, 25, 27, 28, 61] : List Nat) → R k = Ra k) (hg_3 : F 13 = gp) (hg_6 : F 23 = gc) (hf96 : F 14 = v97) (hf98 : F 15 = v99) (hf100 : F 16 = v101) (hf102 : G 17 = w103) (hf104 : F 19 = v105) (hf111 : F 21 = v109) (hc0_kz_X13_readOrder_c1 : (27 ≤ gw.toInt → 1 ≤ gs.toInt → gs.toInt ≤ 1 → 0 ≤ (-1) * gf.toInt + gt.toInt + (-2))) (hc1_kz_X13_readOrder_c1 : (1 ≤ v101.toInt → 0 ≤ (-1) * v97.toInt + v99.toInt + (-1))) (hc2_kz_X13_readOrder_c1 : (27 ≤ w103.toInt → 1 ≤ v101.toInt → v101.toInt ≤ 1 → 0 ≤ (-1) * v97.toInt + v99.toInt + (-2))) (hL22 : low (10 * gn.toInt.toNat) (Ra 61) (R 61)) (hC : v105.toInt = 0 → CLS 10 [1, 3, 5, 7] (R 24) (R 25) (Ra 61) gc.toInt gn.toInt) (h22_1 : R 61 (10 * gn.toInt.toNat + 1) = 0) (h22_2 : R 61 (10 * gn.toInt.toNat + 2) = 0) (h22_3 : R 61 (10 * gn.toInt.toNat + 3) = 0) (h22_4 : R 61 (10 * gn.toInt.toNat + 4) = 0) (h22_5 : R 61 (10 * gn.toInt.toNat + 5) = 0) (h22_6 : R 61 (10 * gn.toInt.toNat + 6) = 0) (h22_7 : R 61 (10 * gn.toInt.toNat + 7) = 0) (h22_8 : R 61 (10 * gn.toInt.toNat + 8) = 0) (h22_0 : R 61 (10 * gn.toInt.toNat + 0) = v38) (ls : Array Slot) (hl : lv_has ls 4 [(2, .int v108), (0, .ref am)]) : W p l e ({ frames := 12, cells := 0, slots := 0, locals := 770 }) s m args below meth c H locs 0 0 (MQ below (mz_w D cy ad am (fun F G R S => mz_IF false F ∧ mz_IG G ∧ mz_IR [] true R ∧ (∀ k : Nat, k ∉ ([14, 15, 16, 18, 19, 21, 23, 26, 29, 30] : List Nat) → F k = Fa k) ∧ (∀ k : Nat, k ∉ ([24, 25, 27, 28, 61] : List Nat) → R k = Ra k) ∧ (∀ k : Nat, k ∉ ([17] : List Nat) → G k = Ga k) ∧ 0 ≤ (-1) * (F 14).toInt + (F 15).toInt ∧ 0 ≤ gp.toInt + (-1) * (F 15).toInt ∧ (1 ≤ (F 16).toInt → 0 ≤ (-1) * (F 14).toInt + (F 15).toInt + (-1)) ∧ (27 ≤ (G 17).toInt → 1 ≤ (F 16).toInt → (F 16).toInt ≤ 1 → 0 ≤ (-1) * (F 14).toInt + (F 15).toInt + (-2)) ∧ 0 ≤ (-1) * gf.toInt + (F 14).toInt ∧ 0 ≤ (-1) * gc.toInt + (F 23).toInt ∧ 0 ≤ (-1) * (F 23).toInt + (F 14).toInt ∧ 0 ≤ (-1) * gb.toInt + (F 19).toInt ∧ ((F 19).toInt ≤ 0 → 0 ≤ (-1) * gf.toInt + (F 14).toInt + (-1)) ∧ ((F 19).toInt = 0 → CLS 10 [1, 3, 5, 7] (R 24) (R 25) (R 61) (F 23).toInt (F 21).toInt) ∧ ((F 19).toInt = 0 → TMS (R 61) (F 21).toInt))) args s 0 0 (mz_W ad am)) (F0 m 173 ls []) := by
  have hq_gb := tk_rng gb
  have hq_gc := tk_rng gc
  have hq_gf := tk_rng gf
  have hq_gn := tk_rng gn
  have hq_gp := tk_rng gp
  have hq_gs := tk_rng gs
  have hq_gt := tk_rng gt
  have hq_gw := tk_rngL gw
  have hq_v101 := tk_rng v101
  have hq_v105 := tk_rng v105
  have hq_v108 := tk_rng v108
  have hq_v109 := tk_rng v109
  have hq_v38 := tk_rng v38
  have hq_v97 := tk_rng v97
  have hq_v99 := tk_rng v99
  have hq_w103 := tk_rngL w103
  have hr_gp : 0 ≤ gp.toInt ∧ gp.toInt ≤ 400 := hIF.at hg_3
  have hr_gc : 0 ≤ gc.toInt ∧ gc.toInt ≤ 400 := hIF.at hg_6
  have hr_v97 : 0 ≤ v97.toInt ∧ v97.toInt ≤ 400 := hIF.at hf96
  have hr_v99 : 0 ≤ v99.toInt ∧ v99.toInt ≤ 400 := hIF.at hf98
  have hr_v101 : 0 ≤ v101.toInt ∧ v101.toInt ≤ 3 := hIF.at hf100
  have hr_v105 : 0 ≤ v105.toInt ∧ v105.toInt ≤ 1 := hIF.at hf104
  have hr_v109 : 0 ≤ v109.toInt ∧ v109.toInt ≤ 12 := hIF.at hf111
  refine lv_aload_n hx hb dX13_readOrder_173 rfl (lv_at hl 1 rfl) ?_
  refine mz_getR hx hb htl hown hK hM 61 (Nat.le_of_ble_eq_true rfl) (Nat.le_of_ble_eq_true rfl) (htl _ mw_239) (fun _ h9 => h9) dX13_readOrder_174 ?_
  refine lv_iload_n hx hb dX13_readOrder_177 rfl (lv_at hl 0 rfl) ?_
  refine lv_bipush (v := 9) hx hb dX13_readOrder_178 (by decide) ?_
  refine lv_iadd hx hb dX13_readOrder_180 ?_
  refine tk_add rfl (show (9 : Int32).toInt = 9 by decide) (by omega) (by omega) (fun v3340 h_v3340 => ?_)
  refine lv_iconst (v := 1) hx hb dX13_readOrder_181 (by decide) ?_
  have hk_1 : (1 : Int32).toInt = 1 := by decide
  refine mz_iast (x := 1) hx hb hK hD hM hS 61 (Nat.le_of_ble_eq_true rfl) rfl (nn := 120) rfl rfl (by omega) (by omega) dX13_readOrder_182 (fun H locs R hM hS hw9 hj9 => ?_)
  have hIR := hIR.put hw9 hj9 trivial
  have hL22 : low (10 * gn.toInt.toNat) (Ra 61) (R 61) := fun j hj => by rw [hw9, pk_un (fun h9 => by have h8 := tk_nat (i := v3340) rfl (by omega); omega)]; exact hL22 j hj
  have h22_1 : R 61 (10 * gn.toInt.toNat + 1) = 0 := by rw [hw9, pk_un (fun h9 => by have h8 := tk_nat (i := v3340) rfl (by omega); omega)]; exact h22_1
  have h22_2 : R 61 (10 * gn.toInt.toNat + 2) = 0 := by rw [hw9, pk_un (fun h9 => by have h8 := tk_nat (i := v3340) rfl (by omega); omega)]; exact h22_2
  have h22_3 : R 61 (10 * gn.toInt.toNat + 3) = 0 := by rw [hw9, pk_un (fun h9 => by have h8 := tk_nat (i := v3340) rfl (by omega); omega)]; exact h22_3
  have h22_4 : R 61 (10 * gn.toInt.toNat + 4) = 0 := by rw [hw9, pk_un (fun h9 => by have h8 := tk_nat (i := v3340) rfl (by omega); omega)]; exact h22_4
  have h22_5 : R 61 (10 * gn.toInt.toNat + 5) = 0 := by rw [hw9, pk_un (fun h9 => by have h8 := tk_nat (i := v3340) rfl (by omega); omega)]; exact h22_5
  have h22_6 : R 61 (10 * gn.toInt.toNat + 6) = 0 := by rw [hw9, pk_un (fun h9 => by have h8 := tk_nat (i := v3340) rfl (by omega); omega)]; exact h22_6
  have h22_7 : R 61 (10 * gn.toInt.toNat + 7) = 0 := by rw [hw9, pk_un (fun h9 => by have h8 := tk_nat (i := v3340) rfl (by omega); omega)]; exact h22_7
  have h22_8 : R 61 (10 * gn.toInt.toNat + 8) = 0 := by rw [hw9, pk_un (fun h9 => by have h8 := tk_nat (i := v3340) rfl (by omega); omega)]; exact h22_8
  have h22_0 : R 61 (10 * gn.toInt.toNat + 0) = v38 := by rw [hw9, pk_un (fun h9 => by have h8 := tk_nat (i := v3340) rfl (by omega); omega)]; exact h22_0
  have hC9 := hC
  have hC : v105.toInt = 0 → CLS 10 [1, 3, 5, 7] (R 24) (R 25) (Ra 61) gc.toInt gn.toInt := fun h9 => (hC9 (by omega)).to (hj9 24 (by decide)) (hj9 25 (by decide))
  have h22_9 : R 61 (10 * gn.toInt.toNat + 9) = 1 := by rw [hw9, show 10 * gn.toInt.toNat + 9 = (v3340 : Int32).toNatClampNeg by show _ = v3340.toInt.toNat; omega]; exact pk_us
  have hRR := mz_frp (K := [24, 25, 27, 28, 61]) (Fa := Ra) hj9 hRR (by decide)
  refine lv_aload_n hx hb dX13_readOrder_183 rfl (lv_at hl 1 rfl) ?_
  refine mz_getI hx hb htl hown hK hM 19 (Nat.le_of_ble_eq_true rfl) rfl (htl _ mw_668) (fun _ h9 => h9) dX13_readOrder_184 (fun v9 e9 => ?_)
  refine fx_ti (v := v105) (e9.symm.trans hf104) ?_
  refine lv_if_ne (tgt := 221) hx hb dX13_readOrder_187 (by decide) (fun c9 => absurd ((fi_eq rfl (show (0 : Int32).toInt = 0 by decide)).mpr (show v105.toInt = 0 by omega)) c9) (fun _ => ?_)
  refine lv_aload_n hx hb dX13_readOrder_190 rfl (lv_at hl 1 rfl) ?_
  refine lv_ldc2 hx hb hown (htl _ mw_1021) dX13_readOrder_191 ?_
  have hk_21279923 : (21279923 : Int64).toInt = 21279923 := by decide
  refine mz_Vj (As := [.long 21279923]) (rest := []) ⟨hx, hb, hml, hown, hts⟩ hK hM hS (k_X13_isWord l D cy ld ad am hD _ _ _ _ 21279923 v101 w103 hIF hIG hIR hf100 hf102) ⟨callB_of 1 hts (wl_in mw_709) rfl rfl rfl (htl _ mw_5) (htl _ mw_706) hd_yX13_isWord ⟨(Nat.le_of_ble_eq_true rfl), (Nat.le_of_ble_eq_true rfl)⟩, htl _ mw_707, htl _ mw_708⟩ rfl hl.1 rfl (Nat.le_of_ble_eq_true rfl) dX13_readOrder_194 ⟨(Nat.le_of_ble_eq_true rfl), (Nat.le_of_ble_eq_true rfl)⟩ (fun v3342 H locs hpo hM hS => ?_)
  obtain ⟨hpo3343, hpo3344, hpo3345, hpo3346, hpo3347⟩ := hpo
  have hq_v3342 := tk_rng v3342
  refine lv_if_eq (tgt := 221) hx hb dX13_readOrder_197 (by decide) (fun c9 => ?_) (fun c9 => ?_)
  · have hc3349 : v3342.toInt = 0 := (fi_eq rfl (show (0 : Int32).toInt = 0 by decide)).mp c9
    exact kz_X13_readOrder_c2 l D cy ld ad am hD Fa Ga Ra Sa gf gt gs gp gw gb gc gn hx hb hr hml hts htl hown hlocks hK hp_0 hp_1 hp_2 hp_3 hp_4 hp_5 hg_0 hg_1 hg_2 hg_3 hg_4 hg_5 hg_6 hg_7 hx_0 hx_1 v101 v105 v108 v109 v38 v97 v99 w103 _ _ _ _ _ _ (by omega) (by omega) (by omega) (by omega) (by omega) (by omega) (by omega) (by omega) (by omega) (by omega) (by omega) (by omega) (by omega) (by omega) (by omega) (by omega) (by omega) (by omega) (by omega) hM hS hIF hIG hIR hFF hGG hRR hg_3 hg_6 hf96 hf98 hf100 hf102 hf104 hf111 (by omega) (by omega) (by omega) (by omega) hL22 hC h22_1 h22_2 h22_3 h22_4 h22_5 h22_6 h22_7 h22_8 h22_0 h22_9 _ (lv_sub hl [0, 1] rfl)
  · have hc3349 : ¬ (v3342.toInt = 0) := fun h9 => c9 ((fi_eq rfl (show (0 : Int32).toInt = 0 by decide)).mpr h9)
    have hwk_3404 : w103.toInt + (-21279923) = 0 ∧ v101.toInt + (-1) = 0 := by omega
    have hwk_3405 : 0 ≤ (-1) * v97.toInt + v99.toInt + (-1) := by omega
    have hwk_3406 : 0 ≤ (-1) * v97.toInt + v99.toInt + (-2) := by omega
    refine lv_aload_n hx hb dX13_readOrder_200 rfl (lv_at hl 1 rfl) ?_
    refine mz_Vv (As := []) (rest := []) ⟨hx, hb, hml, hown, hts⟩ hK hM hS (k_X13_next l D cy ld ad am hD _ _ _ _ v99 gp hIF hIG hIR hf98 hg_3 (by omega)) ⟨callB_of 0 hts (wl_in mw_685) rfl rfl rfl (htl _ mw_5) (htl _ mw_682) hd_yX13_next ⟨(Nat.le_of_ble_eq_true rfl), (Nat.le_of_ble_eq_true rfl)⟩, htl _ mw_683, htl _ mw_684⟩ rfl hl.1 rfl (Nat.le_of_ble_eq_true rfl) dX13_readOrder_201 ⟨(Nat.le_of_ble_eq_true rfl), (Nat.le_of_ble_eq_true rfl)⟩ (fun H locs F G R S hpo hM hS => ?_)
    obtain ⟨hIF, hIG, hIR, hfr9, hrr9, hgr9, hpo3407, hpo3408, hpo3409, hpo3410, hpo3411⟩ := hpo
    have hFF := mz_fr (K := [14, 15, 16, 18, 19, 21, 23, 26, 29, 30]) (Fa := Fa) hfr9 hFF (by decide)
    have hRR := mz_fr (K := [24, 25, 27, 28, 61]) (Fa := Ra) hrr9 hRR (by decide)
    have hGG := mz_fr (K := [17]) (Fa := Ga) hgr9 hGG (by decide)
    have hg_3 := (hfr9 13 (by decide)).trans hg_3
    have hg_6 := (hfr9 23 (by decide)).trans hg_6
    have hf104 := (hfr9 19 (by decide)).trans hf104
    have hf111 := (hfr9 21 (by decide)).trans hf111
    obtain ⟨v3414, hf3413⟩ : ∃ z : Int32, F 14 = z := ⟨_, rfl⟩
    have hq_v3414 := tk_rng v3414
    rw [hf3413] at hpo3407 hpo3408 hpo3410 hpo3411
    have hr_v3414 : 0 ≤ v3414.toInt ∧ v3414.toInt ≤ 400 := hIF.at hf3413
    obtain ⟨v3416, hf3415⟩ : ∃ z : Int32, F 15 = z := ⟨_, rfl⟩
    have hq_v3416 := tk_rng v3416
    rw [hf3415] at hpo3408 hpo3409 hpo3410 hpo3411
    have hr_v3416 : 0 ≤ v3416.toInt ∧ v3416.toInt ≤ 400 := hIF.at hf3415
    obtain ⟨v3418, hf3417⟩ : ∃ z : Int32, F 16 = z := ⟨_, rfl⟩
    have hq_v3418 := tk_rng v3418
    rw [hf3417] at hpo3410 hpo3411
    have hr_v3418 : 0 ≤ v3418.toInt ∧ v3418.toInt ≤ 3 := hIF.at hf3417
    obtain ⟨w3420, hf3419⟩ : ∃ z : Int64, G 17 = z := ⟨_, rfl⟩
    have hq_w3420 := tk_rngL w3420
    rw [hf3419] at hpo3411
    have hL22 := hL22.to (hrr9 61 (by decide))
    have h22_1 := (congrFun (hrr9 61 (by decide)) _).trans h22_1
    have h22_2 := (congrFun (hrr9 61 (by decide)) _).trans h22_2
    have h22_3 := (congrFun (hrr9 61 (by decide)) _).trans h22_3
    have h22_4 := (congrFun (hrr9 61 (by decide)) _).trans h22_4
    have h22_5 := (congrFun (hrr9 61 (by decide)) _).trans h22_5
    have h22_6 := (congrFun (hrr9 61 (by decide)) _).trans h22_6
    have h22_7 := (congrFun (hrr9 61 (by decide)) _).trans h22_7
    have h22_8 := (congrFun (hrr9 61 (by decide)) _).trans h22_8
    have h22_0 := (congrFun (hrr9 61 (by decide)) _).trans h22_0
    have h22_9 := (congrFun (hrr9 61 (by decide)) _).trans h22_9
    have hC9 := hC
    have hC : v105.toInt = 0 → CLS 10 [1, 3, 5, 7] (R 24) (R 25) (Ra 61) gc.toInt gn.toInt := fun h9 => (hC9 (by omega)).to (hrr9 24 (by decide)) (hrr9 25 (by decide))
    refine lv_aload_n hx hb dX13_readOrder_204 rfl (lv_at hl 1 rfl) ?_
    refine mz_getR hx hb htl hown hK hM 61 (Nat.le_of_ble_eq_true rfl) (Nat.le_of_ble_eq_true rfl) (htl _ mw_239) (fun _ h9 => h9) dX13_readOrder_205 ?_
    refine lv_iload_n hx hb dX13_readOrder_208 rfl (lv_at hl 0 rfl) ?_
    refine lv_bipush (v := 9) hx hb dX13_readOrder_209 (by decide) ?_
    refine lv_iadd hx hb dX13_readOrder_211 ?_
    refine tk_add rfl (show (9 : Int32).toInt = 9 by decide) (by omega) (by omega) (fun v3421 h_v3421 => ?_)
    refine lv_aload_n hx hb dX13_readOrder_212 rfl (lv_at hl 1 rfl) ?_
    refine lv_lconst (v := 1) hx hb dX13_readOrder_213 (by decide) ?_
    refine lv_ldc2 hx hb hown (htl _ mw_782) dX13_readOrder_214 ?_
    have hk_1 : (1 : Int64).toInt = 1 := by decide
    have hk_20 : (20 : Int64).toInt = 20 := by decide
    refine mz_Vi (As := [.long 1, .long 20]) (rest := [.int v3421, .ref (ad 61)]) ⟨hx, hb, hml, hown, hts⟩ hK hM hS (k_X13_number l D cy ld ad am hD _ _ _ _ 1 20 v3414 v3416 v3418 gp w3420 v105 hIF hIG hIR hf3413 hf3415 hf3417 hg_3 hf3419 hf104 (by omega) (by omega) (by omega) (by omega) (by omega) (by omega) (by omega) (by omega)) ⟨callB_of 2 hts (wl_in mw_762) rfl rfl rfl (htl _ mw_5) (htl _ mw_759) hd_yX13_number ⟨(Nat.le_of_ble_eq_true rfl), (Nat.le_of_ble_eq_true rfl)⟩, htl _ mw_760, htl _ mw_761⟩ rfl hl.1 rfl (Nat.le_of_ble_eq_true rfl) dX13_readOrder_217 ⟨(Nat.le_of_ble_eq_true rfl), (Nat.le_of_ble_eq_true rfl)⟩ (fun v3422 H locs F G R S hpo hM hS => ?_)
    obtain ⟨hIF, hIG, hIR, hfr9, hrr9, hgr9, hpo3423, hpo3424, hpo3425, hpo3426, hpo3427, hpo3428, hpo3429⟩ := hpo
    have hq_v3422 := tk_rng v3422
    have hFF := mz_fr (K := [14, 15, 16, 18, 19, 21, 23, 26, 29, 30]) (Fa := Fa) hfr9 hFF (by decide)
    have hRR := mz_fr (K := [24, 25, 27, 28, 61]) (Fa := Ra) hrr9 hRR (by decide)
    have hGG := mz_fr (K := [17]) (Fa := Ga) hgr9 hGG (by decide)
    have hg_3 := (hfr9 13 (by decide)).trans hg_3
    have hg_6 := (hfr9 23 (by decide)).trans hg_6
    have hf111 := (hfr9 21 (by decide)).trans hf111
    obtain ⟨v3432, hf3431⟩ : ∃ z : Int32, F 14 = z := ⟨_, rfl⟩
    have hq_v3432 := tk_rng v3432
    rw [hf3431] at hpo3423 hpo3425 hpo3426 hpo3427 hpo3429
    have hr_v3432 : 0 ≤ v3432.toInt ∧ v3432.toInt ≤ 400 := hIF.at hf3431
    obtain ⟨v3434, hf3433⟩ : ∃ z : Int32, F 15 = z := ⟨_, rfl⟩
    have hq_v3434 := tk_rng v3434
    rw [hf3433] at hpo3423 hpo3424 hpo3425 hpo3426
    have hr_v3434 : 0 ≤ v3434.toInt ∧ v3434.toInt ≤ 400 := hIF.at hf3433
    obtain ⟨v3436, hf3435⟩ : ∃ z : Int32, F 16 = z := ⟨_, rfl⟩
    have hq_v3436 := tk_rng v3436
    rw [hf3435] at hpo3425 hpo3426
    have hr_v3436 : 0 ≤ v3436.toInt ∧ v3436.toInt ≤ 3 := hIF.at hf3435
    obtain ⟨w3438, hf3437⟩ : ∃ z : Int64, G 17 = z := ⟨_, rfl⟩
    have hq_w3438 := tk_rngL w3438
    rw [hf3437] at hpo3426
    obtain ⟨v3440, hf3439⟩ : ∃ z : Int32, F 19 = z := ⟨_, rfl⟩
    have hq_v3440 := tk_rng v3440
    rw [hf3439] at hpo3428 hpo3429
    have hr_v3440 : 0 ≤ v3440.toInt ∧ v3440.toInt ≤ 1 := hIF.at hf3439
    have hL22 := hL22.to (hrr9 61 (by decide))
    have h22_1 := (congrFun (hrr9 61 (by decide)) _).trans h22_1
    have h22_2 := (congrFun (hrr9 61 (by decide)) _).trans h22_2
    have h22_3 := (congrFun (hrr9 61 (by decide)) _).trans h22_3
    have h22_4 := (congrFun (hrr9 61 (by decide)) _).trans h22_4
    have h22_5 := (congrFun (hrr9 61 (by decide)) _).trans h22_5
    have h22_6 := (congrFun (hrr9 61 (by decide)) _).trans h22_6
    have h22_7 := (congrFun (hrr9 61 (by decide)) _).trans h22_7
    have h22_8 := (congrFun (hrr9 61 (by decide)) _).trans h22_8
    have h22_0 := (congrFun (hrr9 61 (by decide)) _).trans h22_0
    have h22_9 := (congrFun (hrr9 61 (by decide)) _).trans h22_9
    have hC9 := hC
    have hC : v3440.toInt = 0 → CLS 10 [1, 3, 5, 7] (R 24) (R 25) (Ra 61) gc.toInt gn.toInt := fun h9 => (hC9 (by omega)).to (hrr9 24 (by decide)) (hrr9 25 (by decide))
    refine mz_iast (x := v3422) hx hb hK hD hM hS 61 (Nat.le_of_ble_eq_true rfl) rfl (nn := 120) rfl rfl (by omega) (by omega) dX13_readOrder_220 (fun H locs R hM hS hw9 hj9 => ?_)
    have hIR := hIR.put hw9 hj9 trivial
    have hL22 : low (10 * gn.toInt.toNat) (Ra 61) (R 61) := fun j hj => by rw [hw9, pk_un (fun h9 => by have h8 := tk_nat (i := v3421) rfl (by omega); omega)]; exact hL22 j hj
    have h22_1 : R 61 (10 * gn.toInt.toNat + 1) = 0 := by rw [hw9, pk_un (fun h9 => by have h8 := tk_nat (i := v3421) rfl (by omega); omega)]; exact h22_1
    have h22_2 : R 61 (10 * gn.toInt.toNat + 2) = 0 := by rw [hw9, pk_un (fun h9 => by have h8 := tk_nat (i := v3421) rfl (by omega); omega)]; exact h22_2
    have h22_3 : R 61 (10 * gn.toInt.toNat + 3) = 0 := by rw [hw9, pk_un (fun h9 => by have h8 := tk_nat (i := v3421) rfl (by omega); omega)]; exact h22_3
    have h22_4 : R 61 (10 * gn.toInt.toNat + 4) = 0 := by rw [hw9, pk_un (fun h9 => by have h8 := tk_nat (i := v3421) rfl (by omega); omega)]; exact h22_4
    have h22_5 : R 61 (10 * gn.toInt.toNat + 5) = 0 := by rw [hw9, pk_un (fun h9 => by have h8 := tk_nat (i := v3421) rfl (by omega); omega)]; exact h22_5
    have h22_6 : R 61 (10 * gn.toInt.toNat + 6) = 0 := by rw [hw9, pk_un (fun h9 => by have h8 := tk_nat (i := v3421) rfl (by omega); omega)]; exact h22_6
    have h22_7 : R 61 (10 * gn.toInt.toNat + 7) = 0 := by rw [hw9, pk_un (fun h9 => by have h8 := tk_nat (i := v3421) rfl (by omega); omega)]; exact h22_7
    have h22_8 : R 61 (10 * gn.toInt.toNat + 8) = 0 := by rw [hw9, pk_un (fun h9 => by have h8 := tk_nat (i := v3421) rfl (by omega); omega)]; exact h22_8
    have h22_0 : R 61 (10 * gn.toInt.toNat + 0) = v38 := by rw [hw9, pk_un (fun h9 => by have h8 := tk_nat (i := v3421) rfl (by omega); omega)]; exact h22_0
    have hC9 := hC
    have hC : v3440.toInt = 0 → CLS 10 [1, 3, 5, 7] (R 24) (R 25) (Ra 61) gc.toInt gn.toInt := fun h9 => (hC9 (by omega)).to (hj9 24 (by decide)) (hj9 25 (by decide))
    have h22_9 : R 61 (10 * gn.toInt.toNat + 9) = v3422 := by rw [hw9, show 10 * gn.toInt.toNat + 9 = (v3421 : Int32).toNatClampNeg by show _ = v3421.toInt.toNat; omega]; exact pk_us
    have hRR := mz_frp (K := [24, 25, 27, 28, 61]) (Fa := Ra) hj9 hRR (by decide)
    exact kz_X13_readOrder_c3 l D cy ld ad am hD Fa Ga Ra Sa gf gt gs gp gw gb gc gn hx hb hr hml hts htl hown hlocks hK hp_0 hp_1 hp_2 hp_3 hp_4 hp_5 hg_0 hg_1 hg_2 hg_3 hg_4 hg_5 hg_6 hg_7 hx_0 hx_1 v108 v109 v3422 v3432 v3434 v3436 v3440 v38 w3438 _ _ _ _ _ _ (by omega) (by omega) (by omega) (by omega) (by omega) (by omega) (by omega) (by omega) (by omega) (by omega) (by omega) (by omega) (by omega) (by omega) (by omega) (by omega) (by omega) (by omega) (by omega) (by omega) (by omega) hM hS hIF hIG hIR hFF hGG hRR hg_3 hg_6 hf111 hf3431 hf3433 hf3435 hf3437 hf3439 (by omega) (by omega) (by omega) (by omega) hL22 hC h22_1 h22_2 h22_3 h22_4 h22_5 h22_6 h22_7 h22_8 h22_0 h22_9 _ (lv_sub hl [0, 1] rfl)
set_option maxHeartbeats 4000000 in
set_option maxRecDepth 100000 in
theorem kz_X13_readOrder_c5 (l : Launch) (D : va_G) (cy : Nat → ClassId) (ld ad : Nat → Nat) (am : Nat) (hD : mz_D ad am) (Fa : Nat → Int32) (Ga : Nat → Int64) (Ra : Nat → Nat → Int32) (Sa : Nat → Nat → Int64) (gf : Int32) (gt : Int32) (gs : Int32) (gp : Int32) (gw : Int64) (gb : Int32) (gc : Int32) (gn : Int32) {p : Program} {e : Env} {s : State} {m : MethodId} {args : Array Value} {below : List Frame} {meth : Method} {c : Code} (hx : p.tables.exec = Jvm.exec) (hb : c.code = cX13_readOrder) (hr : meth.sig.returnType = none) (hml : c.maxLocals = 4) (hts : ∀ w ∈ wl yX13_readOrder cX13_readOrder 4 none, w.before args s = true) (htl : ∀ w ∈ wsA, w.before args s = true) (hown : s.vm.findClass RX13 = some m.cls) (hlocks : meth.locks = false) (hK : kk_K D cy ld s) (hp_0 : 0 ≤ (-1) * gf.toInt + gt.toInt) (hp_1 : 0 ≤ gp.toInt + (-1) * gt.toInt) (hp_2 : (1 ≤ gs.toInt → 0 ≤ (-1) * gf.toInt + gt.toInt + (-1))) (hp_3 : (27 ≤ gw.toInt → 1 ≤ gs.toInt → gs.toInt ≤ 1 → 0 ≤ (-1) * gf.toInt + gt.toInt + (-2))) (hp_4 : 0 ≤ (-1) * gc.toInt + gf.toInt) (hp_5 : gb.toInt ≤ 0) (hg_0 : Fa 14 = gf) (hg_1 : Fa 15 = gt) (hg_2 : Fa 16 = gs) (hg_3 : Fa 13 = gp) (hg_4 : Ga 17 = gw) (hg_5 : Fa 19 = gb) (hg_6 : Fa 23 = gc) (hg_7 : Fa 21 = gn) (hx_0 : CLS 10 [1, 3, 5, 7] (Ra 24) (Ra 25) (Ra 61) gc.toInt gn.toInt) (hx_1 : TMS (Ra 61) gn.toInt) (v108 : Int32) (v109 : Int32) (v3512 : Int32) (v3514 : Int32) (v3516 : Int32) (v3520 : Int32) (v3522 : Int32) (v38 : Int32) (w3518 : Int64) (H : Heap) (locs : List Loc) (F : Nat → Int32) (G : Nat → Int64) (R : Nat → Nat → Int32) (S : Nat → Nat → Int64) (hq0_kz_X13_readOrder_c5 : v109.toInt ≤ 12) (hq1_kz_X13_readOrder_c5 : v3514.toInt ≤ 400) (hq2_kz_X13_readOrder_c5 : v3516.toInt ≤ 3) (hq3_kz_X13_readOrder_c5 : 1 ≤ v38.toInt) (hq4_kz_X13_readOrder_c5 : 0 ≤ (-1) * gf.toInt + gt.toInt + (-1)) (hq5_kz_X13_readOrder_c5 : (-10) * gn.toInt + v108.toInt = 0) (hq6_kz_X13_readOrder_c5 : (-1) * gn.toInt + v109.toInt + (-1) = 0) (hq7_kz_X13_readOrder_c5 : 0 ≤ (-1) * v3512.toInt + v3514.toInt) (hq8_kz_X13_readOrder_c5 : 0 ≤ gp.toInt + (-1) * v3514.toInt) (hq9_kz_X13_readOrder_c5 : 0 ≤ (-1) * gc.toInt + v3522.toInt) (hq10_kz_X13_readOrder_c5 : 0 ≤ v3512.toInt + (-1) * v3522.toInt) (hq11_kz_X13_readOrder_c5 : 0 ≤ gb.toInt + (-1) * v38.toInt + 1) (hq12_kz_X13_readOrder_c5 : 0 ≤ gc.toInt + (-1) * v38.toInt + 1) (hq13_kz_X13_readOrder_c5 : 0 ≤ gs.toInt + (-1) * v3520.toInt) (hq14_kz_X13_readOrder_c5 : 0 ≤ (-1) * gt.toInt + v3512.toInt) (hq15_kz_X13_readOrder_c5 : 0 ≤ (-1) * gs.toInt + v38.toInt) (hq16_kz_X13_readOrder_c5 : 0 ≤ (-1) * gb.toInt + v109.toInt + (-1)) (hq17_kz_X13_readOrder_c5 : 0 ≤ (-1) * gb.toInt + v3516.toInt) (hq18_kz_X13_readOrder_c5 : 0 ≤ (-1) * gb.toInt + v3520.toInt + (-1)) (hM : mz_S D cy ad am F G R S H) (hS : va_S (mz_W ad am) s.heap H locs) (hIF : mz_IF false F) (hIG : mz_IG G) (hIR : mz_IR [] true R) (hFF : ∀ k : Nat, k ∉ ([14, 15, 16, 18, 19, 21, 23, 26, 29, 30] : List Nat) → F k = Fa k) (hGG : ∀ k : Nat, k ∉ ([17] : List Nat) → G k = Ga k) (hRR : ∀ k : Nat, k ∉ ([24, 25, 27, 28, 61] : List Nat) → R k = Ra k) (hg_3 : F 13 = gp) (hf111 : F 21 = v109) (hf3511 : F 14 = v3512) (hf3513 : F 15 = v3514) (hf3515 : F 16 = v3516) (hf3517 : G 17 = w3518) (hf3519 : F 19 = v3520) (hf3521 : F 23 = v3522) (hc0_kz_X13_readOrder_c5 : (27 ≤ gw.toInt → 1 ≤ gs.toInt → gs.toInt ≤ 1 → 0 ≤ (-1) * gf.toInt + gt.toInt + (-2))) (hc1_kz_X13_readOrder_c5 : (1 ≤ v3516.toInt → 0 ≤ (-1) * v3512.toInt + v3514.toInt + (-1))) (hc2_kz_X13_readOrder_c5 : (27 ≤ w3518.toInt → 1 ≤ v3516.toInt → v3516.toInt ≤ 1 → 0 ≤ (-1) * v3512.toInt + v3514.toInt + (-2))) (hc3_kz_X13_readOrder_c5 : (27 ≤ gw.toInt → 1 ≤ gs.toInt → gs.toInt ≤ 1 → 0 ≤ (-1) * gf.toInt + gt.toInt + (-2))) (hL22 : low (10 * gn.toInt.toNat) (Ra 61) (R 61)) (hC : v3520.toInt = 0 → CLS 10 [1, 3, 5, 7] (R 24) (R 25) (Ra 61) gc.toInt gn.toInt) (h22_1 : R 61 (10 * gn.toInt.toNat + 1) = gc) (h22_2 : R 61 (10 * gn.toInt.toNat + 2) = v3522) (h22_3 : R 61 (10 * gn.toInt.toNat + 3) = 0) (h22_4 : R 61 (10 * gn.toInt.toNat + 4) = 0) (h22_5 : R 61 (10 * gn.toInt.toNat + 5) = 0) (h22_6 : R 61 (10 * gn.toInt.toNat + 6) = 0) (h22_7 : R 61 (10 * gn.toInt.toNat + 7) = 0) (h22_8 : R 61 (10 * gn.toInt.toNat + 8) = 0) (h22_0 : R 61 (10 * gn.toInt.toNat + 0) = v38) (h22_9 : R 61 (10 * gn.toInt.toNat + 9) = 1) (hX3523 : v3520.toInt = 0 → WFX (R 24) (R 25) gc v3522) (ls : Array Slot) (hl : lv_has ls 4 [(2, .int v108), (0, .ref am)]) : W p l e ({ frames := 12, cells := 0, slots := 0, locals := 770 }) s m args below meth c H locs 0 0 (MQ below (mz_w D cy ad am (fun F G R S => mz_IF false F ∧ mz_IG G ∧ mz_IR [] true R ∧ (∀ k : Nat, k ∉ ([14, 15, 16, 18, 19, 21, 23, 26, 29, 30] : List Nat) → F k = Fa k) ∧ (∀ k : Nat, k ∉ ([24, 25, 27, 28, 61] : List Nat) → R k = Ra k) ∧ (∀ k : Nat, k ∉ ([17] : List Nat) → G k = Ga k) ∧ 0 ≤ (-1) * (F 14).toInt + (F 15).toInt ∧ 0 ≤ gp.toInt + (-1) * (F 15).toInt ∧ (1 ≤ (F 16).toInt → 0 ≤ (-1) * (F 14).toInt + (F 15).toInt + (-1)) ∧ (27 ≤ (G 17).toInt → 1 ≤ (F 16).toInt → (F 16).toInt ≤ 1 → 0 ≤ (-1) * (F 14).toInt + (F 15).toInt + (-2)) ∧ 0 ≤ (-1) * gf.toInt + (F 14).toInt ∧ 0 ≤ (-1) * gc.toInt + (F 23).toInt ∧ 0 ≤ (-1) * (F 23).toInt + (F 14).toInt ∧ 0 ≤ (-1) * gb.toInt + (F 19).toInt ∧ ((F 19).toInt ≤ 0 → 0 ≤ (-1) * gf.toInt + (F 14).toInt + (-1)) ∧ ((F 19).toInt = 0 → CLS 10 [1, 3, 5, 7] (R 24) (R 25) (R 61) (F 23).toInt (F 21).toInt) ∧ ((F 19).toInt = 0 → TMS (R 61) (F 21).toInt))) args s 0 0 (mz_W ad am)) (F0 m 221 ls []) := by
  have hq_gb := tk_rng gb
  have hq_gc := tk_rng gc
  have hq_gf := tk_rng gf
  have hq_gn := tk_rng gn
  have hq_gp := tk_rng gp
  have hq_gs := tk_rng gs
  have hq_gt := tk_rng gt
  have hq_gw := tk_rngL gw
  have hq_v108 := tk_rng v108
  have hq_v109 := tk_rng v109
  have hq_v3512 := tk_rng v3512
  have hq_v3514 := tk_rng v3514
  have hq_v3516 := tk_rng v3516
  have hq_v3520 := tk_rng v3520
  have hq_v3522 := tk_rng v3522
  have hq_v38 := tk_rng v38
  have hq_w3518 := tk_rngL w3518
  have hr_gp : 0 ≤ gp.toInt ∧ gp.toInt ≤ 400 := hIF.at hg_3
  have hr_v109 : 0 ≤ v109.toInt ∧ v109.toInt ≤ 12 := hIF.at hf111
  have hr_v3512 : 0 ≤ v3512.toInt ∧ v3512.toInt ≤ 400 := hIF.at hf3511
  have hr_v3514 : 0 ≤ v3514.toInt ∧ v3514.toInt ≤ 400 := hIF.at hf3513
  have hr_v3516 : 0 ≤ v3516.toInt ∧ v3516.toInt ≤ 3 := hIF.at hf3515
  have hr_v3520 : 0 ≤ v3520.toInt ∧ v3520.toInt ≤ 1 := hIF.at hf3519
  have hr_v3522 : 0 ≤ v3522.toInt ∧ v3522.toInt ≤ 400 := hIF.at hf3521
  refine lv_aload_n hx hb dX13_readOrder_221 rfl (lv_at hl 1 rfl) ?_
  refine mz_getR hx hb htl hown hK hM 61 (Nat.le_of_ble_eq_true rfl) (Nat.le_of_ble_eq_true rfl) (htl _ mw_239) (fun _ h9 => h9) dX13_readOrder_222 ?_
  refine lv_iload_n hx hb dX13_readOrder_225 rfl (lv_at hl 0 rfl) ?_
  refine lv_bipush (v := 7) hx hb dX13_readOrder_226 (by decide) ?_
  refine lv_iadd hx hb dX13_readOrder_228 ?_
  refine tk_add rfl (show (7 : Int32).toInt = 7 by decide) (by omega) (by omega) (fun v3530 h_v3530 => ?_)
  refine lv_aload_n hx hb dX13_readOrder_229 rfl (lv_at hl 1 rfl) ?_
  refine mz_getI hx hb htl hown hK hM 23 (Nat.le_of_ble_eq_true rfl) rfl (htl _ mw_670) (fun _ h9 => h9) dX13_readOrder_230 (fun v9 e9 => ?_)
  refine fx_ti (v := v3522) (e9.symm.trans hf3521) ?_
  refine mz_iast (x := v3522) hx hb hK hD hM hS 61 (Nat.le_of_ble_eq_true rfl) rfl (nn := 120) rfl rfl (by omega) (by omega) dX13_readOrder_233 (fun H locs R hM hS hw9 hj9 => ?_)
  have hIR := hIR.put hw9 hj9 trivial
  have hL22 : low (10 * gn.toInt.toNat) (Ra 61) (R 61) := fun j hj => by rw [hw9, pk_un (fun h9 => by have h8 := tk_nat (i := v3530) rfl (by omega); omega)]; exact hL22 j hj
  have h22_1 : R 61 (10 * gn.toInt.toNat + 1) = gc := by rw [hw9, pk_un (fun h9 => by have h8 := tk_nat (i := v3530) rfl (by omega); omega)]; exact h22_1
  have h22_2 : R 61 (10 * gn.toInt.toNat + 2) = v3522 := by rw [hw9, pk_un (fun h9 => by have h8 := tk_nat (i := v3530) rfl (by omega); omega)]; exact h22_2
  have h22_3 : R 61 (10 * gn.toInt.toNat + 3) = 0 := by rw [hw9, pk_un (fun h9 => by have h8 := tk_nat (i := v3530) rfl (by omega); omega)]; exact h22_3
  have h22_4 : R 61 (10 * gn.toInt.toNat + 4) = 0 := by rw [hw9, pk_un (fun h9 => by have h8 := tk_nat (i := v3530) rfl (by omega); omega)]; exact h22_4
  have h22_5 : R 61 (10 * gn.toInt.toNat + 5) = 0 := by rw [hw9, pk_un (fun h9 => by have h8 := tk_nat (i := v3530) rfl (by omega); omega)]; exact h22_5
  have h22_6 : R 61 (10 * gn.toInt.toNat + 6) = 0 := by rw [hw9, pk_un (fun h9 => by have h8 := tk_nat (i := v3530) rfl (by omega); omega)]; exact h22_6
  have h22_8 : R 61 (10 * gn.toInt.toNat + 8) = 0 := by rw [hw9, pk_un (fun h9 => by have h8 := tk_nat (i := v3530) rfl (by omega); omega)]; exact h22_8
  have h22_0 : R 61 (10 * gn.toInt.toNat + 0) = v38 := by rw [hw9, pk_un (fun h9 => by have h8 := tk_nat (i := v3530) rfl (by omega); omega)]; exact h22_0
  have h22_9 : R 61 (10 * gn.toInt.toNat + 9) = 1 := by rw [hw9, pk_un (fun h9 => by have h8 := tk_nat (i := v3530) rfl (by omega); omega)]; exact h22_9
  have hC9 := hC
  have hC : v3520.toInt = 0 → CLS 10 [1, 3, 5, 7] (R 24) (R 25) (Ra 61) gc.toInt gn.toInt := fun h9 => (hC9 (by omega)).to (hj9 24 (by decide)) (hj9 25 (by decide))
  have hX35239 := hX3523
  have hX3523 : v3520.toInt = 0 → WFX (R 24) (R 25) gc v3522 := fun h9 => by rw [hj9 24 (by decide), hj9 25 (by decide)]; exact hX35239 (by omega)
  have h22_7 : R 61 (10 * gn.toInt.toNat + 7) = v3522 := by rw [hw9, show 10 * gn.toInt.toNat + 7 = (v3530 : Int32).toNatClampNeg by show _ = v3530.toInt.toNat; omega]; exact pk_us
  have hRR := mz_frp (K := [24, 25, 27, 28, 61]) (Fa := Ra) hj9 hRR (by decide)
  refine lv_aload_n hx hb dX13_readOrder_234 rfl (lv_at hl 1 rfl) ?_
  refine mz_getI hx hb htl hown hK hM 19 (Nat.le_of_ble_eq_true rfl) rfl (htl _ mw_668) (fun _ h9 => h9) dX13_readOrder_235 (fun v9 e9 => ?_)
  refine fx_ti (v := v3520) (e9.symm.trans hf3519) ?_
  refine lv_if_ne (tgt := 260) hx hb dX13_readOrder_238 (by decide) (fun _ => ?_) (fun c9 => absurd (show v3520.toInt = 0 from (fi_eq rfl (show (0 : Int32).toInt = 0 by decide)).mp c9) (by omega))
  refine lv_aload_n hx hb dX13_readOrder_260 rfl (lv_at hl 1 rfl) ?_
  refine mz_getR hx hb htl hown hK hM 61 (Nat.le_of_ble_eq_true rfl) (Nat.le_of_ble_eq_true rfl) (htl _ mw_239) (fun _ h9 => h9) dX13_readOrder_261 ?_
  refine lv_iload_n hx hb dX13_readOrder_264 rfl (lv_at hl 0 rfl) ?_
  refine lv_bipush (v := 8) hx hb dX13_readOrder_265 (by decide) ?_
  refine lv_iadd hx hb dX13_readOrder_267 ?_
  refine tk_add rfl (show (8 : Int32).toInt = 8 by decide) (by omega) (by omega) (fun v3532 h_v3532 => ?_)
  refine lv_aload_n hx hb dX13_readOrder_268 rfl (lv_at hl 1 rfl) ?_
  refine mz_getI hx hb htl hown hK hM 23 (Nat.le_of_ble_eq_true rfl) rfl (htl _ mw_670) (fun _ h9 => h9) dX13_readOrder_269 (fun v9 e9 => ?_)
  refine fx_ti (v := v3522) (e9.symm.trans hf3521) ?_
  refine mz_iast (x := v3522) hx hb hK hD hM hS 61 (Nat.le_of_ble_eq_true rfl) rfl (nn := 120) rfl rfl (by omega) (by omega) dX13_readOrder_272 (fun H locs R hM hS hw9 hj9 => ?_)
  have hIR := hIR.put hw9 hj9 trivial
  have hL22 : low (10 * gn.toInt.toNat) (Ra 61) (R 61) := fun j hj => by rw [hw9, pk_un (fun h9 => by have h8 := tk_nat (i := v3532) rfl (by omega); omega)]; exact hL22 j hj
  have h22_1 : R 61 (10 * gn.toInt.toNat + 1) = gc := by rw [hw9, pk_un (fun h9 => by have h8 := tk_nat (i := v3532) rfl (by omega); omega)]; exact h22_1
  have h22_2 : R 61 (10 * gn.toInt.toNat + 2) = v3522 := by rw [hw9, pk_un (fun h9 => by have h8 := tk_nat (i := v3532) rfl (by omega); omega)]; exact h22_2
  have h22_3 : R 61 (10 * gn.toInt.toNat + 3) = 0 := by rw [hw9, pk_un (fun h9 => by have h8 := tk_nat (i := v3532) rfl (by omega); omega)]; exact h22_3
  have h22_4 : R 61 (10 * gn.toInt.toNat + 4) = 0 := by rw [hw9, pk_un (fun h9 => by have h8 := tk_nat (i := v3532) rfl (by omega); omega)]; exact h22_4
  have h22_5 : R 61 (10 * gn.toInt.toNat + 5) = 0 := by rw [hw9, pk_un (fun h9 => by have h8 := tk_nat (i := v3532) rfl (by omega); omega)]; exact h22_5
  have h22_6 : R 61 (10 * gn.toInt.toNat + 6) = 0 := by rw [hw9, pk_un (fun h9 => by have h8 := tk_nat (i := v3532) rfl (by omega); omega)]; exact h22_6
  have h22_7 : R 61 (10 * gn.toInt.toNat + 7) = v3522 := by rw [hw9, pk_un (fun h9 => by have h8 := tk_nat (i := v3532) rfl (by omega); omega)]; exact h22_7
  have h22_0 : R 61 (10 * gn.toInt.toNat + 0) = v38 := by rw [hw9, pk_un (fun h9 => by have h8 := tk_nat (i := v3532) rfl (by omega); omega)]; exact h22_0
  have h22_9 : R 61 (10 * gn.toInt.toNat + 9) = 1 := by rw [hw9, pk_un (fun h9 => by have h8 := tk_nat (i := v3532) rfl (by omega); omega)]; exact h22_9
  have hC9 := hC
  have hC : v3520.toInt = 0 → CLS 10 [1, 3, 5, 7] (R 24) (R 25) (Ra 61) gc.toInt gn.toInt := fun h9 => (hC9 (by omega)).to (hj9 24 (by decide)) (hj9 25 (by decide))
  have hX35239 := hX3523
  have hX3523 : v3520.toInt = 0 → WFX (R 24) (R 25) gc v3522 := fun h9 => by rw [hj9 24 (by decide), hj9 25 (by decide)]; exact hX35239 (by omega)
  have h22_8 : R 61 (10 * gn.toInt.toNat + 8) = v3522 := by rw [hw9, show 10 * gn.toInt.toNat + 8 = (v3532 : Int32).toNatClampNeg by show _ = v3532.toInt.toNat; omega]; exact pk_us
  have hRR := mz_frp (K := [24, 25, 27, 28, 61]) (Fa := Ra) hj9 hRR (by decide)
  exact mz_vret hx hb hr hlocks ⟨hIF, hIG, hIR, hFF, hRR, hGG, (by rw [hf3511, hf3513]; omega), (by rw [hf3513]; omega), (by rw [hf3511, hf3513, hf3515]; omega), (by rw [hf3511, hf3513, hf3515, hf3517]; omega), (by rw [hf3511]; omega), (by rw [hf3521]; omega), (by rw [hf3511, hf3521]; omega), (by rw [hf3519]; omega), (by rw [hf3511, hf3519]; omega), (by rw [hf3519]; exact fun h9 => absurd h9 (by omega)), (by rw [hf3519]; exact fun h9 => absurd h9 (by omega))⟩ hM hS dX13_readOrder_273
set_option maxHeartbeats 4000000 in
set_option maxRecDepth 100000 in
theorem kz_X13_readOrder_c6 (l : Launch) (D : va_G) (cy : Nat → ClassId) (ld ad : Nat → Nat) (am : Nat) (hD : mz_D ad am) (Fa : Nat → Int32) (Ga : Nat → Int64) (Ra : Nat → Nat → Int32) (Sa : Nat → Nat → Int64) (gf : Int32) (gt : Int32) (gs : Int32) (gp : Int32) (gw : Int64) (gb : Int32) (gc : Int32) (gn : Int32) {p : Program} {e : Env} {s : State} {m : MethodId} {args : Array Value} {below : List Frame} {meth : Method} {c : Code} (hx : p.tables.exec = Jvm.exec) (hb : c.code = cX13_readOrder) (hr : meth.sig.returnType = none) (hml : c.maxLocals = 4) (hts : ∀ w ∈ wl yX13_readOrder cX13_readOrder 4 none, w.before args s = true) (htl : ∀ w ∈ wsA, w.before args s = true) (hown : s.vm.findClass RX13 = some m.cls) (hlocks : meth.locks = false) (hK : kk_K D cy ld s) (hp_0 : 0 ≤ (-1) * gf.toInt + gt.toInt) (hp_1 : 0 ≤ gp.toInt + (-1) * gt.toInt) (hp_2 : (1 ≤ gs.toInt → 0 ≤ (-1) * gf.toInt + gt.toInt + (-1))) (hp_3 : (27 ≤ gw.toInt → 1 ≤ gs.toInt → gs.toInt ≤ 1 → 0 ≤ (-1) * gf.toInt + gt.toInt + (-2))) (hp_4 : 0 ≤ (-1) * gc.toInt + gf.toInt) (hp_5 : gb.toInt ≤ 0) (hg_0 : Fa 14 = gf) (hg_1 : Fa 15 = gt) (hg_2 : Fa 16 = gs) (hg_3 : Fa 13 = gp) (hg_4 : Ga 17 = gw) (hg_5 : Fa 19 = gb) (hg_6 : Fa 23 = gc) (hg_7 : Fa 21 = gn) (hx_0 : CLS 10 [1, 3, 5, 7] (Ra 24) (Ra 25) (Ra 61) gc.toInt gn.toInt) (hx_1 : TMS (Ra 61) gn.toInt) (v108 : Int32) (v109 : Int32) (v3512 : Int32) (v3514 : Int32) (v3516 : Int32) (v3520 : Int32) (v3522 : Int32) (v38 : Int32) (w3518 : Int64) (H : Heap) (locs : List Loc) (F : Nat → Int32) (G : Nat → Int64) (R : Nat → Nat → Int32) (S : Nat → Nat → Int64) (hq0_kz_X13_readOrder_c6 : v109.toInt ≤ 12) (hq1_kz_X13_readOrder_c6 : v3514.toInt ≤ 400) (hq2_kz_X13_readOrder_c6 : v3516.toInt ≤ 3) (hq3_kz_X13_readOrder_c6 : v3520.toInt ≤ 0) (hq4_kz_X13_readOrder_c6 : 1 ≤ v38.toInt) (hq5_kz_X13_readOrder_c6 : 0 ≤ (-1) * gf.toInt + gt.toInt + (-1)) (hq6_kz_X13_readOrder_c6 : (-10) * gn.toInt + v108.toInt = 0) (hq7_kz_X13_readOrder_c6 : (-1) * gn.toInt + v109.toInt + (-1) = 0) (hq8_kz_X13_readOrder_c6 : 0 ≤ (-1) * v3512.toInt + v3514.toInt) (hq9_kz_X13_readOrder_c6 : 0 ≤ gp.toInt + (-1) * v3514.toInt) (hq10_kz_X13_readOrder_c6 : 0 ≤ (-1) * gc.toInt + v3522.toInt) (hq11_kz_X13_readOrder_c6 : 0 ≤ v3512.toInt + (-1) * v3522.toInt) (hq12_kz_X13_readOrder_c6 : 0 ≤ gb.toInt + (-1) * v38.toInt + 1) (hq13_kz_X13_readOrder_c6 : 0 ≤ gc.toInt + (-1) * v38.toInt + 1) (hq14_kz_X13_readOrder_c6 : 0 ≤ gs.toInt + (-1) * v38.toInt) (hq15_kz_X13_readOrder_c6 : 0 ≤ (-1) * gt.toInt + v3512.toInt) (hq16_kz_X13_readOrder_c6 : 0 ≤ (-1) * gs.toInt + v38.toInt) (hq17_kz_X13_readOrder_c6 : 0 ≤ (-1) * gb.toInt + v109.toInt + (-1)) (hq18_kz_X13_readOrder_c6 : 0 ≤ (-1) * gb.toInt + v3516.toInt) (hq19_kz_X13_readOrder_c6 : 0 ≤ (-1) * gb.toInt + v3520.toInt) (hM : mz_S D cy ad am F G R S H) (hS : va_S (mz_W ad am) s.heap H locs) (hIF : mz_IF false F) (hIG : mz_IG G) (hIR : mz_IR [] true R) (hFF : ∀ k : Nat, k ∉ ([14, 15, 16, 18, 19, 21, 23, 26, 29, 30] : List Nat) → F k = Fa k) (hGG : ∀ k : Nat, k ∉ ([17] : List Nat) → G k = Ga k) (hRR : ∀ k : Nat, k ∉ ([24, 25, 27, 28, 61] : List Nat) → R k = Ra k) (hg_3 : F 13 = gp) (hf111 : F 21 = v109) (hf3511 : F 14 = v3512) (hf3513 : F 15 = v3514) (hf3515 : F 16 = v3516) (hf3517 : G 17 = w3518) (hf3519 : F 19 = v3520) (hf3521 : F 23 = v3522) (hc0_kz_X13_readOrder_c6 : (27 ≤ gw.toInt → 1 ≤ gs.toInt → gs.toInt ≤ 1 → 0 ≤ (-1) * gf.toInt + gt.toInt + (-2))) (hc1_kz_X13_readOrder_c6 : (1 ≤ v3516.toInt → 0 ≤ (-1) * v3512.toInt + v3514.toInt + (-1))) (hc2_kz_X13_readOrder_c6 : (27 ≤ w3518.toInt → 1 ≤ v3516.toInt → v3516.toInt ≤ 1 → 0 ≤ (-1) * v3512.toInt + v3514.toInt + (-2))) (hc3_kz_X13_readOrder_c6 : (27 ≤ gw.toInt → 1 ≤ gs.toInt → gs.toInt ≤ 1 → 0 ≤ (-1) * gf.toInt + gt.toInt + (-2))) (hL22 : low (10 * gn.toInt.toNat) (Ra 61) (R 61)) (hC : v3520.toInt = 0 → CLS 10 [1, 3, 5, 7] (R 24) (R 25) (Ra 61) gc.toInt gn.toInt) (h22_1 : R 61 (10 * gn.toInt.toNat + 1) = gc) (h22_2 : R 61 (10 * gn.toInt.toNat + 2) = v3522) (h22_3 : R 61 (10 * gn.toInt.toNat + 3) = 0) (h22_4 : R 61 (10 * gn.toInt.toNat + 4) = 0) (h22_5 : R 61 (10 * gn.toInt.toNat + 5) = 0) (h22_6 : R 61 (10 * gn.toInt.toNat + 6) = 0) (h22_7 : R 61 (10 * gn.toInt.toNat + 7) = 0) (h22_8 : R 61 (10 * gn.toInt.toNat + 8) = 0) (h22_0 : R 61 (10 * gn.toInt.toNat + 0) = v38) (h22_9 : R 61 (10 * gn.toInt.toNat + 9) = 1) (hX3523 : v3520.toInt = 0 → WFX (R 24) (R 25) gc v3522) (ls : Array Slot) (hl : lv_has ls 4 [(2, .int v108), (0, .ref am)]) : W p l e ({ frames := 12, cells := 0, slots := 0, locals := 770 }) s m args below meth c H locs 0 0 (MQ below (mz_w D cy ad am (fun F G R S => mz_IF false F ∧ mz_IG G ∧ mz_IR [] true R ∧ (∀ k : Nat, k ∉ ([14, 15, 16, 18, 19, 21, 23, 26, 29, 30] : List Nat) → F k = Fa k) ∧ (∀ k : Nat, k ∉ ([24, 25, 27, 28, 61] : List Nat) → R k = Ra k) ∧ (∀ k : Nat, k ∉ ([17] : List Nat) → G k = Ga k) ∧ 0 ≤ (-1) * (F 14).toInt + (F 15).toInt ∧ 0 ≤ gp.toInt + (-1) * (F 15).toInt ∧ (1 ≤ (F 16).toInt → 0 ≤ (-1) * (F 14).toInt + (F 15).toInt + (-1)) ∧ (27 ≤ (G 17).toInt → 1 ≤ (F 16).toInt → (F 16).toInt ≤ 1 → 0 ≤ (-1) * (F 14).toInt + (F 15).toInt + (-2)) ∧ 0 ≤ (-1) * gf.toInt + (F 14).toInt ∧ 0 ≤ (-1) * gc.toInt + (F 23).toInt ∧ 0 ≤ (-1) * (F 23).toInt + (F 14).toInt ∧ 0 ≤ (-1) * gb.toInt + (F 19).toInt ∧ ((F 19).toInt ≤ 0 → 0 ≤ (-1) * gf.toInt + (F 14).toInt + (-1)) ∧ ((F 19).toInt = 0 → CLS 10 [1, 3, 5, 7] (R 24) (R 25) (R 61) (F 23).toInt (F 21).toInt) ∧ ((F 19).toInt = 0 → TMS (R 61) (F 21).toInt))) args s 0 0 (mz_W ad am)) (F0 m 221 ls []) := by
  have hq_gb := tk_rng gb
  have hq_gc := tk_rng gc
  have hq_gf := tk_rng gf
  have hq_gn := tk_rng gn
  have hq_gp := tk_rng gp
  have hq_gs := tk_rng gs
  have hq_gt := tk_rng gt
  have hq_gw := tk_rngL gw
  have hq_v108 := tk_rng v108
  have hq_v109 := tk_rng v109
  have hq_v3512 := tk_rng v3512
  have hq_v3514 := tk_rng v3514
  have hq_v3516 := tk_rng v3516
  have hq_v3520 := tk_rng v3520
  have hq_v3522 := tk_rng v3522
  have hq_v38 := tk_rng v38
  have hq_w3518 := tk_rngL w3518
  have hr_gp : 0 ≤ gp.toInt ∧ gp.toInt ≤ 400 := hIF.at hg_3
  have hr_v109 : 0 ≤ v109.toInt ∧ v109.toInt ≤ 12 := hIF.at hf111
  have hr_v3512 : 0 ≤ v3512.toInt ∧ v3512.toInt ≤ 400 := hIF.at hf3511
  have hr_v3514 : 0 ≤ v3514.toInt ∧ v3514.toInt ≤ 400 := hIF.at hf3513
  have hr_v3516 : 0 ≤ v3516.toInt ∧ v3516.toInt ≤ 3 := hIF.at hf3515
  have hr_v3520 : 0 ≤ v3520.toInt ∧ v3520.toInt ≤ 1 := hIF.at hf3519
  have hr_v3522 : 0 ≤ v3522.toInt ∧ v3522.toInt ≤ 400 := hIF.at hf3521
  refine lv_aload_n hx hb dX13_readOrder_221 rfl (lv_at hl 1 rfl) ?_
  refine mz_getR hx hb htl hown hK hM 61 (Nat.le_of_ble_eq_true rfl) (Nat.le_of_ble_eq_true rfl) (htl _ mw_239) (fun _ h9 => h9) dX13_readOrder_222 ?_
  refine lv_iload_n hx hb dX13_readOrder_225 rfl (lv_at hl 0 rfl) ?_
  refine lv_bipush (v := 7) hx hb dX13_readOrder_226 (by decide) ?_
  refine lv_iadd hx hb dX13_readOrder_228 ?_
  refine tk_add rfl (show (7 : Int32).toInt = 7 by decide) (by omega) (by omega) (fun v3543 h_v3543 => ?_)
  refine lv_aload_n hx hb dX13_readOrder_229 rfl (lv_at hl 1 rfl) ?_
  refine mz_getI hx hb htl hown hK hM 23 (Nat.le_of_ble_eq_true rfl) rfl (htl _ mw_670) (fun _ h9 => h9) dX13_readOrder_230 (fun v9 e9 => ?_)
  refine fx_ti (v := v3522) (e9.symm.trans hf3521) ?_
  refine mz_iast (x := v3522) hx hb hK hD hM hS 61 (Nat.le_of_ble_eq_true rfl) rfl (nn := 120) rfl rfl (by omega) (by omega) dX13_readOrder_233 (fun H locs R hM hS hw9 hj9 => ?_)
  have hIR := hIR.put hw9 hj9 trivial
  have hL22 : low (10 * gn.toInt.toNat) (Ra 61) (R 61) := fun j hj => by rw [hw9, pk_un (fun h9 => by have h8 := tk_nat (i := v3543) rfl (by omega); omega)]; exact hL22 j hj
  have h22_1 : R 61 (10 * gn.toInt.toNat + 1) = gc := by rw [hw9, pk_un (fun h9 => by have h8 := tk_nat (i := v3543) rfl (by omega); omega)]; exact h22_1
  have h22_2 : R 61 (10 * gn.toInt.toNat + 2) = v3522 := by rw [hw9, pk_un (fun h9 => by have h8 := tk_nat (i := v3543) rfl (by omega); omega)]; exact h22_2
  have h22_3 : R 61 (10 * gn.toInt.toNat + 3) = 0 := by rw [hw9, pk_un (fun h9 => by have h8 := tk_nat (i := v3543) rfl (by omega); omega)]; exact h22_3
  have h22_4 : R 61 (10 * gn.toInt.toNat + 4) = 0 := by rw [hw9, pk_un (fun h9 => by have h8 := tk_nat (i := v3543) rfl (by omega); omega)]; exact h22_4
  have h22_5 : R 61 (10 * gn.toInt.toNat + 5) = 0 := by rw [hw9, pk_un (fun h9 => by have h8 := tk_nat (i := v3543) rfl (by omega); omega)]; exact h22_5
  have h22_6 : R 61 (10 * gn.toInt.toNat + 6) = 0 := by rw [hw9, pk_un (fun h9 => by have h8 := tk_nat (i := v3543) rfl (by omega); omega)]; exact h22_6
  have h22_8 : R 61 (10 * gn.toInt.toNat + 8) = 0 := by rw [hw9, pk_un (fun h9 => by have h8 := tk_nat (i := v3543) rfl (by omega); omega)]; exact h22_8
  have h22_0 : R 61 (10 * gn.toInt.toNat + 0) = v38 := by rw [hw9, pk_un (fun h9 => by have h8 := tk_nat (i := v3543) rfl (by omega); omega)]; exact h22_0
  have h22_9 : R 61 (10 * gn.toInt.toNat + 9) = 1 := by rw [hw9, pk_un (fun h9 => by have h8 := tk_nat (i := v3543) rfl (by omega); omega)]; exact h22_9
  have hC9 := hC
  have hC : v3520.toInt = 0 → CLS 10 [1, 3, 5, 7] (R 24) (R 25) (Ra 61) gc.toInt gn.toInt := fun h9 => (hC9 (by omega)).to (hj9 24 (by decide)) (hj9 25 (by decide))
  have hX35239 := hX3523
  have hX3523 : v3520.toInt = 0 → WFX (R 24) (R 25) gc v3522 := fun h9 => by rw [hj9 24 (by decide), hj9 25 (by decide)]; exact hX35239 (by omega)
  have h22_7 : R 61 (10 * gn.toInt.toNat + 7) = v3522 := by rw [hw9, show 10 * gn.toInt.toNat + 7 = (v3543 : Int32).toNatClampNeg by show _ = v3543.toInt.toNat; omega]; exact pk_us
  have hRR := mz_frp (K := [24, 25, 27, 28, 61]) (Fa := Ra) hj9 hRR (by decide)
  refine lv_aload_n hx hb dX13_readOrder_234 rfl (lv_at hl 1 rfl) ?_
  refine mz_getI hx hb htl hown hK hM 19 (Nat.le_of_ble_eq_true rfl) rfl (htl _ mw_668) (fun _ h9 => h9) dX13_readOrder_235 (fun v9 e9 => ?_)
  refine fx_ti (v := v3520) (e9.symm.trans hf3519) ?_
  refine lv_if_ne (tgt := 260) hx hb dX13_readOrder_238 (by decide) (fun c9 => absurd ((fi_eq rfl (show (0 : Int32).toInt = 0 by decide)).mpr (show v3520.toInt = 0 by omega)) c9) (fun _ => ?_)
  refine lv_aload_n hx hb dX13_readOrder_241 rfl (lv_at hl 1 rfl) ?_
  refine lv_ldc2 hx hb hown (htl _ mw_705) dX13_readOrder_242 ?_
  have hk_294 : (294 : Int64).toInt = 294 := by decide
  refine mz_Vj (As := [.long 294]) (rest := []) ⟨hx, hb, hml, hown, hts⟩ hK hM hS (k_X13_isWord l D cy ld ad am hD _ _ _ _ 294 v3516 w3518 hIF hIG hIR hf3515 hf3517) ⟨callB_of 1 hts (wl_in mw_709) rfl rfl rfl (htl _ mw_5) (htl _ mw_706) hd_yX13_isWord ⟨(Nat.le_of_ble_eq_true rfl), (Nat.le_of_ble_eq_true rfl)⟩, htl _ mw_707, htl _ mw_708⟩ rfl hl.1 rfl (Nat.le_of_ble_eq_true rfl) dX13_readOrder_245 ⟨(Nat.le_of_ble_eq_true rfl), (Nat.le_of_ble_eq_true rfl)⟩ (fun v3545 H locs hpo hM hS => ?_)
  obtain ⟨hpo3546, hpo3547, hpo3548, hpo3549, hpo3550⟩ := hpo
  have hq_v3545 := tk_rng v3545
  refine lv_if_eq (tgt := 260) hx hb dX13_readOrder_248 (by decide) (fun c9 => ?_) (fun c9 => ?_)
  · have hc3552 : v3545.toInt = 0 := (fi_eq rfl (show (0 : Int32).toInt = 0 by decide)).mp c9
    refine lv_aload_n hx hb dX13_readOrder_260 rfl (lv_at hl 1 rfl) ?_
    refine mz_getR hx hb htl hown hK hM 61 (Nat.le_of_ble_eq_true rfl) (Nat.le_of_ble_eq_true rfl) (htl _ mw_239) (fun _ h9 => h9) dX13_readOrder_261 ?_
    refine lv_iload_n hx hb dX13_readOrder_264 rfl (lv_at hl 0 rfl) ?_
    refine lv_bipush (v := 8) hx hb dX13_readOrder_265 (by decide) ?_
    refine lv_iadd hx hb dX13_readOrder_267 ?_
    refine tk_add rfl (show (8 : Int32).toInt = 8 by decide) (by omega) (by omega) (fun v3553 h_v3553 => ?_)
    refine lv_aload_n hx hb dX13_readOrder_268 rfl (lv_at hl 1 rfl) ?_
    refine mz_getI hx hb htl hown hK hM 23 (Nat.le_of_ble_eq_true rfl) rfl (htl _ mw_670) (fun _ h9 => h9) dX13_readOrder_269 (fun v9 e9 => ?_)
    refine fx_ti (v := v3522) (e9.symm.trans hf3521) ?_
    refine mz_iast (x := v3522) hx hb hK hD hM hS 61 (Nat.le_of_ble_eq_true rfl) rfl (nn := 120) rfl rfl (by omega) (by omega) dX13_readOrder_272 (fun H locs R hM hS hw9 hj9 => ?_)
    have hIR := hIR.put hw9 hj9 trivial
    have hL22 : low (10 * gn.toInt.toNat) (Ra 61) (R 61) := fun j hj => by rw [hw9, pk_un (fun h9 => by have h8 := tk_nat (i := v3553) rfl (by omega); omega)]; exact hL22 j hj
    have h22_1 : R 61 (10 * gn.toInt.toNat + 1) = gc := by rw [hw9, pk_un (fun h9 => by have h8 := tk_nat (i := v3553) rfl (by omega); omega)]; exact h22_1
    have h22_2 : R 61 (10 * gn.toInt.toNat + 2) = v3522 := by rw [hw9, pk_un (fun h9 => by have h8 := tk_nat (i := v3553) rfl (by omega); omega)]; exact h22_2
    have h22_3 : R 61 (10 * gn.toInt.toNat + 3) = 0 := by rw [hw9, pk_un (fun h9 => by have h8 := tk_nat (i := v3553) rfl (by omega); omega)]; exact h22_3
    have h22_4 : R 61 (10 * gn.toInt.toNat + 4) = 0 := by rw [hw9, pk_un (fun h9 => by have h8 := tk_nat (i := v3553) rfl (by omega); omega)]; exact h22_4
    have h22_5 : R 61 (10 * gn.toInt.toNat + 5) = 0 := by rw [hw9, pk_un (fun h9 => by have h8 := tk_nat (i := v3553) rfl (by omega); omega)]; exact h22_5
    have h22_6 : R 61 (10 * gn.toInt.toNat + 6) = 0 := by rw [hw9, pk_un (fun h9 => by have h8 := tk_nat (i := v3553) rfl (by omega); omega)]; exact h22_6
    have h22_7 : R 61 (10 * gn.toInt.toNat + 7) = v3522 := by rw [hw9, pk_un (fun h9 => by have h8 := tk_nat (i := v3553) rfl (by omega); omega)]; exact h22_7
    have h22_0 : R 61 (10 * gn.toInt.toNat + 0) = v38 := by rw [hw9, pk_un (fun h9 => by have h8 := tk_nat (i := v3553) rfl (by omega); omega)]; exact h22_0
    have h22_9 : R 61 (10 * gn.toInt.toNat + 9) = 1 := by rw [hw9, pk_un (fun h9 => by have h8 := tk_nat (i := v3553) rfl (by omega); omega)]; exact h22_9
    have hC9 := hC
    have hC : v3520.toInt = 0 → CLS 10 [1, 3, 5, 7] (R 24) (R 25) (Ra 61) gc.toInt gn.toInt := fun h9 => (hC9 (by omega)).to (hj9 24 (by decide)) (hj9 25 (by decide))
    have hX35239 := hX3523
    have hX3523 : v3520.toInt = 0 → WFX (R 24) (R 25) gc v3522 := fun h9 => by rw [hj9 24 (by decide), hj9 25 (by decide)]; exact hX35239 (by omega)
    have h22_8 : R 61 (10 * gn.toInt.toNat + 8) = v3522 := by rw [hw9, show 10 * gn.toInt.toNat + 8 = (v3553 : Int32).toNatClampNeg by show _ = v3553.toInt.toNat; omega]; exact pk_us
    have hRR := mz_frp (K := [24, 25, 27, 28, 61]) (Fa := Ra) hj9 hRR (by decide)
    have hk_0 : (0 : Int32).toInt = 0 := by decide
    have hk_0 : (0 : Int32).toInt = 0 := by decide
    have hk_0 : (0 : Int32).toInt = 0 := by decide
    have hk_0 : (0 : Int32).toInt = 0 := by decide
    have hk_1 : (1 : Int32).toInt = 1 := by decide
    exact mz_vret hx hb hr hlocks ⟨hIF, hIG, hIR, hFF, hRR, hGG, (by rw [hf3511, hf3513]; omega), (by rw [hf3513]; omega), (by rw [hf3511, hf3513, hf3515]; omega), (by rw [hf3511, hf3513, hf3515, hf3517]; omega), (by rw [hf3511]; omega), (by rw [hf3521]; omega), (by rw [hf3511, hf3521]; omega), (by rw [hf3519]; omega), (by rw [hf3511, hf3519]; omega), (by rw [hf3519, hf3521, hf111]; exact fun h9 => mz_snoc (N := gn.toInt.toNat) (hC h9) (by omega) (by omega) hL22 (by decide) (by omega) (by intro d hd; simp only [List.mem_cons, List.not_mem_nil, or_false] at hd; rcases hd with rfl | rfl | rfl | rfl <;> first | (rw [show 10 * gn.toInt.toNat + 1 + 1 = 10 * gn.toInt.toNat + 2 from rfl, h22_1, h22_2]; exact ⟨hX3523 h9, by omega⟩) | (rw [show 10 * gn.toInt.toNat + 3 + 1 = 10 * gn.toInt.toNat + 4 from rfl, h22_3, h22_4]; exact ⟨WFX.nil (by omega) (by omega), by omega⟩) | (rw [show 10 * gn.toInt.toNat + 5 + 1 = 10 * gn.toInt.toNat + 6 from rfl, h22_5, h22_6]; exact ⟨WFX.nil (by omega) (by omega), by omega⟩) | (rw [show 10 * gn.toInt.toNat + 7 + 1 = 10 * gn.toInt.toNat + 8 from rfl, h22_7, h22_8]; exact ⟨WFX.nil (by omega) (by omega), by omega⟩))), (by rw [hf3519, hf111]; exact fun h9 => TMS.snoc (N := gn.toInt.toNat) hx_1 (by omega) (by omega) hL22 h22_9 (by omega) (by omega))⟩ hM hS dX13_readOrder_273
  · have hc3552 : ¬ (v3545.toInt = 0) := fun h9 => c9 ((fi_eq rfl (show (0 : Int32).toInt = 0 by decide)).mpr h9)
    have hwk_3555 : w3518.toInt + (-294) = 0 ∧ v3516.toInt + (-1) = 0 := by omega
    have hwk_3556 : 0 ≤ (-1) * v3512.toInt + v3514.toInt + (-1) := by omega
    have hwk_3557 : 0 ≤ (-1) * v3512.toInt + v3514.toInt + (-2) := by omega
    refine lv_aload_n hx hb dX13_readOrder_251 rfl (lv_at hl 1 rfl) ?_
    refine mz_Vv (As := []) (rest := []) ⟨hx, hb, hml, hown, hts⟩ hK hM hS (k_X13_next l D cy ld ad am hD _ _ _ _ v3514 gp hIF hIG hIR hf3513 hg_3 (by omega)) ⟨callB_of 0 hts (wl_in mw_685) rfl rfl rfl (htl _ mw_5) (htl _ mw_682) hd_yX13_next ⟨(Nat.le_of_ble_eq_true rfl), (Nat.le_of_ble_eq_true rfl)⟩, htl _ mw_683, htl _ mw_684⟩ rfl hl.1 rfl (Nat.le_of_ble_eq_true rfl) dX13_readOrder_252 ⟨(Nat.le_of_ble_eq_true rfl), (Nat.le_of_ble_eq_true rfl)⟩ (fun H locs F G R S hpo hM hS => ?_)
    obtain ⟨hIF, hIG, hIR, hfr9, hrr9, hgr9, hpo3558, hpo3559, hpo3560, hpo3561, hpo3562⟩ := hpo
    have hFF := mz_fr (K := [14, 15, 16, 18, 19, 21, 23, 26, 29, 30]) (Fa := Fa) hfr9 hFF (by decide)
    have hRR := mz_fr (K := [24, 25, 27, 28, 61]) (Fa := Ra) hrr9 hRR (by decide)
    have hGG := mz_fr (K := [17]) (Fa := Ga) hgr9 hGG (by decide)
    have hg_3 := (hfr9 13 (by decide)).trans hg_3
    have hf111 := (hfr9 21 (by decide)).trans hf111
    have hf3519 := (hfr9 19 (by decide)).trans hf3519
    have hf3521 := (hfr9 23 (by decide)).trans hf3521
    obtain ⟨v3565, hf3564⟩ : ∃ z : Int32, F 14 = z := ⟨_, rfl⟩
    have hq_v3565 := tk_rng v3565
    rw [hf3564] at hpo3558 hpo3559 hpo3561 hpo3562
    have hr_v3565 : 0 ≤ v3565.toInt ∧ v3565.toInt ≤ 400 := hIF.at hf3564
    obtain ⟨v3567, hf3566⟩ : ∃ z : Int32, F 15 = z := ⟨_, rfl⟩
    have hq_v3567 := tk_rng v3567
    rw [hf3566] at hpo3559 hpo3560 hpo3561 hpo3562
    have hr_v3567 : 0 ≤ v3567.toInt ∧ v3567.toInt ≤ 400 := hIF.at hf3566
    obtain ⟨v3569, hf3568⟩ : ∃ z : Int32, F 16 = z := ⟨_, rfl⟩
    have hq_v3569 := tk_rng v3569
    rw [hf3568] at hpo3561 hpo3562
    have hr_v3569 : 0 ≤ v3569.toInt ∧ v3569.toInt ≤ 3 := hIF.at hf3568
    obtain ⟨w3571, hf3570⟩ : ∃ z : Int64, G 17 = z := ⟨_, rfl⟩
    have hq_w3571 := tk_rngL w3571
    rw [hf3570] at hpo3562
    have hL22 := hL22.to (hrr9 61 (by decide))
    have h22_1 := (congrFun (hrr9 61 (by decide)) _).trans h22_1
    have h22_2 := (congrFun (hrr9 61 (by decide)) _).trans h22_2
    have h22_3 := (congrFun (hrr9 61 (by decide)) _).trans h22_3
    have h22_4 := (congrFun (hrr9 61 (by decide)) _).trans h22_4
    have h22_5 := (congrFun (hrr9 61 (by decide)) _).trans h22_5
    have h22_6 := (congrFun (hrr9 61 (by decide)) _).trans h22_6
    have h22_7 := (congrFun (hrr9 61 (by decide)) _).trans h22_7
    have h22_8 := (congrFun (hrr9 61 (by decide)) _).trans h22_8
    have h22_0 := (congrFun (hrr9 61 (by decide)) _).trans h22_0
    have h22_9 := (congrFun (hrr9 61 (by decide)) _).trans h22_9
    have hC9 := hC
    have hC : v3520.toInt = 0 → CLS 10 [1, 3, 5, 7] (R 24) (R 25) (Ra 61) gc.toInt gn.toInt := fun h9 => (hC9 (by omega)).to (hrr9 24 (by decide)) (hrr9 25 (by decide))
    have hX35239 := hX3523
    have hX3523 : v3520.toInt = 0 → WFX (R 24) (R 25) gc v3522 := fun h9 => by rw [hrr9 24 (by decide), hrr9 25 (by decide)]; exact hX35239 (by omega)
    refine lv_aload_n hx hb dX13_readOrder_255 rfl (lv_at hl 1 rfl) ?_
    refine lv_iconst (v := 1) hx hb dX13_readOrder_256 (by decide) ?_
    have hk_1 : (1 : Int32).toInt = 1 := by decide
    refine mz_Vv (As := [.int 1]) (rest := []) ⟨hx, hb, hml, hown, hts⟩ hK hM hS (k_X13_readExpression l D cy ld ad am hD _ _ _ _ 1 v3565 v3567 v3569 gp w3571 v3520 v3522 hIF hIG hIR hf3564 hf3566 hf3568 hg_3 hf3570 hf3519 hf3521 (by omega) (by omega) (by omega) (by omega) (by omega) (by omega) (by omega) (by omega)) ⟨callB_of 1 hts (wl_in mw_717) rfl rfl rfl (htl _ mw_5) (htl _ mw_714) hd_yX13_readExpression ⟨(Nat.le_of_ble_eq_true rfl), (Nat.le_of_ble_eq_true rfl)⟩, htl _ mw_715, htl _ mw_716⟩ rfl hl.1 rfl (Nat.le_of_ble_eq_true rfl) dX13_readOrder_257 ⟨(Nat.le_of_ble_eq_true rfl), (Nat.le_of_ble_eq_true rfl)⟩ (fun H locs F G R S hpo hM hS => ?_)
    obtain ⟨hIF, hIG, hIR, hfr9, hrr9, hgr9, hpo3572, hpo3573, hpo3574, hpo3575, hpo3576, hpo3577, hpo3578, hx3579⟩ := hpo
    have hFF := mz_fr (K := [14, 15, 16, 18, 19, 21, 23, 26, 29, 30]) (Fa := Fa) hfr9 hFF (by decide)
    have hRR := mz_fr (K := [24, 25, 27, 28, 61]) (Fa := Ra) hrr9 hRR (by decide)
    have hGG := mz_fr (K := [17]) (Fa := Ga) hgr9 hGG (by decide)
    have hg_3 := (hfr9 13 (by decide)).trans hg_3
    have hf111 := (hfr9 21 (by decide)).trans hf111
    obtain ⟨v3582, hf3581⟩ : ∃ z : Int32, F 14 = z := ⟨_, rfl⟩
    have hq_v3582 := tk_rng v3582
    rw [hf3581] at hpo3572 hpo3574 hpo3575 hpo3576 hpo3577
    have hr_v3582 : 0 ≤ v3582.toInt ∧ v3582.toInt ≤ 400 := hIF.at hf3581
    obtain ⟨v3584, hf3583⟩ : ∃ z : Int32, F 15 = z := ⟨_, rfl⟩
    have hq_v3584 := tk_rng v3584
    rw [hf3583] at hpo3572 hpo3573 hpo3574 hpo3575
    have hr_v3584 : 0 ≤ v3584.toInt ∧ v3584.toInt ≤ 400 := hIF.at hf3583
    obtain ⟨v3586, hf3585⟩ : ∃ z : Int32, F 16 = z := ⟨_, rfl⟩
    have hq_v3586 := tk_rng v3586
    rw [hf3585] at hpo3574 hpo3575
    have hr_v3586 : 0 ≤ v3586.toInt ∧ v3586.toInt ≤ 3 := hIF.at hf3585
    obtain ⟨w3588, hf3587⟩ : ∃ z : Int64, G 17 = z := ⟨_, rfl⟩
    have hq_w3588 := tk_rngL w3588
    rw [hf3587] at hpo3575
    obtain ⟨v3590, hf3589⟩ : ∃ z : Int32, F 19 = z := ⟨_, rfl⟩
    have hq_v3590 := tk_rng v3590
    have hr_v3590 : 0 ≤ v3590.toInt ∧ v3590.toInt ≤ 1 := hIF.at hf3589
    obtain ⟨v3592, hf3591⟩ : ∃ z : Int32, F 23 = z := ⟨_, rfl⟩
    have hq_v3592 := tk_rng v3592
    rw [hf3591] at hpo3577 hpo3578
    have hr_v3592 : 0 ≤ v3592.toInt ∧ v3592.toInt ≤ 400 := hIF.at hf3591
    have hL22 := hL22.to (hrr9 61 (by decide))
    have h22_1 := (congrFun (hrr9 61 (by decide)) _).trans h22_1
    have h22_2 := (congrFun (hrr9 61 (by decide)) _).trans h22_2
    have h22_3 := (congrFun (hrr9 61 (by decide)) _).trans h22_3
    have h22_4 := (congrFun (hrr9 61 (by decide)) _).trans h22_4
    have h22_5 := (congrFun (hrr9 61 (by decide)) _).trans h22_5
    have h22_6 := (congrFun (hrr9 61 (by decide)) _).trans h22_6
    have h22_7 := (congrFun (hrr9 61 (by decide)) _).trans h22_7
    have h22_8 := (congrFun (hrr9 61 (by decide)) _).trans h22_8
    have h22_0 := (congrFun (hrr9 61 (by decide)) _).trans h22_0
    have h22_9 := (congrFun (hrr9 61 (by decide)) _).trans h22_9
    have hE9 : v3590.toInt = 0 → WFC (R 24) (R 25) v3522.toInt.toNat v3592.toInt.toNat ∧ low v3522.toInt.toNat _ (R 24) ∧ low v3522.toInt.toNat _ (R 25) := fun h9 => by have h8 := hx3579 (by rw [hf3589]; exact h9); rw [hf3591] at h8; exact h8
    have hC9 := hC (by omega)
    have hC : v3590.toInt = 0 → CLS 10 [1, 3, 5, 7] (R 24) (R 25) (Ra 61) gc.toInt gn.toInt := fun h9 => hC9.low (N := v3522.toInt.toNat) (by omega) (hE9 h9).2.1 (hE9 h9).2.2
    have hX35239 := hX3523 (by omega)
    have hX3523 : v3590.toInt = 0 → WFX (R 24) (R 25) gc v3522 := fun h9 => hX35239.low (n := v3522.toInt.toNat) (by omega) (hE9 h9).2.1 (hE9 h9).2.2
    have hX3593 : v3590.toInt = 0 → WFX (R 24) (R 25) v3522 v3592 := fun h9 => ⟨by omega, by omega, by omega, (hE9 h9).1⟩
    refine lv_aload_n hx hb dX13_readOrder_260 rfl (lv_at hl 1 rfl) ?_
    refine mz_getR hx hb htl hown hK hM 61 (Nat.le_of_ble_eq_true rfl) (Nat.le_of_ble_eq_true rfl) (htl _ mw_239) (fun _ h9 => h9) dX13_readOrder_261 ?_
    refine lv_iload_n hx hb dX13_readOrder_264 rfl (lv_at hl 0 rfl) ?_
    refine lv_bipush (v := 8) hx hb dX13_readOrder_265 (by decide) ?_
    refine lv_iadd hx hb dX13_readOrder_267 ?_
    refine tk_add rfl (show (8 : Int32).toInt = 8 by decide) (by omega) (by omega) (fun v3594 h_v3594 => ?_)
    refine lv_aload_n hx hb dX13_readOrder_268 rfl (lv_at hl 1 rfl) ?_
    refine mz_getI hx hb htl hown hK hM 23 (Nat.le_of_ble_eq_true rfl) rfl (htl _ mw_670) (fun _ h9 => h9) dX13_readOrder_269 (fun v9 e9 => ?_)
    refine fx_ti (v := v3592) (e9.symm.trans hf3591) ?_
    refine mz_iast (x := v3592) hx hb hK hD hM hS 61 (Nat.le_of_ble_eq_true rfl) rfl (nn := 120) rfl rfl (by omega) (by omega) dX13_readOrder_272 (fun H locs R hM hS hw9 hj9 => ?_)
    have hIR := hIR.put hw9 hj9 trivial
    have hL22 : low (10 * gn.toInt.toNat) (Ra 61) (R 61) := fun j hj => by rw [hw9, pk_un (fun h9 => by have h8 := tk_nat (i := v3594) rfl (by omega); omega)]; exact hL22 j hj
    have h22_1 : R 61 (10 * gn.toInt.toNat + 1) = gc := by rw [hw9, pk_un (fun h9 => by have h8 := tk_nat (i := v3594) rfl (by omega); omega)]; exact h22_1
    have h22_2 : R 61 (10 * gn.toInt.toNat + 2) = v3522 := by rw [hw9, pk_un (fun h9 => by have h8 := tk_nat (i := v3594) rfl (by omega); omega)]; exact h22_2
    have h22_3 : R 61 (10 * gn.toInt.toNat + 3) = 0 := by rw [hw9, pk_un (fun h9 => by have h8 := tk_nat (i := v3594) rfl (by omega); omega)]; exact h22_3
    have h22_4 : R 61 (10 * gn.toInt.toNat + 4) = 0 := by rw [hw9, pk_un (fun h9 => by have h8 := tk_nat (i := v3594) rfl (by omega); omega)]; exact h22_4
    have h22_5 : R 61 (10 * gn.toInt.toNat + 5) = 0 := by rw [hw9, pk_un (fun h9 => by have h8 := tk_nat (i := v3594) rfl (by omega); omega)]; exact h22_5
    have h22_6 : R 61 (10 * gn.toInt.toNat + 6) = 0 := by rw [hw9, pk_un (fun h9 => by have h8 := tk_nat (i := v3594) rfl (by omega); omega)]; exact h22_6
    have h22_7 : R 61 (10 * gn.toInt.toNat + 7) = v3522 := by rw [hw9, pk_un (fun h9 => by have h8 := tk_nat (i := v3594) rfl (by omega); omega)]; exact h22_7
    have h22_0 : R 61 (10 * gn.toInt.toNat + 0) = v38 := by rw [hw9, pk_un (fun h9 => by have h8 := tk_nat (i := v3594) rfl (by omega); omega)]; exact h22_0
    have h22_9 : R 61 (10 * gn.toInt.toNat + 9) = 1 := by rw [hw9, pk_un (fun h9 => by have h8 := tk_nat (i := v3594) rfl (by omega); omega)]; exact h22_9
    have hC9 := hC
    have hC : v3590.toInt = 0 → CLS 10 [1, 3, 5, 7] (R 24) (R 25) (Ra 61) gc.toInt gn.toInt := fun h9 => (hC9 (by omega)).to (hj9 24 (by decide)) (hj9 25 (by decide))
    have hX35239 := hX3523
    have hX3523 : v3590.toInt = 0 → WFX (R 24) (R 25) gc v3522 := fun h9 => by rw [hj9 24 (by decide), hj9 25 (by decide)]; exact hX35239 (by omega)
    have hX35939 := hX3593
    have hX3593 : v3590.toInt = 0 → WFX (R 24) (R 25) v3522 v3592 := fun h9 => by rw [hj9 24 (by decide), hj9 25 (by decide)]; exact hX35939 (by omega)
    have h22_8 : R 61 (10 * gn.toInt.toNat + 8) = v3592 := by rw [hw9, show 10 * gn.toInt.toNat + 8 = (v3594 : Int32).toNatClampNeg by show _ = v3594.toInt.toNat; omega]; exact pk_us
    have hRR := mz_frp (K := [24, 25, 27, 28, 61]) (Fa := Ra) hj9 hRR (by decide)
    have hk_0 : (0 : Int32).toInt = 0 := by decide
    have hk_0 : (0 : Int32).toInt = 0 := by decide
    have hk_0 : (0 : Int32).toInt = 0 := by decide
    have hk_0 : (0 : Int32).toInt = 0 := by decide
    have hk_1 : (1 : Int32).toInt = 1 := by decide
    exact mz_vret hx hb hr hlocks ⟨hIF, hIG, hIR, hFF, hRR, hGG, (by rw [hf3581, hf3583]; omega), (by rw [hf3583]; omega), (by rw [hf3581, hf3583, hf3585]; omega), (by rw [hf3581, hf3583, hf3585, hf3587]; omega), (by rw [hf3581]; omega), (by rw [hf3591]; omega), (by rw [hf3581, hf3591]; omega), (by rw [hf3589]; omega), (by rw [hf3581, hf3589]; omega), (by rw [hf3589, hf3591, hf111]; exact fun h9 => mz_snoc (N := gn.toInt.toNat) (hC h9) (by omega) (by omega) hL22 (by decide) (by omega) (by intro d hd; simp only [List.mem_cons, List.not_mem_nil, or_false] at hd; rcases hd with rfl | rfl | rfl | rfl <;> first | (rw [show 10 * gn.toInt.toNat + 1 + 1 = 10 * gn.toInt.toNat + 2 from rfl, h22_1, h22_2]; exact ⟨hX3523 h9, by omega⟩) | (rw [show 10 * gn.toInt.toNat + 3 + 1 = 10 * gn.toInt.toNat + 4 from rfl, h22_3, h22_4]; exact ⟨WFX.nil (by omega) (by omega), by omega⟩) | (rw [show 10 * gn.toInt.toNat + 5 + 1 = 10 * gn.toInt.toNat + 6 from rfl, h22_5, h22_6]; exact ⟨WFX.nil (by omega) (by omega), by omega⟩) | (rw [show 10 * gn.toInt.toNat + 7 + 1 = 10 * gn.toInt.toNat + 8 from rfl, h22_7, h22_8]; exact ⟨hX3593 h9, by omega⟩))), (by rw [hf3589, hf111]; exact fun h9 => TMS.snoc (N := gn.toInt.toNat) hx_1 (by omega) (by omega) hL22 h22_9 (by omega) (by omega))⟩ hM hS dX13_readOrder_273
set_option maxHeartbeats 4000000 in
set_option maxRecDepth 100000 in
theorem kz_X13_readOrder_c7 (l : Launch) (D : va_G) (cy : Nat → ClassId) (ld ad : Nat → Nat) (am : Nat) (hD : mz_D ad am) (Fa : Nat → Int32) (Ga : Nat → Int64) (Ra : Nat → Nat → Int32) (Sa : Nat → Nat → Int64) (gf : Int32) (gt : Int32) (gs : Int32) (gp : Int32) (gw : Int64) (gb : Int32) (gc : Int32) (gn : Int32) {p : Program} {e : Env} {s : State} {m : MethodId} {args : Array Value} {below : List Frame} {meth : Method} {c : Code} (hx : p.tables.exec = Jvm.exec) (hb : c.code = cX13_readOrder) (hr : meth.sig.returnType = none) (hml : c.maxLocals = 4) (hts : ∀ w ∈ wl yX13_readOrder cX13_readOrder 4 none, w.before args s = true) (htl : ∀ w ∈ wsA, w.before args s = true) (hown : s.vm.findClass RX13 = some m.cls) (hlocks : meth.locks = false) (hK : kk_K D cy ld s) (hp_0 : 0 ≤ (-1) * gf.toInt + gt.toInt) (hp_1 : 0 ≤ gp.toInt + (-1) * gt.toInt) (hp_2 : (1 ≤ gs.toInt → 0 ≤ (-1) * gf.toInt + gt.toInt + (-1))) (hp_3 : (27 ≤ gw.toInt → 1 ≤ gs.toInt → gs.toInt ≤ 1 → 0 ≤ (-1) * gf.toInt + gt.toInt + (-2))) (hp_4 : 0 ≤ (-1) * gc.toInt + gf.toInt) (hp_5 : gb.toInt ≤ 0) (hg_0 : Fa 14 = gf) (hg_1 : Fa 15 = gt) (hg_2 : Fa 16 = gs) (hg_3 : Fa 13 = gp) (hg_4 : Ga 17 = gw) (hg_5 : Fa 19 = gb) (hg_6 : Fa 23 = gc) (hg_7 : Fa 21 = gn) (hx_0 : CLS 10 [1, 3, 5, 7] (Ra 24) (Ra 25) (Ra 61) gc.toInt gn.toInt) (hx_1 : TMS (Ra 61) gn.toInt) (v108 : Int32) (v109 : Int32) (v3522 : Int32) (v3614 : Int32) (v3624 : Int32) (v3626 : Int32) (v3628 : Int32) (v3632 : Int32) (v38 : Int32) (w3630 : Int64) (H : Heap) (locs : List Loc) (F : Nat → Int32) (G : Nat → Int64) (R : Nat → Nat → Int32) (S : Nat → Nat → Int64) (hq0_kz_X13_readOrder_c7 : v109.toInt ≤ 12) (hq1_kz_X13_readOrder_c7 : v3626.toInt ≤ 400) (hq2_kz_X13_readOrder_c7 : v3628.toInt ≤ 3) (hq3_kz_X13_readOrder_c7 : v3632.toInt ≤ 1) (hq4_kz_X13_readOrder_c7 : 1 ≤ v38.toInt) (hq5_kz_X13_readOrder_c7 : 0 ≤ (-1) * gf.toInt + gt.toInt + (-1)) (hq6_kz_X13_readOrder_c7 : (-10) * gn.toInt + v108.toInt = 0) (hq7_kz_X13_readOrder_c7 : (-1) * gn.toInt + v109.toInt + (-1) = 0) (hq8_kz_X13_readOrder_c7 : 0 ≤ (-1) * gc.toInt + v3522.toInt) (hq9_kz_X13_readOrder_c7 : 0 ≤ gb.toInt + (-1) * v38.toInt + 1) (hq10_kz_X13_readOrder_c7 : 0 ≤ gc.toInt + (-1) * v38.toInt + 1) (hq11_kz_X13_readOrder_c7 : 0 ≤ gs.toInt + (-1) * v38.toInt) (hq12_kz_X13_readOrder_c7 : 0 ≤ (-1) * gs.toInt + v38.toInt) (hq13_kz_X13_readOrder_c7 : 0 ≤ (-1) * v3624.toInt + v3626.toInt) (hq14_kz_X13_readOrder_c7 : 0 ≤ gp.toInt + (-1) * v3626.toInt) (hq15_kz_X13_readOrder_c7 : 0 ≤ (-1) * gb.toInt + v109.toInt + (-1)) (hq16_kz_X13_readOrder_c7 : 0 ≤ (-1) * gt.toInt + v3624.toInt + (-2)) (hq17_kz_X13_readOrder_c7 : 0 ≤ (-1) * v3522.toInt + v3624.toInt + (-2)) (hq18_kz_X13_readOrder_c7 : 0 ≤ (-1) * gb.toInt + v3628.toInt) (hq19_kz_X13_readOrder_c7 : 0 ≤ (-1) * gb.toInt + v3632.toInt) (hM : mz_S D cy ad am F G R S H) (hS : va_S (mz_W ad am) s.heap H locs) (hIF : mz_IF false F) (hIG : mz_IG G) (hIR : mz_IR [] true R) (hFF : ∀ k : Nat, k ∉ ([14, 15, 16, 18, 19, 21, 23, 26, 29, 30] : List Nat) → F k = Fa k) (hGG : ∀ k : Nat, k ∉ ([17] : List Nat) → G k = Ga k) (hRR : ∀ k : Nat, k ∉ ([24, 25, 27, 28, 61] : List Nat) → R k = Ra k) (hg_3 : F 13 = gp) (hf111 : F 21 = v109) (hf3521 : F 23 = v3522) (hf3623 : F 14 = v3624) (hf3625 : F 15 = v3626) (hf3627 : F 16 = v3628) (hf3629 : G 17 = w3630) (hf3631 : F 19 = v3632) (hc0_kz_X13_readOrder_c7 : (27 ≤ gw.toInt → 1 ≤ gs.toInt → gs.toInt ≤ 1 → 0 ≤ (-1) * gf.toInt + gt.toInt + (-2))) (hc1_kz_X13_readOrder_c7 : (27 ≤ gw.toInt → 1 ≤ gs.toInt → gs.toInt ≤ 1 → 0 ≤ (-1) * gf.toInt + gt.toInt + (-2))) (hc2_kz_X13_readOrder_c7 : (1 ≤ v3628.toInt → 0 ≤ (-1) * v3624.toInt + v3626.toInt + (-1))) (hc3_kz_X13_readOrder_c7 : (27 ≤ w3630.toInt → 1 ≤ v3628.toInt → v3628.toInt ≤ 1 → 0 ≤ (-1) * v3624.toInt + v3626.toInt + (-2))) (hL22 : low (10 * gn.toInt.toNat) (Ra 61) (R 61)) (hC : v3632.toInt = 0 → CLS 10 [1, 3, 5, 7] (R 24) (R 25) (Ra 61) gc.toInt gn.toInt) (h22_1 : R 61 (10 * gn.toInt.toNat + 1) = gc) (h22_2 : R 61 (10 * gn.toInt.toNat + 2) = v3522) (h22_3 : R 61 (10 * gn.toInt.toNat + 3) = 0) (h22_4 : R 61 (10 * gn.toInt.toNat + 4) = 0) (h22_5 : R 61 (10 * gn.toInt.toNat + 5) = 0) (h22_6 : R 61 (10 * gn.toInt.toNat + 6) = 0) (h22_7 : R 61 (10 * gn.toInt.toNat + 7) = 0) (h22_8 : R 61 (10 * gn.toInt.toNat + 8) = 0) (h22_0 : R 61 (10 * gn.toInt.toNat + 0) = v38) (h22_9 : R 61 (10 * gn.toInt.toNat + 9) = v3614) (hX3523 : v3632.toInt = 0 → WFX (R 24) (R 25) gc v3522) (ls : Array Slot) (hl : lv_has ls 4 [(2, .int v108), (0, .ref am)]) : W p l e ({ frames := 12, cells := 0, slots := 0, locals := 770 }) s m args below meth c H locs 0 0 (MQ below (mz_w D cy ad am (fun F G R S => mz_IF false F ∧ mz_IG G ∧ mz_IR [] true R ∧ (∀ k : Nat, k ∉ ([14, 15, 16, 18, 19, 21, 23, 26, 29, 30] : List Nat) → F k = Fa k) ∧ (∀ k : Nat, k ∉ ([24, 25, 27, 28, 61] : List Nat) → R k = Ra k) ∧ (∀ k : Nat, k ∉ ([17] : List Nat) → G k = Ga k) ∧ 0 ≤ (-1) * (F 14).toInt + (F 15).toInt ∧ 0 ≤ gp.toInt + (-1) * (F 15).toInt ∧ (1 ≤ (F 16).toInt → 0 ≤ (-1) * (F 14).toInt + (F 15).toInt + (-1)) ∧ (27 ≤ (G 17).toInt → 1 ≤ (F 16).toInt → (F 16).toInt ≤ 1 → 0 ≤ (-1) * (F 14).toInt + (F 15).toInt + (-2)) ∧ 0 ≤ (-1) * gf.toInt + (F 14).toInt ∧ 0 ≤ (-1) * gc.toInt + (F 23).toInt ∧ 0 ≤ (-1) * (F 23).toInt + (F 14).toInt ∧ 0 ≤ (-1) * gb.toInt + (F 19).toInt ∧ ((F 19).toInt ≤ 0 → 0 ≤ (-1) * gf.toInt + (F 14).toInt + (-1)) ∧ ((F 19).toInt = 0 → CLS 10 [1, 3, 5, 7] (R 24) (R 25) (R 61) (F 23).toInt (F 21).toInt) ∧ ((F 19).toInt = 0 → TMS (R 61) (F 21).toInt))) args s 0 0 (mz_W ad am)) (F0 m 221 ls []) := by
  have hq_gb := tk_rng gb
  have hq_gc := tk_rng gc
  have hq_gf := tk_rng gf
  have hq_gn := tk_rng gn
  have hq_gp := tk_rng gp
  have hq_gs := tk_rng gs
  have hq_gt := tk_rng gt
  have hq_gw := tk_rngL gw
  have hq_v108 := tk_rng v108
  have hq_v109 := tk_rng v109
  have hq_v3522 := tk_rng v3522
  have hq_v3614 := tk_rng v3614
  have hq_v3624 := tk_rng v3624
  have hq_v3626 := tk_rng v3626
  have hq_v3628 := tk_rng v3628
  have hq_v3632 := tk_rng v3632
  have hq_v38 := tk_rng v38
  have hq_w3630 := tk_rngL w3630
  have hr_gp : 0 ≤ gp.toInt ∧ gp.toInt ≤ 400 := hIF.at hg_3
  have hr_v109 : 0 ≤ v109.toInt ∧ v109.toInt ≤ 12 := hIF.at hf111
  have hr_v3522 : 0 ≤ v3522.toInt ∧ v3522.toInt ≤ 400 := hIF.at hf3521
  have hr_v3624 : 0 ≤ v3624.toInt ∧ v3624.toInt ≤ 400 := hIF.at hf3623
  have hr_v3626 : 0 ≤ v3626.toInt ∧ v3626.toInt ≤ 400 := hIF.at hf3625
  have hr_v3628 : 0 ≤ v3628.toInt ∧ v3628.toInt ≤ 3 := hIF.at hf3627
  have hr_v3632 : 0 ≤ v3632.toInt ∧ v3632.toInt ≤ 1 := hIF.at hf3631
  refine lv_aload_n hx hb dX13_readOrder_221 rfl (lv_at hl 1 rfl) ?_
  refine mz_getR hx hb htl hown hK hM 61 (Nat.le_of_ble_eq_true rfl) (Nat.le_of_ble_eq_true rfl) (htl _ mw_239) (fun _ h9 => h9) dX13_readOrder_222 ?_
  refine lv_iload_n hx hb dX13_readOrder_225 rfl (lv_at hl 0 rfl) ?_
  refine lv_bipush (v := 7) hx hb dX13_readOrder_226 (by decide) ?_
  refine lv_iadd hx hb dX13_readOrder_228 ?_
  refine tk_add rfl (show (7 : Int32).toInt = 7 by decide) (by omega) (by omega) (fun v3635 h_v3635 => ?_)
  refine lv_aload_n hx hb dX13_readOrder_229 rfl (lv_at hl 1 rfl) ?_
  refine mz_getI hx hb htl hown hK hM 23 (Nat.le_of_ble_eq_true rfl) rfl (htl _ mw_670) (fun _ h9 => h9) dX13_readOrder_230 (fun v9 e9 => ?_)
  refine fx_ti (v := v3522) (e9.symm.trans hf3521) ?_
  refine mz_iast (x := v3522) hx hb hK hD hM hS 61 (Nat.le_of_ble_eq_true rfl) rfl (nn := 120) rfl rfl (by omega) (by omega) dX13_readOrder_233 (fun H locs R hM hS hw9 hj9 => ?_)
  have hIR := hIR.put hw9 hj9 trivial
  have hL22 : low (10 * gn.toInt.toNat) (Ra 61) (R 61) := fun j hj => by rw [hw9, pk_un (fun h9 => by have h8 := tk_nat (i := v3635) rfl (by omega); omega)]; exact hL22 j hj
  have h22_1 : R 61 (10 * gn.toInt.toNat + 1) = gc := by rw [hw9, pk_un (fun h9 => by have h8 := tk_nat (i := v3635) rfl (by omega); omega)]; exact h22_1
  have h22_2 : R 61 (10 * gn.toInt.toNat + 2) = v3522 := by rw [hw9, pk_un (fun h9 => by have h8 := tk_nat (i := v3635) rfl (by omega); omega)]; exact h22_2
  have h22_3 : R 61 (10 * gn.toInt.toNat + 3) = 0 := by rw [hw9, pk_un (fun h9 => by have h8 := tk_nat (i := v3635) rfl (by omega); omega)]; exact h22_3
  have h22_4 : R 61 (10 * gn.toInt.toNat + 4) = 0 := by rw [hw9, pk_un (fun h9 => by have h8 := tk_nat (i := v3635) rfl (by omega); omega)]; exact h22_4
  have h22_5 : R 61 (10 * gn.toInt.toNat + 5) = 0 := by rw [hw9, pk_un (fun h9 => by have h8 := tk_nat (i := v3635) rfl (by omega); omega)]; exact h22_5
  have h22_6 : R 61 (10 * gn.toInt.toNat + 6) = 0 := by rw [hw9, pk_un (fun h9 => by have h8 := tk_nat (i := v3635) rfl (by omega); omega)]; exact h22_6
  have h22_8 : R 61 (10 * gn.toInt.toNat + 8) = 0 := by rw [hw9, pk_un (fun h9 => by have h8 := tk_nat (i := v3635) rfl (by omega); omega)]; exact h22_8
  have h22_0 : R 61 (10 * gn.toInt.toNat + 0) = v38 := by rw [hw9, pk_un (fun h9 => by have h8 := tk_nat (i := v3635) rfl (by omega); omega)]; exact h22_0
  have h22_9 : R 61 (10 * gn.toInt.toNat + 9) = v3614 := by rw [hw9, pk_un (fun h9 => by have h8 := tk_nat (i := v3635) rfl (by omega); omega)]; exact h22_9
  have hC9 := hC
  have hC : v3632.toInt = 0 → CLS 10 [1, 3, 5, 7] (R 24) (R 25) (Ra 61) gc.toInt gn.toInt := fun h9 => (hC9 (by omega)).to (hj9 24 (by decide)) (hj9 25 (by decide))
  have hX35239 := hX3523
  have hX3523 : v3632.toInt = 0 → WFX (R 24) (R 25) gc v3522 := fun h9 => by rw [hj9 24 (by decide), hj9 25 (by decide)]; exact hX35239 (by omega)
  have h22_7 : R 61 (10 * gn.toInt.toNat + 7) = v3522 := by rw [hw9, show 10 * gn.toInt.toNat + 7 = (v3635 : Int32).toNatClampNeg by show _ = v3635.toInt.toNat; omega]; exact pk_us
  have hRR := mz_frp (K := [24, 25, 27, 28, 61]) (Fa := Ra) hj9 hRR (by decide)
  refine lv_aload_n hx hb dX13_readOrder_234 rfl (lv_at hl 1 rfl) ?_
  refine mz_getI hx hb htl hown hK hM 19 (Nat.le_of_ble_eq_true rfl) rfl (htl _ mw_668) (fun _ h9 => h9) dX13_readOrder_235 (fun v9 e9 => ?_)
  refine fx_ti (v := v3632) (e9.symm.trans hf3631) ?_
  refine lv_if_ne (tgt := 260) hx hb dX13_readOrder_238 (by decide) (fun c9 => ?_) (fun c9 => ?_)
  · have hc3637 : ¬ (v3632.toInt = 0) := fun h9 => c9 ((fi_eq rfl (show (0 : Int32).toInt = 0 by decide)).mpr h9)
    refine lv_aload_n hx hb dX13_readOrder_260 rfl (lv_at hl 1 rfl) ?_
    refine mz_getR hx hb htl hown hK hM 61 (Nat.le_of_ble_eq_true rfl) (Nat.le_of_ble_eq_true rfl) (htl _ mw_239) (fun _ h9 => h9) dX13_readOrder_261 ?_
    refine lv_iload_n hx hb dX13_readOrder_264 rfl (lv_at hl 0 rfl) ?_
    refine lv_bipush (v := 8) hx hb dX13_readOrder_265 (by decide) ?_
    refine lv_iadd hx hb dX13_readOrder_267 ?_
    refine tk_add rfl (show (8 : Int32).toInt = 8 by decide) (by omega) (by omega) (fun v3638 h_v3638 => ?_)
    refine lv_aload_n hx hb dX13_readOrder_268 rfl (lv_at hl 1 rfl) ?_
    refine mz_getI hx hb htl hown hK hM 23 (Nat.le_of_ble_eq_true rfl) rfl (htl _ mw_670) (fun _ h9 => h9) dX13_readOrder_269 (fun v9 e9 => ?_)
    refine fx_ti (v := v3522) (e9.symm.trans hf3521) ?_
    refine mz_iast (x := v3522) hx hb hK hD hM hS 61 (Nat.le_of_ble_eq_true rfl) rfl (nn := 120) rfl rfl (by omega) (by omega) dX13_readOrder_272 (fun H locs R hM hS hw9 hj9 => ?_)
    have hIR := hIR.put hw9 hj9 trivial
    have hL22 : low (10 * gn.toInt.toNat) (Ra 61) (R 61) := fun j hj => by rw [hw9, pk_un (fun h9 => by have h8 := tk_nat (i := v3638) rfl (by omega); omega)]; exact hL22 j hj
    have h22_1 : R 61 (10 * gn.toInt.toNat + 1) = gc := by rw [hw9, pk_un (fun h9 => by have h8 := tk_nat (i := v3638) rfl (by omega); omega)]; exact h22_1
    have h22_2 : R 61 (10 * gn.toInt.toNat + 2) = v3522 := by rw [hw9, pk_un (fun h9 => by have h8 := tk_nat (i := v3638) rfl (by omega); omega)]; exact h22_2
    have h22_3 : R 61 (10 * gn.toInt.toNat + 3) = 0 := by rw [hw9, pk_un (fun h9 => by have h8 := tk_nat (i := v3638) rfl (by omega); omega)]; exact h22_3
    have h22_4 : R 61 (10 * gn.toInt.toNat + 4) = 0 := by rw [hw9, pk_un (fun h9 => by have h8 := tk_nat (i := v3638) rfl (by omega); omega)]; exact h22_4
    have h22_5 : R 61 (10 * gn.toInt.toNat + 5) = 0 := by rw [hw9, pk_un (fun h9 => by have h8 := tk_nat (i := v3638) rfl (by omega); omega)]; exact h22_5
    have h22_6 : R 61 (10 * gn.toInt.toNat + 6) = 0 := by rw [hw9, pk_un (fun h9 => by have h8 := tk_nat (i := v3638) rfl (by omega); omega)]; exact h22_6
    have h22_7 : R 61 (10 * gn.toInt.toNat + 7) = v3522 := by rw [hw9, pk_un (fun h9 => by have h8 := tk_nat (i := v3638) rfl (by omega); omega)]; exact h22_7
    have h22_0 : R 61 (10 * gn.toInt.toNat + 0) = v38 := by rw [hw9, pk_un (fun h9 => by have h8 := tk_nat (i := v3638) rfl (by omega); omega)]; exact h22_0
    have h22_9 : R 61 (10 * gn.toInt.toNat + 9) = v3614 := by rw [hw9, pk_un (fun h9 => by have h8 := tk_nat (i := v3638) rfl (by omega); omega)]; exact h22_9
    have hC9 := hC
    have hC : v3632.toInt = 0 → CLS 10 [1, 3, 5, 7] (R 24) (R 25) (Ra 61) gc.toInt gn.toInt := fun h9 => (hC9 (by omega)).to (hj9 24 (by decide)) (hj9 25 (by decide))
    have hX35239 := hX3523
    have hX3523 : v3632.toInt = 0 → WFX (R 24) (R 25) gc v3522 := fun h9 => by rw [hj9 24 (by decide), hj9 25 (by decide)]; exact hX35239 (by omega)
    have h22_8 : R 61 (10 * gn.toInt.toNat + 8) = v3522 := by rw [hw9, show 10 * gn.toInt.toNat + 8 = (v3638 : Int32).toNatClampNeg by show _ = v3638.toInt.toNat; omega]; exact pk_us
    have hRR := mz_frp (K := [24, 25, 27, 28, 61]) (Fa := Ra) hj9 hRR (by decide)
    exact mz_vret hx hb hr hlocks ⟨hIF, hIG, hIR, hFF, hRR, hGG, (by rw [hf3623, hf3625]; omega), (by rw [hf3625]; omega), (by rw [hf3623, hf3625, hf3627]; omega), (by rw [hf3623, hf3625, hf3627, hf3629]; omega), (by rw [hf3623]; omega), (by rw [hf3521]; omega), (by rw [hf3623, hf3521]; omega), (by rw [hf3631]; omega), (by rw [hf3623, hf3631]; omega), (by rw [hf3631]; exact fun h9 => absurd h9 (by omega)), (by rw [hf3631]; exact fun h9 => absurd h9 (by omega))⟩ hM hS dX13_readOrder_273
  · have hc3637 : v3632.toInt = 0 := (fi_eq rfl (show (0 : Int32).toInt = 0 by decide)).mp c9
    refine lv_aload_n hx hb dX13_readOrder_241 rfl (lv_at hl 1 rfl) ?_
    refine lv_ldc2 hx hb hown (htl _ mw_705) dX13_readOrder_242 ?_
    have hk_294 : (294 : Int64).toInt = 294 := by decide
    refine mz_Vj (As := [.long 294]) (rest := []) ⟨hx, hb, hml, hown, hts⟩ hK hM hS (k_X13_isWord l D cy ld ad am hD _ _ _ _ 294 v3628 w3630 hIF hIG hIR hf3627 hf3629) ⟨callB_of 1 hts (wl_in mw_709) rfl rfl rfl (htl _ mw_5) (htl _ mw_706) hd_yX13_isWord ⟨(Nat.le_of_ble_eq_true rfl), (Nat.le_of_ble_eq_true rfl)⟩, htl _ mw_707, htl _ mw_708⟩ rfl hl.1 rfl (Nat.le_of_ble_eq_true rfl) dX13_readOrder_245 ⟨(Nat.le_of_ble_eq_true rfl), (Nat.le_of_ble_eq_true rfl)⟩ (fun v3640 H locs hpo hM hS => ?_)
    obtain ⟨hpo3641, hpo3642, hpo3643, hpo3644, hpo3645⟩ := hpo
    have hq_v3640 := tk_rng v3640
    refine lv_if_eq (tgt := 260) hx hb dX13_readOrder_248 (by decide) (fun c9 => ?_) (fun c9 => ?_)
    · have hc3647 : v3640.toInt = 0 := (fi_eq rfl (show (0 : Int32).toInt = 0 by decide)).mp c9
      refine lv_aload_n hx hb dX13_readOrder_260 rfl (lv_at hl 1 rfl) ?_
      refine mz_getR hx hb htl hown hK hM 61 (Nat.le_of_ble_eq_true rfl) (Nat.le_of_ble_eq_true rfl) (htl _ mw_239) (fun _ h9 => h9) dX13_readOrder_261 ?_
      refine lv_iload_n hx hb dX13_readOrder_264 rfl (lv_at hl 0 rfl) ?_
      refine lv_bipush (v := 8) hx hb dX13_readOrder_265 (by decide) ?_
      refine lv_iadd hx hb dX13_readOrder_267 ?_
      refine tk_add rfl (show (8 : Int32).toInt = 8 by decide) (by omega) (by omega) (fun v3648 h_v3648 => ?_)
      refine lv_aload_n hx hb dX13_readOrder_268 rfl (lv_at hl 1 rfl) ?_
      refine mz_getI hx hb htl hown hK hM 23 (Nat.le_of_ble_eq_true rfl) rfl (htl _ mw_670) (fun _ h9 => h9) dX13_readOrder_269 (fun v9 e9 => ?_)
      refine fx_ti (v := v3522) (e9.symm.trans hf3521) ?_
      refine mz_iast (x := v3522) hx hb hK hD hM hS 61 (Nat.le_of_ble_eq_true rfl) rfl (nn := 120) rfl rfl (by omega) (by omega) dX13_readOrder_272 (fun H locs R hM hS hw9 hj9 => ?_)
      have hIR := hIR.put hw9 hj9 trivial
      have hL22 : low (10 * gn.toInt.toNat) (Ra 61) (R 61) := fun j hj => by rw [hw9, pk_un (fun h9 => by have h8 := tk_nat (i := v3648) rfl (by omega); omega)]; exact hL22 j hj
      have h22_1 : R 61 (10 * gn.toInt.toNat + 1) = gc := by rw [hw9, pk_un (fun h9 => by have h8 := tk_nat (i := v3648) rfl (by omega); omega)]; exact h22_1
      have h22_2 : R 61 (10 * gn.toInt.toNat + 2) = v3522 := by rw [hw9, pk_un (fun h9 => by have h8 := tk_nat (i := v3648) rfl (by omega); omega)]; exact h22_2
      have h22_3 : R 61 (10 * gn.toInt.toNat + 3) = 0 := by rw [hw9, pk_un (fun h9 => by have h8 := tk_nat (i := v3648) rfl (by omega); omega)]; exact h22_3
      have h22_4 : R 61 (10 * gn.toInt.toNat + 4) = 0 := by rw [hw9, pk_un (fun h9 => by have h8 := tk_nat (i := v3648) rfl (by omega); omega)]; exact h22_4
      have h22_5 : R 61 (10 * gn.toInt.toNat + 5) = 0 := by rw [hw9, pk_un (fun h9 => by have h8 := tk_nat (i := v3648) rfl (by omega); omega)]; exact h22_5
      have h22_6 : R 61 (10 * gn.toInt.toNat + 6) = 0 := by rw [hw9, pk_un (fun h9 => by have h8 := tk_nat (i := v3648) rfl (by omega); omega)]; exact h22_6
      have h22_7 : R 61 (10 * gn.toInt.toNat + 7) = v3522 := by rw [hw9, pk_un (fun h9 => by have h8 := tk_nat (i := v3648) rfl (by omega); omega)]; exact h22_7
      have h22_0 : R 61 (10 * gn.toInt.toNat + 0) = v38 := by rw [hw9, pk_un (fun h9 => by have h8 := tk_nat (i := v3648) rfl (by omega); omega)]; exact h22_0
      have h22_9 : R 61 (10 * gn.toInt.toNat + 9) = v3614 := by rw [hw9, pk_un (fun h9 => by have h8 := tk_nat (i := v3648) rfl (by omega); omega)]; exact h22_9
      have hC9 := hC
      have hC : v3632.toInt = 0 → CLS 10 [1, 3, 5, 7] (R 24) (R 25) (Ra 61) gc.toInt gn.toInt := fun h9 => (hC9 (by omega)).to (hj9 24 (by decide)) (hj9 25 (by decide))
      have hX35239 := hX3523
      have hX3523 : v3632.toInt = 0 → WFX (R 24) (R 25) gc v3522 := fun h9 => by rw [hj9 24 (by decide), hj9 25 (by decide)]; exact hX35239 (by omega)
      have h22_8 : R 61 (10 * gn.toInt.toNat + 8) = v3522 := by rw [hw9, show 10 * gn.toInt.toNat + 8 = (v3648 : Int32).toNatClampNeg by show _ = v3648.toInt.toNat; omega]; exact pk_us
      have hRR := mz_frp (K := [24, 25, 27, 28, 61]) (Fa := Ra) hj9 hRR (by decide)
      have hk_0 : (0 : Int32).toInt = 0 := by decide
      have hk_0 : (0 : Int32).toInt = 0 := by decide
      have hk_0 : (0 : Int32).toInt = 0 := by decide
      have hk_0 : (0 : Int32).toInt = 0 := by decide
      exact mz_vret hx hb hr hlocks ⟨hIF, hIG, hIR, hFF, hRR, hGG, (by rw [hf3623, hf3625]; omega), (by rw [hf3625]; omega), (by rw [hf3623, hf3625, hf3627]; omega), (by rw [hf3623, hf3625, hf3627, hf3629]; omega), (by rw [hf3623]; omega), (by rw [hf3521]; omega), (by rw [hf3623, hf3521]; omega), (by rw [hf3631]; omega), (by rw [hf3623, hf3631]; omega), (by rw [hf3631, hf3521, hf111]; exact fun h9 => mz_snoc (N := gn.toInt.toNat) (hC h9) (by omega) (by omega) hL22 (by decide) (by omega) (by intro d hd; simp only [List.mem_cons, List.not_mem_nil, or_false] at hd; rcases hd with rfl | rfl | rfl | rfl <;> first | (rw [show 10 * gn.toInt.toNat + 1 + 1 = 10 * gn.toInt.toNat + 2 from rfl, h22_1, h22_2]; exact ⟨hX3523 h9, by omega⟩) | (rw [show 10 * gn.toInt.toNat + 3 + 1 = 10 * gn.toInt.toNat + 4 from rfl, h22_3, h22_4]; exact ⟨WFX.nil (by omega) (by omega), by omega⟩) | (rw [show 10 * gn.toInt.toNat + 5 + 1 = 10 * gn.toInt.toNat + 6 from rfl, h22_5, h22_6]; exact ⟨WFX.nil (by omega) (by omega), by omega⟩) | (rw [show 10 * gn.toInt.toNat + 7 + 1 = 10 * gn.toInt.toNat + 8 from rfl, h22_7, h22_8]; exact ⟨WFX.nil (by omega) (by omega), by omega⟩))), (by rw [hf3631, hf111]; exact fun h9 => TMS.snoc (N := gn.toInt.toNat) hx_1 (by omega) (by omega) hL22 h22_9 (by omega) (by omega))⟩ hM hS dX13_readOrder_273
    · have hc3647 : ¬ (v3640.toInt = 0) := fun h9 => c9 ((fi_eq rfl (show (0 : Int32).toInt = 0 by decide)).mpr h9)
      have hwk_3650 : w3630.toInt + (-294) = 0 ∧ v3628.toInt + (-1) = 0 := by omega
      have hwk_3651 : 0 ≤ (-1) * v3624.toInt + v3626.toInt + (-1) := by omega
      have hwk_3652 : 0 ≤ (-1) * v3624.toInt + v3626.toInt + (-2) := by omega
      refine lv_aload_n hx hb dX13_readOrder_251 rfl (lv_at hl 1 rfl) ?_
      refine mz_Vv (As := []) (rest := []) ⟨hx, hb, hml, hown, hts⟩ hK hM hS (k_X13_next l D cy ld ad am hD _ _ _ _ v3626 gp hIF hIG hIR hf3625 hg_3 (by omega)) ⟨callB_of 0 hts (wl_in mw_685) rfl rfl rfl (htl _ mw_5) (htl _ mw_682) hd_yX13_next ⟨(Nat.le_of_ble_eq_true rfl), (Nat.le_of_ble_eq_true rfl)⟩, htl _ mw_683, htl _ mw_684⟩ rfl hl.1 rfl (Nat.le_of_ble_eq_true rfl) dX13_readOrder_252 ⟨(Nat.le_of_ble_eq_true rfl), (Nat.le_of_ble_eq_true rfl)⟩ (fun H locs F G R S hpo hM hS => ?_)
      obtain ⟨hIF, hIG, hIR, hfr9, hrr9, hgr9, hpo3653, hpo3654, hpo3655, hpo3656, hpo3657⟩ := hpo
      have hFF := mz_fr (K := [14, 15, 16, 18, 19, 21, 23, 26, 29, 30]) (Fa := Fa) hfr9 hFF (by decide)
      have hRR := mz_fr (K := [24, 25, 27, 28, 61]) (Fa := Ra) hrr9 hRR (by decide)
      have hGG := mz_fr (K := [17]) (Fa := Ga) hgr9 hGG (by decide)
      have hg_3 := (hfr9 13 (by decide)).trans hg_3
      have hf111 := (hfr9 21 (by decide)).trans hf111
      have hf3521 := (hfr9 23 (by decide)).trans hf3521
      have hf3631 := (hfr9 19 (by decide)).trans hf3631
      obtain ⟨v3660, hf3659⟩ : ∃ z : Int32, F 14 = z := ⟨_, rfl⟩
      have hq_v3660 := tk_rng v3660
      rw [hf3659] at hpo3653 hpo3654 hpo3656 hpo3657
      have hr_v3660 : 0 ≤ v3660.toInt ∧ v3660.toInt ≤ 400 := hIF.at hf3659
      obtain ⟨v3662, hf3661⟩ : ∃ z : Int32, F 15 = z := ⟨_, rfl⟩
      have hq_v3662 := tk_rng v3662
      rw [hf3661] at hpo3654 hpo3655 hpo3656 hpo3657
      have hr_v3662 : 0 ≤ v3662.toInt ∧ v3662.toInt ≤ 400 := hIF.at hf3661
      obtain ⟨v3664, hf3663⟩ : ∃ z : Int32, F 16 = z := ⟨_, rfl⟩
      have hq_v3664 := tk_rng v3664
      rw [hf3663] at hpo3656 hpo3657
      have hr_v3664 : 0 ≤ v3664.toInt ∧ v3664.toInt ≤ 3 := hIF.at hf3663
      obtain ⟨w3666, hf3665⟩ : ∃ z : Int64, G 17 = z := ⟨_, rfl⟩
      have hq_w3666 := tk_rngL w3666
      rw [hf3665] at hpo3657
      have hL22 := hL22.to (hrr9 61 (by decide))
      have h22_1 := (congrFun (hrr9 61 (by decide)) _).trans h22_1
      have h22_2 := (congrFun (hrr9 61 (by decide)) _).trans h22_2
      have h22_3 := (congrFun (hrr9 61 (by decide)) _).trans h22_3
      have h22_4 := (congrFun (hrr9 61 (by decide)) _).trans h22_4
      have h22_5 := (congrFun (hrr9 61 (by decide)) _).trans h22_5
      have h22_6 := (congrFun (hrr9 61 (by decide)) _).trans h22_6
      have h22_7 := (congrFun (hrr9 61 (by decide)) _).trans h22_7
      have h22_8 := (congrFun (hrr9 61 (by decide)) _).trans h22_8
      have h22_0 := (congrFun (hrr9 61 (by decide)) _).trans h22_0
      have h22_9 := (congrFun (hrr9 61 (by decide)) _).trans h22_9
      have hC9 := hC
      have hC : v3632.toInt = 0 → CLS 10 [1, 3, 5, 7] (R 24) (R 25) (Ra 61) gc.toInt gn.toInt := fun h9 => (hC9 (by omega)).to (hrr9 24 (by decide)) (hrr9 25 (by decide))
      have hX35239 := hX3523
      have hX3523 : v3632.toInt = 0 → WFX (R 24) (R 25) gc v3522 := fun h9 => by rw [hrr9 24 (by decide), hrr9 25 (by decide)]; exact hX35239 (by omega)
      refine lv_aload_n hx hb dX13_readOrder_255 rfl (lv_at hl 1 rfl) ?_
      refine lv_iconst (v := 1) hx hb dX13_readOrder_256 (by decide) ?_
      have hk_1 : (1 : Int32).toInt = 1 := by decide
      refine mz_Vv (As := [.int 1]) (rest := []) ⟨hx, hb, hml, hown, hts⟩ hK hM hS (k_X13_readExpression l D cy ld ad am hD _ _ _ _ 1 v3660 v3662 v3664 gp w3666 v3632 v3522 hIF hIG hIR hf3659 hf3661 hf3663 hg_3 hf3665 hf3631 hf3521 (by omega) (by omega) (by omega) (by omega) (by omega) (by omega) (by omega) (by omega)) ⟨callB_of 1 hts (wl_in mw_717) rfl rfl rfl (htl _ mw_5) (htl _ mw_714) hd_yX13_readExpression ⟨(Nat.le_of_ble_eq_true rfl), (Nat.le_of_ble_eq_true rfl)⟩, htl _ mw_715, htl _ mw_716⟩ rfl hl.1 rfl (Nat.le_of_ble_eq_true rfl) dX13_readOrder_257 ⟨(Nat.le_of_ble_eq_true rfl), (Nat.le_of_ble_eq_true rfl)⟩ (fun H locs F G R S hpo hM hS => ?_)
      obtain ⟨hIF, hIG, hIR, hfr9, hrr9, hgr9, hpo3667, hpo3668, hpo3669, hpo3670, hpo3671, hpo3672, hpo3673, hx3674⟩ := hpo
      have hFF := mz_fr (K := [14, 15, 16, 18, 19, 21, 23, 26, 29, 30]) (Fa := Fa) hfr9 hFF (by decide)
      have hRR := mz_fr (K := [24, 25, 27, 28, 61]) (Fa := Ra) hrr9 hRR (by decide)
      have hGG := mz_fr (K := [17]) (Fa := Ga) hgr9 hGG (by decide)
      have hg_3 := (hfr9 13 (by decide)).trans hg_3
      have hf111 := (hfr9 21 (by decide)).trans hf111
      obtain ⟨v3677, hf3676⟩ : ∃ z : Int32, F 14 = z := ⟨_, rfl⟩
      have hq_v3677 := tk_rng v3677
      rw [hf3676] at hpo3667 hpo3669 hpo3670 hpo3671 hpo3672
      have hr_v3677 : 0 ≤ v3677.toInt ∧ v3677.toInt ≤ 400 := hIF.at hf3676
      obtain ⟨v3679, hf3678⟩ : ∃ z : Int32, F 15 = z := ⟨_, rfl⟩
      have hq_v3679 := tk_rng v3679
      rw [hf3678] at hpo3667 hpo3668 hpo3669 hpo3670
      have hr_v3679 : 0 ≤ v3679.toInt ∧ v3679.toInt ≤ 400 := hIF.at hf3678
      obtain ⟨v3681, hf3680⟩ : ∃ z : Int32, F 16 = z := ⟨_, rfl⟩
      have hq_v3681 := tk_rng v3681
      rw [hf3680] at hpo3669 hpo3670
      have hr_v3681 : 0 ≤ v3681.toInt ∧ v3681.toInt ≤ 3 := hIF.at hf3680
      obtain ⟨w3683, hf3682⟩ : ∃ z : Int64, G 17 = z := ⟨_, rfl⟩
      have hq_w3683 := tk_rngL w3683
      rw [hf3682] at hpo3670
      obtain ⟨v3685, hf3684⟩ : ∃ z : Int32, F 19 = z := ⟨_, rfl⟩
      have hq_v3685 := tk_rng v3685
      have hr_v3685 : 0 ≤ v3685.toInt ∧ v3685.toInt ≤ 1 := hIF.at hf3684
      obtain ⟨v3687, hf3686⟩ : ∃ z : Int32, F 23 = z := ⟨_, rfl⟩
      have hq_v3687 := tk_rng v3687
      rw [hf3686] at hpo3672 hpo3673
      have hr_v3687 : 0 ≤ v3687.toInt ∧ v3687.toInt ≤ 400 := hIF.at hf3686
      have hL22 := hL22.to (hrr9 61 (by decide))
      have h22_1 := (congrFun (hrr9 61 (by decide)) _).trans h22_1
      have h22_2 := (congrFun (hrr9 61 (by decide)) _).trans h22_2
      have h22_3 := (congrFun (hrr9 61 (by decide)) _).trans h22_3
      have h22_4 := (congrFun (hrr9 61 (by decide)) _).trans h22_4
      have h22_5 := (congrFun (hrr9 61 (by decide)) _).trans h22_5
      have h22_6 := (congrFun (hrr9 61 (by decide)) _).trans h22_6
      have h22_7 := (congrFun (hrr9 61 (by decide)) _).trans h22_7
      have h22_8 := (congrFun (hrr9 61 (by decide)) _).trans h22_8
      have h22_0 := (congrFun (hrr9 61 (by decide)) _).trans h22_0
      have h22_9 := (congrFun (hrr9 61 (by decide)) _).trans h22_9
      have hE9 : v3685.toInt = 0 → WFC (R 24) (R 25) v3522.toInt.toNat v3687.toInt.toNat ∧ low v3522.toInt.toNat _ (R 24) ∧ low v3522.toInt.toNat _ (R 25) := fun h9 => by have h8 := hx3674 (by rw [hf3684]; exact h9); rw [hf3686] at h8; exact h8
      have hC9 := hC (by omega)
      have hC : v3685.toInt = 0 → CLS 10 [1, 3, 5, 7] (R 24) (R 25) (Ra 61) gc.toInt gn.toInt := fun h9 => hC9.low (N := v3522.toInt.toNat) (by omega) (hE9 h9).2.1 (hE9 h9).2.2
      have hX35239 := hX3523 (by omega)
      have hX3523 : v3685.toInt = 0 → WFX (R 24) (R 25) gc v3522 := fun h9 => hX35239.low (n := v3522.toInt.toNat) (by omega) (hE9 h9).2.1 (hE9 h9).2.2
      have hX3688 : v3685.toInt = 0 → WFX (R 24) (R 25) v3522 v3687 := fun h9 => ⟨by omega, by omega, by omega, (hE9 h9).1⟩
      refine lv_aload_n hx hb dX13_readOrder_260 rfl (lv_at hl 1 rfl) ?_
      refine mz_getR hx hb htl hown hK hM 61 (Nat.le_of_ble_eq_true rfl) (Nat.le_of_ble_eq_true rfl) (htl _ mw_239) (fun _ h9 => h9) dX13_readOrder_261 ?_
      refine lv_iload_n hx hb dX13_readOrder_264 rfl (lv_at hl 0 rfl) ?_
      refine lv_bipush (v := 8) hx hb dX13_readOrder_265 (by decide) ?_
      refine lv_iadd hx hb dX13_readOrder_267 ?_
      refine tk_add rfl (show (8 : Int32).toInt = 8 by decide) (by omega) (by omega) (fun v3689 h_v3689 => ?_)
      refine lv_aload_n hx hb dX13_readOrder_268 rfl (lv_at hl 1 rfl) ?_
      refine mz_getI hx hb htl hown hK hM 23 (Nat.le_of_ble_eq_true rfl) rfl (htl _ mw_670) (fun _ h9 => h9) dX13_readOrder_269 (fun v9 e9 => ?_)
      refine fx_ti (v := v3687) (e9.symm.trans hf3686) ?_
      refine mz_iast (x := v3687) hx hb hK hD hM hS 61 (Nat.le_of_ble_eq_true rfl) rfl (nn := 120) rfl rfl (by omega) (by omega) dX13_readOrder_272 (fun H locs R hM hS hw9 hj9 => ?_)
      have hIR := hIR.put hw9 hj9 trivial
      have hL22 : low (10 * gn.toInt.toNat) (Ra 61) (R 61) := fun j hj => by rw [hw9, pk_un (fun h9 => by have h8 := tk_nat (i := v3689) rfl (by omega); omega)]; exact hL22 j hj
      have h22_1 : R 61 (10 * gn.toInt.toNat + 1) = gc := by rw [hw9, pk_un (fun h9 => by have h8 := tk_nat (i := v3689) rfl (by omega); omega)]; exact h22_1
      have h22_2 : R 61 (10 * gn.toInt.toNat + 2) = v3522 := by rw [hw9, pk_un (fun h9 => by have h8 := tk_nat (i := v3689) rfl (by omega); omega)]; exact h22_2
      have h22_3 : R 61 (10 * gn.toInt.toNat + 3) = 0 := by rw [hw9, pk_un (fun h9 => by have h8 := tk_nat (i := v3689) rfl (by omega); omega)]; exact h22_3
      have h22_4 : R 61 (10 * gn.toInt.toNat + 4) = 0 := by rw [hw9, pk_un (fun h9 => by have h8 := tk_nat (i := v3689) rfl (by omega); omega)]; exact h22_4
      have h22_5 : R 61 (10 * gn.toInt.toNat + 5) = 0 := by rw [hw9, pk_un (fun h9 => by have h8 := tk_nat (i := v3689) rfl (by omega); omega)]; exact h22_5
      have h22_6 : R 61 (10 * gn.toInt.toNat + 6) = 0 := by rw [hw9, pk_un (fun h9 => by have h8 := tk_nat (i := v3689) rfl (by omega); omega)]; exact h22_6
      have h22_7 : R 61 (10 * gn.toInt.toNat + 7) = v3522 := by rw [hw9, pk_un (fun h9 => by have h8 := tk_nat (i := v3689) rfl (by omega); omega)]; exact h22_7
      have h22_0 : R 61 (10 * gn.toInt.toNat + 0) = v38 := by rw [hw9, pk_un (fun h9 => by have h8 := tk_nat (i := v3689) rfl (by omega); omega)]; exact h22_0
      have h22_9 : R 61 (10 * gn.toInt.toNat + 9) = v3614 := by rw [hw9, pk_un (fun h9 => by have h8 := tk_nat (i := v3689) rfl (by omega); omega)]; exact h22_9
      have hC9 := hC
      have hC : v3685.toInt = 0 → CLS 10 [1, 3, 5, 7] (R 24) (R 25) (Ra 61) gc.toInt gn.toInt := fun h9 => (hC9 (by omega)).to (hj9 24 (by decide)) (hj9 25 (by decide))
      have hX35239 := hX3523
      have hX3523 : v3685.toInt = 0 → WFX (R 24) (R 25) gc v3522 := fun h9 => by rw [hj9 24 (by decide), hj9 25 (by decide)]; exact hX35239 (by omega)
      have hX36889 := hX3688
      have hX3688 : v3685.toInt = 0 → WFX (R 24) (R 25) v3522 v3687 := fun h9 => by rw [hj9 24 (by decide), hj9 25 (by decide)]; exact hX36889 (by omega)
      have h22_8 : R 61 (10 * gn.toInt.toNat + 8) = v3687 := by rw [hw9, show 10 * gn.toInt.toNat + 8 = (v3689 : Int32).toNatClampNeg by show _ = v3689.toInt.toNat; omega]; exact pk_us
      have hRR := mz_frp (K := [24, 25, 27, 28, 61]) (Fa := Ra) hj9 hRR (by decide)
      have hk_0 : (0 : Int32).toInt = 0 := by decide
      have hk_0 : (0 : Int32).toInt = 0 := by decide
      have hk_0 : (0 : Int32).toInt = 0 := by decide
      have hk_0 : (0 : Int32).toInt = 0 := by decide
      exact mz_vret hx hb hr hlocks ⟨hIF, hIG, hIR, hFF, hRR, hGG, (by rw [hf3676, hf3678]; omega), (by rw [hf3678]; omega), (by rw [hf3676, hf3678, hf3680]; omega), (by rw [hf3676, hf3678, hf3680, hf3682]; omega), (by rw [hf3676]; omega), (by rw [hf3686]; omega), (by rw [hf3676, hf3686]; omega), (by rw [hf3684]; omega), (by rw [hf3676, hf3684]; omega), (by rw [hf3684, hf3686, hf111]; exact fun h9 => mz_snoc (N := gn.toInt.toNat) (hC h9) (by omega) (by omega) hL22 (by decide) (by omega) (by intro d hd; simp only [List.mem_cons, List.not_mem_nil, or_false] at hd; rcases hd with rfl | rfl | rfl | rfl <;> first | (rw [show 10 * gn.toInt.toNat + 1 + 1 = 10 * gn.toInt.toNat + 2 from rfl, h22_1, h22_2]; exact ⟨hX3523 h9, by omega⟩) | (rw [show 10 * gn.toInt.toNat + 3 + 1 = 10 * gn.toInt.toNat + 4 from rfl, h22_3, h22_4]; exact ⟨WFX.nil (by omega) (by omega), by omega⟩) | (rw [show 10 * gn.toInt.toNat + 5 + 1 = 10 * gn.toInt.toNat + 6 from rfl, h22_5, h22_6]; exact ⟨WFX.nil (by omega) (by omega), by omega⟩) | (rw [show 10 * gn.toInt.toNat + 7 + 1 = 10 * gn.toInt.toNat + 8 from rfl, h22_7, h22_8]; exact ⟨hX3688 h9, by omega⟩))), (by rw [hf3684, hf111]; exact fun h9 => TMS.snoc (N := gn.toInt.toNat) hx_1 (by omega) (by omega) hL22 h22_9 (by omega) (by omega))⟩ hM hS dX13_readOrder_273
set_option maxHeartbeats 4000000 in
set_option maxRecDepth 100000 in
theorem kz_X13_readOrder_c4 (l : Launch) (D : va_G) (cy : Nat → ClassId) (ld ad : Nat → Nat) (am : Nat) (hD : mz_D ad am) (Fa : Nat → Int32) (Ga : Nat → Int64) (Ra : Nat → Nat → Int32) (Sa : Nat → Nat → Int64) (gf : Int32) (gt : Int32) (gs : Int32) (gp : Int32) (gw : Int64) (gb : Int32) (gc : Int32) (gn : Int32) {p : Program} {e : Env} {s : State} {m : MethodId} {args : Array Value} {below : List Frame} {meth : Method} {c : Code} (hx : p.tables.exec = Jvm.exec) (hb : c.code = cX13_readOrder) (hr : meth.sig.returnType = none) (hml : c.maxLocals = 4) (hts : ∀ w ∈ wl yX13_readOrder cX13_readOrder 4 none, w.before args s = true) (htl : ∀ w ∈ wsA, w.before args s = true) (hown : s.vm.findClass RX13 = some m.cls) (hlocks : meth.locks = false) (hK : kk_K D cy ld s) (hp_0 : 0 ≤ (-1) * gf.toInt + gt.toInt) (hp_1 : 0 ≤ gp.toInt + (-1) * gt.toInt) (hp_2 : (1 ≤ gs.toInt → 0 ≤ (-1) * gf.toInt + gt.toInt + (-1))) (hp_3 : (27 ≤ gw.toInt → 1 ≤ gs.toInt → gs.toInt ≤ 1 → 0 ≤ (-1) * gf.toInt + gt.toInt + (-2))) (hp_4 : 0 ≤ (-1) * gc.toInt + gf.toInt) (hp_5 : gb.toInt ≤ 0) (hg_0 : Fa 14 = gf) (hg_1 : Fa 15 = gt) (hg_2 : Fa 16 = gs) (hg_3 : Fa 13 = gp) (hg_4 : Ga 17 = gw) (hg_5 : Fa 19 = gb) (hg_6 : Fa 23 = gc) (hg_7 : Fa 21 = gn) (hx_0 : CLS 10 [1, 3, 5, 7] (Ra 24) (Ra 25) (Ra 61) gc.toInt gn.toInt) (hx_1 : TMS (Ra 61) gn.toInt) (v108 : Int32) (v109 : Int32) (v3512 : Int32) (v3514 : Int32) (v3516 : Int32) (v3520 : Int32) (v3522 : Int32) (v38 : Int32) (w3518 : Int64) (H : Heap) (locs : List Loc) (F : Nat → Int32) (G : Nat → Int64) (R : Nat → Nat → Int32) (S : Nat → Nat → Int64) (hq0_kz_X13_readOrder_c4 : v109.toInt ≤ 12) (hq1_kz_X13_readOrder_c4 : v3514.toInt ≤ 400) (hq2_kz_X13_readOrder_c4 : v3516.toInt ≤ 3) (hq3_kz_X13_readOrder_c4 : 1 ≤ v38.toInt) (hq4_kz_X13_readOrder_c4 : 0 ≤ (-1) * gf.toInt + gt.toInt + (-1)) (hq5_kz_X13_readOrder_c4 : (-10) * gn.toInt + v108.toInt = 0) (hq6_kz_X13_readOrder_c4 : (-1) * gn.toInt + v109.toInt + (-1) = 0) (hq7_kz_X13_readOrder_c4 : 0 ≤ (-1) * v3512.toInt + v3514.toInt) (hq8_kz_X13_readOrder_c4 : 0 ≤ gp.toInt + (-1) * v3514.toInt) (hq9_kz_X13_readOrder_c4 : 0 ≤ (-1) * gc.toInt + v3522.toInt) (hq10_kz_X13_readOrder_c4 : 0 ≤ v3512.toInt + (-1) * v3522.toInt) (hq11_kz_X13_readOrder_c4 : 0 ≤ gb.toInt + (-1) * v38.toInt + 1) (hq12_kz_X13_readOrder_c4 : 0 ≤ gc.toInt + (-1) * v38.toInt + 1) (hq13_kz_X13_readOrder_c4 : 0 ≤ gs.toInt + (-1) * v3520.toInt) (hq14_kz_X13_readOrder_c4 : 0 ≤ gs.toInt + (-1) * v38.toInt) (hq15_kz_X13_readOrder_c4 : 0 ≤ (-1) * gs.toInt + v109.toInt) (hq16_kz_X13_readOrder_c4 : 0 ≤ (-1) * gt.toInt + v3512.toInt) (hq17_kz_X13_readOrder_c4 : 0 ≤ (-1) * gs.toInt + v3516.toInt + 1) (hq18_kz_X13_readOrder_c4 : 0 ≤ (-1) * gs.toInt + v3520.toInt + 1) (hq19_kz_X13_readOrder_c4 : 0 ≤ (-1) * gs.toInt + v38.toInt) (hM : mz_S D cy ad am F G R S H) (hS : va_S (mz_W ad am) s.heap H locs) (hIF : mz_IF false F) (hIG : mz_IG G) (hIR : mz_IR [] true R) (hFF : ∀ k : Nat, k ∉ ([14, 15, 16, 18, 19, 21, 23, 26, 29, 30] : List Nat) → F k = Fa k) (hGG : ∀ k : Nat, k ∉ ([17] : List Nat) → G k = Ga k) (hRR : ∀ k : Nat, k ∉ ([24, 25, 27, 28, 61] : List Nat) → R k = Ra k) (hg_3 : F 13 = gp) (hf111 : F 21 = v109) (hf3511 : F 14 = v3512) (hf3513 : F 15 = v3514) (hf3515 : F 16 = v3516) (hf3517 : G 17 = w3518) (hf3519 : F 19 = v3520) (hf3521 : F 23 = v3522) (hc0_kz_X13_readOrder_c4 : (27 ≤ gw.toInt → 1 ≤ gs.toInt → gs.toInt ≤ 1 → 0 ≤ (-1) * gf.toInt + gt.toInt + (-2))) (hc1_kz_X13_readOrder_c4 : (1 ≤ v3516.toInt → 0 ≤ (-1) * v3512.toInt + v3514.toInt + (-1))) (hc2_kz_X13_readOrder_c4 : (27 ≤ w3518.toInt → 1 ≤ v3516.toInt → v3516.toInt ≤ 1 → 0 ≤ (-1) * v3512.toInt + v3514.toInt + (-2))) (hL22 : low (10 * gn.toInt.toNat) (Ra 61) (R 61)) (hC : v3520.toInt = 0 → CLS 10 [1, 3, 5, 7] (R 24) (R 25) (Ra 61) gc.toInt gn.toInt) (h22_1 : R 61 (10 * gn.toInt.toNat + 1) = gc) (h22_2 : R 61 (10 * gn.toInt.toNat + 2) = v3522) (h22_3 : R 61 (10 * gn.toInt.toNat + 3) = 0) (h22_4 : R 61 (10 * gn.toInt.toNat + 4) = 0) (h22_5 : R 61 (10 * gn.toInt.toNat + 5) = 0) (h22_6 : R 61 (10 * gn.toInt.toNat + 6) = 0) (h22_7 : R 61 (10 * gn.toInt.toNat + 7) = 0) (h22_8 : R 61 (10 * gn.toInt.toNat + 8) = 0) (h22_0 : R 61 (10 * gn.toInt.toNat + 0) = v38) (hX3523 : v3520.toInt = 0 → WFX (R 24) (R 25) gc v3522) (ls : Array Slot) (hl : lv_has ls 4 [(2, .int v108), (0, .ref am)]) : W p l e ({ frames := 12, cells := 0, slots := 0, locals := 770 }) s m args below meth c H locs 0 0 (MQ below (mz_w D cy ad am (fun F G R S => mz_IF false F ∧ mz_IG G ∧ mz_IR [] true R ∧ (∀ k : Nat, k ∉ ([14, 15, 16, 18, 19, 21, 23, 26, 29, 30] : List Nat) → F k = Fa k) ∧ (∀ k : Nat, k ∉ ([24, 25, 27, 28, 61] : List Nat) → R k = Ra k) ∧ (∀ k : Nat, k ∉ ([17] : List Nat) → G k = Ga k) ∧ 0 ≤ (-1) * (F 14).toInt + (F 15).toInt ∧ 0 ≤ gp.toInt + (-1) * (F 15).toInt ∧ (1 ≤ (F 16).toInt → 0 ≤ (-1) * (F 14).toInt + (F 15).toInt + (-1)) ∧ (27 ≤ (G 17).toInt → 1 ≤ (F 16).toInt → (F 16).toInt ≤ 1 → 0 ≤ (-1) * (F 14).toInt + (F 15).toInt + (-2)) ∧ 0 ≤ (-1) * gf.toInt + (F 14).toInt ∧ 0 ≤ (-1) * gc.toInt + (F 23).toInt ∧ 0 ≤ (-1) * (F 23).toInt + (F 14).toInt ∧ 0 ≤ (-1) * gb.toInt + (F 19).toInt ∧ ((F 19).toInt ≤ 0 → 0 ≤ (-1) * gf.toInt + (F 14).toInt + (-1)) ∧ ((F 19).toInt = 0 → CLS 10 [1, 3, 5, 7] (R 24) (R 25) (R 61) (F 23).toInt (F 21).toInt) ∧ ((F 19).toInt = 0 → TMS (R 61) (F 21).toInt))) args s 0 0 (mz_W ad am)) (F0 m 173 ls []) := by
  have hq_gb := tk_rng gb
  have hq_gc := tk_rng gc
  have hq_gf := tk_rng gf
  have hq_gn := tk_rng gn
  have hq_gp := tk_rng gp
  have hq_gs := tk_rng gs
  have hq_gt := tk_rng gt
  have hq_gw := tk_rngL gw
  have hq_v108 := tk_rng v108
  have hq_v109 := tk_rng v109
  have hq_v3512 := tk_rng v3512
  have hq_v3514 := tk_rng v3514
  have hq_v3516 := tk_rng v3516
  have hq_v3520 := tk_rng v3520
  have hq_v3522 := tk_rng v3522
  have hq_v38 := tk_rng v38
  have hq_w3518 := tk_rngL w3518
  have hr_gp : 0 ≤ gp.toInt ∧ gp.toInt ≤ 400 := hIF.at hg_3
  have hr_v109 : 0 ≤ v109.toInt ∧ v109.toInt ≤ 12 := hIF.at hf111
  have hr_v3512 : 0 ≤ v3512.toInt ∧ v3512.toInt ≤ 400 := hIF.at hf3511
  have hr_v3514 : 0 ≤ v3514.toInt ∧ v3514.toInt ≤ 400 := hIF.at hf3513
  have hr_v3516 : 0 ≤ v3516.toInt ∧ v3516.toInt ≤ 3 := hIF.at hf3515
  have hr_v3520 : 0 ≤ v3520.toInt ∧ v3520.toInt ≤ 1 := hIF.at hf3519
  have hr_v3522 : 0 ≤ v3522.toInt ∧ v3522.toInt ≤ 400 := hIF.at hf3521
  refine lv_aload_n hx hb dX13_readOrder_173 rfl (lv_at hl 1 rfl) ?_
  refine mz_getR hx hb htl hown hK hM 61 (Nat.le_of_ble_eq_true rfl) (Nat.le_of_ble_eq_true rfl) (htl _ mw_239) (fun _ h9 => h9) dX13_readOrder_174 ?_
  refine lv_iload_n hx hb dX13_readOrder_177 rfl (lv_at hl 0 rfl) ?_
  refine lv_bipush (v := 9) hx hb dX13_readOrder_178 (by decide) ?_
  refine lv_iadd hx hb dX13_readOrder_180 ?_
  refine tk_add rfl (show (9 : Int32).toInt = 9 by decide) (by omega) (by omega) (fun v3526 h_v3526 => ?_)
  refine lv_iconst (v := 1) hx hb dX13_readOrder_181 (by decide) ?_
  have hk_1 : (1 : Int32).toInt = 1 := by decide
  refine mz_iast (x := 1) hx hb hK hD hM hS 61 (Nat.le_of_ble_eq_true rfl) rfl (nn := 120) rfl rfl (by omega) (by omega) dX13_readOrder_182 (fun H locs R hM hS hw9 hj9 => ?_)
  have hIR := hIR.put hw9 hj9 trivial
  have hL22 : low (10 * gn.toInt.toNat) (Ra 61) (R 61) := fun j hj => by rw [hw9, pk_un (fun h9 => by have h8 := tk_nat (i := v3526) rfl (by omega); omega)]; exact hL22 j hj
  have h22_1 : R 61 (10 * gn.toInt.toNat + 1) = gc := by rw [hw9, pk_un (fun h9 => by have h8 := tk_nat (i := v3526) rfl (by omega); omega)]; exact h22_1
  have h22_2 : R 61 (10 * gn.toInt.toNat + 2) = v3522 := by rw [hw9, pk_un (fun h9 => by have h8 := tk_nat (i := v3526) rfl (by omega); omega)]; exact h22_2
  have h22_3 : R 61 (10 * gn.toInt.toNat + 3) = 0 := by rw [hw9, pk_un (fun h9 => by have h8 := tk_nat (i := v3526) rfl (by omega); omega)]; exact h22_3
  have h22_4 : R 61 (10 * gn.toInt.toNat + 4) = 0 := by rw [hw9, pk_un (fun h9 => by have h8 := tk_nat (i := v3526) rfl (by omega); omega)]; exact h22_4
  have h22_5 : R 61 (10 * gn.toInt.toNat + 5) = 0 := by rw [hw9, pk_un (fun h9 => by have h8 := tk_nat (i := v3526) rfl (by omega); omega)]; exact h22_5
  have h22_6 : R 61 (10 * gn.toInt.toNat + 6) = 0 := by rw [hw9, pk_un (fun h9 => by have h8 := tk_nat (i := v3526) rfl (by omega); omega)]; exact h22_6
  have h22_7 : R 61 (10 * gn.toInt.toNat + 7) = 0 := by rw [hw9, pk_un (fun h9 => by have h8 := tk_nat (i := v3526) rfl (by omega); omega)]; exact h22_7
  have h22_8 : R 61 (10 * gn.toInt.toNat + 8) = 0 := by rw [hw9, pk_un (fun h9 => by have h8 := tk_nat (i := v3526) rfl (by omega); omega)]; exact h22_8
  have h22_0 : R 61 (10 * gn.toInt.toNat + 0) = v38 := by rw [hw9, pk_un (fun h9 => by have h8 := tk_nat (i := v3526) rfl (by omega); omega)]; exact h22_0
  have hC9 := hC
  have hC : v3520.toInt = 0 → CLS 10 [1, 3, 5, 7] (R 24) (R 25) (Ra 61) gc.toInt gn.toInt := fun h9 => (hC9 (by omega)).to (hj9 24 (by decide)) (hj9 25 (by decide))
  have hX35239 := hX3523
  have hX3523 : v3520.toInt = 0 → WFX (R 24) (R 25) gc v3522 := fun h9 => by rw [hj9 24 (by decide), hj9 25 (by decide)]; exact hX35239 (by omega)
  have h22_9 : R 61 (10 * gn.toInt.toNat + 9) = 1 := by rw [hw9, show 10 * gn.toInt.toNat + 9 = (v3526 : Int32).toNatClampNeg by show _ = v3526.toInt.toNat; omega]; exact pk_us
  have hRR := mz_frp (K := [24, 25, 27, 28, 61]) (Fa := Ra) hj9 hRR (by decide)
  refine lv_aload_n hx hb dX13_readOrder_183 rfl (lv_at hl 1 rfl) ?_
  refine mz_getI hx hb htl hown hK hM 19 (Nat.le_of_ble_eq_true rfl) rfl (htl _ mw_668) (fun _ h9 => h9) dX13_readOrder_184 (fun v9 e9 => ?_)
  refine fx_ti (v := v3520) (e9.symm.trans hf3519) ?_
  refine lv_if_ne (tgt := 221) hx hb dX13_readOrder_187 (by decide) (fun c9 => ?_) (fun c9 => ?_)
  · have hc3528 : ¬ (v3520.toInt = 0) := fun h9 => c9 ((fi_eq rfl (show (0 : Int32).toInt = 0 by decide)).mpr h9)
    exact kz_X13_readOrder_c5 l D cy ld ad am hD Fa Ga Ra Sa gf gt gs gp gw gb gc gn hx hb hr hml hts htl hown hlocks hK hp_0 hp_1 hp_2 hp_3 hp_4 hp_5 hg_0 hg_1 hg_2 hg_3 hg_4 hg_5 hg_6 hg_7 hx_0 hx_1 v108 v109 v3512 v3514 v3516 v3520 v3522 v38 w3518 _ _ _ _ _ _ (by omega) (by omega) (by omega) (by omega) (by omega) (by omega) (by omega) (by omega) (by omega) (by omega) (by omega) (by omega) (by omega) (by omega) (by omega) (by omega) (by omega) (by omega) (by omega) hM hS hIF hIG hIR hFF hGG hRR hg_3 hf111 hf3511 hf3513 hf3515 hf3517 hf3519 hf3521 (by omega) (by omega) (by omega) (by omega) hL22 hC h22_1 h22_2 h22_3 h22_4 h22_5 h22_6 h22_7 h22_8 h22_0 h22_9 hX3523 _ (lv_sub hl [0, 1] rfl)
  · have hc3528 : v3520.toInt = 0 := (fi_eq rfl (show (0 : Int32).toInt = 0 by decide)).mp c9
    refine lv_aload_n hx hb dX13_readOrder_190 rfl (lv_at hl 1 rfl) ?_
    refine lv_ldc2 hx hb hown (htl _ mw_1021) dX13_readOrder_191 ?_
    have hk_21279923 : (21279923 : Int64).toInt = 21279923 := by decide
    refine mz_Vj (As := [.long 21279923]) (rest := []) ⟨hx, hb, hml, hown, hts⟩ hK hM hS (k_X13_isWord l D cy ld ad am hD _ _ _ _ 21279923 v3516 w3518 hIF hIG hIR hf3515 hf3517) ⟨callB_of 1 hts (wl_in mw_709) rfl rfl rfl (htl _ mw_5) (htl _ mw_706) hd_yX13_isWord ⟨(Nat.le_of_ble_eq_true rfl), (Nat.le_of_ble_eq_true rfl)⟩, htl _ mw_707, htl _ mw_708⟩ rfl hl.1 rfl (Nat.le_of_ble_eq_true rfl) dX13_readOrder_194 ⟨(Nat.le_of_ble_eq_true rfl), (Nat.le_of_ble_eq_true rfl)⟩ (fun v3534 H locs hpo hM hS => ?_)
    obtain ⟨hpo3535, hpo3536, hpo3537, hpo3538, hpo3539⟩ := hpo
    have hq_v3534 := tk_rng v3534
    refine lv_if_eq (tgt := 221) hx hb dX13_readOrder_197 (by decide) (fun c9 => ?_) (fun c9 => ?_)
    · have hc3541 : v3534.toInt = 0 := (fi_eq rfl (show (0 : Int32).toInt = 0 by decide)).mp c9
      exact kz_X13_readOrder_c6 l D cy ld ad am hD Fa Ga Ra Sa gf gt gs gp gw gb gc gn hx hb hr hml hts htl hown hlocks hK hp_0 hp_1 hp_2 hp_3 hp_4 hp_5 hg_0 hg_1 hg_2 hg_3 hg_4 hg_5 hg_6 hg_7 hx_0 hx_1 v108 v109 v3512 v3514 v3516 v3520 v3522 v38 w3518 _ _ _ _ _ _ (by omega) (by omega) (by omega) (by omega) (by omega) (by omega) (by omega) (by omega) (by omega) (by omega) (by omega) (by omega) (by omega) (by omega) (by omega) (by omega) (by omega) (by omega) (by omega) (by omega) hM hS hIF hIG hIR hFF hGG hRR hg_3 hf111 hf3511 hf3513 hf3515 hf3517 hf3519 hf3521 (by omega) (by omega) (by omega) (by omega) hL22 hC h22_1 h22_2 h22_3 h22_4 h22_5 h22_6 h22_7 h22_8 h22_0 h22_9 hX3523 _ (lv_sub hl [0, 1] rfl)
    · have hc3541 : ¬ (v3534.toInt = 0) := fun h9 => c9 ((fi_eq rfl (show (0 : Int32).toInt = 0 by decide)).mpr h9)
      have hwk_3596 : w3518.toInt + (-21279923) = 0 ∧ v3516.toInt + (-1) = 0 := by omega
      have hwk_3597 : 0 ≤ (-1) * v3512.toInt + v3514.toInt + (-1) := by omega
      have hwk_3598 : 0 ≤ (-1) * v3512.toInt + v3514.toInt + (-2) := by omega
      refine lv_aload_n hx hb dX13_readOrder_200 rfl (lv_at hl 1 rfl) ?_
      refine mz_Vv (As := []) (rest := []) ⟨hx, hb, hml, hown, hts⟩ hK hM hS (k_X13_next l D cy ld ad am hD _ _ _ _ v3514 gp hIF hIG hIR hf3513 hg_3 (by omega)) ⟨callB_of 0 hts (wl_in mw_685) rfl rfl rfl (htl _ mw_5) (htl _ mw_682) hd_yX13_next ⟨(Nat.le_of_ble_eq_true rfl), (Nat.le_of_ble_eq_true rfl)⟩, htl _ mw_683, htl _ mw_684⟩ rfl hl.1 rfl (Nat.le_of_ble_eq_true rfl) dX13_readOrder_201 ⟨(Nat.le_of_ble_eq_true rfl), (Nat.le_of_ble_eq_true rfl)⟩ (fun H locs F G R S hpo hM hS => ?_)
      obtain ⟨hIF, hIG, hIR, hfr9, hrr9, hgr9, hpo3599, hpo3600, hpo3601, hpo3602, hpo3603⟩ := hpo
      have hFF := mz_fr (K := [14, 15, 16, 18, 19, 21, 23, 26, 29, 30]) (Fa := Fa) hfr9 hFF (by decide)
      have hRR := mz_fr (K := [24, 25, 27, 28, 61]) (Fa := Ra) hrr9 hRR (by decide)
      have hGG := mz_fr (K := [17]) (Fa := Ga) hgr9 hGG (by decide)
      have hg_3 := (hfr9 13 (by decide)).trans hg_3
      have hf111 := (hfr9 21 (by decide)).trans hf111
      have hf3519 := (hfr9 19 (by decide)).trans hf3519
      have hf3521 := (hfr9 23 (by decide)).trans hf3521
      obtain ⟨v3606, hf3605⟩ : ∃ z : Int32, F 14 = z := ⟨_, rfl⟩
      have hq_v3606 := tk_rng v3606
      rw [hf3605] at hpo3599 hpo3600 hpo3602 hpo3603
      have hr_v3606 : 0 ≤ v3606.toInt ∧ v3606.toInt ≤ 400 := hIF.at hf3605
      obtain ⟨v3608, hf3607⟩ : ∃ z : Int32, F 15 = z := ⟨_, rfl⟩
      have hq_v3608 := tk_rng v3608
      rw [hf3607] at hpo3600 hpo3601 hpo3602 hpo3603
      have hr_v3608 : 0 ≤ v3608.toInt ∧ v3608.toInt ≤ 400 := hIF.at hf3607
      obtain ⟨v3610, hf3609⟩ : ∃ z : Int32, F 16 = z := ⟨_, rfl⟩
      have hq_v3610 := tk_rng v3610
      rw [hf3609] at hpo3602 hpo3603
      have hr_v3610 : 0 ≤ v3610.toInt ∧ v3610.toInt ≤ 3 := hIF.at hf3609
      obtain ⟨w3612, hf3611⟩ : ∃ z : Int64, G 17 = z := ⟨_, rfl⟩
      have hq_w3612 := tk_rngL w3612
      rw [hf3611] at hpo3603
      have hL22 := hL22.to (hrr9 61 (by decide))
      have h22_1 := (congrFun (hrr9 61 (by decide)) _).trans h22_1
      have h22_2 := (congrFun (hrr9 61 (by decide)) _).trans h22_2
      have h22_3 := (congrFun (hrr9 61 (by decide)) _).trans h22_3
      have h22_4 := (congrFun (hrr9 61 (by decide)) _).trans h22_4
      have h22_5 := (congrFun (hrr9 61 (by decide)) _).trans h22_5
      have h22_6 := (congrFun (hrr9 61 (by decide)) _).trans h22_6
      have h22_7 := (congrFun (hrr9 61 (by decide)) _).trans h22_7
      have h22_8 := (congrFun (hrr9 61 (by decide)) _).trans h22_8
      have h22_0 := (congrFun (hrr9 61 (by decide)) _).trans h22_0
      have h22_9 := (congrFun (hrr9 61 (by decide)) _).trans h22_9
      have hC9 := hC
      have hC : v3520.toInt = 0 → CLS 10 [1, 3, 5, 7] (R 24) (R 25) (Ra 61) gc.toInt gn.toInt := fun h9 => (hC9 (by omega)).to (hrr9 24 (by decide)) (hrr9 25 (by decide))
      have hX35239 := hX3523
      have hX3523 : v3520.toInt = 0 → WFX (R 24) (R 25) gc v3522 := fun h9 => by rw [hrr9 24 (by decide), hrr9 25 (by decide)]; exact hX35239 (by omega)
      refine lv_aload_n hx hb dX13_readOrder_204 rfl (lv_at hl 1 rfl) ?_
      refine mz_getR hx hb htl hown hK hM 61 (Nat.le_of_ble_eq_true rfl) (Nat.le_of_ble_eq_true rfl) (htl _ mw_239) (fun _ h9 => h9) dX13_readOrder_205 ?_
      refine lv_iload_n hx hb dX13_readOrder_208 rfl (lv_at hl 0 rfl) ?_
      refine lv_bipush (v := 9) hx hb dX13_readOrder_209 (by decide) ?_
      refine lv_iadd hx hb dX13_readOrder_211 ?_
      refine tk_add rfl (show (9 : Int32).toInt = 9 by decide) (by omega) (by omega) (fun v3613 h_v3613 => ?_)
      refine lv_aload_n hx hb dX13_readOrder_212 rfl (lv_at hl 1 rfl) ?_
      refine lv_lconst (v := 1) hx hb dX13_readOrder_213 (by decide) ?_
      refine lv_ldc2 hx hb hown (htl _ mw_782) dX13_readOrder_214 ?_
      have hk_1 : (1 : Int64).toInt = 1 := by decide
      have hk_20 : (20 : Int64).toInt = 20 := by decide
      refine mz_Vi (As := [.long 1, .long 20]) (rest := [.int v3613, .ref (ad 61)]) ⟨hx, hb, hml, hown, hts⟩ hK hM hS (k_X13_number l D cy ld ad am hD _ _ _ _ 1 20 v3606 v3608 v3610 gp w3612 v3520 hIF hIG hIR hf3605 hf3607 hf3609 hg_3 hf3611 hf3519 (by omega) (by omega) (by omega) (by omega) (by omega) (by omega) (by omega) (by omega)) ⟨callB_of 2 hts (wl_in mw_762) rfl rfl rfl (htl _ mw_5) (htl _ mw_759) hd_yX13_number ⟨(Nat.le_of_ble_eq_true rfl), (Nat.le_of_ble_eq_true rfl)⟩, htl _ mw_760, htl _ mw_761⟩ rfl hl.1 rfl (Nat.le_of_ble_eq_true rfl) dX13_readOrder_217 ⟨(Nat.le_of_ble_eq_true rfl), (Nat.le_of_ble_eq_true rfl)⟩ (fun v3614 H locs F G R S hpo hM hS => ?_)
      obtain ⟨hIF, hIG, hIR, hfr9, hrr9, hgr9, hpo3615, hpo3616, hpo3617, hpo3618, hpo3619, hpo3620, hpo3621⟩ := hpo
      have hq_v3614 := tk_rng v3614
      have hFF := mz_fr (K := [14, 15, 16, 18, 19, 21, 23, 26, 29, 30]) (Fa := Fa) hfr9 hFF (by decide)
      have hRR := mz_fr (K := [24, 25, 27, 28, 61]) (Fa := Ra) hrr9 hRR (by decide)
      have hGG := mz_fr (K := [17]) (Fa := Ga) hgr9 hGG (by decide)
      have hg_3 := (hfr9 13 (by decide)).trans hg_3
      have hf111 := (hfr9 21 (by decide)).trans hf111
      have hf3521 := (hfr9 23 (by decide)).trans hf3521
      obtain ⟨v3624, hf3623⟩ : ∃ z : Int32, F 14 = z := ⟨_, rfl⟩
      have hq_v3624 := tk_rng v3624
      rw [hf3623] at hpo3615 hpo3617 hpo3618 hpo3619 hpo3621
      have hr_v3624 : 0 ≤ v3624.toInt ∧ v3624.toInt ≤ 400 := hIF.at hf3623
      obtain ⟨v3626, hf3625⟩ : ∃ z : Int32, F 15 = z := ⟨_, rfl⟩
      have hq_v3626 := tk_rng v3626
      rw [hf3625] at hpo3615 hpo3616 hpo3617 hpo3618
      have hr_v3626 : 0 ≤ v3626.toInt ∧ v3626.toInt ≤ 400 := hIF.at hf3625
      obtain ⟨v3628, hf3627⟩ : ∃ z : Int32, F 16 = z := ⟨_, rfl⟩
      have hq_v3628 := tk_rng v3628
      rw [hf3627] at hpo3617 hpo3618
      have hr_v3628 : 0 ≤ v3628.toInt ∧ v3628.toInt ≤ 3 := hIF.at hf3627
      obtain ⟨w3630, hf3629⟩ : ∃ z : Int64, G 17 = z := ⟨_, rfl⟩
      have hq_w3630 := tk_rngL w3630
      rw [hf3629] at hpo3618
      obtain ⟨v3632, hf3631⟩ : ∃ z : Int32, F 19 = z := ⟨_, rfl⟩
      have hq_v3632 := tk_rng v3632
      rw [hf3631] at hpo3620 hpo3621
      have hr_v3632 : 0 ≤ v3632.toInt ∧ v3632.toInt ≤ 1 := hIF.at hf3631
      have hL22 := hL22.to (hrr9 61 (by decide))
      have h22_1 := (congrFun (hrr9 61 (by decide)) _).trans h22_1
      have h22_2 := (congrFun (hrr9 61 (by decide)) _).trans h22_2
      have h22_3 := (congrFun (hrr9 61 (by decide)) _).trans h22_3
      have h22_4 := (congrFun (hrr9 61 (by decide)) _).trans h22_4
      have h22_5 := (congrFun (hrr9 61 (by decide)) _).trans h22_5
      have h22_6 := (congrFun (hrr9 61 (by decide)) _).trans h22_6
      have h22_7 := (congrFun (hrr9 61 (by decide)) _).trans h22_7
      have h22_8 := (congrFun (hrr9 61 (by decide)) _).trans h22_8
      have h22_0 := (congrFun (hrr9 61 (by decide)) _).trans h22_0
      have h22_9 := (congrFun (hrr9 61 (by decide)) _).trans h22_9
      have hC9 := hC
      have hC : v3632.toInt = 0 → CLS 10 [1, 3, 5, 7] (R 24) (R 25) (Ra 61) gc.toInt gn.toInt := fun h9 => (hC9 (by omega)).to (hrr9 24 (by decide)) (hrr9 25 (by decide))
      have hX35239 := hX3523
      have hX3523 : v3632.toInt = 0 → WFX (R 24) (R 25) gc v3522 := fun h9 => by rw [hrr9 24 (by decide), hrr9 25 (by decide)]; exact hX35239 (by omega)
      refine mz_iast (x := v3614) hx hb hK hD hM hS 61 (Nat.le_of_ble_eq_true rfl) rfl (nn := 120) rfl rfl (by omega) (by omega) dX13_readOrder_220 (fun H locs R hM hS hw9 hj9 => ?_)
      have hIR := hIR.put hw9 hj9 trivial
      have hL22 : low (10 * gn.toInt.toNat) (Ra 61) (R 61) := fun j hj => by rw [hw9, pk_un (fun h9 => by have h8 := tk_nat (i := v3613) rfl (by omega); omega)]; exact hL22 j hj
      have h22_1 : R 61 (10 * gn.toInt.toNat + 1) = gc := by rw [hw9, pk_un (fun h9 => by have h8 := tk_nat (i := v3613) rfl (by omega); omega)]; exact h22_1
      have h22_2 : R 61 (10 * gn.toInt.toNat + 2) = v3522 := by rw [hw9, pk_un (fun h9 => by have h8 := tk_nat (i := v3613) rfl (by omega); omega)]; exact h22_2
      have h22_3 : R 61 (10 * gn.toInt.toNat + 3) = 0 := by rw [hw9, pk_un (fun h9 => by have h8 := tk_nat (i := v3613) rfl (by omega); omega)]; exact h22_3
      have h22_4 : R 61 (10 * gn.toInt.toNat + 4) = 0 := by rw [hw9, pk_un (fun h9 => by have h8 := tk_nat (i := v3613) rfl (by omega); omega)]; exact h22_4
      have h22_5 : R 61 (10 * gn.toInt.toNat + 5) = 0 := by rw [hw9, pk_un (fun h9 => by have h8 := tk_nat (i := v3613) rfl (by omega); omega)]; exact h22_5
      have h22_6 : R 61 (10 * gn.toInt.toNat + 6) = 0 := by rw [hw9, pk_un (fun h9 => by have h8 := tk_nat (i := v3613) rfl (by omega); omega)]; exact h22_6
      have h22_7 : R 61 (10 * gn.toInt.toNat + 7) = 0 := by rw [hw9, pk_un (fun h9 => by have h8 := tk_nat (i := v3613) rfl (by omega); omega)]; exact h22_7
      have h22_8 : R 61 (10 * gn.toInt.toNat + 8) = 0 := by rw [hw9, pk_un (fun h9 => by have h8 := tk_nat (i := v3613) rfl (by omega); omega)]; exact h22_8
      have h22_0 : R 61 (10 * gn.toInt.toNat + 0) = v38 := by rw [hw9, pk_un (fun h9 => by have h8 := tk_nat (i := v3613) rfl (by omega); omega)]; exact h22_0
      have hC9 := hC
      have hC : v3632.toInt = 0 → CLS 10 [1, 3, 5, 7] (R 24) (R 25) (Ra 61) gc.toInt gn.toInt := fun h9 => (hC9 (by omega)).to (hj9 24 (by decide)) (hj9 25 (by decide))
      have hX35239 := hX3523
      have hX3523 : v3632.toInt = 0 → WFX (R 24) (R 25) gc v3522 := fun h9 => by rw [hj9 24 (by decide), hj9 25 (by decide)]; exact hX35239 (by omega)
      have h22_9 : R 61 (10 * gn.toInt.toNat + 9) = v3614 := by rw [hw9, show 10 * gn.toInt.toNat + 9 = (v3613 : Int32).toNatClampNeg by show _ = v3613.toInt.toNat; omega]; exact pk_us
      have hRR := mz_frp (K := [24, 25, 27, 28, 61]) (Fa := Ra) hj9 hRR (by decide)
      exact kz_X13_readOrder_c7 l D cy ld ad am hD Fa Ga Ra Sa gf gt gs gp gw gb gc gn hx hb hr hml hts htl hown hlocks hK hp_0 hp_1 hp_2 hp_3 hp_4 hp_5 hg_0 hg_1 hg_2 hg_3 hg_4 hg_5 hg_6 hg_7 hx_0 hx_1 v108 v109 v3522 v3614 v3624 v3626 v3628 v3632 v38 w3630 _ _ _ _ _ _ (by omega) (by omega) (by omega) (by omega) (by omega) (by omega) (by omega) (by omega) (by omega) (by omega) (by omega) (by omega) (by omega) (by omega) (by omega) (by omega) (by omega) (by omega) (by omega) (by omega) hM hS hIF hIG hIR hFF hGG hRR hg_3 hf111 hf3521 hf3623 hf3625 hf3627 hf3629 hf3631 (by omega) (by omega) (by omega) (by omega) hL22 hC h22_1 h22_2 h22_3 h22_4 h22_5 h22_6 h22_7 h22_8 h22_0 h22_9 hX3523 _ (lv_sub hl [0, 1] rfl)
set_option maxHeartbeats 4000000 in
set_option maxRecDepth 100000 in
theorem kz_X13_readOrder_c9 (l : Launch) (D : va_G) (cy : Nat → ClassId) (ld ad : Nat → Nat) (am : Nat) (hD : mz_D ad am) (Fa : Nat → Int32) (Ga : Nat → Int64) (Ra : Nat → Nat → Int32) (Sa : Nat → Nat → Int64) (gf : Int32) (gt : Int32) (gs : Int32) (gp : Int32) (gw : Int64) (gb : Int32) (gc : Int32) (gn : Int32) {p : Program} {e : Env} {s : State} {m : MethodId} {args : Array Value} {below : List Frame} {meth : Method} {c : Code} (hx : p.tables.exec = Jvm.exec) (hb : c.code = cX13_readOrder) (hr : meth.sig.returnType = none) (hml : c.maxLocals = 4) (hts : ∀ w ∈ wl yX13_readOrder cX13_readOrder 4 none, w.before args s = true) (htl : ∀ w ∈ wsA, w.before args s = true) (hown : s.vm.findClass RX13 = some m.cls) (hlocks : meth.locks = false) (hK : kk_K D cy ld s) (hp_0 : 0 ≤ (-1) * gf.toInt + gt.toInt) (hp_1 : 0 ≤ gp.toInt + (-1) * gt.toInt) (hp_2 : (1 ≤ gs.toInt → 0 ≤ (-1) * gf.toInt + gt.toInt + (-1))) (hp_3 : (27 ≤ gw.toInt → 1 ≤ gs.toInt → gs.toInt ≤ 1 → 0 ≤ (-1) * gf.toInt + gt.toInt + (-2))) (hp_4 : 0 ≤ (-1) * gc.toInt + gf.toInt) (hp_5 : gb.toInt ≤ 0) (hg_0 : Fa 14 = gf) (hg_1 : Fa 15 = gt) (hg_2 : Fa 16 = gs) (hg_3 : Fa 13 = gp) (hg_4 : Ga 17 = gw) (hg_5 : Fa 19 = gb) (hg_6 : Fa 23 = gc) (hg_7 : Fa 21 = gn) (hx_0 : CLS 10 [1, 3, 5, 7] (Ra 24) (Ra 25) (Ra 61) gc.toInt gn.toInt) (hx_1 : TMS (Ra 61) gn.toInt) (v108 : Int32) (v109 : Int32) (v3522 : Int32) (v3714 : Int32) (v3729 : Int32) (v3731 : Int32) (v3733 : Int32) (v3737 : Int32) (v3739 : Int32) (v38 : Int32) (w3735 : Int64) (H : Heap) (locs : List Loc) (F : Nat → Int32) (G : Nat → Int64) (R : Nat → Nat → Int32) (S : Nat → Nat → Int64) (hq0_kz_X13_readOrder_c9 : v109.toInt ≤ 12) (hq1_kz_X13_readOrder_c9 : v3731.toInt ≤ 400) (hq2_kz_X13_readOrder_c9 : v3733.toInt ≤ 3) (hq3_kz_X13_readOrder_c9 : 0 ≤ v38.toInt) (hq4_kz_X13_readOrder_c9 : 0 ≤ (-1) * gf.toInt + gt.toInt + (-1)) (hq5_kz_X13_readOrder_c9 : (-10) * gn.toInt + v108.toInt = 0) (hq6_kz_X13_readOrder_c9 : (-1) * gn.toInt + v109.toInt + (-1) = 0) (hq7_kz_X13_readOrder_c9 : 0 ≤ (-1) * gc.toInt + v3522.toInt) (hq8_kz_X13_readOrder_c9 : 0 ≤ (-1) * v3522.toInt + v3714.toInt) (hq9_kz_X13_readOrder_c9 : 0 ≤ (-1) * v3729.toInt + v3731.toInt) (hq10_kz_X13_readOrder_c9 : 0 ≤ gp.toInt + (-1) * v3731.toInt) (hq11_kz_X13_readOrder_c9 : 0 ≤ (-1) * v3714.toInt + v3739.toInt) (hq12_kz_X13_readOrder_c9 : 0 ≤ v3729.toInt + (-1) * v3739.toInt) (hq13_kz_X13_readOrder_c9 : 0 ≤ gb.toInt + (-1) * v38.toInt) (hq14_kz_X13_readOrder_c9 : 0 ≤ gc.toInt + (-1) * v38.toInt) (hq15_kz_X13_readOrder_c9 : 0 ≤ gs.toInt + (-1) * v3737.toInt) (hq16_kz_X13_readOrder_c9 : 0 ≤ (-1) * gt.toInt + v3729.toInt) (hq17_kz_X13_readOrder_c9 : 0 ≤ (-1) * gs.toInt + v38.toInt + 1) (hq18_kz_X13_readOrder_c9 : 0 ≤ (-1) * gb.toInt + v109.toInt + (-1)) (hq19_kz_X13_readOrder_c9 : 0 ≤ (-1) * gb.toInt + v3733.toInt) (hq20_kz_X13_readOrder_c9 : 0 ≤ (-1) * gb.toInt + v3737.toInt + (-1)) (hM : mz_S D cy ad am F G R S H) (hS : va_S (mz_W ad am) s.heap H locs) (hIF : mz_IF false F) (hIG : mz_IG G) (hIR : mz_IR [] true R) (hFF : ∀ k : Nat, k ∉ ([14, 15, 16, 18, 19, 21, 23, 26, 29, 30] : List Nat) → F k = Fa k) (hGG : ∀ k : Nat, k ∉ ([17] : List Nat) → G k = Ga k) (hRR : ∀ k : Nat, k ∉ ([24, 25, 27, 28, 61] : List Nat) → R k = Ra k) (hg_3 : F 13 = gp) (hf111 : F 21 = v109) (hf3728 : F 14 = v3729) (hf3730 : F 15 = v3731) (hf3732 : F 16 = v3733) (hf3734 : G 17 = w3735) (hf3736 : F 19 = v3737) (hf3738 : F 23 = v3739) (hc0_kz_X13_readOrder_c9 : (27 ≤ gw.toInt → 1 ≤ gs.toInt → gs.toInt ≤ 1 → 0 ≤ (-1) * gf.toInt + gt.toInt + (-2))) (hc1_kz_X13_readOrder_c9 : (1 ≤ v3733.toInt → 0 ≤ (-1) * v3729.toInt + v3731.toInt + (-1))) (hc2_kz_X13_readOrder_c9 : (27 ≤ w3735.toInt → 1 ≤ v3733.toInt → v3733.toInt ≤ 1 → 0 ≤ (-1) * v3729.toInt + v3731.toInt + (-2))) (hc3_kz_X13_readOrder_c9 : (27 ≤ gw.toInt → 1 ≤ gs.toInt → gs.toInt ≤ 1 → 0 ≤ (-1) * gf.toInt + gt.toInt + (-2))) (hL22 : low (10 * gn.toInt.toNat) (Ra 61) (R 61)) (hC : v3737.toInt = 0 → CLS 10 [1, 3, 5, 7] (R 24) (R 25) (Ra 61) gc.toInt gn.toInt) (h22_1 : R 61 (10 * gn.toInt.toNat + 1) = gc) (h22_2 : R 61 (10 * gn.toInt.toNat + 2) = v3522) (h22_3 : R 61 (10 * gn.toInt.toNat + 3) = v3522) (h22_4 : R 61 (10 * gn.toInt.toNat + 4) = v3714) (h22_5 : R 61 (10 * gn.toInt.toNat + 5) = v3714) (h22_6 : R 61 (10 * gn.toInt.toNat + 6) = v3739) (h22_7 : R 61 (10 * gn.toInt.toNat + 7) = 0) (h22_8 : R 61 (10 * gn.toInt.toNat + 8) = 0) (h22_0 : R 61 (10 * gn.toInt.toNat + 0) = v38) (h22_9 : R 61 (10 * gn.toInt.toNat + 9) = 1) (hX3523 : v3737.toInt = 0 → WFX (R 24) (R 25) gc v3522) (hX3715 : v3737.toInt = 0 → WFX (R 24) (R 25) v3522 v3714) (hX3740 : v3737.toInt = 0 → WFX (R 24) (R 25) v3714 v3739) (ls : Array Slot) (hl : lv_has ls 4 [(2, .int v108), (0, .ref am)]) : W p l e ({ frames := 12, cells := 0, slots := 0, locals := 770 }) s m args below meth c H locs 0 0 (MQ below (mz_w D cy ad am (fun F G R S => mz_IF false F ∧ mz_IG G ∧ mz_IR [] true R ∧ (∀ k : Nat, k ∉ ([14, 15, 16, 18, 19, 21, 23, 26, 29, 30] : List Nat) → F k = Fa k) ∧ (∀ k : Nat, k ∉ ([24, 25, 27, 28, 61] : List Nat) → R k = Ra k) ∧ (∀ k : Nat, k ∉ ([17] : List Nat) → G k = Ga k) ∧ 0 ≤ (-1) * (F 14).toInt + (F 15).toInt ∧ 0 ≤ gp.toInt + (-1) * (F 15).toInt ∧ (1 ≤ (F 16).toInt → 0 ≤ (-1) * (F 14).toInt + (F 15).toInt + (-1)) ∧ (27 ≤ (G 17).toInt → 1 ≤ (F 16).toInt → (F 16).toInt ≤ 1 → 0 ≤ (-1) * (F 14).toInt + (F 15).toInt + (-2)) ∧ 0 ≤ (-1) * gf.toInt + (F 14).toInt ∧ 0 ≤ (-1) * gc.toInt + (F 23).toInt ∧ 0 ≤ (-1) * (F 23).toInt + (F 14).toInt ∧ 0 ≤ (-1) * gb.toInt + (F 19).toInt ∧ ((F 19).toInt ≤ 0 → 0 ≤ (-1) * gf.toInt + (F 14).toInt + (-1)) ∧ ((F 19).toInt = 0 → CLS 10 [1, 3, 5, 7] (R 24) (R 25) (R 61) (F 23).toInt (F 21).toInt) ∧ ((F 19).toInt = 0 → TMS (R 61) (F 21).toInt))) args s 0 0 (mz_W ad am)) (F0 m 221 ls []) := by
  have hq_gb := tk_rng gb
  have hq_gc := tk_rng gc
  have hq_gf := tk_rng gf
  have hq_gn := tk_rng gn
  have hq_gp := tk_rng gp
  have hq_gs := tk_rng gs
  have hq_gt := tk_rng gt
  have hq_gw := tk_rngL gw
  have hq_v108 := tk_rng v108
  have hq_v109 := tk_rng v109
  have hq_v3522 := tk_rng v3522
  have hq_v3714 := tk_rng v3714
  have hq_v3729 := tk_rng v3729
  have hq_v3731 := tk_rng v3731
  have hq_v3733 := tk_rng v3733
  have hq_v3737 := tk_rng v3737
  have hq_v3739 := tk_rng v3739
  have hq_v38 := tk_rng v38
  have hq_w3735 := tk_rngL w3735
  have hr_gp : 0 ≤ gp.toInt ∧ gp.toInt ≤ 400 := hIF.at hg_3
  have hr_v109 : 0 ≤ v109.toInt ∧ v109.toInt ≤ 12 := hIF.at hf111
  have hr_v3729 : 0 ≤ v3729.toInt ∧ v3729.toInt ≤ 400 := hIF.at hf3728
  have hr_v3731 : 0 ≤ v3731.toInt ∧ v3731.toInt ≤ 400 := hIF.at hf3730
  have hr_v3733 : 0 ≤ v3733.toInt ∧ v3733.toInt ≤ 3 := hIF.at hf3732
  have hr_v3737 : 0 ≤ v3737.toInt ∧ v3737.toInt ≤ 1 := hIF.at hf3736
  have hr_v3739 : 0 ≤ v3739.toInt ∧ v3739.toInt ≤ 400 := hIF.at hf3738
  refine lv_aload_n hx hb dX13_readOrder_221 rfl (lv_at hl 1 rfl) ?_
  refine mz_getR hx hb htl hown hK hM 61 (Nat.le_of_ble_eq_true rfl) (Nat.le_of_ble_eq_true rfl) (htl _ mw_239) (fun _ h9 => h9) dX13_readOrder_222 ?_
  refine lv_iload_n hx hb dX13_readOrder_225 rfl (lv_at hl 0 rfl) ?_
  refine lv_bipush (v := 7) hx hb dX13_readOrder_226 (by decide) ?_
  refine lv_iadd hx hb dX13_readOrder_228 ?_
  refine tk_add rfl (show (7 : Int32).toInt = 7 by decide) (by omega) (by omega) (fun v3746 h_v3746 => ?_)
  refine lv_aload_n hx hb dX13_readOrder_229 rfl (lv_at hl 1 rfl) ?_
  refine mz_getI hx hb htl hown hK hM 23 (Nat.le_of_ble_eq_true rfl) rfl (htl _ mw_670) (fun _ h9 => h9) dX13_readOrder_230 (fun v9 e9 => ?_)
  refine fx_ti (v := v3739) (e9.symm.trans hf3738) ?_
  refine mz_iast (x := v3739) hx hb hK hD hM hS 61 (Nat.le_of_ble_eq_true rfl) rfl (nn := 120) rfl rfl (by omega) (by omega) dX13_readOrder_233 (fun H locs R hM hS hw9 hj9 => ?_)
  have hIR := hIR.put hw9 hj9 trivial
  have hL22 : low (10 * gn.toInt.toNat) (Ra 61) (R 61) := fun j hj => by rw [hw9, pk_un (fun h9 => by have h8 := tk_nat (i := v3746) rfl (by omega); omega)]; exact hL22 j hj
  have h22_1 : R 61 (10 * gn.toInt.toNat + 1) = gc := by rw [hw9, pk_un (fun h9 => by have h8 := tk_nat (i := v3746) rfl (by omega); omega)]; exact h22_1
  have h22_2 : R 61 (10 * gn.toInt.toNat + 2) = v3522 := by rw [hw9, pk_un (fun h9 => by have h8 := tk_nat (i := v3746) rfl (by omega); omega)]; exact h22_2
  have h22_3 : R 61 (10 * gn.toInt.toNat + 3) = v3522 := by rw [hw9, pk_un (fun h9 => by have h8 := tk_nat (i := v3746) rfl (by omega); omega)]; exact h22_3
  have h22_4 : R 61 (10 * gn.toInt.toNat + 4) = v3714 := by rw [hw9, pk_un (fun h9 => by have h8 := tk_nat (i := v3746) rfl (by omega); omega)]; exact h22_4
  have h22_5 : R 61 (10 * gn.toInt.toNat + 5) = v3714 := by rw [hw9, pk_un (fun h9 => by have h8 := tk_nat (i := v3746) rfl (by omega); omega)]; exact h22_5
  have h22_6 : R 61 (10 * gn.toInt.toNat + 6) = v3739 := by rw [hw9, pk_un (fun h9 => by have h8 := tk_nat (i := v3746) rfl (by omega); omega)]; exact h22_6
  have h22_8 : R 61 (10 * gn.toInt.toNat + 8) = 0 := by rw [hw9, pk_un (fun h9 => by have h8 := tk_nat (i := v3746) rfl (by omega); omega)]; exact h22_8
  have h22_0 : R 61 (10 * gn.toInt.toNat + 0) = v38 := by rw [hw9, pk_un (fun h9 => by have h8 := tk_nat (i := v3746) rfl (by omega); omega)]; exact h22_0
  have h22_9 : R 61 (10 * gn.toInt.toNat + 9) = 1 := by rw [hw9, pk_un (fun h9 => by have h8 := tk_nat (i := v3746) rfl (by omega); omega)]; exact h22_9
  have hC9 := hC
  have hC : v3737.toInt = 0 → CLS 10 [1, 3, 5, 7] (R 24) (R 25) (Ra 61) gc.toInt gn.toInt := fun h9 => (hC9 (by omega)).to (hj9 24 (by decide)) (hj9 25 (by decide))
  have hX35239 := hX3523
  have hX3523 : v3737.toInt = 0 → WFX (R 24) (R 25) gc v3522 := fun h9 => by rw [hj9 24 (by decide), hj9 25 (by decide)]; exact hX35239 (by omega)
  have hX37159 := hX3715
  have hX3715 : v3737.toInt = 0 → WFX (R 24) (R 25) v3522 v3714 := fun h9 => by rw [hj9 24 (by decide), hj9 25 (by decide)]; exact hX37159 (by omega)
  have hX37409 := hX3740
  have hX3740 : v3737.toInt = 0 → WFX (R 24) (R 25) v3714 v3739 := fun h9 => by rw [hj9 24 (by decide), hj9 25 (by decide)]; exact hX37409 (by omega)
  have h22_7 : R 61 (10 * gn.toInt.toNat + 7) = v3739 := by rw [hw9, show 10 * gn.toInt.toNat + 7 = (v3746 : Int32).toNatClampNeg by show _ = v3746.toInt.toNat; omega]; exact pk_us
  have hRR := mz_frp (K := [24, 25, 27, 28, 61]) (Fa := Ra) hj9 hRR (by decide)
  refine lv_aload_n hx hb dX13_readOrder_234 rfl (lv_at hl 1 rfl) ?_
  refine mz_getI hx hb htl hown hK hM 19 (Nat.le_of_ble_eq_true rfl) rfl (htl _ mw_668) (fun _ h9 => h9) dX13_readOrder_235 (fun v9 e9 => ?_)
  refine fx_ti (v := v3737) (e9.symm.trans hf3736) ?_
  refine lv_if_ne (tgt := 260) hx hb dX13_readOrder_238 (by decide) (fun _ => ?_) (fun c9 => absurd (show v3737.toInt = 0 from (fi_eq rfl (show (0 : Int32).toInt = 0 by decide)).mp c9) (by omega))
  refine lv_aload_n hx hb dX13_readOrder_260 rfl (lv_at hl 1 rfl) ?_
  refine mz_getR hx hb htl hown hK hM 61 (Nat.le_of_ble_eq_true rfl) (Nat.le_of_ble_eq_true rfl) (htl _ mw_239) (fun _ h9 => h9) dX13_readOrder_261 ?_
  refine lv_iload_n hx hb dX13_readOrder_264 rfl (lv_at hl 0 rfl) ?_
  refine lv_bipush (v := 8) hx hb dX13_readOrder_265 (by decide) ?_
  refine lv_iadd hx hb dX13_readOrder_267 ?_
  refine tk_add rfl (show (8 : Int32).toInt = 8 by decide) (by omega) (by omega) (fun v3748 h_v3748 => ?_)
  refine lv_aload_n hx hb dX13_readOrder_268 rfl (lv_at hl 1 rfl) ?_
  refine mz_getI hx hb htl hown hK hM 23 (Nat.le_of_ble_eq_true rfl) rfl (htl _ mw_670) (fun _ h9 => h9) dX13_readOrder_269 (fun v9 e9 => ?_)
  refine fx_ti (v := v3739) (e9.symm.trans hf3738) ?_
  refine mz_iast (x := v3739) hx hb hK hD hM hS 61 (Nat.le_of_ble_eq_true rfl) rfl (nn := 120) rfl rfl (by omega) (by omega) dX13_readOrder_272 (fun H locs R hM hS hw9 hj9 => ?_)
  have hIR := hIR.put hw9 hj9 trivial
  have hL22 : low (10 * gn.toInt.toNat) (Ra 61) (R 61) := fun j hj => by rw [hw9, pk_un (fun h9 => by have h8 := tk_nat (i := v3748) rfl (by omega); omega)]; exact hL22 j hj
  have h22_1 : R 61 (10 * gn.toInt.toNat + 1) = gc := by rw [hw9, pk_un (fun h9 => by have h8 := tk_nat (i := v3748) rfl (by omega); omega)]; exact h22_1
  have h22_2 : R 61 (10 * gn.toInt.toNat + 2) = v3522 := by rw [hw9, pk_un (fun h9 => by have h8 := tk_nat (i := v3748) rfl (by omega); omega)]; exact h22_2
  have h22_3 : R 61 (10 * gn.toInt.toNat + 3) = v3522 := by rw [hw9, pk_un (fun h9 => by have h8 := tk_nat (i := v3748) rfl (by omega); omega)]; exact h22_3
  have h22_4 : R 61 (10 * gn.toInt.toNat + 4) = v3714 := by rw [hw9, pk_un (fun h9 => by have h8 := tk_nat (i := v3748) rfl (by omega); omega)]; exact h22_4
  have h22_5 : R 61 (10 * gn.toInt.toNat + 5) = v3714 := by rw [hw9, pk_un (fun h9 => by have h8 := tk_nat (i := v3748) rfl (by omega); omega)]; exact h22_5
  have h22_6 : R 61 (10 * gn.toInt.toNat + 6) = v3739 := by rw [hw9, pk_un (fun h9 => by have h8 := tk_nat (i := v3748) rfl (by omega); omega)]; exact h22_6
  have h22_7 : R 61 (10 * gn.toInt.toNat + 7) = v3739 := by rw [hw9, pk_un (fun h9 => by have h8 := tk_nat (i := v3748) rfl (by omega); omega)]; exact h22_7
  have h22_0 : R 61 (10 * gn.toInt.toNat + 0) = v38 := by rw [hw9, pk_un (fun h9 => by have h8 := tk_nat (i := v3748) rfl (by omega); omega)]; exact h22_0
  have h22_9 : R 61 (10 * gn.toInt.toNat + 9) = 1 := by rw [hw9, pk_un (fun h9 => by have h8 := tk_nat (i := v3748) rfl (by omega); omega)]; exact h22_9
  have hC9 := hC
  have hC : v3737.toInt = 0 → CLS 10 [1, 3, 5, 7] (R 24) (R 25) (Ra 61) gc.toInt gn.toInt := fun h9 => (hC9 (by omega)).to (hj9 24 (by decide)) (hj9 25 (by decide))
  have hX35239 := hX3523
  have hX3523 : v3737.toInt = 0 → WFX (R 24) (R 25) gc v3522 := fun h9 => by rw [hj9 24 (by decide), hj9 25 (by decide)]; exact hX35239 (by omega)
  have hX37159 := hX3715
  have hX3715 : v3737.toInt = 0 → WFX (R 24) (R 25) v3522 v3714 := fun h9 => by rw [hj9 24 (by decide), hj9 25 (by decide)]; exact hX37159 (by omega)
  have hX37409 := hX3740
  have hX3740 : v3737.toInt = 0 → WFX (R 24) (R 25) v3714 v3739 := fun h9 => by rw [hj9 24 (by decide), hj9 25 (by decide)]; exact hX37409 (by omega)
  have h22_8 : R 61 (10 * gn.toInt.toNat + 8) = v3739 := by rw [hw9, show 10 * gn.toInt.toNat + 8 = (v3748 : Int32).toNatClampNeg by show _ = v3748.toInt.toNat; omega]; exact pk_us
  have hRR := mz_frp (K := [24, 25, 27, 28, 61]) (Fa := Ra) hj9 hRR (by decide)
  exact mz_vret hx hb hr hlocks ⟨hIF, hIG, hIR, hFF, hRR, hGG, (by rw [hf3728, hf3730]; omega), (by rw [hf3730]; omega), (by rw [hf3728, hf3730, hf3732]; omega), (by rw [hf3728, hf3730, hf3732, hf3734]; omega), (by rw [hf3728]; omega), (by rw [hf3738]; omega), (by rw [hf3728, hf3738]; omega), (by rw [hf3736]; omega), (by rw [hf3728, hf3736]; omega), (by rw [hf3736]; exact fun h9 => absurd h9 (by omega)), (by rw [hf3736]; exact fun h9 => absurd h9 (by omega))⟩ hM hS dX13_readOrder_273
set_option maxHeartbeats 4000000 in
set_option maxRecDepth 100000 in
theorem kz_X13_readOrder_c10 (l : Launch) (D : va_G) (cy : Nat → ClassId) (ld ad : Nat → Nat) (am : Nat) (hD : mz_D ad am) (Fa : Nat → Int32) (Ga : Nat → Int64) (Ra : Nat → Nat → Int32) (Sa : Nat → Nat → Int64) (gf : Int32) (gt : Int32) (gs : Int32) (gp : Int32) (gw : Int64) (gb : Int32) (gc : Int32) (gn : Int32) {p : Program} {e : Env} {s : State} {m : MethodId} {args : Array Value} {below : List Frame} {meth : Method} {c : Code} (hx : p.tables.exec = Jvm.exec) (hb : c.code = cX13_readOrder) (hr : meth.sig.returnType = none) (hml : c.maxLocals = 4) (hts : ∀ w ∈ wl yX13_readOrder cX13_readOrder 4 none, w.before args s = true) (htl : ∀ w ∈ wsA, w.before args s = true) (hown : s.vm.findClass RX13 = some m.cls) (hlocks : meth.locks = false) (hK : kk_K D cy ld s) (hp_0 : 0 ≤ (-1) * gf.toInt + gt.toInt) (hp_1 : 0 ≤ gp.toInt + (-1) * gt.toInt) (hp_2 : (1 ≤ gs.toInt → 0 ≤ (-1) * gf.toInt + gt.toInt + (-1))) (hp_3 : (27 ≤ gw.toInt → 1 ≤ gs.toInt → gs.toInt ≤ 1 → 0 ≤ (-1) * gf.toInt + gt.toInt + (-2))) (hp_4 : 0 ≤ (-1) * gc.toInt + gf.toInt) (hp_5 : gb.toInt ≤ 0) (hg_0 : Fa 14 = gf) (hg_1 : Fa 15 = gt) (hg_2 : Fa 16 = gs) (hg_3 : Fa 13 = gp) (hg_4 : Ga 17 = gw) (hg_5 : Fa 19 = gb) (hg_6 : Fa 23 = gc) (hg_7 : Fa 21 = gn) (hx_0 : CLS 10 [1, 3, 5, 7] (Ra 24) (Ra 25) (Ra 61) gc.toInt gn.toInt) (hx_1 : TMS (Ra 61) gn.toInt) (v108 : Int32) (v109 : Int32) (v3522 : Int32) (v3714 : Int32) (v3729 : Int32) (v3731 : Int32) (v3733 : Int32) (v3737 : Int32) (v3739 : Int32) (v38 : Int32) (w3735 : Int64) (H : Heap) (locs : List Loc) (F : Nat → Int32) (G : Nat → Int64) (R : Nat → Nat → Int32) (S : Nat → Nat → Int64) (hq0_kz_X13_readOrder_c10 : v109.toInt ≤ 12) (hq1_kz_X13_readOrder_c10 : v3731.toInt ≤ 400) (hq2_kz_X13_readOrder_c10 : v3733.toInt ≤ 3) (hq3_kz_X13_readOrder_c10 : v3737.toInt ≤ 0) (hq4_kz_X13_readOrder_c10 : 0 ≤ v38.toInt) (hq5_kz_X13_readOrder_c10 : 0 ≤ (-1) * gf.toInt + gt.toInt + (-1)) (hq6_kz_X13_readOrder_c10 : (-10) * gn.toInt + v108.toInt = 0) (hq7_kz_X13_readOrder_c10 : (-1) * gn.toInt + v109.toInt + (-1) = 0) (hq8_kz_X13_readOrder_c10 : 0 ≤ (-1) * gc.toInt + v3522.toInt) (hq9_kz_X13_readOrder_c10 : 0 ≤ (-1) * v3522.toInt + v3714.toInt) (hq10_kz_X13_readOrder_c10 : 0 ≤ (-1) * v3729.toInt + v3731.toInt) (hq11_kz_X13_readOrder_c10 : 0 ≤ gp.toInt + (-1) * v3731.toInt) (hq12_kz_X13_readOrder_c10 : 0 ≤ (-1) * v3714.toInt + v3739.toInt) (hq13_kz_X13_readOrder_c10 : 0 ≤ v3729.toInt + (-1) * v3739.toInt) (hq14_kz_X13_readOrder_c10 : 0 ≤ gb.toInt + (-1) * v38.toInt) (hq15_kz_X13_readOrder_c10 : 0 ≤ gc.toInt + (-1) * v38.toInt) (hq16_kz_X13_readOrder_c10 : 0 ≤ gs.toInt + (-1) * v38.toInt + (-1)) (hq17_kz_X13_readOrder_c10 : 0 ≤ (-1) * gt.toInt + v3729.toInt) (hq18_kz_X13_readOrder_c10 : 0 ≤ (-1) * gs.toInt + v38.toInt + 1) (hq19_kz_X13_readOrder_c10 : 0 ≤ (-1) * gb.toInt + v109.toInt + (-1)) (hq20_kz_X13_readOrder_c10 : 0 ≤ (-1) * gb.toInt + v3733.toInt) (hq21_kz_X13_readOrder_c10 : 0 ≤ (-1) * gb.toInt + v3737.toInt) (hM : mz_S D cy ad am F G R S H) (hS : va_S (mz_W ad am) s.heap H locs) (hIF : mz_IF false F) (hIG : mz_IG G) (hIR : mz_IR [] true R) (hFF : ∀ k : Nat, k ∉ ([14, 15, 16, 18, 19, 21, 23, 26, 29, 30] : List Nat) → F k = Fa k) (hGG : ∀ k : Nat, k ∉ ([17] : List Nat) → G k = Ga k) (hRR : ∀ k : Nat, k ∉ ([24, 25, 27, 28, 61] : List Nat) → R k = Ra k) (hg_3 : F 13 = gp) (hf111 : F 21 = v109) (hf3728 : F 14 = v3729) (hf3730 : F 15 = v3731) (hf3732 : F 16 = v3733) (hf3734 : G 17 = w3735) (hf3736 : F 19 = v3737) (hf3738 : F 23 = v3739) (hc0_kz_X13_readOrder_c10 : (27 ≤ gw.toInt → 1 ≤ gs.toInt → gs.toInt ≤ 1 → 0 ≤ (-1) * gf.toInt + gt.toInt + (-2))) (hc1_kz_X13_readOrder_c10 : (1 ≤ v3733.toInt → 0 ≤ (-1) * v3729.toInt + v3731.toInt + (-1))) (hc2_kz_X13_readOrder_c10 : (27 ≤ w3735.toInt → 1 ≤ v3733.toInt → v3733.toInt ≤ 1 → 0 ≤ (-1) * v3729.toInt + v3731.toInt + (-2))) (hc3_kz_X13_readOrder_c10 : (27 ≤ gw.toInt → 1 ≤ gs.toInt → gs.toInt ≤ 1 → 0 ≤ (-1) * gf.toInt + gt.toInt + (-2))) (hL22 : low (10 * gn.toInt.toNat) (Ra 61) (R 61)) (hC : v3737.toInt = 0 → CLS 10 [1, 3, 5, 7] (R 24) (R 25) (Ra 61) gc.toInt gn.toInt) (h22_1 : R 61 (10 * gn.toInt.toNat + 1) = gc) (h22_2 : R 61 (10 * gn.toInt.toNat + 2) = v3522) (h22_3 : R 61 (10 * gn.toInt.toNat + 3) = v3522) (h22_4 : R 61 (10 * gn.toInt.toNat + 4) = v3714) (h22_5 : R 61 (10 * gn.toInt.toNat + 5) = v3714) (h22_6 : R 61 (10 * gn.toInt.toNat + 6) = v3739) (h22_7 : R 61 (10 * gn.toInt.toNat + 7) = 0) (h22_8 : R 61 (10 * gn.toInt.toNat + 8) = 0) (h22_0 : R 61 (10 * gn.toInt.toNat + 0) = v38) (h22_9 : R 61 (10 * gn.toInt.toNat + 9) = 1) (hX3523 : v3737.toInt = 0 → WFX (R 24) (R 25) gc v3522) (hX3715 : v3737.toInt = 0 → WFX (R 24) (R 25) v3522 v3714) (hX3740 : v3737.toInt = 0 → WFX (R 24) (R 25) v3714 v3739) (ls : Array Slot) (hl : lv_has ls 4 [(2, .int v108), (0, .ref am)]) : W p l e ({ frames := 12, cells := 0, slots := 0, locals := 770 }) s m args below meth c H locs 0 0 (MQ below (mz_w D cy ad am (fun F G R S => mz_IF false F ∧ mz_IG G ∧ mz_IR [] true R ∧ (∀ k : Nat, k ∉ ([14, 15, 16, 18, 19, 21, 23, 26, 29, 30] : List Nat) → F k = Fa k) ∧ (∀ k : Nat, k ∉ ([24, 25, 27, 28, 61] : List Nat) → R k = Ra k) ∧ (∀ k : Nat, k ∉ ([17] : List Nat) → G k = Ga k) ∧ 0 ≤ (-1) * (F 14).toInt + (F 15).toInt ∧ 0 ≤ gp.toInt + (-1) * (F 15).toInt ∧ (1 ≤ (F 16).toInt → 0 ≤ (-1) * (F 14).toInt + (F 15).toInt + (-1)) ∧ (27 ≤ (G 17).toInt → 1 ≤ (F 16).toInt → (F 16).toInt ≤ 1 → 0 ≤ (-1) * (F 14).toInt + (F 15).toInt + (-2)) ∧ 0 ≤ (-1) * gf.toInt + (F 14).toInt ∧ 0 ≤ (-1) * gc.toInt + (F 23).toInt ∧ 0 ≤ (-1) * (F 23).toInt + (F 14).toInt ∧ 0 ≤ (-1) * gb.toInt + (F 19).toInt ∧ ((F 19).toInt ≤ 0 → 0 ≤ (-1) * gf.toInt + (F 14).toInt + (-1)) ∧ ((F 19).toInt = 0 → CLS 10 [1, 3, 5, 7] (R 24) (R 25) (R 61) (F 23).toInt (F 21).toInt) ∧ ((F 19).toInt = 0 → TMS (R 61) (F 21).toInt))) args s 0 0 (mz_W ad am)) (F0 m 221 ls []) := by
  have hq_gb := tk_rng gb
  have hq_gc := tk_rng gc
  have hq_gf := tk_rng gf
  have hq_gn := tk_rng gn
  have hq_gp := tk_rng gp
  have hq_gs := tk_rng gs
  have hq_gt := tk_rng gt
  have hq_gw := tk_rngL gw
  have hq_v108 := tk_rng v108
  have hq_v109 := tk_rng v109
  have hq_v3522 := tk_rng v3522
  have hq_v3714 := tk_rng v3714
  have hq_v3729 := tk_rng v3729
  have hq_v3731 := tk_rng v3731
  have hq_v3733 := tk_rng v3733
  have hq_v3737 := tk_rng v3737
  have hq_v3739 := tk_rng v3739
  have hq_v38 := tk_rng v38
  have hq_w3735 := tk_rngL w3735
  have hr_gp : 0 ≤ gp.toInt ∧ gp.toInt ≤ 400 := hIF.at hg_3
  have hr_v109 : 0 ≤ v109.toInt ∧ v109.toInt ≤ 12 := hIF.at hf111
  have hr_v3729 : 0 ≤ v3729.toInt ∧ v3729.toInt ≤ 400 := hIF.at hf3728
  have hr_v3731 : 0 ≤ v3731.toInt ∧ v3731.toInt ≤ 400 := hIF.at hf3730
  have hr_v3733 : 0 ≤ v3733.toInt ∧ v3733.toInt ≤ 3 := hIF.at hf3732
  have hr_v3737 : 0 ≤ v3737.toInt ∧ v3737.toInt ≤ 1 := hIF.at hf3736
  have hr_v3739 : 0 ≤ v3739.toInt ∧ v3739.toInt ≤ 400 := hIF.at hf3738
  refine lv_aload_n hx hb dX13_readOrder_221 rfl (lv_at hl 1 rfl) ?_
  refine mz_getR hx hb htl hown hK hM 61 (Nat.le_of_ble_eq_true rfl) (Nat.le_of_ble_eq_true rfl) (htl _ mw_239) (fun _ h9 => h9) dX13_readOrder_222 ?_
  refine lv_iload_n hx hb dX13_readOrder_225 rfl (lv_at hl 0 rfl) ?_
  refine lv_bipush (v := 7) hx hb dX13_readOrder_226 (by decide) ?_
  refine lv_iadd hx hb dX13_readOrder_228 ?_
  refine tk_add rfl (show (7 : Int32).toInt = 7 by decide) (by omega) (by omega) (fun v3759 h_v3759 => ?_)
  refine lv_aload_n hx hb dX13_readOrder_229 rfl (lv_at hl 1 rfl) ?_
  refine mz_getI hx hb htl hown hK hM 23 (Nat.le_of_ble_eq_true rfl) rfl (htl _ mw_670) (fun _ h9 => h9) dX13_readOrder_230 (fun v9 e9 => ?_)
  refine fx_ti (v := v3739) (e9.symm.trans hf3738) ?_
  refine mz_iast (x := v3739) hx hb hK hD hM hS 61 (Nat.le_of_ble_eq_true rfl) rfl (nn := 120) rfl rfl (by omega) (by omega) dX13_readOrder_233 (fun H locs R hM hS hw9 hj9 => ?_)
  have hIR := hIR.put hw9 hj9 trivial
  have hL22 : low (10 * gn.toInt.toNat) (Ra 61) (R 61) := fun j hj => by rw [hw9, pk_un (fun h9 => by have h8 := tk_nat (i := v3759) rfl (by omega); omega)]; exact hL22 j hj
  have h22_1 : R 61 (10 * gn.toInt.toNat + 1) = gc := by rw [hw9, pk_un (fun h9 => by have h8 := tk_nat (i := v3759) rfl (by omega); omega)]; exact h22_1
  have h22_2 : R 61 (10 * gn.toInt.toNat + 2) = v3522 := by rw [hw9, pk_un (fun h9 => by have h8 := tk_nat (i := v3759) rfl (by omega); omega)]; exact h22_2
  have h22_3 : R 61 (10 * gn.toInt.toNat + 3) = v3522 := by rw [hw9, pk_un (fun h9 => by have h8 := tk_nat (i := v3759) rfl (by omega); omega)]; exact h22_3
  have h22_4 : R 61 (10 * gn.toInt.toNat + 4) = v3714 := by rw [hw9, pk_un (fun h9 => by have h8 := tk_nat (i := v3759) rfl (by omega); omega)]; exact h22_4
  have h22_5 : R 61 (10 * gn.toInt.toNat + 5) = v3714 := by rw [hw9, pk_un (fun h9 => by have h8 := tk_nat (i := v3759) rfl (by omega); omega)]; exact h22_5
  have h22_6 : R 61 (10 * gn.toInt.toNat + 6) = v3739 := by rw [hw9, pk_un (fun h9 => by have h8 := tk_nat (i := v3759) rfl (by omega); omega)]; exact h22_6
  have h22_8 : R 61 (10 * gn.toInt.toNat + 8) = 0 := by rw [hw9, pk_un (fun h9 => by have h8 := tk_nat (i := v3759) rfl (by omega); omega)]; exact h22_8
  have h22_0 : R 61 (10 * gn.toInt.toNat + 0) = v38 := by rw [hw9, pk_un (fun h9 => by have h8 := tk_nat (i := v3759) rfl (by omega); omega)]; exact h22_0
  have h22_9 : R 61 (10 * gn.toInt.toNat + 9) = 1 := by rw [hw9, pk_un (fun h9 => by have h8 := tk_nat (i := v3759) rfl (by omega); omega)]; exact h22_9
  have hC9 := hC
  have hC : v3737.toInt = 0 → CLS 10 [1, 3, 5, 7] (R 24) (R 25) (Ra 61) gc.toInt gn.toInt := fun h9 => (hC9 (by omega)).to (hj9 24 (by decide)) (hj9 25 (by decide))
  have hX35239 := hX3523
  have hX3523 : v3737.toInt = 0 → WFX (R 24) (R 25) gc v3522 := fun h9 => by rw [hj9 24 (by decide), hj9 25 (by decide)]; exact hX35239 (by omega)
  have hX37159 := hX3715
  have hX3715 : v3737.toInt = 0 → WFX (R 24) (R 25) v3522 v3714 := fun h9 => by rw [hj9 24 (by decide), hj9 25 (by decide)]; exact hX37159 (by omega)
  have hX37409 := hX3740
  have hX3740 : v3737.toInt = 0 → WFX (R 24) (R 25) v3714 v3739 := fun h9 => by rw [hj9 24 (by decide), hj9 25 (by decide)]; exact hX37409 (by omega)
  have h22_7 : R 61 (10 * gn.toInt.toNat + 7) = v3739 := by rw [hw9, show 10 * gn.toInt.toNat + 7 = (v3759 : Int32).toNatClampNeg by show _ = v3759.toInt.toNat; omega]; exact pk_us
  have hRR := mz_frp (K := [24, 25, 27, 28, 61]) (Fa := Ra) hj9 hRR (by decide)
  refine lv_aload_n hx hb dX13_readOrder_234 rfl (lv_at hl 1 rfl) ?_
  refine mz_getI hx hb htl hown hK hM 19 (Nat.le_of_ble_eq_true rfl) rfl (htl _ mw_668) (fun _ h9 => h9) dX13_readOrder_235 (fun v9 e9 => ?_)
  refine fx_ti (v := v3737) (e9.symm.trans hf3736) ?_
  refine lv_if_ne (tgt := 260) hx hb dX13_readOrder_238 (by decide) (fun c9 => absurd ((fi_eq rfl (show (0 : Int32).toInt = 0 by decide)).mpr (show v3737.toInt = 0 by omega)) c9) (fun _ => ?_)
  refine lv_aload_n hx hb dX13_readOrder_241 rfl (lv_at hl 1 rfl) ?_
  refine lv_ldc2 hx hb hown (htl _ mw_705) dX13_readOrder_242 ?_
  have hk_294 : (294 : Int64).toInt = 294 := by decide
  refine mz_Vj (As := [.long 294]) (rest := []) ⟨hx, hb, hml, hown, hts⟩ hK hM hS (k_X13_isWord l D cy ld ad am hD _ _ _ _ 294 v3733 w3735 hIF hIG hIR hf3732 hf3734) ⟨callB_of 1 hts (wl_in mw_709) rfl rfl rfl (htl _ mw_5) (htl _ mw_706) hd_yX13_isWord ⟨(Nat.le_of_ble_eq_true rfl), (Nat.le_of_ble_eq_true rfl)⟩, htl _ mw_707, htl _ mw_708⟩ rfl hl.1 rfl (Nat.le_of_ble_eq_true rfl) dX13_readOrder_245 ⟨(Nat.le_of_ble_eq_true rfl), (Nat.le_of_ble_eq_true rfl)⟩ (fun v3761 H locs hpo hM hS => ?_)
  obtain ⟨hpo3762, hpo3763, hpo3764, hpo3765, hpo3766⟩ := hpo
  have hq_v3761 := tk_rng v3761
  refine lv_if_eq (tgt := 260) hx hb dX13_readOrder_248 (by decide) (fun c9 => ?_) (fun c9 => ?_)
  · have hc3768 : v3761.toInt = 0 := (fi_eq rfl (show (0 : Int32).toInt = 0 by decide)).mp c9
    refine lv_aload_n hx hb dX13_readOrder_260 rfl (lv_at hl 1 rfl) ?_
    refine mz_getR hx hb htl hown hK hM 61 (Nat.le_of_ble_eq_true rfl) (Nat.le_of_ble_eq_true rfl) (htl _ mw_239) (fun _ h9 => h9) dX13_readOrder_261 ?_
    refine lv_iload_n hx hb dX13_readOrder_264 rfl (lv_at hl 0 rfl) ?_
    refine lv_bipush (v := 8) hx hb dX13_readOrder_265 (by decide) ?_
    refine lv_iadd hx hb dX13_readOrder_267 ?_
    refine tk_add rfl (show (8 : Int32).toInt = 8 by decide) (by omega) (by omega) (fun v3769 h_v3769 => ?_)
    refine lv_aload_n hx hb dX13_readOrder_268 rfl (lv_at hl 1 rfl) ?_
    refine mz_getI hx hb htl hown hK hM 23 (Nat.le_of_ble_eq_true rfl) rfl (htl _ mw_670) (fun _ h9 => h9) dX13_readOrder_269 (fun v9 e9 => ?_)
    refine fx_ti (v := v3739) (e9.symm.trans hf3738) ?_
    refine mz_iast (x := v3739) hx hb hK hD hM hS 61 (Nat.le_of_ble_eq_true rfl) rfl (nn := 120) rfl rfl (by omega) (by omega) dX13_readOrder_272 (fun H locs R hM hS hw9 hj9 => ?_)
    have hIR := hIR.put hw9 hj9 trivial
    have hL22 : low (10 * gn.toInt.toNat) (Ra 61) (R 61) := fun j hj => by rw [hw9, pk_un (fun h9 => by have h8 := tk_nat (i := v3769) rfl (by omega); omega)]; exact hL22 j hj
    have h22_1 : R 61 (10 * gn.toInt.toNat + 1) = gc := by rw [hw9, pk_un (fun h9 => by have h8 := tk_nat (i := v3769) rfl (by omega); omega)]; exact h22_1
    have h22_2 : R 61 (10 * gn.toInt.toNat + 2) = v3522 := by rw [hw9, pk_un (fun h9 => by have h8 := tk_nat (i := v3769) rfl (by omega); omega)]; exact h22_2
    have h22_3 : R 61 (10 * gn.toInt.toNat + 3) = v3522 := by rw [hw9, pk_un (fun h9 => by have h8 := tk_nat (i := v3769) rfl (by omega); omega)]; exact h22_3
    have h22_4 : R 61 (10 * gn.toInt.toNat + 4) = v3714 := by rw [hw9, pk_un (fun h9 => by have h8 := tk_nat (i := v3769) rfl (by omega); omega)]; exact h22_4
    have h22_5 : R 61 (10 * gn.toInt.toNat + 5) = v3714 := by rw [hw9, pk_un (fun h9 => by have h8 := tk_nat (i := v3769) rfl (by omega); omega)]; exact h22_5
    have h22_6 : R 61 (10 * gn.toInt.toNat + 6) = v3739 := by rw [hw9, pk_un (fun h9 => by have h8 := tk_nat (i := v3769) rfl (by omega); omega)]; exact h22_6
    have h22_7 : R 61 (10 * gn.toInt.toNat + 7) = v3739 := by rw [hw9, pk_un (fun h9 => by have h8 := tk_nat (i := v3769) rfl (by omega); omega)]; exact h22_7
    have h22_0 : R 61 (10 * gn.toInt.toNat + 0) = v38 := by rw [hw9, pk_un (fun h9 => by have h8 := tk_nat (i := v3769) rfl (by omega); omega)]; exact h22_0
    have h22_9 : R 61 (10 * gn.toInt.toNat + 9) = 1 := by rw [hw9, pk_un (fun h9 => by have h8 := tk_nat (i := v3769) rfl (by omega); omega)]; exact h22_9
    have hC9 := hC
    have hC : v3737.toInt = 0 → CLS 10 [1, 3, 5, 7] (R 24) (R 25) (Ra 61) gc.toInt gn.toInt := fun h9 => (hC9 (by omega)).to (hj9 24 (by decide)) (hj9 25 (by decide))
    have hX35239 := hX3523
    have hX3523 : v3737.toInt = 0 → WFX (R 24) (R 25) gc v3522 := fun h9 => by rw [hj9 24 (by decide), hj9 25 (by decide)]; exact hX35239 (by omega)
    have hX37159 := hX3715
    have hX3715 : v3737.toInt = 0 → WFX (R 24) (R 25) v3522 v3714 := fun h9 => by rw [hj9 24 (by decide), hj9 25 (by decide)]; exact hX37159 (by omega)
    have hX37409 := hX3740
    have hX3740 : v3737.toInt = 0 → WFX (R 24) (R 25) v3714 v3739 := fun h9 => by rw [hj9 24 (by decide), hj9 25 (by decide)]; exact hX37409 (by omega)
    have h22_8 : R 61 (10 * gn.toInt.toNat + 8) = v3739 := by rw [hw9, show 10 * gn.toInt.toNat + 8 = (v3769 : Int32).toNatClampNeg by show _ = v3769.toInt.toNat; omega]; exact pk_us
    have hRR := mz_frp (K := [24, 25, 27, 28, 61]) (Fa := Ra) hj9 hRR (by decide)
    have hk_1 : (1 : Int32).toInt = 1 := by decide
    exact mz_vret hx hb hr hlocks ⟨hIF, hIG, hIR, hFF, hRR, hGG, (by rw [hf3728, hf3730]; omega), (by rw [hf3730]; omega), (by rw [hf3728, hf3730, hf3732]; omega), (by rw [hf3728, hf3730, hf3732, hf3734]; omega), (by rw [hf3728]; omega), (by rw [hf3738]; omega), (by rw [hf3728, hf3738]; omega), (by rw [hf3736]; omega), (by rw [hf3728, hf3736]; omega), (by rw [hf3736, hf3738, hf111]; exact fun h9 => mz_snoc (N := gn.toInt.toNat) (hC h9) (by omega) (by omega) hL22 (by decide) (by omega) (by intro d hd; simp only [List.mem_cons, List.not_mem_nil, or_false] at hd; rcases hd with rfl | rfl | rfl | rfl <;> first | (rw [show 10 * gn.toInt.toNat + 1 + 1 = 10 * gn.toInt.toNat + 2 from rfl, h22_1, h22_2]; exact ⟨hX3523 h9, by omega⟩) | (rw [show 10 * gn.toInt.toNat + 3 + 1 = 10 * gn.toInt.toNat + 4 from rfl, h22_3, h22_4]; exact ⟨hX3715 h9, by omega⟩) | (rw [show 10 * gn.toInt.toNat + 5 + 1 = 10 * gn.toInt.toNat + 6 from rfl, h22_5, h22_6]; exact ⟨hX3740 h9, by omega⟩) | (rw [show 10 * gn.toInt.toNat + 7 + 1 = 10 * gn.toInt.toNat + 8 from rfl, h22_7, h22_8]; exact ⟨WFX.nil (by omega) (by omega), by omega⟩))), (by rw [hf3736, hf111]; exact fun h9 => TMS.snoc (N := gn.toInt.toNat) hx_1 (by omega) (by omega) hL22 h22_9 (by omega) (by omega))⟩ hM hS dX13_readOrder_273
  · have hc3768 : ¬ (v3761.toInt = 0) := fun h9 => c9 ((fi_eq rfl (show (0 : Int32).toInt = 0 by decide)).mpr h9)
    have hwk_3771 : w3735.toInt + (-294) = 0 ∧ v3733.toInt + (-1) = 0 := by omega
    have hwk_3772 : 0 ≤ (-1) * v3729.toInt + v3731.toInt + (-1) := by omega
    have hwk_3773 : 0 ≤ (-1) * v3729.toInt + v3731.toInt + (-2) := by omega
    refine lv_aload_n hx hb dX13_readOrder_251 rfl (lv_at hl 1 rfl) ?_
    refine mz_Vv (As := []) (rest := []) ⟨hx, hb, hml, hown, hts⟩ hK hM hS (k_X13_next l D cy ld ad am hD _ _ _ _ v3731 gp hIF hIG hIR hf3730 hg_3 (by omega)) ⟨callB_of 0 hts (wl_in mw_685) rfl rfl rfl (htl _ mw_5) (htl _ mw_682) hd_yX13_next ⟨(Nat.le_of_ble_eq_true rfl), (Nat.le_of_ble_eq_true rfl)⟩, htl _ mw_683, htl _ mw_684⟩ rfl hl.1 rfl (Nat.le_of_ble_eq_true rfl) dX13_readOrder_252 ⟨(Nat.le_of_ble_eq_true rfl), (Nat.le_of_ble_eq_true rfl)⟩ (fun H locs F G R S hpo hM hS => ?_)
    obtain ⟨hIF, hIG, hIR, hfr9, hrr9, hgr9, hpo3774, hpo3775, hpo3776, hpo3777, hpo3778⟩ := hpo
    have hFF := mz_fr (K := [14, 15, 16, 18, 19, 21, 23, 26, 29, 30]) (Fa := Fa) hfr9 hFF (by decide)
    have hRR := mz_fr (K := [24, 25, 27, 28, 61]) (Fa := Ra) hrr9 hRR (by decide)
    have hGG := mz_fr (K := [17]) (Fa := Ga) hgr9 hGG (by decide)
    have hg_3 := (hfr9 13 (by decide)).trans hg_3
    have hf111 := (hfr9 21 (by decide)).trans hf111
    have hf3736 := (hfr9 19 (by decide)).trans hf3736
    have hf3738 := (hfr9 23 (by decide)).trans hf3738
    obtain ⟨v3781, hf3780⟩ : ∃ z : Int32, F 14 = z := ⟨_, rfl⟩
    have hq_v3781 := tk_rng v3781
    rw [hf3780] at hpo3774 hpo3775 hpo3777 hpo3778
    have hr_v3781 : 0 ≤ v3781.toInt ∧ v3781.toInt ≤ 400 := hIF.at hf3780
    obtain ⟨v3783, hf3782⟩ : ∃ z : Int32, F 15 = z := ⟨_, rfl⟩
    have hq_v3783 := tk_rng v3783
    rw [hf3782] at hpo3775 hpo3776 hpo3777 hpo3778
    have hr_v3783 : 0 ≤ v3783.toInt ∧ v3783.toInt ≤ 400 := hIF.at hf3782
    obtain ⟨v3785, hf3784⟩ : ∃ z : Int32, F 16 = z := ⟨_, rfl⟩
    have hq_v3785 := tk_rng v3785
    rw [hf3784] at hpo3777 hpo3778
    have hr_v3785 : 0 ≤ v3785.toInt ∧ v3785.toInt ≤ 3 := hIF.at hf3784
    obtain ⟨w3787, hf3786⟩ : ∃ z : Int64, G 17 = z := ⟨_, rfl⟩
    have hq_w3787 := tk_rngL w3787
    rw [hf3786] at hpo3778
    have hL22 := hL22.to (hrr9 61 (by decide))
    have h22_1 := (congrFun (hrr9 61 (by decide)) _).trans h22_1
    have h22_2 := (congrFun (hrr9 61 (by decide)) _).trans h22_2
    have h22_3 := (congrFun (hrr9 61 (by decide)) _).trans h22_3
    have h22_4 := (congrFun (hrr9 61 (by decide)) _).trans h22_4
    have h22_5 := (congrFun (hrr9 61 (by decide)) _).trans h22_5
    have h22_6 := (congrFun (hrr9 61 (by decide)) _).trans h22_6
    have h22_7 := (congrFun (hrr9 61 (by decide)) _).trans h22_7
    have h22_8 := (congrFun (hrr9 61 (by decide)) _).trans h22_8
    have h22_0 := (congrFun (hrr9 61 (by decide)) _).trans h22_0
    have h22_9 := (congrFun (hrr9 61 (by decide)) _).trans h22_9
    have hC9 := hC
    have hC : v3737.toInt = 0 → CLS 10 [1, 3, 5, 7] (R 24) (R 25) (Ra 61) gc.toInt gn.toInt := fun h9 => (hC9 (by omega)).to (hrr9 24 (by decide)) (hrr9 25 (by decide))
    have hX35239 := hX3523
    have hX3523 : v3737.toInt = 0 → WFX (R 24) (R 25) gc v3522 := fun h9 => by rw [hrr9 24 (by decide), hrr9 25 (by decide)]; exact hX35239 (by omega)
    have hX37159 := hX3715
    have hX3715 : v3737.toInt = 0 → WFX (R 24) (R 25) v3522 v3714 := fun h9 => by rw [hrr9 24 (by decide), hrr9 25 (by decide)]; exact hX37159 (by omega)
    have hX37409 := hX3740
    have hX3740 : v3737.toInt = 0 → WFX (R 24) (R 25) v3714 v3739 := fun h9 => by rw [hrr9 24 (by decide), hrr9 25 (by decide)]; exact hX37409 (by omega)
    refine lv_aload_n hx hb dX13_readOrder_255 rfl (lv_at hl 1 rfl) ?_
    refine lv_iconst (v := 1) hx hb dX13_readOrder_256 (by decide) ?_
    have hk_1 : (1 : Int32).toInt = 1 := by decide
    refine mz_Vv (As := [.int 1]) (rest := []) ⟨hx, hb, hml, hown, hts⟩ hK hM hS (k_X13_readExpression l D cy ld ad am hD _ _ _ _ 1 v3781 v3783 v3785 gp w3787 v3737 v3739 hIF hIG hIR hf3780 hf3782 hf3784 hg_3 hf3786 hf3736 hf3738 (by omega) (by omega) (by omega) (by omega) (by omega) (by omega) (by omega) (by omega)) ⟨callB_of 1 hts (wl_in mw_717) rfl rfl rfl (htl _ mw_5) (htl _ mw_714) hd_yX13_readExpression ⟨(Nat.le_of_ble_eq_true rfl), (Nat.le_of_ble_eq_true rfl)⟩, htl _ mw_715, htl _ mw_716⟩ rfl hl.1 rfl (Nat.le_of_ble_eq_true rfl) dX13_readOrder_257 ⟨(Nat.le_of_ble_eq_true rfl), (Nat.le_of_ble_eq_true rfl)⟩ (fun H locs F G R S hpo hM hS => ?_)
    obtain ⟨hIF, hIG, hIR, hfr9, hrr9, hgr9, hpo3788, hpo3789, hpo3790, hpo3791, hpo3792, hpo3793, hpo3794, hx3795⟩ := hpo
    have hFF := mz_fr (K := [14, 15, 16, 18, 19, 21, 23, 26, 29, 30]) (Fa := Fa) hfr9 hFF (by decide)
    have hRR := mz_fr (K := [24, 25, 27, 28, 61]) (Fa := Ra) hrr9 hRR (by decide)
    have hGG := mz_fr (K := [17]) (Fa := Ga) hgr9 hGG (by decide)
    have hg_3 := (hfr9 13 (by decide)).trans hg_3
    have hf111 := (hfr9 21 (by decide)).trans hf111
    obtain ⟨v3798, hf3797⟩ : ∃ z : Int32, F 14 = z := ⟨_, rfl⟩
    have hq_v3798 := tk_rng v3798
    rw [hf3797] at hpo3788 hpo3790 hpo3791 hpo3792 hpo3793
    have hr_v3798 : 0 ≤ v3798.toInt ∧ v3798.toInt ≤ 400 := hIF.at hf3797
    obtain ⟨v3800, hf3799⟩ : ∃ z : Int32, F 15 = z := ⟨_, rfl⟩
    have hq_v3800 := tk_rng v3800
    rw [hf3799] at hpo3788 hpo3789 hpo3790 hpo3791
    have hr_v3800 : 0 ≤ v3800.toInt ∧ v3800.toInt ≤ 400 := hIF.at hf3799
    obtain ⟨v3802, hf3801⟩ : ∃ z : Int32, F 16 = z := ⟨_, rfl⟩
    have hq_v3802 := tk_rng v3802
    rw [hf3801] at hpo3790 hpo3791
    have hr_v3802 : 0 ≤ v3802.toInt ∧ v3802.toInt ≤ 3 := hIF.at hf3801
    obtain ⟨w3804, hf3803⟩ : ∃ z : Int64, G 17 = z := ⟨_, rfl⟩
    have hq_w3804 := tk_rngL w3804
    rw [hf3803] at hpo3791
    obtain ⟨v3806, hf3805⟩ : ∃ z : Int32, F 19 = z := ⟨_, rfl⟩
    have hq_v3806 := tk_rng v3806
    have hr_v3806 : 0 ≤ v3806.toInt ∧ v3806.toInt ≤ 1 := hIF.at hf3805
    obtain ⟨v3808, hf3807⟩ : ∃ z : Int32, F 23 = z := ⟨_, rfl⟩
    have hq_v3808 := tk_rng v3808
    rw [hf3807] at hpo3793 hpo3794
    have hr_v3808 : 0 ≤ v3808.toInt ∧ v3808.toInt ≤ 400 := hIF.at hf3807
    have hL22 := hL22.to (hrr9 61 (by decide))
    have h22_1 := (congrFun (hrr9 61 (by decide)) _).trans h22_1
    have h22_2 := (congrFun (hrr9 61 (by decide)) _).trans h22_2
    have h22_3 := (congrFun (hrr9 61 (by decide)) _).trans h22_3
    have h22_4 := (congrFun (hrr9 61 (by decide)) _).trans h22_4
    have h22_5 := (congrFun (hrr9 61 (by decide)) _).trans h22_5
    have h22_6 := (congrFun (hrr9 61 (by decide)) _).trans h22_6
    have h22_7 := (congrFun (hrr9 61 (by decide)) _).trans h22_7
    have h22_8 := (congrFun (hrr9 61 (by decide)) _).trans h22_8
    have h22_0 := (congrFun (hrr9 61 (by decide)) _).trans h22_0
    have h22_9 := (congrFun (hrr9 61 (by decide)) _).trans h22_9
    have hE9 : v3806.toInt = 0 → WFC (R 24) (R 25) v3739.toInt.toNat v3808.toInt.toNat ∧ low v3739.toInt.toNat _ (R 24) ∧ low v3739.toInt.toNat _ (R 25) := fun h9 => by have h8 := hx3795 (by rw [hf3805]; exact h9); rw [hf3807] at h8; exact h8
    have hC9 := hC (by omega)
    have hC : v3806.toInt = 0 → CLS 10 [1, 3, 5, 7] (R 24) (R 25) (Ra 61) gc.toInt gn.toInt := fun h9 => hC9.low (N := v3739.toInt.toNat) (by omega) (hE9 h9).2.1 (hE9 h9).2.2
    have hX35239 := hX3523 (by omega)
    have hX3523 : v3806.toInt = 0 → WFX (R 24) (R 25) gc v3522 := fun h9 => hX35239.low (n := v3739.toInt.toNat) (by omega) (hE9 h9).2.1 (hE9 h9).2.2
    have hX37159 := hX3715 (by omega)
    have hX3715 : v3806.toInt = 0 → WFX (R 24) (R 25) v3522 v3714 := fun h9 => hX37159.low (n := v3739.toInt.toNat) (by omega) (hE9 h9).2.1 (hE9 h9).2.2
    have hX37409 := hX3740 (by omega)
    have hX3740 : v3806.toInt = 0 → WFX (R 24) (R 25) v3714 v3739 := fun h9 => hX37409.low (n := v3739.toInt.toNat) (by omega) (hE9 h9).2.1 (hE9 h9).2.2
    have hX3809 : v3806.toInt = 0 → WFX (R 24) (R 25) v3739 v3808 := fun h9 => ⟨by omega, by omega, by omega, (hE9 h9).1⟩
    refine lv_aload_n hx hb dX13_readOrder_260 rfl (lv_at hl 1 rfl) ?_
    refine mz_getR hx hb htl hown hK hM 61 (Nat.le_of_ble_eq_true rfl) (Nat.le_of_ble_eq_true rfl) (htl _ mw_239) (fun _ h9 => h9) dX13_readOrder_261 ?_
    refine lv_iload_n hx hb dX13_readOrder_264 rfl (lv_at hl 0 rfl) ?_
    refine lv_bipush (v := 8) hx hb dX13_readOrder_265 (by decide) ?_
    refine lv_iadd hx hb dX13_readOrder_267 ?_
    refine tk_add rfl (show (8 : Int32).toInt = 8 by decide) (by omega) (by omega) (fun v3810 h_v3810 => ?_)
    refine lv_aload_n hx hb dX13_readOrder_268 rfl (lv_at hl 1 rfl) ?_
    refine mz_getI hx hb htl hown hK hM 23 (Nat.le_of_ble_eq_true rfl) rfl (htl _ mw_670) (fun _ h9 => h9) dX13_readOrder_269 (fun v9 e9 => ?_)
    refine fx_ti (v := v3808) (e9.symm.trans hf3807) ?_
    refine mz_iast (x := v3808) hx hb hK hD hM hS 61 (Nat.le_of_ble_eq_true rfl) rfl (nn := 120) rfl rfl (by omega) (by omega) dX13_readOrder_272 (fun H locs R hM hS hw9 hj9 => ?_)
    have hIR := hIR.put hw9 hj9 trivial
    have hL22 : low (10 * gn.toInt.toNat) (Ra 61) (R 61) := fun j hj => by rw [hw9, pk_un (fun h9 => by have h8 := tk_nat (i := v3810) rfl (by omega); omega)]; exact hL22 j hj
    have h22_1 : R 61 (10 * gn.toInt.toNat + 1) = gc := by rw [hw9, pk_un (fun h9 => by have h8 := tk_nat (i := v3810) rfl (by omega); omega)]; exact h22_1
    have h22_2 : R 61 (10 * gn.toInt.toNat + 2) = v3522 := by rw [hw9, pk_un (fun h9 => by have h8 := tk_nat (i := v3810) rfl (by omega); omega)]; exact h22_2
    have h22_3 : R 61 (10 * gn.toInt.toNat + 3) = v3522 := by rw [hw9, pk_un (fun h9 => by have h8 := tk_nat (i := v3810) rfl (by omega); omega)]; exact h22_3
    have h22_4 : R 61 (10 * gn.toInt.toNat + 4) = v3714 := by rw [hw9, pk_un (fun h9 => by have h8 := tk_nat (i := v3810) rfl (by omega); omega)]; exact h22_4
    have h22_5 : R 61 (10 * gn.toInt.toNat + 5) = v3714 := by rw [hw9, pk_un (fun h9 => by have h8 := tk_nat (i := v3810) rfl (by omega); omega)]; exact h22_5
    have h22_6 : R 61 (10 * gn.toInt.toNat + 6) = v3739 := by rw [hw9, pk_un (fun h9 => by have h8 := tk_nat (i := v3810) rfl (by omega); omega)]; exact h22_6
    have h22_7 : R 61 (10 * gn.toInt.toNat + 7) = v3739 := by rw [hw9, pk_un (fun h9 => by have h8 := tk_nat (i := v3810) rfl (by omega); omega)]; exact h22_7
    have h22_0 : R 61 (10 * gn.toInt.toNat + 0) = v38 := by rw [hw9, pk_un (fun h9 => by have h8 := tk_nat (i := v3810) rfl (by omega); omega)]; exact h22_0
    have h22_9 : R 61 (10 * gn.toInt.toNat + 9) = 1 := by rw [hw9, pk_un (fun h9 => by have h8 := tk_nat (i := v3810) rfl (by omega); omega)]; exact h22_9
    have hC9 := hC
    have hC : v3806.toInt = 0 → CLS 10 [1, 3, 5, 7] (R 24) (R 25) (Ra 61) gc.toInt gn.toInt := fun h9 => (hC9 (by omega)).to (hj9 24 (by decide)) (hj9 25 (by decide))
    have hX35239 := hX3523
    have hX3523 : v3806.toInt = 0 → WFX (R 24) (R 25) gc v3522 := fun h9 => by rw [hj9 24 (by decide), hj9 25 (by decide)]; exact hX35239 (by omega)
    have hX37159 := hX3715
    have hX3715 : v3806.toInt = 0 → WFX (R 24) (R 25) v3522 v3714 := fun h9 => by rw [hj9 24 (by decide), hj9 25 (by decide)]; exact hX37159 (by omega)
    have hX37409 := hX3740
    have hX3740 : v3806.toInt = 0 → WFX (R 24) (R 25) v3714 v3739 := fun h9 => by rw [hj9 24 (by decide), hj9 25 (by decide)]; exact hX37409 (by omega)
    have hX38099 := hX3809
    have hX3809 : v3806.toInt = 0 → WFX (R 24) (R 25) v3739 v3808 := fun h9 => by rw [hj9 24 (by decide), hj9 25 (by decide)]; exact hX38099 (by omega)
    have h22_8 : R 61 (10 * gn.toInt.toNat + 8) = v3808 := by rw [hw9, show 10 * gn.toInt.toNat + 8 = (v3810 : Int32).toNatClampNeg by show _ = v3810.toInt.toNat; omega]; exact pk_us
    have hRR := mz_frp (K := [24, 25, 27, 28, 61]) (Fa := Ra) hj9 hRR (by decide)
    have hk_1 : (1 : Int32).toInt = 1 := by decide
    exact mz_vret hx hb hr hlocks ⟨hIF, hIG, hIR, hFF, hRR, hGG, (by rw [hf3797, hf3799]; omega), (by rw [hf3799]; omega), (by rw [hf3797, hf3799, hf3801]; omega), (by rw [hf3797, hf3799, hf3801, hf3803]; omega), (by rw [hf3797]; omega), (by rw [hf3807]; omega), (by rw [hf3797, hf3807]; omega), (by rw [hf3805]; omega), (by rw [hf3797, hf3805]; omega), (by rw [hf3805, hf3807, hf111]; exact fun h9 => mz_snoc (N := gn.toInt.toNat) (hC h9) (by omega) (by omega) hL22 (by decide) (by omega) (by intro d hd; simp only [List.mem_cons, List.not_mem_nil, or_false] at hd; rcases hd with rfl | rfl | rfl | rfl <;> first | (rw [show 10 * gn.toInt.toNat + 1 + 1 = 10 * gn.toInt.toNat + 2 from rfl, h22_1, h22_2]; exact ⟨hX3523 h9, by omega⟩) | (rw [show 10 * gn.toInt.toNat + 3 + 1 = 10 * gn.toInt.toNat + 4 from rfl, h22_3, h22_4]; exact ⟨hX3715 h9, by omega⟩) | (rw [show 10 * gn.toInt.toNat + 5 + 1 = 10 * gn.toInt.toNat + 6 from rfl, h22_5, h22_6]; exact ⟨hX3740 h9, by omega⟩) | (rw [show 10 * gn.toInt.toNat + 7 + 1 = 10 * gn.toInt.toNat + 8 from rfl, h22_7, h22_8]; exact ⟨hX3809 h9, by omega⟩))), (by rw [hf3805, hf111]; exact fun h9 => TMS.snoc (N := gn.toInt.toNat) hx_1 (by omega) (by omega) hL22 h22_9 (by omega) (by omega))⟩ hM hS dX13_readOrder_273
set_option maxHeartbeats 4000000 in
set_option maxRecDepth 100000 in
theorem kz_X13_readOrder_c11 (l : Launch) (D : va_G) (cy : Nat → ClassId) (ld ad : Nat → Nat) (am : Nat) (hD : mz_D ad am) (Fa : Nat → Int32) (Ga : Nat → Int64) (Ra : Nat → Nat → Int32) (Sa : Nat → Nat → Int64) (gf : Int32) (gt : Int32) (gs : Int32) (gp : Int32) (gw : Int64) (gb : Int32) (gc : Int32) (gn : Int32) {p : Program} {e : Env} {s : State} {m : MethodId} {args : Array Value} {below : List Frame} {meth : Method} {c : Code} (hx : p.tables.exec = Jvm.exec) (hb : c.code = cX13_readOrder) (hr : meth.sig.returnType = none) (hml : c.maxLocals = 4) (hts : ∀ w ∈ wl yX13_readOrder cX13_readOrder 4 none, w.before args s = true) (htl : ∀ w ∈ wsA, w.before args s = true) (hown : s.vm.findClass RX13 = some m.cls) (hlocks : meth.locks = false) (hK : kk_K D cy ld s) (hp_0 : 0 ≤ (-1) * gf.toInt + gt.toInt) (hp_1 : 0 ≤ gp.toInt + (-1) * gt.toInt) (hp_2 : (1 ≤ gs.toInt → 0 ≤ (-1) * gf.toInt + gt.toInt + (-1))) (hp_3 : (27 ≤ gw.toInt → 1 ≤ gs.toInt → gs.toInt ≤ 1 → 0 ≤ (-1) * gf.toInt + gt.toInt + (-2))) (hp_4 : 0 ≤ (-1) * gc.toInt + gf.toInt) (hp_5 : gb.toInt ≤ 0) (hg_0 : Fa 14 = gf) (hg_1 : Fa 15 = gt) (hg_2 : Fa 16 = gs) (hg_3 : Fa 13 = gp) (hg_4 : Ga 17 = gw) (hg_5 : Fa 19 = gb) (hg_6 : Fa 23 = gc) (hg_7 : Fa 21 = gn) (hx_0 : CLS 10 [1, 3, 5, 7] (Ra 24) (Ra 25) (Ra 61) gc.toInt gn.toInt) (hx_1 : TMS (Ra 61) gn.toInt) (v108 : Int32) (v109 : Int32) (v3522 : Int32) (v3714 : Int32) (v3739 : Int32) (v38 : Int32) (v3830 : Int32) (v3840 : Int32) (v3842 : Int32) (v3844 : Int32) (v3848 : Int32) (w3846 : Int64) (H : Heap) (locs : List Loc) (F : Nat → Int32) (G : Nat → Int64) (R : Nat → Nat → Int32) (S : Nat → Nat → Int64) (hq0_kz_X13_readOrder_c11 : v109.toInt ≤ 12) (hq1_kz_X13_readOrder_c11 : 0 ≤ v38.toInt) (hq2_kz_X13_readOrder_c11 : v3842.toInt ≤ 400) (hq3_kz_X13_readOrder_c11 : 0 ≤ v3844.toInt) (hq4_kz_X13_readOrder_c11 : v3844.toInt ≤ 3) (hq5_kz_X13_readOrder_c11 : 0 ≤ v3848.toInt) (hq6_kz_X13_readOrder_c11 : v3848.toInt ≤ 1) (hq7_kz_X13_readOrder_c11 : 0 ≤ (-1) * gf.toInt + gt.toInt + (-1)) (hq8_kz_X13_readOrder_c11 : (-10) * gn.toInt + v108.toInt = 0) (hq9_kz_X13_readOrder_c11 : (-1) * gn.toInt + v109.toInt + (-1) = 0) (hq10_kz_X13_readOrder_c11 : 0 ≤ (-1) * gc.toInt + v3522.toInt) (hq11_kz_X13_readOrder_c11 : 0 ≤ (-1) * v3522.toInt + v3714.toInt) (hq12_kz_X13_readOrder_c11 : 0 ≤ (-1) * v3714.toInt + v3739.toInt) (hq13_kz_X13_readOrder_c11 : 0 ≤ gb.toInt + (-1) * v38.toInt) (hq14_kz_X13_readOrder_c11 : 0 ≤ gc.toInt + (-1) * v38.toInt) (hq15_kz_X13_readOrder_c11 : 0 ≤ gs.toInt + (-1) * v38.toInt + (-1)) (hq16_kz_X13_readOrder_c11 : 0 ≤ (-1) * gs.toInt + v38.toInt + 1) (hq17_kz_X13_readOrder_c11 : 0 ≤ (-1) * v3840.toInt + v3842.toInt) (hq18_kz_X13_readOrder_c11 : 0 ≤ gp.toInt + (-1) * v3842.toInt) (hq19_kz_X13_readOrder_c11 : 0 ≤ (-1) * gb.toInt + v109.toInt + (-1)) (hq20_kz_X13_readOrder_c11 : 0 ≤ (-1) * gt.toInt + v3840.toInt + (-2)) (hq21_kz_X13_readOrder_c11 : 0 ≤ (-1) * v3739.toInt + v3840.toInt + (-2)) (hM : mz_S D cy ad am F G R S H) (hS : va_S (mz_W ad am) s.heap H locs) (hIF : mz_IF false F) (hIG : mz_IG G) (hIR : mz_IR [] true R) (hFF : ∀ k : Nat, k ∉ ([14, 15, 16, 18, 19, 21, 23, 26, 29, 30] : List Nat) → F k = Fa k) (hGG : ∀ k : Nat, k ∉ ([17] : List Nat) → G k = Ga k) (hRR : ∀ k : Nat, k ∉ ([24, 25, 27, 28, 61] : List Nat) → R k = Ra k) (hg_3 : F 13 = gp) (hf111 : F 21 = v109) (hf3738 : F 23 = v3739) (hf3839 : F 14 = v3840) (hf3841 : F 15 = v3842) (hf3843 : F 16 = v3844) (hf3845 : G 17 = w3846) (hf3847 : F 19 = v3848) (hc0_kz_X13_readOrder_c11 : (27 ≤ gw.toInt → 1 ≤ gs.toInt → gs.toInt ≤ 1 → 0 ≤ (-1) * gf.toInt + gt.toInt + (-2))) (hc1_kz_X13_readOrder_c11 : (27 ≤ gw.toInt → 1 ≤ gs.toInt → gs.toInt ≤ 1 → 0 ≤ (-1) * gf.toInt + gt.toInt + (-2))) (hc2_kz_X13_readOrder_c11 : (1 ≤ v3844.toInt → 0 ≤ (-1) * v3840.toInt + v3842.toInt + (-1))) (hc3_kz_X13_readOrder_c11 : (27 ≤ w3846.toInt → 1 ≤ v3844.toInt → v3844.toInt ≤ 1 → 0 ≤ (-1) * v3840.toInt + v3842.toInt + (-2))) (hL22 : low (10 * gn.toInt.toNat) (Ra 61) (R 61)) (hC : v3848.toInt = 0 → CLS 10 [1, 3, 5, 7] (R 24) (R 25) (Ra 61) gc.toInt gn.toInt) (h22_1 : R 61 (10 * gn.toInt.toNat + 1) = gc) (h22_2 : R 61 (10 * gn.toInt.toNat + 2) = v3522) (h22_3 : R 61 (10 * gn.toInt.toNat + 3) = v3522) (h22_4 : R 61 (10 * gn.toInt.toNat + 4) = v3714) (h22_5 : R 61 (10 * gn.toInt.toNat + 5) = v3714) (h22_6 : R 61 (10 * gn.toInt.toNat + 6) = v3739) (h22_7 : R 61 (10 * gn.toInt.toNat + 7) = 0) (h22_8 : R 61 (10 * gn.toInt.toNat + 8) = 0) (h22_0 : R 61 (10 * gn.toInt.toNat + 0) = v38) (h22_9 : R 61 (10 * gn.toInt.toNat + 9) = v3830) (hX3523 : v3848.toInt = 0 → WFX (R 24) (R 25) gc v3522) (hX3715 : v3848.toInt = 0 → WFX (R 24) (R 25) v3522 v3714) (hX3740 : v3848.toInt = 0 → WFX (R 24) (R 25) v3714 v3739) (ls : Array Slot) (hl : lv_has ls 4 [(2, .int v108), (0, .ref am)]) : W p l e ({ frames := 12, cells := 0, slots := 0, locals := 770 }) s m args below meth c H locs 0 0 (MQ below (mz_w D cy ad am (fun F G R S => mz_IF false F ∧ mz_IG G ∧ mz_IR [] true R ∧ (∀ k : Nat, k ∉ ([14, 15, 16, 18, 19, 21, 23, 26, 29, 30] : List Nat) → F k = Fa k) ∧ (∀ k : Nat, k ∉ ([24, 25, 27, 28, 61] : List Nat) → R k = Ra k) ∧ (∀ k : Nat, k ∉ ([17] : List Nat) → G k = Ga k) ∧ 0 ≤ (-1) * (F 14).toInt + (F 15).toInt ∧ 0 ≤ gp.toInt + (-1) * (F 15).toInt ∧ (1 ≤ (F 16).toInt → 0 ≤ (-1) * (F 14).toInt + (F 15).toInt + (-1)) ∧ (27 ≤ (G 17).toInt → 1 ≤ (F 16).toInt → (F 16).toInt ≤ 1 → 0 ≤ (-1) * (F 14).toInt + (F 15).toInt + (-2)) ∧ 0 ≤ (-1) * gf.toInt + (F 14).toInt ∧ 0 ≤ (-1) * gc.toInt + (F 23).toInt ∧ 0 ≤ (-1) * (F 23).toInt + (F 14).toInt ∧ 0 ≤ (-1) * gb.toInt + (F 19).toInt ∧ ((F 19).toInt ≤ 0 → 0 ≤ (-1) * gf.toInt + (F 14).toInt + (-1)) ∧ ((F 19).toInt = 0 → CLS 10 [1, 3, 5, 7] (R 24) (R 25) (R 61) (F 23).toInt (F 21).toInt) ∧ ((F 19).toInt = 0 → TMS (R 61) (F 21).toInt))) args s 0 0 (mz_W ad am)) (F0 m 221 ls []) := by
  have hq_gb := tk_rng gb
  have hq_gc := tk_rng gc
  have hq_gf := tk_rng gf
  have hq_gn := tk_rng gn
  have hq_gp := tk_rng gp
  have hq_gs := tk_rng gs
  have hq_gt := tk_rng gt
  have hq_gw := tk_rngL gw
  have hq_v108 := tk_rng v108
  have hq_v109 := tk_rng v109
  have hq_v3522 := tk_rng v3522
  have hq_v3714 := tk_rng v3714
  have hq_v3739 := tk_rng v3739
  have hq_v38 := tk_rng v38
  have hq_v3830 := tk_rng v3830
  have hq_v3840 := tk_rng v3840
  have hq_v3842 := tk_rng v3842
  have hq_v3844 := tk_rng v3844
  have hq_v3848 := tk_rng v3848
  have hq_w3846 := tk_rngL w3846
  have hr_gp : 0 ≤ gp.toInt ∧ gp.toInt ≤ 400 := hIF.at hg_3
  have hr_v109 : 0 ≤ v109.toInt ∧ v109.toInt ≤ 12 := hIF.at hf111
  have hr_v3739 : 0 ≤ v3739.toInt ∧ v3739.toInt ≤ 400 := hIF.at hf3738
  have hr_v3840 : 0 ≤ v3840.toInt ∧ v3840.toInt ≤ 400 := hIF.at hf3839
  have hr_v3842 : 0 ≤ v3842.toInt ∧ v3842.toInt ≤ 400 := hIF.at hf3841
  have hr_v3844 : 0 ≤ v3844.toInt ∧ v3844.toInt ≤ 3 := hIF.at hf3843
  have hr_v3848 : 0 ≤ v3848.toInt ∧ v3848.toInt ≤ 1 := hIF.at hf3847
  refine lv_aload_n hx hb dX13_readOrder_221 rfl (lv_at hl 1 rfl) ?_
  refine mz_getR hx hb htl hown hK hM 61 (Nat.le_of_ble_eq_true rfl) (Nat.le_of_ble_eq_true rfl) (htl _ mw_239) (fun _ h9 => h9) dX13_readOrder_222 ?_
  refine lv_iload_n hx hb dX13_readOrder_225 rfl (lv_at hl 0 rfl) ?_
  refine lv_bipush (v := 7) hx hb dX13_readOrder_226 (by decide) ?_
  refine lv_iadd hx hb dX13_readOrder_228 ?_
  refine tk_add rfl (show (7 : Int32).toInt = 7 by decide) (by omega) (by omega) (fun v3851 h_v3851 => ?_)
  refine lv_aload_n hx hb dX13_readOrder_229 rfl (lv_at hl 1 rfl) ?_
  refine mz_getI hx hb htl hown hK hM 23 (Nat.le_of_ble_eq_true rfl) rfl (htl _ mw_670) (fun _ h9 => h9) dX13_readOrder_230 (fun v9 e9 => ?_)
  refine fx_ti (v := v3739) (e9.symm.trans hf3738) ?_
  refine mz_iast (x := v3739) hx hb hK hD hM hS 61 (Nat.le_of_ble_eq_true rfl) rfl (nn := 120) rfl rfl (by omega) (by omega) dX13_readOrder_233 (fun H locs R hM hS hw9 hj9 => ?_)
  have hIR := hIR.put hw9 hj9 trivial
  have hL22 : low (10 * gn.toInt.toNat) (Ra 61) (R 61) := fun j hj => by rw [hw9, pk_un (fun h9 => by have h8 := tk_nat (i := v3851) rfl (by omega); omega)]; exact hL22 j hj
  have h22_1 : R 61 (10 * gn.toInt.toNat + 1) = gc := by rw [hw9, pk_un (fun h9 => by have h8 := tk_nat (i := v3851) rfl (by omega); omega)]; exact h22_1
  have h22_2 : R 61 (10 * gn.toInt.toNat + 2) = v3522 := by rw [hw9, pk_un (fun h9 => by have h8 := tk_nat (i := v3851) rfl (by omega); omega)]; exact h22_2
  have h22_3 : R 61 (10 * gn.toInt.toNat + 3) = v3522 := by rw [hw9, pk_un (fun h9 => by have h8 := tk_nat (i := v3851) rfl (by omega); omega)]; exact h22_3
  have h22_4 : R 61 (10 * gn.toInt.toNat + 4) = v3714 := by rw [hw9, pk_un (fun h9 => by have h8 := tk_nat (i := v3851) rfl (by omega); omega)]; exact h22_4
  have h22_5 : R 61 (10 * gn.toInt.toNat + 5) = v3714 := by rw [hw9, pk_un (fun h9 => by have h8 := tk_nat (i := v3851) rfl (by omega); omega)]; exact h22_5
  have h22_6 : R 61 (10 * gn.toInt.toNat + 6) = v3739 := by rw [hw9, pk_un (fun h9 => by have h8 := tk_nat (i := v3851) rfl (by omega); omega)]; exact h22_6
  have h22_8 : R 61 (10 * gn.toInt.toNat + 8) = 0 := by rw [hw9, pk_un (fun h9 => by have h8 := tk_nat (i := v3851) rfl (by omega); omega)]; exact h22_8
  have h22_0 : R 61 (10 * gn.toInt.toNat + 0) = v38 := by rw [hw9, pk_un (fun h9 => by have h8 := tk_nat (i := v3851) rfl (by omega); omega)]; exact h22_0
  have h22_9 : R 61 (10 * gn.toInt.toNat + 9) = v3830 := by rw [hw9, pk_un (fun h9 => by have h8 := tk_nat (i := v3851) rfl (by omega); omega)]; exact h22_9
  have hC9 := hC
  have hC : v3848.toInt = 0 → CLS 10 [1, 3, 5, 7] (R 24) (R 25) (Ra 61) gc.toInt gn.toInt := fun h9 => (hC9 (by omega)).to (hj9 24 (by decide)) (hj9 25 (by decide))
  have hX35239 := hX3523
  have hX3523 : v3848.toInt = 0 → WFX (R 24) (R 25) gc v3522 := fun h9 => by rw [hj9 24 (by decide), hj9 25 (by decide)]; exact hX35239 (by omega)
  have hX37159 := hX3715
  have hX3715 : v3848.toInt = 0 → WFX (R 24) (R 25) v3522 v3714 := fun h9 => by rw [hj9 24 (by decide), hj9 25 (by decide)]; exact hX37159 (by omega)
  have hX37409 := hX3740
  have hX3740 : v3848.toInt = 0 → WFX (R 24) (R 25) v3714 v3739 := fun h9 => by rw [hj9 24 (by decide), hj9 25 (by decide)]; exact hX37409 (by omega)
  have h22_7 : R 61 (10 * gn.toInt.toNat + 7) = v3739 := by rw [hw9, show 10 * gn.toInt.toNat + 7 = (v3851 : Int32).toNatClampNeg by show _ = v3851.toInt.toNat; omega]; exact pk_us
  have hRR := mz_frp (K := [24, 25, 27, 28, 61]) (Fa := Ra) hj9 hRR (by decide)
  refine lv_aload_n hx hb dX13_readOrder_234 rfl (lv_at hl 1 rfl) ?_
  refine mz_getI hx hb htl hown hK hM 19 (Nat.le_of_ble_eq_true rfl) rfl (htl _ mw_668) (fun _ h9 => h9) dX13_readOrder_235 (fun v9 e9 => ?_)
  refine fx_ti (v := v3848) (e9.symm.trans hf3847) ?_
  refine lv_if_ne (tgt := 260) hx hb dX13_readOrder_238 (by decide) (fun c9 => ?_) (fun c9 => ?_)
  · have hc3853 : ¬ (v3848.toInt = 0) := fun h9 => c9 ((fi_eq rfl (show (0 : Int32).toInt = 0 by decide)).mpr h9)
    refine lv_aload_n hx hb dX13_readOrder_260 rfl (lv_at hl 1 rfl) ?_
    refine mz_getR hx hb htl hown hK hM 61 (Nat.le_of_ble_eq_true rfl) (Nat.le_of_ble_eq_true rfl) (htl _ mw_239) (fun _ h9 => h9) dX13_readOrder_261 ?_
    refine lv_iload_n hx hb dX13_readOrder_264 rfl (lv_at hl 0 rfl) ?_
    refine lv_bipush (v := 8) hx hb dX13_readOrder_265 (by decide) ?_
    refine lv_iadd hx hb dX13_readOrder_267 ?_
    refine tk_add rfl (show (8 : Int32).toInt = 8 by decide) (by omega) (by omega) (fun v3854 h_v3854 => ?_)
    refine lv_aload_n hx hb dX13_readOrder_268 rfl (lv_at hl 1 rfl) ?_
    refine mz_getI hx hb htl hown hK hM 23 (Nat.le_of_ble_eq_true rfl) rfl (htl _ mw_670) (fun _ h9 => h9) dX13_readOrder_269 (fun v9 e9 => ?_)
    refine fx_ti (v := v3739) (e9.symm.trans hf3738) ?_
    refine mz_iast (x := v3739) hx hb hK hD hM hS 61 (Nat.le_of_ble_eq_true rfl) rfl (nn := 120) rfl rfl (by omega) (by omega) dX13_readOrder_272 (fun H locs R hM hS hw9 hj9 => ?_)
    have hIR := hIR.put hw9 hj9 trivial
    have hL22 : low (10 * gn.toInt.toNat) (Ra 61) (R 61) := fun j hj => by rw [hw9, pk_un (fun h9 => by have h8 := tk_nat (i := v3854) rfl (by omega); omega)]; exact hL22 j hj
    have h22_1 : R 61 (10 * gn.toInt.toNat + 1) = gc := by rw [hw9, pk_un (fun h9 => by have h8 := tk_nat (i := v3854) rfl (by omega); omega)]; exact h22_1
    have h22_2 : R 61 (10 * gn.toInt.toNat + 2) = v3522 := by rw [hw9, pk_un (fun h9 => by have h8 := tk_nat (i := v3854) rfl (by omega); omega)]; exact h22_2
    have h22_3 : R 61 (10 * gn.toInt.toNat + 3) = v3522 := by rw [hw9, pk_un (fun h9 => by have h8 := tk_nat (i := v3854) rfl (by omega); omega)]; exact h22_3
    have h22_4 : R 61 (10 * gn.toInt.toNat + 4) = v3714 := by rw [hw9, pk_un (fun h9 => by have h8 := tk_nat (i := v3854) rfl (by omega); omega)]; exact h22_4
    have h22_5 : R 61 (10 * gn.toInt.toNat + 5) = v3714 := by rw [hw9, pk_un (fun h9 => by have h8 := tk_nat (i := v3854) rfl (by omega); omega)]; exact h22_5
    have h22_6 : R 61 (10 * gn.toInt.toNat + 6) = v3739 := by rw [hw9, pk_un (fun h9 => by have h8 := tk_nat (i := v3854) rfl (by omega); omega)]; exact h22_6
    have h22_7 : R 61 (10 * gn.toInt.toNat + 7) = v3739 := by rw [hw9, pk_un (fun h9 => by have h8 := tk_nat (i := v3854) rfl (by omega); omega)]; exact h22_7
    have h22_0 : R 61 (10 * gn.toInt.toNat + 0) = v38 := by rw [hw9, pk_un (fun h9 => by have h8 := tk_nat (i := v3854) rfl (by omega); omega)]; exact h22_0
    have h22_9 : R 61 (10 * gn.toInt.toNat + 9) = v3830 := by rw [hw9, pk_un (fun h9 => by have h8 := tk_nat (i := v3854) rfl (by omega); omega)]; exact h22_9
    have hC9 := hC
    have hC : v3848.toInt = 0 → CLS 10 [1, 3, 5, 7] (R 24) (R 25) (Ra 61) gc.toInt gn.toInt := fun h9 => (hC9 (by omega)).to (hj9 24 (by decide)) (hj9 25 (by decide))
    have hX35239 := hX3523
    have hX3523 : v3848.toInt = 0 → WFX (R 24) (R 25) gc v3522 := fun h9 => by rw [hj9 24 (by decide), hj9 25 (by decide)]; exact hX35239 (by omega)
    have hX37159 := hX3715
    have hX3715 : v3848.toInt = 0 → WFX (R 24) (R 25) v3522 v3714 := fun h9 => by rw [hj9 24 (by decide), hj9 25 (by decide)]; exact hX37159 (by omega)
    have hX37409 := hX3740
    have hX3740 : v3848.toInt = 0 → WFX (R 24) (R 25) v3714 v3739 := fun h9 => by rw [hj9 24 (by decide), hj9 25 (by decide)]; exact hX37409 (by omega)
    have h22_8 : R 61 (10 * gn.toInt.toNat + 8) = v3739 := by rw [hw9, show 10 * gn.toInt.toNat + 8 = (v3854 : Int32).toNatClampNeg by show _ = v3854.toInt.toNat; omega]; exact pk_us
    have hRR := mz_frp (K := [24, 25, 27, 28, 61]) (Fa := Ra) hj9 hRR (by decide)
    exact mz_vret hx hb hr hlocks ⟨hIF, hIG, hIR, hFF, hRR, hGG, (by rw [hf3839, hf3841]; omega), (by rw [hf3841]; omega), (by rw [hf3839, hf3841, hf3843]; omega), (by rw [hf3839, hf3841, hf3843, hf3845]; omega), (by rw [hf3839]; omega), (by rw [hf3738]; omega), (by rw [hf3839, hf3738]; omega), (by rw [hf3847]; omega), (by rw [hf3839, hf3847]; omega), (by rw [hf3847]; exact fun h9 => absurd h9 (by omega)), (by rw [hf3847]; exact fun h9 => absurd h9 (by omega))⟩ hM hS dX13_readOrder_273
  · have hc3853 : v3848.toInt = 0 := (fi_eq rfl (show (0 : Int32).toInt = 0 by decide)).mp c9
    refine lv_aload_n hx hb dX13_readOrder_241 rfl (lv_at hl 1 rfl) ?_
    refine lv_ldc2 hx hb hown (htl _ mw_705) dX13_readOrder_242 ?_
    have hk_294 : (294 : Int64).toInt = 294 := by decide
    refine mz_Vj (As := [.long 294]) (rest := []) ⟨hx, hb, hml, hown, hts⟩ hK hM hS (k_X13_isWord l D cy ld ad am hD _ _ _ _ 294 v3844 w3846 hIF hIG hIR hf3843 hf3845) ⟨callB_of 1 hts (wl_in mw_709) rfl rfl rfl (htl _ mw_5) (htl _ mw_706) hd_yX13_isWord ⟨(Nat.le_of_ble_eq_true rfl), (Nat.le_of_ble_eq_true rfl)⟩, htl _ mw_707, htl _ mw_708⟩ rfl hl.1 rfl (Nat.le_of_ble_eq_true rfl) dX13_readOrder_245 ⟨(Nat.le_of_ble_eq_true rfl), (Nat.le_of_ble_eq_true rfl)⟩ (fun v3856 H locs hpo hM hS => ?_)
    obtain ⟨hpo3857, hpo3858, hpo3859, hpo3860, hpo3861⟩ := hpo
    have hq_v3856 := tk_rng v3856
    refine lv_if_eq (tgt := 260) hx hb dX13_readOrder_248 (by decide) (fun c9 => ?_) (fun c9 => ?_)
    · have hc3863 : v3856.toInt = 0 := (fi_eq rfl (show (0 : Int32).toInt = 0 by decide)).mp c9
      refine lv_aload_n hx hb dX13_readOrder_260 rfl (lv_at hl 1 rfl) ?_
      refine mz_getR hx hb htl hown hK hM 61 (Nat.le_of_ble_eq_true rfl) (Nat.le_of_ble_eq_true rfl) (htl _ mw_239) (fun _ h9 => h9) dX13_readOrder_261 ?_
      refine lv_iload_n hx hb dX13_readOrder_264 rfl (lv_at hl 0 rfl) ?_
      refine lv_bipush (v := 8) hx hb dX13_readOrder_265 (by decide) ?_
      refine lv_iadd hx hb dX13_readOrder_267 ?_
      refine tk_add rfl (show (8 : Int32).toInt = 8 by decide) (by omega) (by omega) (fun v3864 h_v3864 => ?_)
      refine lv_aload_n hx hb dX13_readOrder_268 rfl (lv_at hl 1 rfl) ?_
      refine mz_getI hx hb htl hown hK hM 23 (Nat.le_of_ble_eq_true rfl) rfl (htl _ mw_670) (fun _ h9 => h9) dX13_readOrder_269 (fun v9 e9 => ?_)
      refine fx_ti (v := v3739) (e9.symm.trans hf3738) ?_
      refine mz_iast (x := v3739) hx hb hK hD hM hS 61 (Nat.le_of_ble_eq_true rfl) rfl (nn := 120) rfl rfl (by omega) (by omega) dX13_readOrder_272 (fun H locs R hM hS hw9 hj9 => ?_)
      have hIR := hIR.put hw9 hj9 trivial
      have hL22 : low (10 * gn.toInt.toNat) (Ra 61) (R 61) := fun j hj => by rw [hw9, pk_un (fun h9 => by have h8 := tk_nat (i := v3864) rfl (by omega); omega)]; exact hL22 j hj
      have h22_1 : R 61 (10 * gn.toInt.toNat + 1) = gc := by rw [hw9, pk_un (fun h9 => by have h8 := tk_nat (i := v3864) rfl (by omega); omega)]; exact h22_1
      have h22_2 : R 61 (10 * gn.toInt.toNat + 2) = v3522 := by rw [hw9, pk_un (fun h9 => by have h8 := tk_nat (i := v3864) rfl (by omega); omega)]; exact h22_2
      have h22_3 : R 61 (10 * gn.toInt.toNat + 3) = v3522 := by rw [hw9, pk_un (fun h9 => by have h8 := tk_nat (i := v3864) rfl (by omega); omega)]; exact h22_3
      have h22_4 : R 61 (10 * gn.toInt.toNat + 4) = v3714 := by rw [hw9, pk_un (fun h9 => by have h8 := tk_nat (i := v3864) rfl (by omega); omega)]; exact h22_4
      have h22_5 : R 61 (10 * gn.toInt.toNat + 5) = v3714 := by rw [hw9, pk_un (fun h9 => by have h8 := tk_nat (i := v3864) rfl (by omega); omega)]; exact h22_5
      have h22_6 : R 61 (10 * gn.toInt.toNat + 6) = v3739 := by rw [hw9, pk_un (fun h9 => by have h8 := tk_nat (i := v3864) rfl (by omega); omega)]; exact h22_6
      have h22_7 : R 61 (10 * gn.toInt.toNat + 7) = v3739 := by rw [hw9, pk_un (fun h9 => by have h8 := tk_nat (i := v3864) rfl (by omega); omega)]; exact h22_7
      have h22_0 : R 61 (10 * gn.toInt.toNat + 0) = v38 := by rw [hw9, pk_un (fun h9 => by have h8 := tk_nat (i := v3864) rfl (by omega); omega)]; exact h22_0
      have h22_9 : R 61 (10 * gn.toInt.toNat + 9) = v3830 := by rw [hw9, pk_un (fun h9 => by have h8 := tk_nat (i := v3864) rfl (by omega); omega)]; exact h22_9
      have hC9 := hC
      have hC : v3848.toInt = 0 → CLS 10 [1, 3, 5, 7] (R 24) (R 25) (Ra 61) gc.toInt gn.toInt := fun h9 => (hC9 (by omega)).to (hj9 24 (by decide)) (hj9 25 (by decide))
      have hX35239 := hX3523
      have hX3523 : v3848.toInt = 0 → WFX (R 24) (R 25) gc v3522 := fun h9 => by rw [hj9 24 (by decide), hj9 25 (by decide)]; exact hX35239 (by omega)
      have hX37159 := hX3715
      have hX3715 : v3848.toInt = 0 → WFX (R 24) (R 25) v3522 v3714 := fun h9 => by rw [hj9 24 (by decide), hj9 25 (by decide)]; exact hX37159 (by omega)
      have hX37409 := hX3740
      have hX3740 : v3848.toInt = 0 → WFX (R 24) (R 25) v3714 v3739 := fun h9 => by rw [hj9 24 (by decide), hj9 25 (by decide)]; exact hX37409 (by omega)
      have h22_8 : R 61 (10 * gn.toInt.toNat + 8) = v3739 := by rw [hw9, show 10 * gn.toInt.toNat + 8 = (v3864 : Int32).toNatClampNeg by show _ = v3864.toInt.toNat; omega]; exact pk_us
      have hRR := mz_frp (K := [24, 25, 27, 28, 61]) (Fa := Ra) hj9 hRR (by decide)
      exact mz_vret hx hb hr hlocks ⟨hIF, hIG, hIR, hFF, hRR, hGG, (by rw [hf3839, hf3841]; omega), (by rw [hf3841]; omega), (by rw [hf3839, hf3841, hf3843]; omega), (by rw [hf3839, hf3841, hf3843, hf3845]; omega), (by rw [hf3839]; omega), (by rw [hf3738]; omega), (by rw [hf3839, hf3738]; omega), (by rw [hf3847]; omega), (by rw [hf3839, hf3847]; omega), (by rw [hf3847, hf3738, hf111]; exact fun h9 => mz_snoc (N := gn.toInt.toNat) (hC h9) (by omega) (by omega) hL22 (by decide) (by omega) (by intro d hd; simp only [List.mem_cons, List.not_mem_nil, or_false] at hd; rcases hd with rfl | rfl | rfl | rfl <;> first | (rw [show 10 * gn.toInt.toNat + 1 + 1 = 10 * gn.toInt.toNat + 2 from rfl, h22_1, h22_2]; exact ⟨hX3523 h9, by omega⟩) | (rw [show 10 * gn.toInt.toNat + 3 + 1 = 10 * gn.toInt.toNat + 4 from rfl, h22_3, h22_4]; exact ⟨hX3715 h9, by omega⟩) | (rw [show 10 * gn.toInt.toNat + 5 + 1 = 10 * gn.toInt.toNat + 6 from rfl, h22_5, h22_6]; exact ⟨hX3740 h9, by omega⟩) | (rw [show 10 * gn.toInt.toNat + 7 + 1 = 10 * gn.toInt.toNat + 8 from rfl, h22_7, h22_8]; exact ⟨WFX.nil (by omega) (by omega), by omega⟩))), (by rw [hf3847, hf111]; exact fun h9 => TMS.snoc (N := gn.toInt.toNat) hx_1 (by omega) (by omega) hL22 h22_9 (by omega) (by omega))⟩ hM hS dX13_readOrder_273
    · have hc3863 : ¬ (v3856.toInt = 0) := fun h9 => c9 ((fi_eq rfl (show (0 : Int32).toInt = 0 by decide)).mpr h9)
      have hwk_3866 : w3846.toInt + (-294) = 0 ∧ v3844.toInt + (-1) = 0 := by omega
      have hwk_3867 : 0 ≤ (-1) * v3840.toInt + v3842.toInt + (-1) := by omega
      have hwk_3868 : 0 ≤ (-1) * v3840.toInt + v3842.toInt + (-2) := by omega
      refine lv_aload_n hx hb dX13_readOrder_251 rfl (lv_at hl 1 rfl) ?_
      refine mz_Vv (As := []) (rest := []) ⟨hx, hb, hml, hown, hts⟩ hK hM hS (k_X13_next l D cy ld ad am hD _ _ _ _ v3842 gp hIF hIG hIR hf3841 hg_3 (by omega)) ⟨callB_of 0 hts (wl_in mw_685) rfl rfl rfl (htl _ mw_5) (htl _ mw_682) hd_yX13_next ⟨(Nat.le_of_ble_eq_true rfl), (Nat.le_of_ble_eq_true rfl)⟩, htl _ mw_683, htl _ mw_684⟩ rfl hl.1 rfl (Nat.le_of_ble_eq_true rfl) dX13_readOrder_252 ⟨(Nat.le_of_ble_eq_true rfl), (Nat.le_of_ble_eq_true rfl)⟩ (fun H locs F G R S hpo hM hS => ?_)
      obtain ⟨hIF, hIG, hIR, hfr9, hrr9, hgr9, hpo3869, hpo3870, hpo3871, hpo3872, hpo3873⟩ := hpo
      have hFF := mz_fr (K := [14, 15, 16, 18, 19, 21, 23, 26, 29, 30]) (Fa := Fa) hfr9 hFF (by decide)
      have hRR := mz_fr (K := [24, 25, 27, 28, 61]) (Fa := Ra) hrr9 hRR (by decide)
      have hGG := mz_fr (K := [17]) (Fa := Ga) hgr9 hGG (by decide)
      have hg_3 := (hfr9 13 (by decide)).trans hg_3
      have hf111 := (hfr9 21 (by decide)).trans hf111
      have hf3738 := (hfr9 23 (by decide)).trans hf3738
      have hf3847 := (hfr9 19 (by decide)).trans hf3847
      obtain ⟨v3876, hf3875⟩ : ∃ z : Int32, F 14 = z := ⟨_, rfl⟩
      have hq_v3876 := tk_rng v3876
      rw [hf3875] at hpo3869 hpo3870 hpo3872 hpo3873
      have hr_v3876 : 0 ≤ v3876.toInt ∧ v3876.toInt ≤ 400 := hIF.at hf3875
      obtain ⟨v3878, hf3877⟩ : ∃ z : Int32, F 15 = z := ⟨_, rfl⟩
      have hq_v3878 := tk_rng v3878
      rw [hf3877] at hpo3870 hpo3871 hpo3872 hpo3873
      have hr_v3878 : 0 ≤ v3878.toInt ∧ v3878.toInt ≤ 400 := hIF.at hf3877
      obtain ⟨v3880, hf3879⟩ : ∃ z : Int32, F 16 = z := ⟨_, rfl⟩
      have hq_v3880 := tk_rng v3880
      rw [hf3879] at hpo3872 hpo3873
      have hr_v3880 : 0 ≤ v3880.toInt ∧ v3880.toInt ≤ 3 := hIF.at hf3879
      obtain ⟨w3882, hf3881⟩ : ∃ z : Int64, G 17 = z := ⟨_, rfl⟩
      have hq_w3882 := tk_rngL w3882
      rw [hf3881] at hpo3873
      have hL22 := hL22.to (hrr9 61 (by decide))
      have h22_1 := (congrFun (hrr9 61 (by decide)) _).trans h22_1
      have h22_2 := (congrFun (hrr9 61 (by decide)) _).trans h22_2
      have h22_3 := (congrFun (hrr9 61 (by decide)) _).trans h22_3
      have h22_4 := (congrFun (hrr9 61 (by decide)) _).trans h22_4
      have h22_5 := (congrFun (hrr9 61 (by decide)) _).trans h22_5
      have h22_6 := (congrFun (hrr9 61 (by decide)) _).trans h22_6
      have h22_7 := (congrFun (hrr9 61 (by decide)) _).trans h22_7
      have h22_8 := (congrFun (hrr9 61 (by decide)) _).trans h22_8
      have h22_0 := (congrFun (hrr9 61 (by decide)) _).trans h22_0
      have h22_9 := (congrFun (hrr9 61 (by decide)) _).trans h22_9
      have hC9 := hC
      have hC : v3848.toInt = 0 → CLS 10 [1, 3, 5, 7] (R 24) (R 25) (Ra 61) gc.toInt gn.toInt := fun h9 => (hC9 (by omega)).to (hrr9 24 (by decide)) (hrr9 25 (by decide))
      have hX35239 := hX3523
      have hX3523 : v3848.toInt = 0 → WFX (R 24) (R 25) gc v3522 := fun h9 => by rw [hrr9 24 (by decide), hrr9 25 (by decide)]; exact hX35239 (by omega)
      have hX37159 := hX3715
      have hX3715 : v3848.toInt = 0 → WFX (R 24) (R 25) v3522 v3714 := fun h9 => by rw [hrr9 24 (by decide), hrr9 25 (by decide)]; exact hX37159 (by omega)
      have hX37409 := hX3740
      have hX3740 : v3848.toInt = 0 → WFX (R 24) (R 25) v3714 v3739 := fun h9 => by rw [hrr9 24 (by decide), hrr9 25 (by decide)]; exact hX37409 (by omega)
      refine lv_aload_n hx hb dX13_readOrder_255 rfl (lv_at hl 1 rfl) ?_
      refine lv_iconst (v := 1) hx hb dX13_readOrder_256 (by decide) ?_
      have hk_1 : (1 : Int32).toInt = 1 := by decide
      refine mz_Vv (As := [.int 1]) (rest := []) ⟨hx, hb, hml, hown, hts⟩ hK hM hS (k_X13_readExpression l D cy ld ad am hD _ _ _ _ 1 v3876 v3878 v3880 gp w3882 v3848 v3739 hIF hIG hIR hf3875 hf3877 hf3879 hg_3 hf3881 hf3847 hf3738 (by omega) (by omega) (by omega) (by omega) (by omega) (by omega) (by omega) (by omega)) ⟨callB_of 1 hts (wl_in mw_717) rfl rfl rfl (htl _ mw_5) (htl _ mw_714) hd_yX13_readExpression ⟨(Nat.le_of_ble_eq_true rfl), (Nat.le_of_ble_eq_true rfl)⟩, htl _ mw_715, htl _ mw_716⟩ rfl hl.1 rfl (Nat.le_of_ble_eq_true rfl) dX13_readOrder_257 ⟨(Nat.le_of_ble_eq_true rfl), (Nat.le_of_ble_eq_true rfl)⟩ (fun H locs F G R S hpo hM hS => ?_)
      obtain ⟨hIF, hIG, hIR, hfr9, hrr9, hgr9, hpo3883, hpo3884, hpo3885, hpo3886, hpo3887, hpo3888, hpo3889, hx3890⟩ := hpo
      have hFF := mz_fr (K := [14, 15, 16, 18, 19, 21, 23, 26, 29, 30]) (Fa := Fa) hfr9 hFF (by decide)
      have hRR := mz_fr (K := [24, 25, 27, 28, 61]) (Fa := Ra) hrr9 hRR (by decide)
      have hGG := mz_fr (K := [17]) (Fa := Ga) hgr9 hGG (by decide)
      have hg_3 := (hfr9 13 (by decide)).trans hg_3
      have hf111 := (hfr9 21 (by decide)).trans hf111
      obtain ⟨v3893, hf3892⟩ : ∃ z : Int32, F 14 = z := ⟨_, rfl⟩
      have hq_v3893 := tk_rng v3893
      rw [hf3892] at hpo3883 hpo3885 hpo3886 hpo3887 hpo3888
      have hr_v3893 : 0 ≤ v3893.toInt ∧ v3893.toInt ≤ 400 := hIF.at hf3892
      obtain ⟨v3895, hf3894⟩ : ∃ z : Int32, F 15 = z := ⟨_, rfl⟩
      have hq_v3895 := tk_rng v3895
      rw [hf3894] at hpo3883 hpo3884 hpo3885 hpo3886
      have hr_v3895 : 0 ≤ v3895.toInt ∧ v3895.toInt ≤ 400 := hIF.at hf3894
      obtain ⟨v3897, hf3896⟩ : ∃ z : Int32, F 16 = z := ⟨_, rfl⟩
      have hq_v3897 := tk_rng v3897
      rw [hf3896] at hpo3885 hpo3886
      have hr_v3897 : 0 ≤ v3897.toInt ∧ v3897.toInt ≤ 3 := hIF.at hf3896
      obtain ⟨w3899, hf3898⟩ : ∃ z : Int64, G 17 = z := ⟨_, rfl⟩
      have hq_w3899 := tk_rngL w3899
      rw [hf3898] at hpo3886
      obtain ⟨v3901, hf3900⟩ : ∃ z : Int32, F 19 = z := ⟨_, rfl⟩
      have hq_v3901 := tk_rng v3901
      have hr_v3901 : 0 ≤ v3901.toInt ∧ v3901.toInt ≤ 1 := hIF.at hf3900
      obtain ⟨v3903, hf3902⟩ : ∃ z : Int32, F 23 = z := ⟨_, rfl⟩
      have hq_v3903 := tk_rng v3903
      rw [hf3902] at hpo3888 hpo3889
      have hr_v3903 : 0 ≤ v3903.toInt ∧ v3903.toInt ≤ 400 := hIF.at hf3902
      have hL22 := hL22.to (hrr9 61 (by decide))
      have h22_1 := (congrFun (hrr9 61 (by decide)) _).trans h22_1
      have h22_2 := (congrFun (hrr9 61 (by decide)) _).trans h22_2
      have h22_3 := (congrFun (hrr9 61 (by decide)) _).trans h22_3
      have h22_4 := (congrFun (hrr9 61 (by decide)) _).trans h22_4
      have h22_5 := (congrFun (hrr9 61 (by decide)) _).trans h22_5
      have h22_6 := (congrFun (hrr9 61 (by decide)) _).trans h22_6
      have h22_7 := (congrFun (hrr9 61 (by decide)) _).trans h22_7
      have h22_8 := (congrFun (hrr9 61 (by decide)) _).trans h22_8
      have h22_0 := (congrFun (hrr9 61 (by decide)) _).trans h22_0
      have h22_9 := (congrFun (hrr9 61 (by decide)) _).trans h22_9
      have hE9 : v3901.toInt = 0 → WFC (R 24) (R 25) v3739.toInt.toNat v3903.toInt.toNat ∧ low v3739.toInt.toNat _ (R 24) ∧ low v3739.toInt.toNat _ (R 25) := fun h9 => by have h8 := hx3890 (by rw [hf3900]; exact h9); rw [hf3902] at h8; exact h8
      have hC9 := hC (by omega)
      have hC : v3901.toInt = 0 → CLS 10 [1, 3, 5, 7] (R 24) (R 25) (Ra 61) gc.toInt gn.toInt := fun h9 => hC9.low (N := v3739.toInt.toNat) (by omega) (hE9 h9).2.1 (hE9 h9).2.2
      have hX35239 := hX3523 (by omega)
      have hX3523 : v3901.toInt = 0 → WFX (R 24) (R 25) gc v3522 := fun h9 => hX35239.low (n := v3739.toInt.toNat) (by omega) (hE9 h9).2.1 (hE9 h9).2.2
      have hX37159 := hX3715 (by omega)
      have hX3715 : v3901.toInt = 0 → WFX (R 24) (R 25) v3522 v3714 := fun h9 => hX37159.low (n := v3739.toInt.toNat) (by omega) (hE9 h9).2.1 (hE9 h9).2.2
      have hX37409 := hX3740 (by omega)
      have hX3740 : v3901.toInt = 0 → WFX (R 24) (R 25) v3714 v3739 := fun h9 => hX37409.low (n := v3739.toInt.toNat) (by omega) (hE9 h9).2.1 (hE9 h9).2.2
      have hX3904 : v3901.toInt = 0 → WFX (R 24) (R 25) v3739 v3903 := fun h9 => ⟨by omega, by omega, by omega, (hE9 h9).1⟩
      refine lv_aload_n hx hb dX13_readOrder_260 rfl (lv_at hl 1 rfl) ?_
      refine mz_getR hx hb htl hown hK hM 61 (Nat.le_of_ble_eq_true rfl) (Nat.le_of_ble_eq_true rfl) (htl _ mw_239) (fun _ h9 => h9) dX13_readOrder_261 ?_
      refine lv_iload_n hx hb dX13_readOrder_264 rfl (lv_at hl 0 rfl) ?_
      refine lv_bipush (v := 8) hx hb dX13_readOrder_265 (by decide) ?_
      refine lv_iadd hx hb dX13_readOrder_267 ?_
      refine tk_add rfl (show (8 : Int32).toInt = 8 by decide) (by omega) (by omega) (fun v3905 h_v3905 => ?_)
      refine lv_aload_n hx hb dX13_readOrder_268 rfl (lv_at hl 1 rfl) ?_
      refine mz_getI hx hb htl hown hK hM 23 (Nat.le_of_ble_eq_true rfl) rfl (htl _ mw_670) (fun _ h9 => h9) dX13_readOrder_269 (fun v9 e9 => ?_)
      refine fx_ti (v := v3903) (e9.symm.trans hf3902) ?_
      refine mz_iast (x := v3903) hx hb hK hD hM hS 61 (Nat.le_of_ble_eq_true rfl) rfl (nn := 120) rfl rfl (by omega) (by omega) dX13_readOrder_272 (fun H locs R hM hS hw9 hj9 => ?_)
      have hIR := hIR.put hw9 hj9 trivial
      have hL22 : low (10 * gn.toInt.toNat) (Ra 61) (R 61) := fun j hj => by rw [hw9, pk_un (fun h9 => by have h8 := tk_nat (i := v3905) rfl (by omega); omega)]; exact hL22 j hj
      have h22_1 : R 61 (10 * gn.toInt.toNat + 1) = gc := by rw [hw9, pk_un (fun h9 => by have h8 := tk_nat (i := v3905) rfl (by omega); omega)]; exact h22_1
      have h22_2 : R 61 (10 * gn.toInt.toNat + 2) = v3522 := by rw [hw9, pk_un (fun h9 => by have h8 := tk_nat (i := v3905) rfl (by omega); omega)]; exact h22_2
      have h22_3 : R 61 (10 * gn.toInt.toNat + 3) = v3522 := by rw [hw9, pk_un (fun h9 => by have h8 := tk_nat (i := v3905) rfl (by omega); omega)]; exact h22_3
      have h22_4 : R 61 (10 * gn.toInt.toNat + 4) = v3714 := by rw [hw9, pk_un (fun h9 => by have h8 := tk_nat (i := v3905) rfl (by omega); omega)]; exact h22_4
      have h22_5 : R 61 (10 * gn.toInt.toNat + 5) = v3714 := by rw [hw9, pk_un (fun h9 => by have h8 := tk_nat (i := v3905) rfl (by omega); omega)]; exact h22_5
      have h22_6 : R 61 (10 * gn.toInt.toNat + 6) = v3739 := by rw [hw9, pk_un (fun h9 => by have h8 := tk_nat (i := v3905) rfl (by omega); omega)]; exact h22_6
      have h22_7 : R 61 (10 * gn.toInt.toNat + 7) = v3739 := by rw [hw9, pk_un (fun h9 => by have h8 := tk_nat (i := v3905) rfl (by omega); omega)]; exact h22_7
      have h22_0 : R 61 (10 * gn.toInt.toNat + 0) = v38 := by rw [hw9, pk_un (fun h9 => by have h8 := tk_nat (i := v3905) rfl (by omega); omega)]; exact h22_0
      have h22_9 : R 61 (10 * gn.toInt.toNat + 9) = v3830 := by rw [hw9, pk_un (fun h9 => by have h8 := tk_nat (i := v3905) rfl (by omega); omega)]; exact h22_9
      have hC9 := hC
      have hC : v3901.toInt = 0 → CLS 10 [1, 3, 5, 7] (R 24) (R 25) (Ra 61) gc.toInt gn.toInt := fun h9 => (hC9 (by omega)).to (hj9 24 (by decide)) (hj9 25 (by decide))
      have hX35239 := hX3523
      have hX3523 : v3901.toInt = 0 → WFX (R 24) (R 25) gc v3522 := fun h9 => by rw [hj9 24 (by decide), hj9 25 (by decide)]; exact hX35239 (by omega)
      have hX37159 := hX3715
      have hX3715 : v3901.toInt = 0 → WFX (R 24) (R 25) v3522 v3714 := fun h9 => by rw [hj9 24 (by decide), hj9 25 (by decide)]; exact hX37159 (by omega)
      have hX37409 := hX3740
      have hX3740 : v3901.toInt = 0 → WFX (R 24) (R 25) v3714 v3739 := fun h9 => by rw [hj9 24 (by decide), hj9 25 (by decide)]; exact hX37409 (by omega)
      have hX39049 := hX3904
      have hX3904 : v3901.toInt = 0 → WFX (R 24) (R 25) v3739 v3903 := fun h9 => by rw [hj9 24 (by decide), hj9 25 (by decide)]; exact hX39049 (by omega)
      have h22_8 : R 61 (10 * gn.toInt.toNat + 8) = v3903 := by rw [hw9, show 10 * gn.toInt.toNat + 8 = (v3905 : Int32).toNatClampNeg by show _ = v3905.toInt.toNat; omega]; exact pk_us
      have hRR := mz_frp (K := [24, 25, 27, 28, 61]) (Fa := Ra) hj9 hRR (by decide)
      exact mz_vret hx hb hr hlocks ⟨hIF, hIG, hIR, hFF, hRR, hGG, (by rw [hf3892, hf3894]; omega), (by rw [hf3894]; omega), (by rw [hf3892, hf3894, hf3896]; omega), (by rw [hf3892, hf3894, hf3896, hf3898]; omega), (by rw [hf3892]; omega), (by rw [hf3902]; omega), (by rw [hf3892, hf3902]; omega), (by rw [hf3900]; omega), (by rw [hf3892, hf3900]; omega), (by rw [hf3900, hf3902, hf111]; exact fun h9 => mz_snoc (N := gn.toInt.toNat) (hC h9) (by omega) (by omega) hL22 (by decide) (by omega) (by intro d hd; simp only [List.mem_cons, List.not_mem_nil, or_false] at hd; rcases hd with rfl | rfl | rfl | rfl <;> first | (rw [show 10 * gn.toInt.toNat + 1 + 1 = 10 * gn.toInt.toNat + 2 from rfl, h22_1, h22_2]; exact ⟨hX3523 h9, by omega⟩) | (rw [show 10 * gn.toInt.toNat + 3 + 1 = 10 * gn.toInt.toNat + 4 from rfl, h22_3, h22_4]; exact ⟨hX3715 h9, by omega⟩) | (rw [show 10 * gn.toInt.toNat + 5 + 1 = 10 * gn.toInt.toNat + 6 from rfl, h22_5, h22_6]; exact ⟨hX3740 h9, by omega⟩) | (rw [show 10 * gn.toInt.toNat + 7 + 1 = 10 * gn.toInt.toNat + 8 from rfl, h22_7, h22_8]; exact ⟨hX3904 h9, by omega⟩))), (by rw [hf3900, hf111]; exact fun h9 => TMS.snoc (N := gn.toInt.toNat) hx_1 (by omega) (by omega) hL22 h22_9 (by omega) (by omega))⟩ hM hS dX13_readOrder_273
set_option maxHeartbeats 4000000 in
set_option maxRecDepth 100000 in
theorem kz_X13_readOrder_c8 (l : Launch) (D : va_G) (cy : Nat → ClassId) (ld ad : Nat → Nat) (am : Nat) (hD : mz_D ad am) (Fa : Nat → Int32) (Ga : Nat → Int64) (Ra : Nat → Nat → Int32) (Sa : Nat → Nat → Int64) (gf : Int32) (gt : Int32) (gs : Int32) (gp : Int32) (gw : Int64) (gb : Int32) (gc : Int32) (gn : Int32) {p : Program} {e : Env} {s : State} {m : MethodId} {args : Array Value} {below : List Frame} {meth : Method} {c : Code} (hx : p.tables.exec = Jvm.exec) (hb : c.code = cX13_readOrder) (hr : meth.sig.returnType = none) (hml : c.maxLocals = 4) (hts : ∀ w ∈ wl yX13_readOrder cX13_readOrder 4 none, w.before args s = true) (htl : ∀ w ∈ wsA, w.before args s = true) (hown : s.vm.findClass RX13 = some m.cls) (hlocks : meth.locks = false) (hK : kk_K D cy ld s) (hp_0 : 0 ≤ (-1) * gf.toInt + gt.toInt) (hp_1 : 0 ≤ gp.toInt + (-1) * gt.toInt) (hp_2 : (1 ≤ gs.toInt → 0 ≤ (-1) * gf.toInt + gt.toInt + (-1))) (hp_3 : (27 ≤ gw.toInt → 1 ≤ gs.toInt → gs.toInt ≤ 1 → 0 ≤ (-1) * gf.toInt + gt.toInt + (-2))) (hp_4 : 0 ≤ (-1) * gc.toInt + gf.toInt) (hp_5 : gb.toInt ≤ 0) (hg_0 : Fa 14 = gf) (hg_1 : Fa 15 = gt) (hg_2 : Fa 16 = gs) (hg_3 : Fa 13 = gp) (hg_4 : Ga 17 = gw) (hg_5 : Fa 19 = gb) (hg_6 : Fa 23 = gc) (hg_7 : Fa 21 = gn) (hx_0 : CLS 10 [1, 3, 5, 7] (Ra 24) (Ra 25) (Ra 61) gc.toInt gn.toInt) (hx_1 : TMS (Ra 61) gn.toInt) (v108 : Int32) (v109 : Int32) (v3522 : Int32) (v3714 : Int32) (v3729 : Int32) (v3731 : Int32) (v3733 : Int32) (v3737 : Int32) (v3739 : Int32) (v38 : Int32) (w3735 : Int64) (H : Heap) (locs : List Loc) (F : Nat → Int32) (G : Nat → Int64) (R : Nat → Nat → Int32) (S : Nat → Nat → Int64) (hq0_kz_X13_readOrder_c8 : v109.toInt ≤ 12) (hq1_kz_X13_readOrder_c8 : v3731.toInt ≤ 400) (hq2_kz_X13_readOrder_c8 : v3733.toInt ≤ 3) (hq3_kz_X13_readOrder_c8 : 0 ≤ v38.toInt) (hq4_kz_X13_readOrder_c8 : 0 ≤ (-1) * gf.toInt + gt.toInt + (-1)) (hq5_kz_X13_readOrder_c8 : (-10) * gn.toInt + v108.toInt = 0) (hq6_kz_X13_readOrder_c8 : (-1) * gn.toInt + v109.toInt + (-1) = 0) (hq7_kz_X13_readOrder_c8 : 0 ≤ (-1) * gc.toInt + v3522.toInt) (hq8_kz_X13_readOrder_c8 : 0 ≤ (-1) * v3522.toInt + v3714.toInt) (hq9_kz_X13_readOrder_c8 : 0 ≤ (-1) * v3729.toInt + v3731.toInt) (hq10_kz_X13_readOrder_c8 : 0 ≤ gp.toInt + (-1) * v3731.toInt) (hq11_kz_X13_readOrder_c8 : 0 ≤ (-1) * v3714.toInt + v3739.toInt) (hq12_kz_X13_readOrder_c8 : 0 ≤ v3729.toInt + (-1) * v3739.toInt) (hq13_kz_X13_readOrder_c8 : 0 ≤ gb.toInt + (-1) * v38.toInt) (hq14_kz_X13_readOrder_c8 : 0 ≤ gc.toInt + (-1) * v38.toInt) (hq15_kz_X13_readOrder_c8 : 0 ≤ gs.toInt + (-1) * v3737.toInt) (hq16_kz_X13_readOrder_c8 : 0 ≤ gs.toInt + (-1) * v38.toInt + (-1)) (hq17_kz_X13_readOrder_c8 : 0 ≤ (-1) * gs.toInt + v109.toInt) (hq18_kz_X13_readOrder_c8 : 0 ≤ (-1) * gt.toInt + v3729.toInt) (hq19_kz_X13_readOrder_c8 : 0 ≤ (-1) * gs.toInt + v3733.toInt + 1) (hq20_kz_X13_readOrder_c8 : 0 ≤ (-1) * gs.toInt + v3737.toInt + 1) (hq21_kz_X13_readOrder_c8 : 0 ≤ (-1) * gs.toInt + v38.toInt + 1) (hM : mz_S D cy ad am F G R S H) (hS : va_S (mz_W ad am) s.heap H locs) (hIF : mz_IF false F) (hIG : mz_IG G) (hIR : mz_IR [] true R) (hFF : ∀ k : Nat, k ∉ ([14, 15, 16, 18, 19, 21, 23, 26, 29, 30] : List Nat) → F k = Fa k) (hGG : ∀ k : Nat, k ∉ ([17] : List Nat) → G k = Ga k) (hRR : ∀ k : Nat, k ∉ ([24, 25, 27, 28, 61] : List Nat) → R k = Ra k) (hg_3 : F 13 = gp) (hf111 : F 21 = v109) (hf3728 : F 14 = v3729) (hf3730 : F 15 = v3731) (hf3732 : F 16 = v3733) (hf3734 : G 17 = w3735) (hf3736 : F 19 = v3737) (hf3738 : F 23 = v3739) (hc0_kz_X13_readOrder_c8 : (27 ≤ gw.toInt → 1 ≤ gs.toInt → gs.toInt ≤ 1 → 0 ≤ (-1) * gf.toInt + gt.toInt + (-2))) (hc1_kz_X13_readOrder_c8 : (1 ≤ v3733.toInt → 0 ≤ (-1) * v3729.toInt + v3731.toInt + (-1))) (hc2_kz_X13_readOrder_c8 : (27 ≤ w3735.toInt → 1 ≤ v3733.toInt → v3733.toInt ≤ 1 → 0 ≤ (-1) * v3729.toInt + v3731.toInt + (-2))) (hL22 : low (10 * gn.toInt.toNat) (Ra 61) (R 61)) (hC : v3737.toInt = 0 → CLS 10 [1, 3, 5, 7] (R 24) (R 25) (Ra 61) gc.toInt gn.toInt) (h22_1 : R 61 (10 * gn.toInt.toNat + 1) = gc) (h22_2 : R 61 (10 * gn.toInt.toNat + 2) = v3522) (h22_3 : R 61 (10 * gn.toInt.toNat + 3) = v3522) (h22_4 : R 61 (10 * gn.toInt.toNat + 4) = v3714) (h22_5 : R 61 (10 * gn.toInt.toNat + 5) = v3714) (h22_6 : R 61 (10 * gn.toInt.toNat + 6) = v3739) (h22_7 : R 61 (10 * gn.toInt.toNat + 7) = 0) (h22_8 : R 61 (10 * gn.toInt.toNat + 8) = 0) (h22_0 : R 61 (10 * gn.toInt.toNat + 0) = v38) (hX3523 : v3737.toInt = 0 → WFX (R 24) (R 25) gc v3522) (hX3715 : v3737.toInt = 0 → WFX (R 24) (R 25) v3522 v3714) (hX3740 : v3737.toInt = 0 → WFX (R 24) (R 25) v3714 v3739) (ls : Array Slot) (hl : lv_has ls 4 [(2, .int v108), (0, .ref am)]) : W p l e ({ frames := 12, cells := 0, slots := 0, locals := 770 }) s m args below meth c H locs 0 0 (MQ below (mz_w D cy ad am (fun F G R S => mz_IF false F ∧ mz_IG G ∧ mz_IR [] true R ∧ (∀ k : Nat, k ∉ ([14, 15, 16, 18, 19, 21, 23, 26, 29, 30] : List Nat) → F k = Fa k) ∧ (∀ k : Nat, k ∉ ([24, 25, 27, 28, 61] : List Nat) → R k = Ra k) ∧ (∀ k : Nat, k ∉ ([17] : List Nat) → G k = Ga k) ∧ 0 ≤ (-1) * (F 14).toInt + (F 15).toInt ∧ 0 ≤ gp.toInt + (-1) * (F 15).toInt ∧ (1 ≤ (F 16).toInt → 0 ≤ (-1) * (F 14).toInt + (F 15).toInt + (-1)) ∧ (27 ≤ (G 17).toInt → 1 ≤ (F 16).toInt → (F 16).toInt ≤ 1 → 0 ≤ (-1) * (F 14).toInt + (F 15).toInt + (-2)) ∧ 0 ≤ (-1) * gf.toInt + (F 14).toInt ∧ 0 ≤ (-1) * gc.toInt + (F 23).toInt ∧ 0 ≤ (-1) * (F 23).toInt + (F 14).toInt ∧ 0 ≤ (-1) * gb.toInt + (F 19).toInt ∧ ((F 19).toInt ≤ 0 → 0 ≤ (-1) * gf.toInt + (F 14).toInt + (-1)) ∧ ((F 19).toInt = 0 → CLS 10 [1, 3, 5, 7] (R 24) (R 25) (R 61) (F 23).toInt (F 21).toInt) ∧ ((F 19).toInt = 0 → TMS (R 61) (F 21).toInt))) args s 0 0 (mz_W ad am)) (F0 m 173 ls []) := by
  have hq_gb := tk_rng gb
  have hq_gc := tk_rng gc
  have hq_gf := tk_rng gf
  have hq_gn := tk_rng gn
  have hq_gp := tk_rng gp
  have hq_gs := tk_rng gs
  have hq_gt := tk_rng gt
  have hq_gw := tk_rngL gw
  have hq_v108 := tk_rng v108
  have hq_v109 := tk_rng v109
  have hq_v3522 := tk_rng v3522
  have hq_v3714 := tk_rng v3714
  have hq_v3729 := tk_rng v3729
  have hq_v3731 := tk_rng v3731
  have hq_v3733 := tk_rng v3733
  have hq_v3737 := tk_rng v3737
  have hq_v3739 := tk_rng v3739
  have hq_v38 := tk_rng v38
  have hq_w3735 := tk_rngL w3735
  have hr_gp : 0 ≤ gp.toInt ∧ gp.toInt ≤ 400 := hIF.at hg_3
  have hr_v109 : 0 ≤ v109.toInt ∧ v109.toInt ≤ 12 := hIF.at hf111
  have hr_v3729 : 0 ≤ v3729.toInt ∧ v3729.toInt ≤ 400 := hIF.at hf3728
  have hr_v3731 : 0 ≤ v3731.toInt ∧ v3731.toInt ≤ 400 := hIF.at hf3730
  have hr_v3733 : 0 ≤ v3733.toInt ∧ v3733.toInt ≤ 3 := hIF.at hf3732
  have hr_v3737 : 0 ≤ v3737.toInt ∧ v3737.toInt ≤ 1 := hIF.at hf3736
  have hr_v3739 : 0 ≤ v3739.toInt ∧ v3739.toInt ≤ 400 := hIF.at hf3738
  refine lv_aload_n hx hb dX13_readOrder_173 rfl (lv_at hl 1 rfl) ?_
  refine mz_getR hx hb htl hown hK hM 61 (Nat.le_of_ble_eq_true rfl) (Nat.le_of_ble_eq_true rfl) (htl _ mw_239) (fun _ h9 => h9) dX13_readOrder_174 ?_
  refine lv_iload_n hx hb dX13_readOrder_177 rfl (lv_at hl 0 rfl) ?_
  refine lv_bipush (v := 9) hx hb dX13_readOrder_178 (by decide) ?_
  refine lv_iadd hx hb dX13_readOrder_180 ?_
  refine tk_add rfl (show (9 : Int32).toInt = 9 by decide) (by omega) (by omega) (fun v3742 h_v3742 => ?_)
  refine lv_iconst (v := 1) hx hb dX13_readOrder_181 (by decide) ?_
  have hk_1 : (1 : Int32).toInt = 1 := by decide
  refine mz_iast (x := 1) hx hb hK hD hM hS 61 (Nat.le_of_ble_eq_true rfl) rfl (nn := 120) rfl rfl (by omega) (by omega) dX13_readOrder_182 (fun H locs R hM hS hw9 hj9 => ?_)
  have hIR := hIR.put hw9 hj9 trivial
  have hL22 : low (10 * gn.toInt.toNat) (Ra 61) (R 61) := fun j hj => by rw [hw9, pk_un (fun h9 => by have h8 := tk_nat (i := v3742) rfl (by omega); omega)]; exact hL22 j hj
  have h22_1 : R 61 (10 * gn.toInt.toNat + 1) = gc := by rw [hw9, pk_un (fun h9 => by have h8 := tk_nat (i := v3742) rfl (by omega); omega)]; exact h22_1
  have h22_2 : R 61 (10 * gn.toInt.toNat + 2) = v3522 := by rw [hw9, pk_un (fun h9 => by have h8 := tk_nat (i := v3742) rfl (by omega); omega)]; exact h22_2
  have h22_3 : R 61 (10 * gn.toInt.toNat + 3) = v3522 := by rw [hw9, pk_un (fun h9 => by have h8 := tk_nat (i := v3742) rfl (by omega); omega)]; exact h22_3
  have h22_4 : R 61 (10 * gn.toInt.toNat + 4) = v3714 := by rw [hw9, pk_un (fun h9 => by have h8 := tk_nat (i := v3742) rfl (by omega); omega)]; exact h22_4
  have h22_5 : R 61 (10 * gn.toInt.toNat + 5) = v3714 := by rw [hw9, pk_un (fun h9 => by have h8 := tk_nat (i := v3742) rfl (by omega); omega)]; exact h22_5
  have h22_6 : R 61 (10 * gn.toInt.toNat + 6) = v3739 := by rw [hw9, pk_un (fun h9 => by have h8 := tk_nat (i := v3742) rfl (by omega); omega)]; exact h22_6
  have h22_7 : R 61 (10 * gn.toInt.toNat + 7) = 0 := by rw [hw9, pk_un (fun h9 => by have h8 := tk_nat (i := v3742) rfl (by omega); omega)]; exact h22_7
  have h22_8 : R 61 (10 * gn.toInt.toNat + 8) = 0 := by rw [hw9, pk_un (fun h9 => by have h8 := tk_nat (i := v3742) rfl (by omega); omega)]; exact h22_8
  have h22_0 : R 61 (10 * gn.toInt.toNat + 0) = v38 := by rw [hw9, pk_un (fun h9 => by have h8 := tk_nat (i := v3742) rfl (by omega); omega)]; exact h22_0
  have hC9 := hC
  have hC : v3737.toInt = 0 → CLS 10 [1, 3, 5, 7] (R 24) (R 25) (Ra 61) gc.toInt gn.toInt := fun h9 => (hC9 (by omega)).to (hj9 24 (by decide)) (hj9 25 (by decide))
  have hX35239 := hX3523
  have hX3523 : v3737.toInt = 0 → WFX (R 24) (R 25) gc v3522 := fun h9 => by rw [hj9 24 (by decide), hj9 25 (by decide)]; exact hX35239 (by omega)
  have hX37159 := hX3715
  have hX3715 : v3737.toInt = 0 → WFX (R 24) (R 25) v3522 v3714 := fun h9 => by rw [hj9 24 (by decide), hj9 25 (by decide)]; exact hX37159 (by omega)
  have hX37409 := hX3740
  have hX3740 : v3737.toInt = 0 → WFX (R 24) (R 25) v3714 v3739 := fun h9 => by rw [hj9 24 (by decide), hj9 25 (by decide)]; exact hX37409 (by omega)
  have h22_9 : R 61 (10 * gn.toInt.toNat + 9) = 1 := by rw [hw9, show 10 * gn.toInt.toNat + 9 = (v3742 : Int32).toNatClampNeg by show _ = v3742.toInt.toNat; omega]; exact pk_us
  have hRR := mz_frp (K := [24, 25, 27, 28, 61]) (Fa := Ra) hj9 hRR (by decide)
  refine lv_aload_n hx hb dX13_readOrder_183 rfl (lv_at hl 1 rfl) ?_
  refine mz_getI hx hb htl hown hK hM 19 (Nat.le_of_ble_eq_true rfl) rfl (htl _ mw_668) (fun _ h9 => h9) dX13_readOrder_184 (fun v9 e9 => ?_)
  refine fx_ti (v := v3737) (e9.symm.trans hf3736) ?_
  refine lv_if_ne (tgt := 221) hx hb dX13_readOrder_187 (by decide) (fun c9 => ?_) (fun c9 => ?_)
  · have hc3744 : ¬ (v3737.toInt = 0) := fun h9 => c9 ((fi_eq rfl (show (0 : Int32).toInt = 0 by decide)).mpr h9)
    exact kz_X13_readOrder_c9 l D cy ld ad am hD Fa Ga Ra Sa gf gt gs gp gw gb gc gn hx hb hr hml hts htl hown hlocks hK hp_0 hp_1 hp_2 hp_3 hp_4 hp_5 hg_0 hg_1 hg_2 hg_3 hg_4 hg_5 hg_6 hg_7 hx_0 hx_1 v108 v109 v3522 v3714 v3729 v3731 v3733 v3737 v3739 v38 w3735 _ _ _ _ _ _ (by omega) (by omega) (by omega) (by omega) (by omega) (by omega) (by omega) (by omega) (by omega) (by omega) (by omega) (by omega) (by omega) (by omega) (by omega) (by omega) (by omega) (by omega) (by omega) (by omega) (by omega) hM hS hIF hIG hIR hFF hGG hRR hg_3 hf111 hf3728 hf3730 hf3732 hf3734 hf3736 hf3738 (by omega) (by omega) (by omega) (by omega) hL22 hC h22_1 h22_2 h22_3 h22_4 h22_5 h22_6 h22_7 h22_8 h22_0 h22_9 hX3523 hX3715 hX3740 _ (lv_sub hl [0, 1] rfl)
  · have hc3744 : v3737.toInt = 0 := (fi_eq rfl (show (0 : Int32).toInt = 0 by decide)).mp c9
    refine lv_aload_n hx hb dX13_readOrder_190 rfl (lv_at hl 1 rfl) ?_
    refine lv_ldc2 hx hb hown (htl _ mw_1021) dX13_readOrder_191 ?_
    have hk_21279923 : (21279923 : Int64).toInt = 21279923 := by decide
    refine mz_Vj (As := [.long 21279923]) (rest := []) ⟨hx, hb, hml, hown, hts⟩ hK hM hS (k_X13_isWord l D cy ld ad am hD _ _ _ _ 21279923 v3733 w3735 hIF hIG hIR hf3732 hf3734) ⟨callB_of 1 hts (wl_in mw_709) rfl rfl rfl (htl _ mw_5) (htl _ mw_706) hd_yX13_isWord ⟨(Nat.le_of_ble_eq_true rfl), (Nat.le_of_ble_eq_true rfl)⟩, htl _ mw_707, htl _ mw_708⟩ rfl hl.1 rfl (Nat.le_of_ble_eq_true rfl) dX13_readOrder_194 ⟨(Nat.le_of_ble_eq_true rfl), (Nat.le_of_ble_eq_true rfl)⟩ (fun v3750 H locs hpo hM hS => ?_)
    obtain ⟨hpo3751, hpo3752, hpo3753, hpo3754, hpo3755⟩ := hpo
    have hq_v3750 := tk_rng v3750
    refine lv_if_eq (tgt := 221) hx hb dX13_readOrder_197 (by decide) (fun c9 => ?_) (fun c9 => ?_)
    · have hc3757 : v3750.toInt = 0 := (fi_eq rfl (show (0 : Int32).toInt = 0 by decide)).mp c9
      exact kz_X13_readOrder_c10 l D cy ld ad am hD Fa Ga Ra Sa gf gt gs gp gw gb gc gn hx hb hr hml hts htl hown hlocks hK hp_0 hp_1 hp_2 hp_3 hp_4 hp_5 hg_0 hg_1 hg_2 hg_3 hg_4 hg_5 hg_6 hg_7 hx_0 hx_1 v108 v109 v3522 v3714 v3729 v3731 v3733 v3737 v3739 v38 w3735 _ _ _ _ _ _ (by omega) (by omega) (by omega) (by omega) (by omega) (by omega) (by omega) (by omega) (by omega) (by omega) (by omega) (by omega) (by omega) (by omega) (by omega) (by omega) (by omega) (by omega) (by omega) (by omega) (by omega) (by omega) hM hS hIF hIG hIR hFF hGG hRR hg_3 hf111 hf3728 hf3730 hf3732 hf3734 hf3736 hf3738 (by omega) (by omega) (by omega) (by omega) hL22 hC h22_1 h22_2 h22_3 h22_4 h22_5 h22_6 h22_7 h22_8 h22_0 h22_9 hX3523 hX3715 hX3740 _ (lv_sub hl [0, 1] rfl)
    · have hc3757 : ¬ (v3750.toInt = 0) := fun h9 => c9 ((fi_eq rfl (show (0 : Int32).toInt = 0 by decide)).mpr h9)
      have hwk_3812 : w3735.toInt + (-21279923) = 0 ∧ v3733.toInt + (-1) = 0 := by omega
      have hwk_3813 : 0 ≤ (-1) * v3729.toInt + v3731.toInt + (-1) := by omega
      have hwk_3814 : 0 ≤ (-1) * v3729.toInt + v3731.toInt + (-2) := by omega
      refine lv_aload_n hx hb dX13_readOrder_200 rfl (lv_at hl 1 rfl) ?_
      refine mz_Vv (As := []) (rest := []) ⟨hx, hb, hml, hown, hts⟩ hK hM hS (k_X13_next l D cy ld ad am hD _ _ _ _ v3731 gp hIF hIG hIR hf3730 hg_3 (by omega)) ⟨callB_of 0 hts (wl_in mw_685) rfl rfl rfl (htl _ mw_5) (htl _ mw_682) hd_yX13_next ⟨(Nat.le_of_ble_eq_true rfl), (Nat.le_of_ble_eq_true rfl)⟩, htl _ mw_683, htl _ mw_684⟩ rfl hl.1 rfl (Nat.le_of_ble_eq_true rfl) dX13_readOrder_201 ⟨(Nat.le_of_ble_eq_true rfl), (Nat.le_of_ble_eq_true rfl)⟩ (fun H locs F G R S hpo hM hS => ?_)
      obtain ⟨hIF, hIG, hIR, hfr9, hrr9, hgr9, hpo3815, hpo3816, hpo3817, hpo3818, hpo3819⟩ := hpo
      have hFF := mz_fr (K := [14, 15, 16, 18, 19, 21, 23, 26, 29, 30]) (Fa := Fa) hfr9 hFF (by decide)
      have hRR := mz_fr (K := [24, 25, 27, 28, 61]) (Fa := Ra) hrr9 hRR (by decide)
      have hGG := mz_fr (K := [17]) (Fa := Ga) hgr9 hGG (by decide)
      have hg_3 := (hfr9 13 (by decide)).trans hg_3
      have hf111 := (hfr9 21 (by decide)).trans hf111
      have hf3736 := (hfr9 19 (by decide)).trans hf3736
      have hf3738 := (hfr9 23 (by decide)).trans hf3738
      obtain ⟨v3822, hf3821⟩ : ∃ z : Int32, F 14 = z := ⟨_, rfl⟩
      have hq_v3822 := tk_rng v3822
      rw [hf3821] at hpo3815 hpo3816 hpo3818 hpo3819
      have hr_v3822 : 0 ≤ v3822.toInt ∧ v3822.toInt ≤ 400 := hIF.at hf3821
      obtain ⟨v3824, hf3823⟩ : ∃ z : Int32, F 15 = z := ⟨_, rfl⟩
      have hq_v3824 := tk_rng v3824
      rw [hf3823] at hpo3816 hpo3817 hpo3818 hpo3819
      have hr_v3824 : 0 ≤ v3824.toInt ∧ v3824.toInt ≤ 400 := hIF.at hf3823
      obtain ⟨v3826, hf3825⟩ : ∃ z : Int32, F 16 = z := ⟨_, rfl⟩
      have hq_v3826 := tk_rng v3826
      rw [hf3825] at hpo3818 hpo3819
      have hr_v3826 : 0 ≤ v3826.toInt ∧ v3826.toInt ≤ 3 := hIF.at hf3825
      obtain ⟨w3828, hf3827⟩ : ∃ z : Int64, G 17 = z := ⟨_, rfl⟩
      have hq_w3828 := tk_rngL w3828
      rw [hf3827] at hpo3819
      have hL22 := hL22.to (hrr9 61 (by decide))
      have h22_1 := (congrFun (hrr9 61 (by decide)) _).trans h22_1
      have h22_2 := (congrFun (hrr9 61 (by decide)) _).trans h22_2
      have h22_3 := (congrFun (hrr9 61 (by decide)) _).trans h22_3
      have h22_4 := (congrFun (hrr9 61 (by decide)) _).trans h22_4
      have h22_5 := (congrFun (hrr9 61 (by decide)) _).trans h22_5
      have h22_6 := (congrFun (hrr9 61 (by decide)) _).trans h22_6
      have h22_7 := (congrFun (hrr9 61 (by decide)) _).trans h22_7
      have h22_8 := (congrFun (hrr9 61 (by decide)) _).trans h22_8
      have h22_0 := (congrFun (hrr9 61 (by decide)) _).trans h22_0
      have h22_9 := (congrFun (hrr9 61 (by decide)) _).trans h22_9
      have hC9 := hC
      have hC : v3737.toInt = 0 → CLS 10 [1, 3, 5, 7] (R 24) (R 25) (Ra 61) gc.toInt gn.toInt := fun h9 => (hC9 (by omega)).to (hrr9 24 (by decide)) (hrr9 25 (by decide))
      have hX35239 := hX3523
      have hX3523 : v3737.toInt = 0 → WFX (R 24) (R 25) gc v3522 := fun h9 => by rw [hrr9 24 (by decide), hrr9 25 (by decide)]; exact hX35239 (by omega)
      have hX37159 := hX3715
      have hX3715 : v3737.toInt = 0 → WFX (R 24) (R 25) v3522 v3714 := fun h9 => by rw [hrr9 24 (by decide), hrr9 25 (by decide)]; exact hX37159 (by omega)
      have hX37409 := hX3740
      have hX3740 : v3737.toInt = 0 → WFX (R 24) (R 25) v3714 v3739 := fun h9 => by rw [hrr9 24 (by decide), hrr9 25 (by decide)]; exact hX37409 (by omega)
      refine lv_aload_n hx hb dX13_readOrder_204 rfl (lv_at hl 1 rfl) ?_
      refine mz_getR hx hb htl hown hK hM 61 (Nat.le_of_ble_eq_true rfl) (Nat.le_of_ble_eq_true rfl) (htl _ mw_239) (fun _ h9 => h9) dX13_readOrder_205 ?_
      refine lv_iload_n hx hb dX13_readOrder_208 rfl (lv_at hl 0 rfl) ?_
      refine lv_bipush (v := 9) hx hb dX13_readOrder_209 (by decide) ?_
      refine lv_iadd hx hb dX13_readOrder_211 ?_
      refine tk_add rfl (show (9 : Int32).toInt = 9 by decide) (by omega) (by omega) (fun v3829 h_v3829 => ?_)
      refine lv_aload_n hx hb dX13_readOrder_212 rfl (lv_at hl 1 rfl) ?_
      refine lv_lconst (v := 1) hx hb dX13_readOrder_213 (by decide) ?_
      refine lv_ldc2 hx hb hown (htl _ mw_782) dX13_readOrder_214 ?_
      have hk_1 : (1 : Int64).toInt = 1 := by decide
      have hk_20 : (20 : Int64).toInt = 20 := by decide
      refine mz_Vi (As := [.long 1, .long 20]) (rest := [.int v3829, .ref (ad 61)]) ⟨hx, hb, hml, hown, hts⟩ hK hM hS (k_X13_number l D cy ld ad am hD _ _ _ _ 1 20 v3822 v3824 v3826 gp w3828 v3737 hIF hIG hIR hf3821 hf3823 hf3825 hg_3 hf3827 hf3736 (by omega) (by omega) (by omega) (by omega) (by omega) (by omega) (by omega) (by omega)) ⟨callB_of 2 hts (wl_in mw_762) rfl rfl rfl (htl _ mw_5) (htl _ mw_759) hd_yX13_number ⟨(Nat.le_of_ble_eq_true rfl), (Nat.le_of_ble_eq_true rfl)⟩, htl _ mw_760, htl _ mw_761⟩ rfl hl.1 rfl (Nat.le_of_ble_eq_true rfl) dX13_readOrder_217 ⟨(Nat.le_of_ble_eq_true rfl), (Nat.le_of_ble_eq_true rfl)⟩ (fun v3830 H locs F G R S hpo hM hS => ?_)
      obtain ⟨hIF, hIG, hIR, hfr9, hrr9, hgr9, hpo3831, hpo3832, hpo3833, hpo3834, hpo3835, hpo3836, hpo3837⟩ := hpo
      have hq_v3830 := tk_rng v3830
      have hFF := mz_fr (K := [14, 15, 16, 18, 19, 21, 23, 26, 29, 30]) (Fa := Fa) hfr9 hFF (by decide)
      have hRR := mz_fr (K := [24, 25, 27, 28, 61]) (Fa := Ra) hrr9 hRR (by decide)
      have hGG := mz_fr (K := [17]) (Fa := Ga) hgr9 hGG (by decide)
      have hg_3 := (hfr9 13 (by decide)).trans hg_3
      have hf111 := (hfr9 21 (by decide)).trans hf111
      have hf3738 := (hfr9 23 (by decide)).trans hf3738
      obtain ⟨v3840, hf3839⟩ : ∃ z : Int32, F 14 = z := ⟨_, rfl⟩
      have hq_v3840 := tk_rng v3840
      rw [hf3839] at hpo3831 hpo3833 hpo3834 hpo3835 hpo3837
      have hr_v3840 : 0 ≤ v3840.toInt ∧ v3840.toInt ≤ 400 := hIF.at hf3839
      obtain ⟨v3842, hf3841⟩ : ∃ z : Int32, F 15 = z := ⟨_, rfl⟩
      have hq_v3842 := tk_rng v3842
      rw [hf3841] at hpo3831 hpo3832 hpo3833 hpo3834
      have hr_v3842 : 0 ≤ v3842.toInt ∧ v3842.toInt ≤ 400 := hIF.at hf3841
      obtain ⟨v3844, hf3843⟩ : ∃ z : Int32, F 16 = z := ⟨_, rfl⟩
      have hq_v3844 := tk_rng v3844
      rw [hf3843] at hpo3833 hpo3834
      have hr_v3844 : 0 ≤ v3844.toInt ∧ v3844.toInt ≤ 3 := hIF.at hf3843
      obtain ⟨w3846, hf3845⟩ : ∃ z : Int64, G 17 = z := ⟨_, rfl⟩
      have hq_w3846 := tk_rngL w3846
      rw [hf3845] at hpo3834
      obtain ⟨v3848, hf3847⟩ : ∃ z : Int32, F 19 = z := ⟨_, rfl⟩
      have hq_v3848 := tk_rng v3848
      rw [hf3847] at hpo3836 hpo3837
      have hr_v3848 : 0 ≤ v3848.toInt ∧ v3848.toInt ≤ 1 := hIF.at hf3847
      have hL22 := hL22.to (hrr9 61 (by decide))
      have h22_1 := (congrFun (hrr9 61 (by decide)) _).trans h22_1
      have h22_2 := (congrFun (hrr9 61 (by decide)) _).trans h22_2
      have h22_3 := (congrFun (hrr9 61 (by decide)) _).trans h22_3
      have h22_4 := (congrFun (hrr9 61 (by decide)) _).trans h22_4
      have h22_5 := (congrFun (hrr9 61 (by decide)) _).trans h22_5
      have h22_6 := (congrFun (hrr9 61 (by decide)) _).trans h22_6
      have h22_7 := (congrFun (hrr9 61 (by decide)) _).trans h22_7
      have h22_8 := (congrFun (hrr9 61 (by decide)) _).trans h22_8
      have h22_0 := (congrFun (hrr9 61 (by decide)) _).trans h22_0
      have h22_9 := (congrFun (hrr9 61 (by decide)) _).trans h22_9
      have hC9 := hC
      have hC : v3848.toInt = 0 → CLS 10 [1, 3, 5, 7] (R 24) (R 25) (Ra 61) gc.toInt gn.toInt := fun h9 => (hC9 (by omega)).to (hrr9 24 (by decide)) (hrr9 25 (by decide))
      have hX35239 := hX3523
      have hX3523 : v3848.toInt = 0 → WFX (R 24) (R 25) gc v3522 := fun h9 => by rw [hrr9 24 (by decide), hrr9 25 (by decide)]; exact hX35239 (by omega)
      have hX37159 := hX3715
      have hX3715 : v3848.toInt = 0 → WFX (R 24) (R 25) v3522 v3714 := fun h9 => by rw [hrr9 24 (by decide), hrr9 25 (by decide)]; exact hX37159 (by omega)
      have hX37409 := hX3740
      have hX3740 : v3848.toInt = 0 → WFX (R 24) (R 25) v3714 v3739 := fun h9 => by rw [hrr9 24 (by decide), hrr9 25 (by decide)]; exact hX37409 (by omega)
      refine mz_iast (x := v3830) hx hb hK hD hM hS 61 (Nat.le_of_ble_eq_true rfl) rfl (nn := 120) rfl rfl (by omega) (by omega) dX13_readOrder_220 (fun H locs R hM hS hw9 hj9 => ?_)
      have hIR := hIR.put hw9 hj9 trivial
      have hL22 : low (10 * gn.toInt.toNat) (Ra 61) (R 61) := fun j hj => by rw [hw9, pk_un (fun h9 => by have h8 := tk_nat (i := v3829) rfl (by omega); omega)]; exact hL22 j hj
      have h22_1 : R 61 (10 * gn.toInt.toNat + 1) = gc := by rw [hw9, pk_un (fun h9 => by have h8 := tk_nat (i := v3829) rfl (by omega); omega)]; exact h22_1
      have h22_2 : R 61 (10 * gn.toInt.toNat + 2) = v3522 := by rw [hw9, pk_un (fun h9 => by have h8 := tk_nat (i := v3829) rfl (by omega); omega)]; exact h22_2
      have h22_3 : R 61 (10 * gn.toInt.toNat + 3) = v3522 := by rw [hw9, pk_un (fun h9 => by have h8 := tk_nat (i := v3829) rfl (by omega); omega)]; exact h22_3
      have h22_4 : R 61 (10 * gn.toInt.toNat + 4) = v3714 := by rw [hw9, pk_un (fun h9 => by have h8 := tk_nat (i := v3829) rfl (by omega); omega)]; exact h22_4
      have h22_5 : R 61 (10 * gn.toInt.toNat + 5) = v3714 := by rw [hw9, pk_un (fun h9 => by have h8 := tk_nat (i := v3829) rfl (by omega); omega)]; exact h22_5
      have h22_6 : R 61 (10 * gn.toInt.toNat + 6) = v3739 := by rw [hw9, pk_un (fun h9 => by have h8 := tk_nat (i := v3829) rfl (by omega); omega)]; exact h22_6
      have h22_7 : R 61 (10 * gn.toInt.toNat + 7) = 0 := by rw [hw9, pk_un (fun h9 => by have h8 := tk_nat (i := v3829) rfl (by omega); omega)]; exact h22_7
      have h22_8 : R 61 (10 * gn.toInt.toNat + 8) = 0 := by rw [hw9, pk_un (fun h9 => by have h8 := tk_nat (i := v3829) rfl (by omega); omega)]; exact h22_8
      have h22_0 : R 61 (10 * gn.toInt.toNat + 0) = v38 := by rw [hw9, pk_un (fun h9 => by have h8 := tk_nat (i := v3829) rfl (by omega); omega)]; exact h22_0
      have hC9 := hC
      have hC : v3848.toInt = 0 → CLS 10 [1, 3, 5, 7] (R 24) (R 25) (Ra 61) gc.toInt gn.toInt := fun h9 => (hC9 (by omega)).to (hj9 24 (by decide)) (hj9 25 (by decide))
      have hX35239 := hX3523
      have hX3523 : v3848.toInt = 0 → WFX (R 24) (R 25) gc v3522 := fun h9 => by rw [hj9 24 (by decide), hj9 25 (by decide)]; exact hX35239 (by omega)
      have hX37159 := hX3715
      have hX3715 : v3848.toInt = 0 → WFX (R 24) (R 25) v3522 v3714 := fun h9 => by rw [hj9 24 (by decide), hj9 25 (by decide)]; exact hX37159 (by omega)
      have hX37409 := hX3740
      have hX3740 : v3848.toInt = 0 → WFX (R 24) (R 25) v3714 v3739 := fun h9 => by rw [hj9 24 (by decide), hj9 25 (by decide)]; exact hX37409 (by omega)
      have h22_9 : R 61 (10 * gn.toInt.toNat + 9) = v3830 := by rw [hw9, show 10 * gn.toInt.toNat + 9 = (v3829 : Int32).toNatClampNeg by show _ = v3829.toInt.toNat; omega]; exact pk_us
      have hRR := mz_frp (K := [24, 25, 27, 28, 61]) (Fa := Ra) hj9 hRR (by decide)
      exact kz_X13_readOrder_c11 l D cy ld ad am hD Fa Ga Ra Sa gf gt gs gp gw gb gc gn hx hb hr hml hts htl hown hlocks hK hp_0 hp_1 hp_2 hp_3 hp_4 hp_5 hg_0 hg_1 hg_2 hg_3 hg_4 hg_5 hg_6 hg_7 hx_0 hx_1 v108 v109 v3522 v3714 v3739 v38 v3830 v3840 v3842 v3844 v3848 w3846 _ _ _ _ _ _ (by omega) (by omega) (by omega) (by omega) (by omega) (by omega) (by omega) (by omega) (by omega) (by omega) (by omega) (by omega) (by omega) (by omega) (by omega) (by omega) (by omega) (by omega) (by omega) (by omega) (by omega) (by omega) hM hS hIF hIG hIR hFF hGG hRR hg_3 hf111 hf3738 hf3839 hf3841 hf3843 hf3845 hf3847 (by omega) (by omega) (by omega) (by omega) hL22 hC h22_1 h22_2 h22_3 h22_4 h22_5 h22_6 h22_7 h22_8 h22_0 h22_9 hX3523 hX3715 hX3740 _ (lv_sub hl [0, 1] rfl)
set_option maxHeartbeats 4000000 in
set_option maxRecDepth 100000 in
theorem k_X13_readOrder (l : Launch) (D : va_G) (cy : Nat → ClassId) (ld ad : Nat → Nat) (am : Nat) (hD : mz_D ad am) (Fa : Nat → Int32) (Ga : Nat → Int64) (Ra : Nat → Nat → Int32) (Sa : Nat → Nat → Int64) (gf : Int32) (gt : Int32) (gs : Int32) (gp : Int32) (gw : Int64) (gb : Int32) (gc : Int32) (gn : Int32) (hIF : mz_IF false Fa) (hIG : mz_IG Ga) (hIR : mz_IR [] true Ra) (hg_0 : Fa 14 = gf) (hg_1 : Fa 15 = gt) (hg_2 : Fa 16 = gs) (hg_3 : Fa 13 = gp) (hg_4 : Ga 17 = gw) (hg_5 : Fa 19 = gb) (hg_6 : Fa 23 = gc) (hg_7 : Fa 21 = gn) (hp_0 : 0 ≤ (-1) * gf.toInt + gt.toInt) (hp_1 : 0 ≤ gp.toInt + (-1) * gt.toInt) (hp_2 : (1 ≤ gs.toInt → 0 ≤ (-1) * gf.toInt + gt.toInt + (-1))) (hp_3 : (27 ≤ gw.toInt → 1 ≤ gs.toInt → gs.toInt ≤ 1 → 0 ≤ (-1) * gf.toInt + gt.toInt + (-2))) (hp_4 : 0 ≤ (-1) * gc.toInt + gf.toInt) (hp_5 : gb.toInt ≤ 0) (hx_0 : CLS 10 [1, 3, 5, 7] (Ra 24) (Ra 25) (Ra 61) gc.toInt gn.toInt) (hx_1 : TMS (Ra 61) gn.toInt) : Met l yX13_readOrder (wl yX13_readOrder cX13_readOrder 4 none) ({ frames := 12, cells := 0, slots := 0, locals := 770 }) (mz_p D cy ld ad am Fa Ga Ra Sa [.ref am]) (mz_w D cy ad am (fun F G R S => mz_IF false F ∧ mz_IG G ∧ mz_IR [] true R ∧ (∀ k : Nat, k ∉ ([14, 15, 16, 18, 19, 21, 23, 26, 29, 30] : List Nat) → F k = Fa k) ∧ (∀ k : Nat, k ∉ ([24, 25, 27, 28, 61] : List Nat) → R k = Ra k) ∧ (∀ k : Nat, k ∉ ([17] : List Nat) → G k = Ga k) ∧ 0 ≤ (-1) * (F 14).toInt + (F 15).toInt ∧ 0 ≤ gp.toInt + (-1) * (F 15).toInt ∧ (1 ≤ (F 16).toInt → 0 ≤ (-1) * (F 14).toInt + (F 15).toInt + (-1)) ∧ (27 ≤ (G 17).toInt → 1 ≤ (F 16).toInt → (F 16).toInt ≤ 1 → 0 ≤ (-1) * (F 14).toInt + (F 15).toInt + (-2)) ∧ 0 ≤ (-1) * gf.toInt + (F 14).toInt ∧ 0 ≤ (-1) * gc.toInt + (F 23).toInt ∧ 0 ≤ (-1) * (F 23).toInt + (F 14).toInt ∧ 0 ≤ (-1) * gb.toInt + (F 19).toInt ∧ ((F 19).toInt ≤ 0 → 0 ≤ (-1) * gf.toInt + (F 14).toInt + (-1)) ∧ ((F 19).toInt = 0 → CLS 10 [1, 3, 5, 7] (R 24) (R 25) (R 61) (F 23).toInt (F 21).toInt) ∧ ((F 19).toInt = 0 → TMS (R 61) (F 21).toInt))) 0 0 (mz_W ad am) := by
  refine mz_met (y := yX13_readOrder) (cc := cX13_readOrder) (maxL := 4) (ret := none) (av := [.ref am]) _ (by decide) (Nat.le_of_ble_eq_true rfl) ?_
  intro p e s m args below meth c hx hb hr hml hts htl hown hlocks hK H locs hM hS ls hl
  have hown : s.vm.findClass RX13 = some m.cls := hown
  have hl : lv_has ls 4 [(0, .ref am)] := hl
  have hq_gf := tk_rng gf
  have hq_gt := tk_rng gt
  have hq_gs := tk_rng gs
  have hq_gp := tk_rng gp
  have hq_gw := tk_rngL gw
  have hq_gb := tk_rng gb
  have hq_gc := tk_rng gc
  have hq_gn := tk_rng gn
  have hr_gf : 0 ≤ gf.toInt ∧ gf.toInt ≤ 400 := hIF.at hg_0
  have hr_gt : 0 ≤ gt.toInt ∧ gt.toInt ≤ 400 := hIF.at hg_1
  have hr_gs : 0 ≤ gs.toInt ∧ gs.toInt ≤ 3 := hIF.at hg_2
  have hr_gp : 0 ≤ gp.toInt ∧ gp.toInt ≤ 400 := hIF.at hg_3
  have hr_gb : 0 ≤ gb.toInt ∧ gb.toInt ≤ 1 := hIF.at hg_5
  have hr_gc : 0 ≤ gc.toInt ∧ gc.toInt ≤ 400 := hIF.at hg_6
  have hr_gn : 0 ≤ gn.toInt ∧ gn.toInt ≤ 12 := hIF.at hg_7
  have hL22 := low.refl (10 * gn.toInt.toNat) (Ra 61)
  have hC : gb.toInt = 0 → CLS 10 [1, 3, 5, 7] (Ra 24) (Ra 25) (Ra 61) gc.toInt gn.toInt := fun _ => hx_0
  refine lv_aload_n hx hb dX13_readOrder_0 rfl (lv_at hl 0 rfl) ?_
  refine lv_ldc2 hx hb hown (htl _ mw_1015) dX13_readOrder_1 ?_
  have hk_2268462 : (2268462 : Int64).toInt = 2268462 := by decide
  refine mz_Vj (As := [.long 2268462]) (rest := []) ⟨hx, hb, hml, hown, hts⟩ hK hM hS (k_X13_isWord l D cy ld ad am hD _ _ _ _ 2268462 gs gw hIF hIG hIR hg_2 hg_4) ⟨callB_of 1 hts (wl_in mw_709) rfl rfl rfl (htl _ mw_5) (htl _ mw_706) hd_yX13_isWord ⟨(Nat.le_of_ble_eq_true rfl), (Nat.le_of_ble_eq_true rfl)⟩, htl _ mw_707, htl _ mw_708⟩ rfl hl.1 rfl (Nat.le_of_ble_eq_true rfl) dX13_readOrder_4 ⟨(Nat.le_of_ble_eq_true rfl), (Nat.le_of_ble_eq_true rfl)⟩ (fun v1 H locs hpo hM hS => ?_)
  obtain ⟨hpo2, hpo3, hpo4, hpo5, hpo6⟩ := hpo
  have hq_v1 := tk_rng v1
  have hj40 : ∀ (v38 : Int32) (H : Heap) (locs : List Loc), (v38.toInt ≤ 3) → (0 ≤ gt.toInt + (-1) * v38.toInt + 1) → (0 ≤ (-1) * gb.toInt + v38.toInt + 1) → (mz_S D cy ad am Fa Ga Ra Sa H) → (va_S (mz_W ad am) s.heap H locs) → ((0 ≤ v38.toInt → gs.toInt + (-1) = 0)) → ∀ ls : Array Slot, lv_has ls 4 [(0, .ref am)] → W p l e ({ frames := 12, cells := 0, slots := 0, locals := 770 }) s m args below meth c H locs 0 0 (MQ below (mz_w D cy ad am (fun F G R S => mz_IF false F ∧ mz_IG G ∧ mz_IR [] true R ∧ (∀ k : Nat, k ∉ ([14, 15, 16, 18, 19, 21, 23, 26, 29, 30] : List Nat) → F k = Fa k) ∧ (∀ k : Nat, k ∉ ([24, 25, 27, 28, 61] : List Nat) → R k = Ra k) ∧ (∀ k : Nat, k ∉ ([17] : List Nat) → G k = Ga k) ∧ 0 ≤ (-1) * (F 14).toInt + (F 15).toInt ∧ 0 ≤ gp.toInt + (-1) * (F 15).toInt ∧ (1 ≤ (F 16).toInt → 0 ≤ (-1) * (F 14).toInt + (F 15).toInt + (-1)) ∧ (27 ≤ (G 17).toInt → 1 ≤ (F 16).toInt → (F 16).toInt ≤ 1 → 0 ≤ (-1) * (F 14).toInt + (F 15).toInt + (-2)) ∧ 0 ≤ (-1) * gf.toInt + (F 14).toInt ∧ 0 ≤ (-1) * gc.toInt + (F 23).toInt ∧ 0 ≤ (-1) * (F 23).toInt + (F 14).toInt ∧ 0 ≤ (-1) * gb.toInt + (F 19).toInt ∧ ((F 19).toInt ≤ 0 → 0 ≤ (-1) * gf.toInt + (F 14).toInt + (-1)) ∧ ((F 19).toInt = 0 → CLS 10 [1, 3, 5, 7] (R 24) (R 25) (R 61) (F 23).toInt (F 21).toInt) ∧ ((F 19).toInt = 0 → TMS (R 61) (F 21).toInt))) args s 0 0 (mz_W ad am)) (F0 m 57 ls [.int v38]) := by
    intro v38 H locs hq0_j40 hq1_j40 hq2_j40 hM hS hc0_j40 ls hl
    refine lv_istore_n (lv' := [(1, .int v38), (0, .ref am)]) hx hb dX13_readOrder_57 rfl hl (by decide) rfl (fun ls hl => ?_)
    refine lv_aload_n hx hb dX13_readOrder_58 rfl (lv_at hl 1 rfl) ?_
    refine lv_iload_n hx hb dX13_readOrder_59 rfl (lv_at hl 0 rfl) ?_
    refine lv_iconst (v := (-1)) hx hb dX13_readOrder_60 (by decide) ?_
    refine lv_icmp_eq (tgt := 77) hx hb dX13_readOrder_61 (by decide) (fun c9 => ?_) (fun c9 => ?_)
    · have hc41 : v38.toInt = (-1) := (fi_eq rfl (show ((-1) : Int32).toInt = (-1) by decide)).mp c9
      refine lv_iconst (v := 0) hx hb dX13_readOrder_77 (by decide) ?_
      have hk_0 : (0 : Int32).toInt = 0 := by decide
      refine mz_Vv (As := [.int 0]) (rest := []) ⟨hx, hb, hml, hown, hts⟩ hK hM hS (k_X13_must l D cy ld ad am hD _ _ _ _ 0 gf gt gs gp gw gb hIF hIG hIR hg_0 hg_1 hg_2 hg_3 hg_4 hg_5 (by omega) (by omega) (by omega) (by omega) (by omega) (by omega)) ⟨callB_of 1 hts (wl_in mw_713) rfl rfl rfl (htl _ mw_5) (htl _ mw_710) hd_yX13_must ⟨(Nat.le_of_ble_eq_true rfl), (Nat.le_of_ble_eq_true rfl)⟩, htl _ mw_711, htl _ mw_712⟩ rfl hl.1 rfl (Nat.le_of_ble_eq_true rfl) dX13_readOrder_78 ⟨(Nat.le_of_ble_eq_true rfl), (Nat.le_of_ble_eq_true rfl)⟩ (fun H locs F G R S hpo hM hS => ?_)
      obtain ⟨hIF, hIG, hIR, hfr9, hrr9, hgr9, hpo42, hpo43, hpo44, hpo45, hpo46, hpo47, hpo48, hpo49⟩ := hpo
      have hFF := mz_fr (K := [14, 15, 16, 18, 19, 21, 23, 26, 29, 30]) (Fa := Fa) hfr9 (fun _ _ => rfl) (by decide)
      have hRR := mz_fr (K := [24, 25, 27, 28, 61]) (Fa := Ra) hrr9 (fun _ _ => rfl) (by decide)
      have hGG := mz_fr (K := [17]) (Fa := Ga) hgr9 (fun _ _ => rfl) (by decide)
      have hg_3 := (hfr9 13 (by decide)).trans hg_3
      have hg_6 := (hfr9 23 (by decide)).trans hg_6
      have hg_7 := (hfr9 21 (by decide)).trans hg_7
      obtain ⟨v52, hf51⟩ : ∃ z : Int32, F 14 = z := ⟨_, rfl⟩
      have hq_v52 := tk_rng v52
      rw [hf51] at hpo42 hpo44 hpo45 hpo46 hpo48
      have hr_v52 : 0 ≤ v52.toInt ∧ v52.toInt ≤ 400 := hIF.at hf51
      obtain ⟨v54, hf53⟩ : ∃ z : Int32, F 15 = z := ⟨_, rfl⟩
      have hq_v54 := tk_rng v54
      rw [hf53] at hpo42 hpo43 hpo44 hpo45
      have hr_v54 : 0 ≤ v54.toInt ∧ v54.toInt ≤ 400 := hIF.at hf53
      obtain ⟨v56, hf55⟩ : ∃ z : Int32, F 16 = z := ⟨_, rfl⟩
      have hq_v56 := tk_rng v56
      rw [hf55] at hpo44 hpo45
      have hr_v56 : 0 ≤ v56.toInt ∧ v56.toInt ≤ 3 := hIF.at hf55
      obtain ⟨w58, hf57⟩ : ∃ z : Int64, G 17 = z := ⟨_, rfl⟩
      have hq_w58 := tk_rngL w58
      rw [hf57] at hpo45
      obtain ⟨v60, hf59⟩ : ∃ z : Int32, F 19 = z := ⟨_, rfl⟩
      have hq_v60 := tk_rng v60
      rw [hf59] at hpo47 hpo48 hpo49
      have hr_v60 : 0 ≤ v60.toInt ∧ v60.toInt ≤ 1 := hIF.at hf59
      have hL22 := hL22.to (hrr9 61 (by decide))
      have hC9 := hC
      have hC : v60.toInt = 0 → CLS 10 [1, 3, 5, 7] (R 24) (R 25) (Ra 61) gc.toInt gn.toInt := fun h9 => (hC9 (by omega)).to (hrr9 24 (by decide)) (hrr9 25 (by decide))
      refine lv_aload_n hx hb dX13_readOrder_81 rfl (lv_at hl 1 rfl) ?_
      refine mz_getI hx hb htl hown hK hM 19 (Nat.le_of_ble_eq_true rfl) rfl (htl _ mw_668) (fun _ h9 => h9) dX13_readOrder_82 (fun v9 e9 => ?_)
      refine fx_ti (v := v60) (e9.symm.trans hf59) ?_
      refine lv_if_eq (tgt := 89) hx hb dX13_readOrder_85 (by decide) (fun c9 => ?_) (fun c9 => ?_)
      · have hc61 : v60.toInt = 0 := (fi_eq rfl (show (0 : Int32).toInt = 0 by decide)).mp c9
        have hwk_62 : 0 ≤ (-1) * gt.toInt + v52.toInt ∧ 0 ≤ (-1) := by omega
        exfalso
        omega
      · have hc61 : ¬ (v60.toInt = 0) := fun h9 => c9 ((fi_eq rfl (show (0 : Int32).toInt = 0 by decide)).mpr h9)
        exact mz_vret hx hb hr hlocks ⟨hIF, hIG, hIR, hFF, hRR, hGG, (by rw [hf51, hf53]; omega), (by rw [hf53]; omega), (by rw [hf51, hf53, hf55]; omega), (by rw [hf51, hf53, hf55, hf57]; omega), (by rw [hf51]; omega), (by rw [hg_6]; omega), (by rw [hf51, hg_6]; omega), (by rw [hf59]; omega), (by rw [hf51, hf59]; omega), (by rw [hf59]; exact fun h9 => absurd h9 (by omega)), (by rw [hf59]; exact fun h9 => absurd h9 (by omega))⟩ hM hS dX13_readOrder_88
    · have hc41 : ¬ (v38.toInt = (-1)) := fun h9 => c9 ((fi_eq rfl (show ((-1) : Int32).toInt = (-1) by decide)).mpr h9)
      have hwk_63 : gs.toInt + (-1) = 0 := by omega
      have hwk_64 : 0 ≤ (-1) * gf.toInt + gt.toInt + (-1) := by omega
      refine lv_aload_n hx hb dX13_readOrder_64 rfl (lv_at hl 1 rfl) ?_
      refine mz_getI hx hb htl hown hK hM 21 (Nat.le_of_ble_eq_true rfl) rfl (htl _ mw_669) (fun _ h9 => h9) dX13_readOrder_65 (fun v9 e9 => ?_)
      refine fx_ti (v := gn) (e9.symm.trans hg_7) ?_
      refine lv_bipush (v := 12) hx hb dX13_readOrder_68 (by decide) ?_
      refine lv_icmp_ge (tgt := 77) hx hb dX13_readOrder_70 (by decide) (fun c9 => ?_) (fun c9 => ?_)
      · have hc65 : 12 ≤ gn.toInt := (fi_le (show (12 : Int32).toInt = 12 by decide) rfl).mp c9
        refine lv_iconst (v := 0) hx hb dX13_readOrder_77 (by decide) ?_
        have hk_0 : (0 : Int32).toInt = 0 := by decide
        refine mz_Vv (As := [.int 0]) (rest := []) ⟨hx, hb, hml, hown, hts⟩ hK hM hS (k_X13_must l D cy ld ad am hD _ _ _ _ 0 gf gt gs gp gw gb hIF hIG hIR hg_0 hg_1 hg_2 hg_3 hg_4 hg_5 (by omega) (by omega) (by omega) (by omega) (by omega) (by omega)) ⟨callB_of 1 hts (wl_in mw_713) rfl rfl rfl (htl _ mw_5) (htl _ mw_710) hd_yX13_must ⟨(Nat.le_of_ble_eq_true rfl), (Nat.le_of_ble_eq_true rfl)⟩, htl _ mw_711, htl _ mw_712⟩ rfl hl.1 rfl (Nat.le_of_ble_eq_true rfl) dX13_readOrder_78 ⟨(Nat.le_of_ble_eq_true rfl), (Nat.le_of_ble_eq_true rfl)⟩ (fun H locs F G R S hpo hM hS => ?_)
        obtain ⟨hIF, hIG, hIR, hfr9, hrr9, hgr9, hpo66, hpo67, hpo68, hpo69, hpo70, hpo71, hpo72, hpo73⟩ := hpo
        have hFF := mz_fr (K := [14, 15, 16, 18, 19, 21, 23, 26, 29, 30]) (Fa := Fa) hfr9 (fun _ _ => rfl) (by decide)
        have hRR := mz_fr (K := [24, 25, 27, 28, 61]) (Fa := Ra) hrr9 (fun _ _ => rfl) (by decide)
        have hGG := mz_fr (K := [17]) (Fa := Ga) hgr9 (fun _ _ => rfl) (by decide)
        have hg_3 := (hfr9 13 (by decide)).trans hg_3
        have hg_6 := (hfr9 23 (by decide)).trans hg_6
        have hg_7 := (hfr9 21 (by decide)).trans hg_7
        obtain ⟨v76, hf75⟩ : ∃ z : Int32, F 14 = z := ⟨_, rfl⟩
        have hq_v76 := tk_rng v76
        rw [hf75] at hpo66 hpo68 hpo69 hpo70 hpo72
        have hr_v76 : 0 ≤ v76.toInt ∧ v76.toInt ≤ 400 := hIF.at hf75
        obtain ⟨v78, hf77⟩ : ∃ z : Int32, F 15 = z := ⟨_, rfl⟩
        have hq_v78 := tk_rng v78
        rw [hf77] at hpo66 hpo67 hpo68 hpo69
        have hr_v78 : 0 ≤ v78.toInt ∧ v78.toInt ≤ 400 := hIF.at hf77
        obtain ⟨v80, hf79⟩ : ∃ z : Int32, F 16 = z := ⟨_, rfl⟩
        have hq_v80 := tk_rng v80
        rw [hf79] at hpo68 hpo69
        have hr_v80 : 0 ≤ v80.toInt ∧ v80.toInt ≤ 3 := hIF.at hf79
        obtain ⟨w82, hf81⟩ : ∃ z : Int64, G 17 = z := ⟨_, rfl⟩
        have hq_w82 := tk_rngL w82
        rw [hf81] at hpo69
        obtain ⟨v84, hf83⟩ : ∃ z : Int32, F 19 = z := ⟨_, rfl⟩
        have hq_v84 := tk_rng v84
        rw [hf83] at hpo71 hpo72 hpo73
        have hr_v84 : 0 ≤ v84.toInt ∧ v84.toInt ≤ 1 := hIF.at hf83
        have hL22 := hL22.to (hrr9 61 (by decide))
        have hC9 := hC
        have hC : v84.toInt = 0 → CLS 10 [1, 3, 5, 7] (R 24) (R 25) (Ra 61) gc.toInt gn.toInt := fun h9 => (hC9 (by omega)).to (hrr9 24 (by decide)) (hrr9 25 (by decide))
        refine lv_aload_n hx hb dX13_readOrder_81 rfl (lv_at hl 1 rfl) ?_
        refine mz_getI hx hb htl hown hK hM 19 (Nat.le_of_ble_eq_true rfl) rfl (htl _ mw_668) (fun _ h9 => h9) dX13_readOrder_82 (fun v9 e9 => ?_)
        refine fx_ti (v := v84) (e9.symm.trans hf83) ?_
        refine lv_if_eq (tgt := 89) hx hb dX13_readOrder_85 (by decide) (fun c9 => ?_) (fun c9 => ?_)
        · have hc85 : v84.toInt = 0 := (fi_eq rfl (show (0 : Int32).toInt = 0 by decide)).mp c9
          have hwk_86 : 0 ≤ (-1) * gt.toInt + v76.toInt ∧ 0 ≤ (-1) := by omega
          exfalso
          omega
        · have hc85 : ¬ (v84.toInt = 0) := fun h9 => c9 ((fi_eq rfl (show (0 : Int32).toInt = 0 by decide)).mpr h9)
          exact mz_vret hx hb hr hlocks ⟨hIF, hIG, hIR, hFF, hRR, hGG, (by rw [hf75, hf77]; omega), (by rw [hf77]; omega), (by rw [hf75, hf77, hf79]; omega), (by rw [hf75, hf77, hf79, hf81]; omega), (by rw [hf75]; omega), (by rw [hg_6]; omega), (by rw [hf75, hg_6]; omega), (by rw [hf83]; omega), (by rw [hf75, hf83]; omega), (by rw [hf83]; exact fun h9 => absurd h9 (by omega)), (by rw [hf83]; exact fun h9 => absurd h9 (by omega))⟩ hM hS dX13_readOrder_88
      · have hc65 : ¬ (12 ≤ gn.toInt) := fun h9 => c9 ((fi_le (show (12 : Int32).toInt = 12 by decide) rfl).mpr h9)
        refine lv_iconst (v := 1) hx hb dX13_readOrder_73 (by decide) ?_
        refine lv_goto (tgt := 78) hx hb dX13_readOrder_74 (by decide) ?_
        have hk_1 : (1 : Int32).toInt = 1 := by decide
        refine mz_Vv (As := [.int 1]) (rest := []) ⟨hx, hb, hml, hown, hts⟩ hK hM hS (k_X13_must l D cy ld ad am hD _ _ _ _ 1 gf gt gs gp gw gb hIF hIG hIR hg_0 hg_1 hg_2 hg_3 hg_4 hg_5 (by omega) (by omega) (by omega) (by omega) (by omega) (by omega)) ⟨callB_of 1 hts (wl_in mw_713) rfl rfl rfl (htl _ mw_5) (htl _ mw_710) hd_yX13_must ⟨(Nat.le_of_ble_eq_true rfl), (Nat.le_of_ble_eq_true rfl)⟩, htl _ mw_711, htl _ mw_712⟩ rfl hl.1 rfl (Nat.le_of_ble_eq_true rfl) dX13_readOrder_78 ⟨(Nat.le_of_ble_eq_true rfl), (Nat.le_of_ble_eq_true rfl)⟩ (fun H locs F G R S hpo hM hS => ?_)
        obtain ⟨hIF, hIG, hIR, hfr9, hrr9, hgr9, hpo87, hpo88, hpo89, hpo90, hpo91, hpo92, hpo93, hpo94⟩ := hpo
        have hFF := mz_fr (K := [14, 15, 16, 18, 19, 21, 23, 26, 29, 30]) (Fa := Fa) hfr9 (fun _ _ => rfl) (by decide)
        have hRR := mz_fr (K := [24, 25, 27, 28, 61]) (Fa := Ra) hrr9 (fun _ _ => rfl) (by decide)
        have hGG := mz_fr (K := [17]) (Fa := Ga) hgr9 (fun _ _ => rfl) (by decide)
        have hg_3 := (hfr9 13 (by decide)).trans hg_3
        have hg_6 := (hfr9 23 (by decide)).trans hg_6
        have hg_7 := (hfr9 21 (by decide)).trans hg_7
        obtain ⟨v97, hf96⟩ : ∃ z : Int32, F 14 = z := ⟨_, rfl⟩
        have hq_v97 := tk_rng v97
        rw [hf96] at hpo87 hpo89 hpo90 hpo91 hpo93
        have hr_v97 : 0 ≤ v97.toInt ∧ v97.toInt ≤ 400 := hIF.at hf96
        obtain ⟨v99, hf98⟩ : ∃ z : Int32, F 15 = z := ⟨_, rfl⟩
        have hq_v99 := tk_rng v99
        rw [hf98] at hpo87 hpo88 hpo89 hpo90
        have hr_v99 : 0 ≤ v99.toInt ∧ v99.toInt ≤ 400 := hIF.at hf98
        obtain ⟨v101, hf100⟩ : ∃ z : Int32, F 16 = z := ⟨_, rfl⟩
        have hq_v101 := tk_rng v101
        rw [hf100] at hpo89 hpo90
        have hr_v101 : 0 ≤ v101.toInt ∧ v101.toInt ≤ 3 := hIF.at hf100
        obtain ⟨w103, hf102⟩ : ∃ z : Int64, G 17 = z := ⟨_, rfl⟩
        have hq_w103 := tk_rngL w103
        rw [hf102] at hpo90
        obtain ⟨v105, hf104⟩ : ∃ z : Int32, F 19 = z := ⟨_, rfl⟩
        have hq_v105 := tk_rng v105
        rw [hf104] at hpo92 hpo93 hpo94
        have hr_v105 : 0 ≤ v105.toInt ∧ v105.toInt ≤ 1 := hIF.at hf104
        have hwk_106 : v105.toInt ≤ 0 := by omega
        have hwk_107 : 0 ≤ (-1) * gt.toInt + v97.toInt := by omega
        have hL22 := hL22.to (hrr9 61 (by decide))
        have hC9 := hC
        have hC : v105.toInt = 0 → CLS 10 [1, 3, 5, 7] (R 24) (R 25) (Ra 61) gc.toInt gn.toInt := fun h9 => (hC9 (by omega)).to (hrr9 24 (by decide)) (hrr9 25 (by decide))
        refine lv_aload_n hx hb dX13_readOrder_81 rfl (lv_at hl 1 rfl) ?_
        refine mz_getI hx hb htl hown hK hM 19 (Nat.le_of_ble_eq_true rfl) rfl (htl _ mw_668) (fun _ h9 => h9) dX13_readOrder_82 (fun v9 e9 => ?_)
        refine fx_ti (v := v105) (e9.symm.trans hf104) ?_
        refine lv_if_eq (tgt := 89) hx hb dX13_readOrder_85 (by decide) (fun _ => ?_) (fun c9 => absurd ((fi_eq rfl (show (0 : Int32).toInt = 0 by decide)).mpr (show v105.toInt = 0 by omega)) c9)
        refine lv_bipush (v := 10) hx hb dX13_readOrder_89 (by decide) ?_
        refine lv_aload_n hx hb dX13_readOrder_91 rfl (lv_at hl 1 rfl) ?_
        refine mz_getI hx hb htl hown hK hM 21 (Nat.le_of_ble_eq_true rfl) rfl (htl _ mw_669) (fun _ h9 => h9) dX13_readOrder_92 (fun v9 e9 => ?_)
        refine fx_ti (v := gn) (e9.symm.trans hg_7) ?_
        refine lv_imul hx hb dX13_readOrder_95 ?_
        refine tk_mul (show (10 : Int32).toInt = 10 by decide) rfl (by omega) (by omega) (fun v108 h_v108 => ?_)
        refine lv_istore_n (lv' := [(2, .int v108), (1, .int v38), (0, .ref am)]) hx hb dX13_readOrder_96 rfl hl (by decide) rfl (fun ls hl => ?_)
        refine lv_aload_n hx hb dX13_readOrder_97 rfl (lv_at hl 2 rfl) ?_
        refine lv_dup hx hb dX13_readOrder_98 rfl ?_
        refine mz_getI hx hb htl hown hK hM 21 (Nat.le_of_ble_eq_true rfl) rfl (htl _ mw_669) (fun _ h9 => h9) dX13_readOrder_99 (fun v9 e9 => ?_)
        refine fx_ti (v := gn) (e9.symm.trans hg_7) ?_
        refine lv_iconst (v := 1) hx hb dX13_readOrder_102 (by decide) ?_
        refine lv_iadd hx hb dX13_readOrder_103 ?_
        refine tk_add rfl (show (1 : Int32).toInt = 1 by decide) (by omega) (by omega) (fun v109 h_v109 => ?_)
        refine mz_putI (ty := .int) (x := v109) hx hb htl hown hK hD hM hS 21 (Nat.le_of_ble_eq_true rfl) rfl (htl _ mw_669) (fun _ h9 => h9) rfl (tyX13_ok 21 (by decide)) rfl rfl dX13_readOrder_104 (fun H locs F hM hS hf9 hj9 => ?_)
        have hIF := hIF.put hf9 hj9 (show 0 ≤ (v109 : Int32).toInt by omega) (show (v109 : Int32).toInt ≤ 12 by omega) (by decide)
        have hFF := mz_frp (K := [14, 15, 16, 18, 19, 21, 23, 26, 29, 30]) (Fa := Fa) hj9 hFF (by decide)
        have hg_3 := (hj9 13 (by decide)).trans hg_3
        have hg_6 := (hj9 23 (by decide)).trans hg_6
        have hf96 := (hj9 14 (by decide)).trans hf96
        have hf98 := (hj9 15 (by decide)).trans hf98
        have hf100 := (hj9 16 (by decide)).trans hf100
        have hf104 := (hj9 19 (by decide)).trans hf104
        have hf111 := hf9
        refine lv_iconst (v := 0) hx hb dX13_readOrder_107 (by decide) ?_
        refine lv_istore_n (lv' := [(3, .int 0), (2, .int v108), (1, .int v38), (0, .ref am)]) hx hb dX13_readOrder_108 rfl hl (by decide) rfl (fun ls hl => ?_)
        have hZ : ∀ d : Nat, d < (0 : Int32).toInt.toNat → R 61 (10 * gn.toInt.toNat + d) = 0 := fun d hd => absurd hd (by rw [show (0 : Int32).toInt.toNat = 0 by decide]; exact Nat.not_lt_zero _)
        have hl3335 : ∀ (N_l3335 : Nat) (v650 : Int32) (H : Heap) (locs : List Loc) (R : Nat → Nat → Int32), (v650.toInt ≤ 10) → (0 ≤ v650.toInt) → (mz_S D cy ad am F G R S H) → (va_S (mz_W ad am) s.heap H locs) → (mz_IR [] true R) → (∀ k : Nat, k ∉ ([24, 25, 27, 28, 61] : List Nat) → R k = Ra k) → (low (10 * gn.toInt.toNat) (Ra 61) (R 61)) → (v105.toInt = 0 → CLS 10 [1, 3, 5, 7] (R 24) (R 25) (Ra 61) gc.toInt gn.toInt) → (∀ d : Nat, d < v650.toInt.toNat → R 61 (10 * gn.toInt.toNat + d) = 0) → ((-1) * v650.toInt + 10 < (N_l3335 : Int)) → ∀ ls : Array Slot, lv_has ls 4 [(3, .int v650), (2, .int v108), (1, .int v38), (0, .ref am)] → W p l e ({ frames := 12, cells := 0, slots := 0, locals := 770 }) s m args below meth c H locs 0 0 (MQ below (mz_w D cy ad am (fun F G R S => mz_IF false F ∧ mz_IG G ∧ mz_IR [] true R ∧ (∀ k : Nat, k ∉ ([14, 15, 16, 18, 19, 21, 23, 26, 29, 30] : List Nat) → F k = Fa k) ∧ (∀ k : Nat, k ∉ ([24, 25, 27, 28, 61] : List Nat) → R k = Ra k) ∧ (∀ k : Nat, k ∉ ([17] : List Nat) → G k = Ga k) ∧ 0 ≤ (-1) * (F 14).toInt + (F 15).toInt ∧ 0 ≤ gp.toInt + (-1) * (F 15).toInt ∧ (1 ≤ (F 16).toInt → 0 ≤ (-1) * (F 14).toInt + (F 15).toInt + (-1)) ∧ (27 ≤ (G 17).toInt → 1 ≤ (F 16).toInt → (F 16).toInt ≤ 1 → 0 ≤ (-1) * (F 14).toInt + (F 15).toInt + (-2)) ∧ 0 ≤ (-1) * gf.toInt + (F 14).toInt ∧ 0 ≤ (-1) * gc.toInt + (F 23).toInt ∧ 0 ≤ (-1) * (F 23).toInt + (F 14).toInt ∧ 0 ≤ (-1) * gb.toInt + (F 19).toInt ∧ ((F 19).toInt ≤ 0 → 0 ≤ (-1) * gf.toInt + (F 14).toInt + (-1)) ∧ ((F 19).toInt = 0 → CLS 10 [1, 3, 5, 7] (R 24) (R 25) (R 61) (F 23).toInt (F 21).toInt) ∧ ((F 19).toInt = 0 → TMS (R 61) (F 21).toInt))) args s 0 0 (mz_W ad am)) (F0 m 109 ls []) := by
          intro N_l3335
          induction N_l3335 with
          | zero => intro v650 H locs R hq0_l3335 hq1_l3335 hM hS hIR hRR hL22 hC hZ hm_l3335 ls hl; exfalso; omega
          | succ N_l3335 ih_l3335 =>
            intro v650 H locs R hq0_l3335 hq1_l3335 hM hS hIR hRR hL22 hC hZ hm_l3335 ls hl
            refine lv_iload_n hx hb dX13_readOrder_109 rfl (lv_at hl 0 rfl) ?_
            refine lv_bipush (v := 10) hx hb dX13_readOrder_110 (by decide) ?_
            refine lv_icmp_ge (tgt := 130) hx hb dX13_readOrder_112 (by decide) (fun c9 => ?_) (fun c9 => ?_)
            · have hc3336 : 10 ≤ v650.toInt := (fi_le (show (10 : Int32).toInt = 10 by decide) rfl).mp c9
              refine lv_aload_n hx hb dX13_readOrder_130 rfl (lv_at hl 3 rfl) ?_
              have h22_1 : R 61 (10 * gn.toInt.toNat + 1) = 0 := hZ 1 (by omega)
              have h22_2 : R 61 (10 * gn.toInt.toNat + 2) = 0 := hZ 2 (by omega)
              have h22_3 : R 61 (10 * gn.toInt.toNat + 3) = 0 := hZ 3 (by omega)
              have h22_4 : R 61 (10 * gn.toInt.toNat + 4) = 0 := hZ 4 (by omega)
              have h22_5 : R 61 (10 * gn.toInt.toNat + 5) = 0 := hZ 5 (by omega)
              have h22_6 : R 61 (10 * gn.toInt.toNat + 6) = 0 := hZ 6 (by omega)
              have h22_7 : R 61 (10 * gn.toInt.toNat + 7) = 0 := hZ 7 (by omega)
              have h22_8 : R 61 (10 * gn.toInt.toNat + 8) = 0 := hZ 8 (by omega)
              refine mz_getR hx hb htl hown hK hM 61 (Nat.le_of_ble_eq_true rfl) (Nat.le_of_ble_eq_true rfl) (htl _ mw_239) (fun _ h9 => h9) dX13_readOrder_131 ?_
              refine lv_iload_n hx hb dX13_readOrder_134 rfl (lv_at hl 1 rfl) ?_
              refine lv_iload_n hx hb dX13_readOrder_135 rfl (lv_at hl 2 rfl) ?_
              refine mz_iast (x := v38) hx hb hK hD hM hS 61 (Nat.le_of_ble_eq_true rfl) rfl (nn := 120) rfl rfl (by omega) (by omega) dX13_readOrder_136 (fun H locs R hM hS hw9 hj9 => ?_)
              have hIR := hIR.put hw9 hj9 trivial
              have hL22 : low (10 * gn.toInt.toNat) (Ra 61) (R 61) := fun j hj => by rw [hw9, pk_un (fun h9 => by have h8 := tk_nat (i := v108) rfl (by omega); omega)]; exact hL22 j hj
              have h22_1 : R 61 (10 * gn.toInt.toNat + 1) = 0 := by rw [hw9, pk_un (fun h9 => by have h8 := tk_nat (i := v108) rfl (by omega); omega)]; exact h22_1
              have h22_2 : R 61 (10 * gn.toInt.toNat + 2) = 0 := by rw [hw9, pk_un (fun h9 => by have h8 := tk_nat (i := v108) rfl (by omega); omega)]; exact h22_2
              have h22_3 : R 61 (10 * gn.toInt.toNat + 3) = 0 := by rw [hw9, pk_un (fun h9 => by have h8 := tk_nat (i := v108) rfl (by omega); omega)]; exact h22_3
              have h22_4 : R 61 (10 * gn.toInt.toNat + 4) = 0 := by rw [hw9, pk_un (fun h9 => by have h8 := tk_nat (i := v108) rfl (by omega); omega)]; exact h22_4
              have h22_5 : R 61 (10 * gn.toInt.toNat + 5) = 0 := by rw [hw9, pk_un (fun h9 => by have h8 := tk_nat (i := v108) rfl (by omega); omega)]; exact h22_5
              have h22_6 : R 61 (10 * gn.toInt.toNat + 6) = 0 := by rw [hw9, pk_un (fun h9 => by have h8 := tk_nat (i := v108) rfl (by omega); omega)]; exact h22_6
              have h22_7 : R 61 (10 * gn.toInt.toNat + 7) = 0 := by rw [hw9, pk_un (fun h9 => by have h8 := tk_nat (i := v108) rfl (by omega); omega)]; exact h22_7
              have h22_8 : R 61 (10 * gn.toInt.toNat + 8) = 0 := by rw [hw9, pk_un (fun h9 => by have h8 := tk_nat (i := v108) rfl (by omega); omega)]; exact h22_8
              have hC9 := hC
              have hC : v105.toInt = 0 → CLS 10 [1, 3, 5, 7] (R 24) (R 25) (Ra 61) gc.toInt gn.toInt := fun h9 => (hC9 (by omega)).to (hj9 24 (by decide)) (hj9 25 (by decide))
              have h22_0 : R 61 (10 * gn.toInt.toNat + 0) = v38 := by rw [hw9, show 10 * gn.toInt.toNat + 0 = (v108 : Int32).toNatClampNeg by show _ = v108.toInt.toNat; omega]; exact pk_us
              have hRR := mz_frp (K := [24, 25, 27, 28, 61]) (Fa := Ra) hj9 hRR (by decide)
              refine lv_iload_n hx hb dX13_readOrder_137 rfl (lv_at hl 2 rfl) ?_
              refine lv_iconst (v := 2) hx hb dX13_readOrder_138 (by decide) ?_
              refine lv_icmp_ge (tgt := 149) hx hb dX13_readOrder_139 (by decide) (fun c9 => ?_) (fun c9 => ?_)
              · have hc3338 : 2 ≤ v38.toInt := (fi_le (show (2 : Int32).toInt = 2 by decide) rfl).mp c9
                refine lv_iload_n hx hb dX13_readOrder_149 rfl (lv_at hl 2 rfl) ?_
                refine lv_if_ne (tgt := 173) hx hb dX13_readOrder_150 (by decide) (fun _ => ?_) (fun c9 => absurd (show v38.toInt = 0 from (fi_eq rfl (show (0 : Int32).toInt = 0 by decide)).mp c9) (by omega))
                exact kz_X13_readOrder_c1 l D cy ld ad am hD Fa Ga Ra Sa gf gt gs gp gw gb gc gn hx hb hr hml hts htl hown hlocks hK hp_0 hp_1 hp_2 hp_3 hp_4 hp_5 hg_0 hg_1 hg_2 hg_3 hg_4 hg_5 hg_6 hg_7 hx_0 hx_1 v101 v105 v108 v109 v38 v97 v99 w103 _ _ _ _ _ _ (by omega) (by omega) (by omega) (by omega) (by omega) (by omega) (by omega) (by omega) (by omega) (by omega) (by omega) (by omega) (by omega) (by omega) (by omega) (by omega) (by omega) (by omega) (by omega) hM hS hIF hIG hIR hFF hGG hRR hg_3 hg_6 hf96 hf98 hf100 hf102 hf104 hf111 (by omega) (by omega) (by omega) hL22 hC h22_1 h22_2 h22_3 h22_4 h22_5 h22_6 h22_7 h22_8 h22_0 _ (lv_sub hl [1, 3] rfl)
              · have hc3338 : ¬ (2 ≤ v38.toInt) := fun h9 => c9 ((fi_le (show (2 : Int32).toInt = 2 by decide) rfl).mpr h9)
                refine lv_aload_n hx hb dX13_readOrder_142 rfl (lv_at hl 3 rfl) ?_
                refine lv_iload_n hx hb dX13_readOrder_143 rfl (lv_at hl 1 rfl) ?_
                refine lv_iconst (v := 1) hx hb dX13_readOrder_144 (by decide) ?_
                refine lv_iadd hx hb dX13_readOrder_145 ?_
                refine tk_add rfl (show (1 : Int32).toInt = 1 by decide) (by omega) (by omega) (fun v3499 h_v3499 => ?_)
                refine mz_Vv (As := [.int v3499]) (rest := []) ⟨hx, hb, hml, hown, hts⟩ hK hM hS (k_X13_readSum l D cy ld ad am hD _ _ _ _ v3499 v97 v99 v101 gp w103 v105 gc hIF hIG hIR hf96 hf98 hf100 hg_3 hf102 hf104 hg_6 (by omega) (by omega) (by omega) (by omega) (by omega) (by omega) (by omega)) ⟨callB_of 1 hts (wl_in mw_1025) rfl rfl rfl (htl _ mw_5) (htl _ mw_1022) hd_yX13_readSum ⟨(Nat.le_of_ble_eq_true rfl), (Nat.le_of_ble_eq_true rfl)⟩, htl _ mw_1023, htl _ mw_1024⟩ rfl hl.1 rfl (Nat.le_of_ble_eq_true rfl) dX13_readOrder_146 ⟨(Nat.le_of_ble_eq_true rfl), (Nat.le_of_ble_eq_true rfl)⟩ (fun H locs F G R S hpo hM hS => ?_)
                obtain ⟨hIF, hIG, hIR, hfr9, hrr9, hgr9, hpo3500, hpo3501, hpo3502, hpo3503, hpo3504, hpo3505, hpo3506, hpo3507, hx3508, hx3509⟩ := hpo
                have hFF := mz_fr (K := [14, 15, 16, 18, 19, 21, 23, 26, 29, 30]) (Fa := Fa) hfr9 hFF (by decide)
                have hRR := mz_fr (K := [24, 25, 27, 28, 61]) (Fa := Ra) hrr9 hRR (by decide)
                have hGG := mz_fr (K := [17]) (Fa := Ga) hgr9 hGG (by decide)
                have hg_3 := (hfr9 13 (by decide)).trans hg_3
                have hf111 := (hfr9 21 (by decide)).trans hf111
                obtain ⟨v3512, hf3511⟩ : ∃ z : Int32, F 14 = z := ⟨_, rfl⟩
                have hq_v3512 := tk_rng v3512
                rw [hf3511] at hpo3500 hpo3502 hpo3503 hpo3504 hpo3506
                have hr_v3512 : 0 ≤ v3512.toInt ∧ v3512.toInt ≤ 400 := hIF.at hf3511
                obtain ⟨v3514, hf3513⟩ : ∃ z : Int32, F 15 = z := ⟨_, rfl⟩
                have hq_v3514 := tk_rng v3514
                rw [hf3513] at hpo3500 hpo3501 hpo3502 hpo3503
                have hr_v3514 : 0 ≤ v3514.toInt ∧ v3514.toInt ≤ 400 := hIF.at hf3513
                obtain ⟨v3516, hf3515⟩ : ∃ z : Int32, F 16 = z := ⟨_, rfl⟩
                have hq_v3516 := tk_rng v3516
                rw [hf3515] at hpo3502 hpo3503
                have hr_v3516 : 0 ≤ v3516.toInt ∧ v3516.toInt ≤ 3 := hIF.at hf3515
                obtain ⟨w3518, hf3517⟩ : ∃ z : Int64, G 17 = z := ⟨_, rfl⟩
                have hq_w3518 := tk_rngL w3518
                rw [hf3517] at hpo3503
                obtain ⟨v3520, hf3519⟩ : ∃ z : Int32, F 19 = z := ⟨_, rfl⟩
                have hq_v3520 := tk_rng v3520
                rw [hf3519] at hpo3507
                have hr_v3520 : 0 ≤ v3520.toInt ∧ v3520.toInt ≤ 1 := hIF.at hf3519
                obtain ⟨v3522, hf3521⟩ : ∃ z : Int32, F 23 = z := ⟨_, rfl⟩
                have hq_v3522 := tk_rng v3522
                rw [hf3521] at hpo3505 hpo3506
                have hr_v3522 : 0 ≤ v3522.toInt ∧ v3522.toInt ≤ 400 := hIF.at hf3521
                rw [show v3499.toInt.toNat = 10 * gn.toInt.toNat + 1 by omega, hf3521] at hx3508
                have hL22 : low (10 * gn.toInt.toNat) (Ra 61) (R 61) := fun j hj => by rw [hx3508, pk_un (by omega), pk_un (by omega)]; exact hL22 j hj
                have h22_3 : R 61 (10 * gn.toInt.toNat + 3) = 0 := by rw [hx3508, pk_un (by omega), pk_un (by omega)]; exact h22_3
                have h22_4 : R 61 (10 * gn.toInt.toNat + 4) = 0 := by rw [hx3508, pk_un (by omega), pk_un (by omega)]; exact h22_4
                have h22_5 : R 61 (10 * gn.toInt.toNat + 5) = 0 := by rw [hx3508, pk_un (by omega), pk_un (by omega)]; exact h22_5
                have h22_6 : R 61 (10 * gn.toInt.toNat + 6) = 0 := by rw [hx3508, pk_un (by omega), pk_un (by omega)]; exact h22_6
                have h22_7 : R 61 (10 * gn.toInt.toNat + 7) = 0 := by rw [hx3508, pk_un (by omega), pk_un (by omega)]; exact h22_7
                have h22_8 : R 61 (10 * gn.toInt.toNat + 8) = 0 := by rw [hx3508, pk_un (by omega), pk_un (by omega)]; exact h22_8
                have h22_0 : R 61 (10 * gn.toInt.toNat + 0) = v38 := by rw [hx3508, pk_un (by omega), pk_un (by omega)]; exact h22_0
                have h22_1 : R 61 (10 * gn.toInt.toNat + 1) = gc := by rw [hx3508, pk_un (by omega)]; exact pk_us
                have h22_2 : R 61 (10 * gn.toInt.toNat + 2) = v3522 := by rw [hx3508, show 10 * gn.toInt.toNat + 2 = 10 * gn.toInt.toNat + 1 + 1 from rfl]; exact pk_us
                have hE9 : v3520.toInt = 0 → WFC (R 24) (R 25) gc.toInt.toNat v3522.toInt.toNat ∧ low gc.toInt.toNat _ (R 24) ∧ low gc.toInt.toNat _ (R 25) := fun h9 => by have h8 := hx3509 (by rw [hf3519]; exact h9); rw [hf3521] at h8; exact h8
                have hC9 := hC
                have hC : v3520.toInt = 0 → CLS 10 [1, 3, 5, 7] (R 24) (R 25) (Ra 61) gc.toInt gn.toInt := fun h9 => (hC9 (by omega)).low (N := gc.toInt.toNat) (by omega) (hE9 h9).2.1 (hE9 h9).2.2
                have hX3523 : v3520.toInt = 0 → WFX (R 24) (R 25) gc v3522 := fun h9 => ⟨by omega, by omega, by omega, (hE9 h9).1⟩
                refine lv_iload_n hx hb dX13_readOrder_149 rfl (lv_at hl 2 rfl) ?_
                refine lv_if_ne (tgt := 173) hx hb dX13_readOrder_150 (by decide) (fun c9 => ?_) (fun c9 => ?_)
                · have hc3524 : ¬ (v38.toInt = 0) := fun h9 => c9 ((fi_eq rfl (show (0 : Int32).toInt = 0 by decide)).mpr h9)
                  exact kz_X13_readOrder_c4 l D cy ld ad am hD Fa Ga Ra Sa gf gt gs gp gw gb gc gn hx hb hr hml hts htl hown hlocks hK hp_0 hp_1 hp_2 hp_3 hp_4 hp_5 hg_0 hg_1 hg_2 hg_3 hg_4 hg_5 hg_6 hg_7 hx_0 hx_1 v108 v109 v3512 v3514 v3516 v3520 v3522 v38 w3518 _ _ _ _ _ _ (by omega) (by omega) (by omega) (by omega) (by omega) (by omega) (by omega) (by omega) (by omega) (by omega) (by omega) (by omega) (by omega) (by omega) (by omega) (by omega) (by omega) (by omega) (by omega) (by omega) hM hS hIF hIG hIR hFF hGG hRR hg_3 hf111 hf3511 hf3513 hf3515 hf3517 hf3519 hf3521 (by omega) (by omega) (by omega) hL22 hC h22_1 h22_2 h22_3 h22_4 h22_5 h22_6 h22_7 h22_8 h22_0 hX3523 _ (lv_sub hl [1, 3] rfl)
                · have hc3524 : v38.toInt = 0 := (fi_eq rfl (show (0 : Int32).toInt = 0 by decide)).mp c9
                  refine lv_aload_n hx hb dX13_readOrder_153 rfl (lv_at hl 3 rfl) ?_
                  refine lv_iload_n hx hb dX13_readOrder_154 rfl (lv_at hl 1 rfl) ?_
                  refine lv_iconst (v := 3) hx hb dX13_readOrder_155 (by decide) ?_
                  refine lv_iadd hx hb dX13_readOrder_156 ?_
                  refine tk_add rfl (show (3 : Int32).toInt = 3 by decide) (by omega) (by omega) (fun v3691 h_v3691 => ?_)
                  refine lv_ldc2 hx hb hown (htl _ mw_1019) dX13_readOrder_157 ?_
                  have hk_763528 : (763528 : Int64).toInt = 763528 := by decide
                  refine mz_Vv (As := [.int v3691, .long 763528]) (rest := []) ⟨hx, hb, hml, hown, hts⟩ hK hM hS (k_X13_readBehind l D cy ld ad am hD _ _ _ _ v3691 763528 v3512 v3514 v3516 gp w3518 v3520 v3522 hIF hIG hIR hf3511 hf3513 hf3515 hg_3 hf3517 hf3519 hf3521 (by omega) (by omega) (by omega) (by omega) (by omega) (by omega) (by omega)) ⟨callB_of 2 hts (wl_in mw_1029) rfl rfl rfl (htl _ mw_5) (htl _ mw_1026) hd_yX13_readBehind ⟨(Nat.le_of_ble_eq_true rfl), (Nat.le_of_ble_eq_true rfl)⟩, htl _ mw_1027, htl _ mw_1028⟩ rfl hl.1 rfl (Nat.le_of_ble_eq_true rfl) dX13_readOrder_160 ⟨(Nat.le_of_ble_eq_true rfl), (Nat.le_of_ble_eq_true rfl)⟩ (fun H locs F G R S hpo hM hS => ?_)
                  obtain ⟨hIF, hIG, hIR, hfr9, hrr9, hgr9, hpo3692, hpo3693, hpo3694, hpo3695, hpo3696, hpo3697, hpo3698, hpo3699, hx3700, hx3701⟩ := hpo
                  have hFF := mz_fr (K := [14, 15, 16, 18, 19, 21, 23, 26, 29, 30]) (Fa := Fa) hfr9 hFF (by decide)
                  have hRR := mz_fr (K := [24, 25, 27, 28, 61]) (Fa := Ra) hrr9 hRR (by decide)
                  have hGG := mz_fr (K := [17]) (Fa := Ga) hgr9 hGG (by decide)
                  have hg_3 := (hfr9 13 (by decide)).trans hg_3
                  have hf111 := (hfr9 21 (by decide)).trans hf111
                  obtain ⟨v3704, hf3703⟩ : ∃ z : Int32, F 14 = z := ⟨_, rfl⟩
                  have hq_v3704 := tk_rng v3704
                  rw [hf3703] at hpo3692 hpo3694 hpo3695 hpo3696 hpo3698
                  have hr_v3704 : 0 ≤ v3704.toInt ∧ v3704.toInt ≤ 400 := hIF.at hf3703
                  obtain ⟨v3706, hf3705⟩ : ∃ z : Int32, F 15 = z := ⟨_, rfl⟩
                  have hq_v3706 := tk_rng v3706
                  rw [hf3705] at hpo3692 hpo3693 hpo3694 hpo3695
                  have hr_v3706 : 0 ≤ v3706.toInt ∧ v3706.toInt ≤ 400 := hIF.at hf3705
                  obtain ⟨v3708, hf3707⟩ : ∃ z : Int32, F 16 = z := ⟨_, rfl⟩
                  have hq_v3708 := tk_rng v3708
                  rw [hf3707] at hpo3694 hpo3695
                  have hr_v3708 : 0 ≤ v3708.toInt ∧ v3708.toInt ≤ 3 := hIF.at hf3707
                  obtain ⟨w3710, hf3709⟩ : ∃ z : Int64, G 17 = z := ⟨_, rfl⟩
                  have hq_w3710 := tk_rngL w3710
                  rw [hf3709] at hpo3695
                  obtain ⟨v3712, hf3711⟩ : ∃ z : Int32, F 19 = z := ⟨_, rfl⟩
                  have hq_v3712 := tk_rng v3712
                  rw [hf3711] at hpo3699
                  have hr_v3712 : 0 ≤ v3712.toInt ∧ v3712.toInt ≤ 1 := hIF.at hf3711
                  obtain ⟨v3714, hf3713⟩ : ∃ z : Int32, F 23 = z := ⟨_, rfl⟩
                  have hq_v3714 := tk_rng v3714
                  rw [hf3713] at hpo3697 hpo3698
                  have hr_v3714 : 0 ≤ v3714.toInt ∧ v3714.toInt ≤ 400 := hIF.at hf3713
                  rw [show v3691.toInt.toNat = 10 * gn.toInt.toNat + 3 by omega, hf3713] at hx3700
                  have hL22 : low (10 * gn.toInt.toNat) (Ra 61) (R 61) := fun j hj => by rw [hx3700, pk_un (by omega), pk_un (by omega)]; exact hL22 j hj
                  have h22_1 : R 61 (10 * gn.toInt.toNat + 1) = gc := by rw [hx3700, pk_un (by omega), pk_un (by omega)]; exact h22_1
                  have h22_2 : R 61 (10 * gn.toInt.toNat + 2) = v3522 := by rw [hx3700, pk_un (by omega), pk_un (by omega)]; exact h22_2
                  have h22_5 : R 61 (10 * gn.toInt.toNat + 5) = 0 := by rw [hx3700, pk_un (by omega), pk_un (by omega)]; exact h22_5
                  have h22_6 : R 61 (10 * gn.toInt.toNat + 6) = 0 := by rw [hx3700, pk_un (by omega), pk_un (by omega)]; exact h22_6
                  have h22_7 : R 61 (10 * gn.toInt.toNat + 7) = 0 := by rw [hx3700, pk_un (by omega), pk_un (by omega)]; exact h22_7
                  have h22_8 : R 61 (10 * gn.toInt.toNat + 8) = 0 := by rw [hx3700, pk_un (by omega), pk_un (by omega)]; exact h22_8
                  have h22_0 : R 61 (10 * gn.toInt.toNat + 0) = v38 := by rw [hx3700, pk_un (by omega), pk_un (by omega)]; exact h22_0
                  have h22_3 : R 61 (10 * gn.toInt.toNat + 3) = v3522 := by rw [hx3700, pk_un (by omega)]; exact pk_us
                  have h22_4 : R 61 (10 * gn.toInt.toNat + 4) = v3714 := by rw [hx3700, show 10 * gn.toInt.toNat + 4 = 10 * gn.toInt.toNat + 3 + 1 from rfl]; exact pk_us
                  have hE9 : v3712.toInt = 0 → WFC (R 24) (R 25) v3522.toInt.toNat v3714.toInt.toNat ∧ low v3522.toInt.toNat _ (R 24) ∧ low v3522.toInt.toNat _ (R 25) := fun h9 => by have h8 := hx3701 (by rw [hf3711]; exact h9); rw [hf3713] at h8; exact h8
                  have hC9 := hC
                  have hC : v3712.toInt = 0 → CLS 10 [1, 3, 5, 7] (R 24) (R 25) (Ra 61) gc.toInt gn.toInt := fun h9 => (hC9 (by omega)).low (N := v3522.toInt.toNat) (by omega) (hE9 h9).2.1 (hE9 h9).2.2
                  have hX35239 := hX3523
                  have hX3523 : v3712.toInt = 0 → WFX (R 24) (R 25) gc v3522 := fun h9 => (hX35239 (by omega)).low (n := v3522.toInt.toNat) (by omega) (hE9 h9).2.1 (hE9 h9).2.2
                  have hX3715 : v3712.toInt = 0 → WFX (R 24) (R 25) v3522 v3714 := fun h9 => ⟨by omega, by omega, by omega, (hE9 h9).1⟩
                  refine lv_aload_n hx hb dX13_readOrder_163 rfl (lv_at hl 3 rfl) ?_
                  refine lv_iload_n hx hb dX13_readOrder_164 rfl (lv_at hl 1 rfl) ?_
                  refine lv_iconst (v := 5) hx hb dX13_readOrder_165 (by decide) ?_
                  refine lv_iadd hx hb dX13_readOrder_166 ?_
                  refine tk_add rfl (show (5 : Int32).toInt = 5 by decide) (by omega) (by omega) (fun v3716 h_v3716 => ?_)
                  refine lv_ldc2 hx hb hown (htl _ mw_1020) dX13_readOrder_167 ?_
                  have hk_6642 : (6642 : Int64).toInt = 6642 := by decide
                  refine mz_Vv (As := [.int v3716, .long 6642]) (rest := []) ⟨hx, hb, hml, hown, hts⟩ hK hM hS (k_X13_readBehind l D cy ld ad am hD _ _ _ _ v3716 6642 v3704 v3706 v3708 gp w3710 v3712 v3714 hIF hIG hIR hf3703 hf3705 hf3707 hg_3 hf3709 hf3711 hf3713 (by omega) (by omega) (by omega) (by omega) (by omega) (by omega) (by omega)) ⟨callB_of 2 hts (wl_in mw_1029) rfl rfl rfl (htl _ mw_5) (htl _ mw_1026) hd_yX13_readBehind ⟨(Nat.le_of_ble_eq_true rfl), (Nat.le_of_ble_eq_true rfl)⟩, htl _ mw_1027, htl _ mw_1028⟩ rfl hl.1 rfl (Nat.le_of_ble_eq_true rfl) dX13_readOrder_170 ⟨(Nat.le_of_ble_eq_true rfl), (Nat.le_of_ble_eq_true rfl)⟩ (fun H locs F G R S hpo hM hS => ?_)
                  obtain ⟨hIF, hIG, hIR, hfr9, hrr9, hgr9, hpo3717, hpo3718, hpo3719, hpo3720, hpo3721, hpo3722, hpo3723, hpo3724, hx3725, hx3726⟩ := hpo
                  have hFF := mz_fr (K := [14, 15, 16, 18, 19, 21, 23, 26, 29, 30]) (Fa := Fa) hfr9 hFF (by decide)
                  have hRR := mz_fr (K := [24, 25, 27, 28, 61]) (Fa := Ra) hrr9 hRR (by decide)
                  have hGG := mz_fr (K := [17]) (Fa := Ga) hgr9 hGG (by decide)
                  have hg_3 := (hfr9 13 (by decide)).trans hg_3
                  have hf111 := (hfr9 21 (by decide)).trans hf111
                  obtain ⟨v3729, hf3728⟩ : ∃ z : Int32, F 14 = z := ⟨_, rfl⟩
                  have hq_v3729 := tk_rng v3729
                  rw [hf3728] at hpo3717 hpo3719 hpo3720 hpo3721 hpo3723
                  have hr_v3729 : 0 ≤ v3729.toInt ∧ v3729.toInt ≤ 400 := hIF.at hf3728
                  obtain ⟨v3731, hf3730⟩ : ∃ z : Int32, F 15 = z := ⟨_, rfl⟩
                  have hq_v3731 := tk_rng v3731
                  rw [hf3730] at hpo3717 hpo3718 hpo3719 hpo3720
                  have hr_v3731 : 0 ≤ v3731.toInt ∧ v3731.toInt ≤ 400 := hIF.at hf3730
                  obtain ⟨v3733, hf3732⟩ : ∃ z : Int32, F 16 = z := ⟨_, rfl⟩
                  have hq_v3733 := tk_rng v3733
                  rw [hf3732] at hpo3719 hpo3720
                  have hr_v3733 : 0 ≤ v3733.toInt ∧ v3733.toInt ≤ 3 := hIF.at hf3732
                  obtain ⟨w3735, hf3734⟩ : ∃ z : Int64, G 17 = z := ⟨_, rfl⟩
                  have hq_w3735 := tk_rngL w3735
                  rw [hf3734] at hpo3720
                  obtain ⟨v3737, hf3736⟩ : ∃ z : Int32, F 19 = z := ⟨_, rfl⟩
                  have hq_v3737 := tk_rng v3737
                  rw [hf3736] at hpo3724
                  have hr_v3737 : 0 ≤ v3737.toInt ∧ v3737.toInt ≤ 1 := hIF.at hf3736
                  obtain ⟨v3739, hf3738⟩ : ∃ z : Int32, F 23 = z := ⟨_, rfl⟩
                  have hq_v3739 := tk_rng v3739
                  rw [hf3738] at hpo3722 hpo3723
                  have hr_v3739 : 0 ≤ v3739.toInt ∧ v3739.toInt ≤ 400 := hIF.at hf3738
                  rw [show v3716.toInt.toNat = 10 * gn.toInt.toNat + 5 by omega, hf3738] at hx3725
                  have hL22 : low (10 * gn.toInt.toNat) (Ra 61) (R 61) := fun j hj => by rw [hx3725, pk_un (by omega), pk_un (by omega)]; exact hL22 j hj
                  have h22_1 : R 61 (10 * gn.toInt.toNat + 1) = gc := by rw [hx3725, pk_un (by omega), pk_un (by omega)]; exact h22_1
                  have h22_2 : R 61 (10 * gn.toInt.toNat + 2) = v3522 := by rw [hx3725, pk_un (by omega), pk_un (by omega)]; exact h22_2
                  have h22_3 : R 61 (10 * gn.toInt.toNat + 3) = v3522 := by rw [hx3725, pk_un (by omega), pk_un (by omega)]; exact h22_3
                  have h22_4 : R 61 (10 * gn.toInt.toNat + 4) = v3714 := by rw [hx3725, pk_un (by omega), pk_un (by omega)]; exact h22_4
                  have h22_7 : R 61 (10 * gn.toInt.toNat + 7) = 0 := by rw [hx3725, pk_un (by omega), pk_un (by omega)]; exact h22_7
                  have h22_8 : R 61 (10 * gn.toInt.toNat + 8) = 0 := by rw [hx3725, pk_un (by omega), pk_un (by omega)]; exact h22_8
                  have h22_0 : R 61 (10 * gn.toInt.toNat + 0) = v38 := by rw [hx3725, pk_un (by omega), pk_un (by omega)]; exact h22_0
                  have h22_5 : R 61 (10 * gn.toInt.toNat + 5) = v3714 := by rw [hx3725, pk_un (by omega)]; exact pk_us
                  have h22_6 : R 61 (10 * gn.toInt.toNat + 6) = v3739 := by rw [hx3725, show 10 * gn.toInt.toNat + 6 = 10 * gn.toInt.toNat + 5 + 1 from rfl]; exact pk_us
                  have hE9 : v3737.toInt = 0 → WFC (R 24) (R 25) v3714.toInt.toNat v3739.toInt.toNat ∧ low v3714.toInt.toNat _ (R 24) ∧ low v3714.toInt.toNat _ (R 25) := fun h9 => by have h8 := hx3726 (by rw [hf3736]; exact h9); rw [hf3738] at h8; exact h8
                  have hC9 := hC
                  have hC : v3737.toInt = 0 → CLS 10 [1, 3, 5, 7] (R 24) (R 25) (Ra 61) gc.toInt gn.toInt := fun h9 => (hC9 (by omega)).low (N := v3714.toInt.toNat) (by omega) (hE9 h9).2.1 (hE9 h9).2.2
                  have hX35239 := hX3523
                  have hX3523 : v3737.toInt = 0 → WFX (R 24) (R 25) gc v3522 := fun h9 => (hX35239 (by omega)).low (n := v3714.toInt.toNat) (by omega) (hE9 h9).2.1 (hE9 h9).2.2
                  have hX37159 := hX3715
                  have hX3715 : v3737.toInt = 0 → WFX (R 24) (R 25) v3522 v3714 := fun h9 => (hX37159 (by omega)).low (n := v3714.toInt.toNat) (by omega) (hE9 h9).2.1 (hE9 h9).2.2
                  have hX3740 : v3737.toInt = 0 → WFX (R 24) (R 25) v3714 v3739 := fun h9 => ⟨by omega, by omega, by omega, (hE9 h9).1⟩
                  exact kz_X13_readOrder_c8 l D cy ld ad am hD Fa Ga Ra Sa gf gt gs gp gw gb gc gn hx hb hr hml hts htl hown hlocks hK hp_0 hp_1 hp_2 hp_3 hp_4 hp_5 hg_0 hg_1 hg_2 hg_3 hg_4 hg_5 hg_6 hg_7 hx_0 hx_1 v108 v109 v3522 v3714 v3729 v3731 v3733 v3737 v3739 v38 w3735 _ _ _ _ _ _ (by omega) (by omega) (by omega) (by omega) (by omega) (by omega) (by omega) (by omega) (by omega) (by omega) (by omega) (by omega) (by omega) (by omega) (by omega) (by omega) (by omega) (by omega) (by omega) (by omega) (by omega) (by omega) hM hS hIF hIG hIR hFF hGG hRR hg_3 hf111 hf3728 hf3730 hf3732 hf3734 hf3736 hf3738 (by omega) (by omega) (by omega) hL22 hC h22_1 h22_2 h22_3 h22_4 h22_5 h22_6 h22_7 h22_8 h22_0 hX3523 hX3715 hX3740 _ (lv_sub hl [1, 3] rfl)
            · have hc3336 : ¬ (10 ≤ v650.toInt) := fun h9 => c9 ((fi_le (show (10 : Int32).toInt = 10 by decide) rfl).mpr h9)
              refine lv_aload_n hx hb dX13_readOrder_115 rfl (lv_at hl 3 rfl) ?_
              refine mz_getR hx hb htl hown hK hM 61 (Nat.le_of_ble_eq_true rfl) (Nat.le_of_ble_eq_true rfl) (htl _ mw_239) (fun _ h9 => h9) dX13_readOrder_116 ?_
              refine lv_iload_n hx hb dX13_readOrder_119 rfl (lv_at hl 1 rfl) ?_
              refine lv_iload_n hx hb dX13_readOrder_120 rfl (lv_at hl 0 rfl) ?_
              refine lv_iadd hx hb dX13_readOrder_121 ?_
              refine tk_add rfl rfl (by omega) (by omega) (fun v3907 h_v3907 => ?_)
              refine lv_iconst (v := 0) hx hb dX13_readOrder_122 (by decide) ?_
              have hk_0 : (0 : Int32).toInt = 0 := by decide
              refine mz_iast (x := 0) hx hb hK hD hM hS 61 (Nat.le_of_ble_eq_true rfl) rfl (nn := 120) rfl rfl (by omega) (by omega) dX13_readOrder_123 (fun H locs R hM hS hw9 hj9 => ?_)
              have hIR := hIR.put hw9 hj9 trivial
              have hL22 : low (10 * gn.toInt.toNat) (Ra 61) (R 61) := fun j hj => by rw [hw9, pk_un (fun h9 => by have h8 := tk_nat (i := v3907) rfl (by omega); omega)]; exact hL22 j hj
              have hC9 := hC
              have hC : v105.toInt = 0 → CLS 10 [1, 3, 5, 7] (R 24) (R 25) (Ra 61) gc.toInt gn.toInt := fun h9 => (hC9 (by omega)).to (hj9 24 (by decide)) (hj9 25 (by decide))
              have hZ := zr_step (C := 10 * gn.toInt.toNat) (k := v650.toInt.toNat) hZ hw9 (by omega) rfl
              have hRR := mz_frp (K := [24, 25, 27, 28, 61]) (Fa := Ra) hj9 hRR (by decide)
              obtain ⟨v3909, h_v3909, e_v3909⟩ := tk_inc v650 1 (by decide) (by omega) (by omega)
              refine lv_iinc (v := v3909) (lv' := [(3, .int v3909), (2, .int v108), (1, .int v38), (0, .ref am)]) hx hb dX13_readOrder_124 hl (k := 0) rfl e_v3909 (by decide) rfl (fun ls hl => ?_)
              refine lv_goto (tgt := 109) hx hb dX13_readOrder_127 (by decide) ?_
              exact ih_l3335 v3909 _ _ _ (by omega) (by omega) hM hS hIR hRR hL22 hC (fun d hd => hZ d (by omega)) (by omega) _ (lv_sub hl [0, 1, 2, 3] rfl)
        have hk_0 : (0 : Int32).toInt = 0 := by decide
        exact hl3335 11 0 _ _ _ (by omega) (by omega) hM hS hIR hRR hL22 hC hZ (by omega) _ (lv_sub hl [0, 1, 2, 3] rfl)
  refine lv_if_eq (tgt := 14) hx hb dX13_readOrder_7 (by decide) (fun c9 => ?_) (fun c9 => ?_)
  · have hc11 : v1.toInt = 0 := (fi_eq rfl (show (0 : Int32).toInt = 0 by decide)).mp c9
    refine lv_aload_n hx hb dX13_readOrder_14 rfl (lv_at hl 0 rfl) ?_
    refine lv_ldc2 hx hb hown (htl _ mw_1016) dX13_readOrder_15 ?_
    have hk_632263 : (632263 : Int64).toInt = 632263 := by decide
    refine mz_Vj (As := [.long 632263]) (rest := []) ⟨hx, hb, hml, hown, hts⟩ hK hM hS (k_X13_isWord l D cy ld ad am hD _ _ _ _ 632263 gs gw hIF hIG hIR hg_2 hg_4) ⟨callB_of 1 hts (wl_in mw_709) rfl rfl rfl (htl _ mw_5) (htl _ mw_706) hd_yX13_isWord ⟨(Nat.le_of_ble_eq_true rfl), (Nat.le_of_ble_eq_true rfl)⟩, htl _ mw_707, htl _ mw_708⟩ rfl hl.1 rfl (Nat.le_of_ble_eq_true rfl) dX13_readOrder_18 ⟨(Nat.le_of_ble_eq_true rfl), (Nat.le_of_ble_eq_true rfl)⟩ (fun v3910 H locs hpo hM hS => ?_)
    obtain ⟨hpo3911, hpo3912, hpo3913, hpo3914, hpo3915⟩ := hpo
    have hq_v3910 := tk_rng v3910
    refine lv_if_eq (tgt := 28) hx hb dX13_readOrder_21 (by decide) (fun c9 => ?_) (fun c9 => ?_)
    · have hc3917 : v3910.toInt = 0 := (fi_eq rfl (show (0 : Int32).toInt = 0 by decide)).mp c9
      refine lv_aload_n hx hb dX13_readOrder_28 rfl (lv_at hl 0 rfl) ?_
      refine lv_ldc2 hx hb hown (htl _ mw_1017) dX13_readOrder_29 ?_
      have hk_525908 : (525908 : Int64).toInt = 525908 := by decide
      refine mz_Vj (As := [.long 525908]) (rest := []) ⟨hx, hb, hml, hown, hts⟩ hK hM hS (k_X13_isWord l D cy ld ad am hD _ _ _ _ 525908 gs gw hIF hIG hIR hg_2 hg_4) ⟨callB_of 1 hts (wl_in mw_709) rfl rfl rfl (htl _ mw_5) (htl _ mw_706) hd_yX13_isWord ⟨(Nat.le_of_ble_eq_true rfl), (Nat.le_of_ble_eq_true rfl)⟩, htl _ mw_707, htl _ mw_708⟩ rfl hl.1 rfl (Nat.le_of_ble_eq_true rfl) dX13_readOrder_32 ⟨(Nat.le_of_ble_eq_true rfl), (Nat.le_of_ble_eq_true rfl)⟩ (fun v3918 H locs hpo hM hS => ?_)
      obtain ⟨hpo3919, hpo3920, hpo3921, hpo3922, hpo3923⟩ := hpo
      have hq_v3918 := tk_rng v3918
      refine lv_if_eq (tgt := 42) hx hb dX13_readOrder_35 (by decide) (fun c9 => ?_) (fun c9 => ?_)
      · have hc3925 : v3918.toInt = 0 := (fi_eq rfl (show (0 : Int32).toInt = 0 by decide)).mp c9
        refine lv_aload_n hx hb dX13_readOrder_42 rfl (lv_at hl 0 rfl) ?_
        refine lv_ldc2 hx hb hown (htl _ mw_1018) dX13_readOrder_43 ?_
        have hk_132846 : (132846 : Int64).toInt = 132846 := by decide
        refine mz_Vj (As := [.long 132846]) (rest := []) ⟨hx, hb, hml, hown, hts⟩ hK hM hS (k_X13_isWord l D cy ld ad am hD _ _ _ _ 132846 gs gw hIF hIG hIR hg_2 hg_4) ⟨callB_of 1 hts (wl_in mw_709) rfl rfl rfl (htl _ mw_5) (htl _ mw_706) hd_yX13_isWord ⟨(Nat.le_of_ble_eq_true rfl), (Nat.le_of_ble_eq_true rfl)⟩, htl _ mw_707, htl _ mw_708⟩ rfl hl.1 rfl (Nat.le_of_ble_eq_true rfl) dX13_readOrder_46 ⟨(Nat.le_of_ble_eq_true rfl), (Nat.le_of_ble_eq_true rfl)⟩ (fun v3926 H locs hpo hM hS => ?_)
        obtain ⟨hpo3927, hpo3928, hpo3929, hpo3930, hpo3931⟩ := hpo
        have hq_v3926 := tk_rng v3926
        refine lv_if_eq (tgt := 56) hx hb dX13_readOrder_49 (by decide) (fun c9 => ?_) (fun c9 => ?_)
        · have hc3933 : v3926.toInt = 0 := (fi_eq rfl (show (0 : Int32).toInt = 0 by decide)).mp c9
          refine lv_iconst (v := (-1)) hx hb dX13_readOrder_56 (by decide) ?_
          have hk_m1 : ((-1) : Int32).toInt = (-1) := by decide
          exact hj40 (-1) _ _ (by omega) (by omega) (by omega) hM hS (by omega) _ (lv_sub hl [0] rfl)
        · have hc3933 : ¬ (v3926.toInt = 0) := fun h9 => c9 ((fi_eq rfl (show (0 : Int32).toInt = 0 by decide)).mpr h9)
          have hwk_3934 : gw.toInt + (-132846) = 0 ∧ gs.toInt + (-1) = 0 := by omega
          have hwk_3935 : 0 ≤ (-1) * gf.toInt + gt.toInt + (-1) := by omega
          have hwk_3936 : 0 ≤ (-1) * gf.toInt + gt.toInt + (-2) := by omega
          refine lv_iconst (v := 3) hx hb dX13_readOrder_52 (by decide) ?_
          refine lv_goto (tgt := 57) hx hb dX13_readOrder_53 (by decide) ?_
          have hk_3 : (3 : Int32).toInt = 3 := by decide
          exact hj40 3 _ _ (by omega) (by omega) (by omega) hM hS (by omega) _ (lv_sub hl [0] rfl)
      · have hc3925 : ¬ (v3918.toInt = 0) := fun h9 => c9 ((fi_eq rfl (show (0 : Int32).toInt = 0 by decide)).mpr h9)
        have hwk_3937 : gw.toInt + (-525908) = 0 ∧ gs.toInt + (-1) = 0 := by omega
        have hwk_3938 : 0 ≤ (-1) * gf.toInt + gt.toInt + (-1) := by omega
        have hwk_3939 : 0 ≤ (-1) * gf.toInt + gt.toInt + (-2) := by omega
        refine lv_iconst (v := 2) hx hb dX13_readOrder_38 (by decide) ?_
        refine lv_goto (tgt := 57) hx hb dX13_readOrder_39 (by decide) ?_
        have hk_2 : (2 : Int32).toInt = 2 := by decide
        exact hj40 2 _ _ (by omega) (by omega) (by omega) hM hS (by omega) _ (lv_sub hl [0] rfl)
    · have hc3917 : ¬ (v3910.toInt = 0) := fun h9 => c9 ((fi_eq rfl (show (0 : Int32).toInt = 0 by decide)).mpr h9)
      have hwk_3940 : gw.toInt + (-632263) = 0 ∧ gs.toInt + (-1) = 0 := by omega
      have hwk_3941 : 0 ≤ (-1) * gf.toInt + gt.toInt + (-1) := by omega
      have hwk_3942 : 0 ≤ (-1) * gf.toInt + gt.toInt + (-2) := by omega
      refine lv_iconst (v := 1) hx hb dX13_readOrder_24 (by decide) ?_
      refine lv_goto (tgt := 57) hx hb dX13_readOrder_25 (by decide) ?_
      have hk_1 : (1 : Int32).toInt = 1 := by decide
      exact hj40 1 _ _ (by omega) (by omega) (by omega) hM hS (by omega) _ (lv_sub hl [0] rfl)
  · have hc11 : ¬ (v1.toInt = 0) := fun h9 => c9 ((fi_eq rfl (show (0 : Int32).toInt = 0 by decide)).mpr h9)
    have hwk_3943 : gw.toInt + (-2268462) = 0 ∧ gs.toInt + (-1) = 0 := by omega
    have hwk_3944 : 0 ≤ (-1) * gf.toInt + gt.toInt + (-1) := by omega
    have hwk_3945 : 0 ≤ (-1) * gf.toInt + gt.toInt + (-2) := by omega
    refine lv_iconst (v := 0) hx hb dX13_readOrder_10 (by decide) ?_
    refine lv_goto (tgt := 57) hx hb dX13_readOrder_11 (by decide) ?_
    have hk_0 : (0 : Int32).toInt = 0 := by decide
    exact hj40 0 _ _ (by omega) (by omega) (by omega) hM hS (by omega) _ (lv_sub hl [0] rfl)
