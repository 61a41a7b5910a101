theorem hd_yX13_readBehind : yX13_readBehind.cls ≠ "java/lang/invoke/MethodHandle" ∧ yX13_readBehind.cls ≠ "java/lang/invoke/VarHandle" ∧ (parseMethodDescriptor yX13_readBehind.desc).map (fun d => d.parameters.length) = some 2 := by decide +kernel
theorem dX13_readOrder_221 : decode cX13_readOrder 221 = .ok (.aload_n 0, 1) := by decide +kernel
theorem dX13_readOrder_222 : decode cX13_readOrder 222 = .ok (.getfield 149, 3) := by decide +kernel
theorem dX13_readOrder_225 : decode cX13_readOrder 225 = .ok (.iload_n 2, 1) := by decide +kernel
theorem dX13_readOrder_226 : decode cX13_readOrder 226 = .ok (.bipush 7, 2) := by decide +kernel
theorem dX13_readOrder_228 : decode cX13_readOrder 228 = .ok (.iadd, 1) := by decide +kernel
theorem dX13_readOrder_229 : decode cX13_readOrder 229 = .ok (.aload_n 0, 1) := by decide +kernel
theorem dX13_readOrder_230 : decode cX13_readOrder 230 = .ok (.getfield 275, 3) := by decide +kernel
theorem dX13_readOrder_233 : decode cX13_readOrder 233 = .ok (.iastore, 1) := by decide +kernel
theorem dX13_readOrder_234 : decode cX13_readOrder 234 = .ok (.aload_n 0, 1) := by decide +kernel
theorem dX13_readOrder_235 : decode cX13_readOrder 235 = .ok (.getfield 236, 3) := by decide +kernel
theorem dX13_readOrder_238 : decode cX13_readOrder 238 = .ok (.ifCond .ne 22, 3) := by decide +kernel
theorem dX13_readOrder_241 : decode cX13_readOrder 241 = .ok (.aload_n 0, 1) := by decide +kernel
theorem dX13_readOrder_242 : decode cX13_readOrder 242 = .ok (.ldc2_w 375, 3) := by decide +kernel
theorem dX13_readOrder_245 : decode cX13_readOrder 245 = .ok (.invokevirtual 296, 3) := by decide +kernel
theorem dX13_readOrder_248 : decode cX13_readOrder 248 = .ok (.ifCond .eq 12, 3) := by decide +kernel
theorem dX13_readOrder_260 : decode cX13_readOrder 260 = .ok (.aload_n 0, 1) := by decide +kernel
theorem dX13_readOrder_261 : decode cX13_readOrder 261 = .ok (.getfield 149, 3) := by decide +kernel
theorem dX13_readOrder_264 : decode cX13_readOrder 264 = .ok (.iload_n 2, 1) := by decide +kernel
theorem dX13_readOrder_265 : decode cX13_readOrder 265 = .ok (.bipush 8, 2) := by decide +kernel
theorem dX13_readOrder_267 : decode cX13_readOrder 267 = .ok (.iadd, 1) := by decide +kernel
theorem dX13_readOrder_268 : decode cX13_readOrder 268 = .ok (.aload_n 0, 1) := by decide +kernel
theorem dX13_readOrder_269 : decode cX13_readOrder 269 = .ok (.getfield 275, 3) := by decide +kernel
theorem dX13_readOrder_272 : decode cX13_readOrder 272 = .ok (.iastore, 1) := by decide +kernel
theorem dX13_readOrder_273 : decode cX13_readOrder 273 = .ok (.return_, 1) := by decide +kernel
theorem dX13_readOrder_251 : decode cX13_readOrder 251 = .ok (.aload_n 0, 1) := by decide +kernel
theorem dX13_readOrder_252 : decode cX13_readOrder 252 = .ok (.invokevirtual 240, 3) := by decide +kernel
theorem dX13_readOrder_255 : decode cX13_readOrder 255 = .ok (.aload_n 0, 1) := by decide +kernel
theorem dX13_readOrder_256 : decode cX13_readOrder 256 = .ok (.iconst 1, 1) := by decide +kernel
theorem dX13_readOrder_257 : decode cX13_readOrder 257 = .ok (.invokevirtual 372, 3) := by decide +kernel
theorem dX13_readOrder_173 : decode cX13_readOrder 173 = .ok (.aload_n 0, 1) := by decide +kernel
theorem dX13_readOrder_174 : decode cX13_readOrder 174 = .ok (.getfield 149, 3) := by decide +kernel
theorem dX13_readOrder_177 : decode cX13_readOrder 177 = .ok (.iload_n 2, 1) := by decide +kernel
theorem dX13_readOrder_178 : decode cX13_readOrder 178 = .ok (.bipush 9, 2) := by decide +kernel
theorem dX13_readOrder_180 : decode cX13_readOrder 180 = .ok (.iadd, 1) := by decide +kernel
theorem dX13_readOrder_181 : decode cX13_readOrder 181 = .ok (.iconst 1, 1) := by decide +kernel
theorem dX13_readOrder_182 : decode cX13_readOrder 182 = .ok (.iastore, 1) := by decide +kernel
theorem dX13_readOrder_183 : decode cX13_readOrder 183 = .ok (.aload_n 0, 1) := by decide +kernel
theorem dX13_readOrder_184 : decode cX13_readOrder 184 = .ok (.getfield 236, 3) := by decide +kernel
theorem dX13_readOrder_187 : decode cX13_readOrder 187 = .ok (.ifCond .ne 34, 3) := by decide +kernel
theorem dX13_readOrder_190 : decode cX13_readOrder 190 = .ok (.aload_n 0, 1) := by decide +kernel
theorem dX13_readOrder_191 : decode cX13_readOrder 191 = .ok (.ldc2_w 612, 3) := by decide +kernel
theorem dX13_readOrder_194 : decode cX13_readOrder 194 = .ok (.invokevirtual 296, 3) := by decide +kernel
theorem dX13_readOrder_197 : decode cX13_readOrder 197 = .ok (.ifCond .eq 24, 3) := by decide +kernel
theorem dX13_readOrder_200 : decode cX13_readOrder 200 = .ok (.aload_n 0, 1) := by decide +kernel
theorem dX13_readOrder_201 : decode cX13_readOrder 201 = .ok (.invokevirtual 240, 3) := by decide +kernel
theorem dX13_readOrder_204 : decode cX13_readOrder 204 = .ok (.aload_n 0, 1) := by decide +kernel
theorem dX13_readOrder_205 : decode cX13_readOrder 205 = .ok (.getfield 149, 3) := by decide +kernel
theorem dX13_readOrder_208 : decode cX13_readOrder 208 = .ok (.iload_n 2, 1) := by decide +kernel
theorem dX13_readOrder_209 : decode cX13_readOrder 209 = .ok (.bipush 9, 2) := by decide +kernel
theorem dX13_readOrder_211 : decode cX13_readOrder 211 = .ok (.iadd, 1) := by decide +kernel
theorem dX13_readOrder_212 : decode cX13_readOrder 212 = .ok (.aload_n 0, 1) := by decide +kernel
theorem dX13_readOrder_213 : decode cX13_readOrder 213 = .ok (.lconst 1, 1) := by decide +kernel
theorem dX13_readOrder_214 : decode cX13_readOrder 214 = .ok (.ldc2_w 288, 3) := by decide +kernel
theorem dX13_readOrder_217 : decode cX13_readOrder 217 = .ok (.invokevirtual 333, 3) := by decide +kernel
theorem dX13_readOrder_220 : decode cX13_readOrder 220 = .ok (.iastore, 1) := by decide +kernel
theorem dX13_readOrder_0 : decode cX13_readOrder 0 = .ok (.aload_n 0, 1) := by decide +kernel
theorem dX13_readOrder_1 : decode cX13_readOrder 1 = .ok (.ldc2_w 596, 3) := by decide +kernel
theorem dX13_readOrder_4 : decode cX13_readOrder 4 = .ok (.invokevirtual 296, 3) := by decide +kernel
theorem dX13_readOrder_57 : decode cX13_readOrder 57 = .ok (.istore_n 1, 1) := by decide +kernel
theorem dX13_readOrder_58 : decode cX13_readOrder 58 = .ok (.aload_n 0, 1) := by decide +kernel
theorem dX13_readOrder_59 : decode cX13_readOrder 59 = .ok (.iload_n 1, 1) := by decide +kernel
theorem dX13_readOrder_60 : decode cX13_readOrder 60 = .ok (.iconst (-1), 1) := by decide +kernel
theorem dX13_readOrder_61 : decode cX13_readOrder 61 = .ok (.if_icmp .eq 16, 3) := by decide +kernel
theorem dX13_readOrder_77 : decode cX13_readOrder 77 = .ok (.iconst 0, 1) := by decide +kernel
theorem dX13_readOrder_78 : decode cX13_readOrder 78 = .ok (.invokevirtual 271, 3) := by decide +kernel
theorem dX13_readOrder_81 : decode cX13_readOrder 81 = .ok (.aload_n 0, 1) := by decide +kernel
theorem dX13_readOrder_82 : decode cX13_readOrder 82 = .ok (.getfield 236, 3) := by decide +kernel
theorem dX13_readOrder_85 : decode cX13_readOrder 85 = .ok (.ifCond .eq 4, 3) := by decide +kernel
theorem dX13_readOrder_88 : decode cX13_readOrder 88 = .ok (.return_, 1) := by decide +kernel
theorem dX13_readOrder_64 : decode cX13_readOrder 64 = .ok (.aload_n 0, 1) := by decide +kernel
theorem dX13_readOrder_65 : decode cX13_readOrder 65 = .ok (.getfield 369, 3) := by decide +kernel
theorem dX13_readOrder_68 : decode cX13_readOrder 68 = .ok (.bipush 12, 2) := by decide +kernel
theorem dX13_readOrder_70 : decode cX13_readOrder 70 = .ok (.if_icmp .ge 7, 3) := by decide +kernel
theorem dX13_readOrder_73 : decode cX13_readOrder 73 = .ok (.iconst 1, 1) := by decide +kernel
theorem dX13_readOrder_74 : decode cX13_readOrder 74 = .ok (.goto 4, 3) := by decide +kernel
theorem dX13_readOrder_89 : decode cX13_readOrder 89 = .ok (.bipush 10, 2) := by decide +kernel
theorem dX13_readOrder_91 : decode cX13_readOrder 91 = .ok (.aload_n 0, 1) := by decide +kernel
theorem dX13_readOrder_92 : decode cX13_readOrder 92 = .ok (.getfield 369, 3) := by decide +kernel
theorem dX13_readOrder_95 : decode cX13_readOrder 95 = .ok (.imul, 1) := by decide +kernel
theorem dX13_readOrder_96 : decode cX13_readOrder 96 = .ok (.istore_n 2, 1) := by decide +kernel
theorem dX13_readOrder_97 : decode cX13_readOrder 97 = .ok (.aload_n 0, 1) := by decide +kernel
theorem dX13_readOrder_98 : decode cX13_readOrder 98 = .ok (.dup, 1) := by decide +kernel
theorem dX13_readOrder_99 : decode cX13_readOrder 99 = .ok (.getfield 369, 3) := by decide +kernel
theorem dX13_readOrder_102 : decode cX13_readOrder 102 = .ok (.iconst 1, 1) := by decide +kernel
theorem dX13_readOrder_103 : decode cX13_readOrder 103 = .ok (.iadd, 1) := by decide +kernel
theorem dX13_readOrder_104 : decode cX13_readOrder 104 = .ok (.putfield 369, 3) := by decide +kernel
theorem dX13_readOrder_107 : decode cX13_readOrder 107 = .ok (.iconst 0, 1) := by decide +kernel
theorem dX13_readOrder_108 : decode cX13_readOrder 108 = .ok (.istore_n 3, 1) := by decide +kernel
theorem dX13_readOrder_109 : decode cX13_readOrder 109 = .ok (.iload_n 3, 1) := by decide +kernel
theorem dX13_readOrder_110 : decode cX13_readOrder 110 = .ok (.bipush 10, 2) := by decide +kernel
theorem dX13_readOrder_112 : decode cX13_readOrder 112 = .ok (.if_icmp .ge 18, 3) := by decide +kernel
theorem dX13_readOrder_130 : decode cX13_readOrder 130 = .ok (.aload_n 0, 1) := by decide +kernel
theorem dX13_readOrder_131 : decode cX13_readOrder 131 = .ok (.getfield 149, 3) := by decide +kernel
theorem dX13_readOrder_134 : decode cX13_readOrder 134 = .ok (.iload_n 2, 1) := by decide +kernel
theorem dX13_readOrder_135 : decode cX13_readOrder 135 = .ok (.iload_n 1, 1) := by decide +kernel
theorem dX13_readOrder_136 : decode cX13_readOrder 136 = .ok (.iastore, 1) := by decide +kernel
theorem dX13_readOrder_137 : decode cX13_readOrder 137 = .ok (.iload_n 1, 1) := by decide +kernel
theorem dX13_readOrder_138 : decode cX13_readOrder 138 = .ok (.iconst 2, 1) := by decide +kernel
theorem dX13_readOrder_139 : decode cX13_readOrder 139 = .ok (.if_icmp .ge 10, 3) := by decide +kernel
theorem dX13_readOrder_149 : decode cX13_readOrder 149 = .ok (.iload_n 1, 1) := by decide +kernel
theorem dX13_readOrder_150 : decode cX13_readOrder 150 = .ok (.ifCond .ne 23, 3) := by decide +kernel
theorem dX13_readOrder_142 : decode cX13_readOrder 142 = .ok (.aload_n 0, 1) := by decide +kernel
theorem dX13_readOrder_143 : decode cX13_readOrder 143 = .ok (.iload_n 2, 1) := by decide +kernel
theorem dX13_readOrder_144 : decode cX13_readOrder 144 = .ok (.iconst 1, 1) := by decide +kernel
theorem dX13_readOrder_145 : decode cX13_readOrder 145 = .ok (.iadd, 1) := by decide +kernel
theorem dX13_readOrder_146 : decode cX13_readOrder 146 = .ok (.invokevirtual 593, 3) := by decide +kernel
theorem dX13_readOrder_153 : decode cX13_readOrder 153 = .ok (.aload_n 0, 1) := by decide +kernel
theorem dX13_readOrder_154 : decode cX13_readOrder 154 = .ok (.iload_n 2, 1) := by decide +kernel
theorem dX13_readOrder_155 : decode cX13_readOrder 155 = .ok (.iconst 3, 1) := by decide +kernel
theorem dX13_readOrder_156 : decode cX13_readOrder 156 = .ok (.iadd, 1) := by decide +kernel
theorem dX13_readOrder_157 : decode cX13_readOrder 157 = .ok (.ldc2_w 604, 3) := by decide +kernel
theorem dX13_readOrder_160 : decode cX13_readOrder 160 = .ok (.invokevirtual 606, 3) := by decide +kernel
theorem dX13_readOrder_163 : decode cX13_readOrder 163 = .ok (.aload_n 0, 1) := by decide +kernel
theorem dX13_readOrder_164 : decode cX13_readOrder 164 = .ok (.iload_n 2, 1) := by decide +kernel
theorem dX13_readOrder_165 : decode cX13_readOrder 165 = .ok (.iconst 5, 1) := by decide +kernel
theorem dX13_readOrder_166 : decode cX13_readOrder 166 = .ok (.iadd, 1) := by decide +kernel
theorem dX13_readOrder_167 : decode cX13_readOrder 167 = .ok (.ldc2_w 610, 3) := by decide +kernel
theorem dX13_readOrder_170 : decode cX13_readOrder 170 = .ok (.invokevirtual 606, 3) := by decide +kernel
theorem dX13_readOrder_115 : decode cX13_readOrder 115 = .ok (.aload_n 0, 1) := by decide +kernel
theorem dX13_readOrder_116 : decode cX13_readOrder 116 = .ok (.getfield 149, 3) := by decide +kernel
theorem dX13_readOrder_119 : decode cX13_readOrder 119 = .ok (.iload_n 2, 1) := by decide +kernel
theorem dX13_readOrder_120 : decode cX13_readOrder 120 = .ok (.iload_n 3, 1) := by decide +kernel
theorem dX13_readOrder_121 : decode cX13_readOrder 121 = .ok (.iadd, 1) := by decide +kernel
theorem dX13_readOrder_122 : decode cX13_readOrder 122 = .ok (.iconst 0, 1) := by decide +kernel
theorem dX13_readOrder_123 : decode cX13_readOrder 123 = .ok (.iastore, 1) := by decide +kernel
theorem dX13_readOrder_124 : decode cX13_readOrder 124 = .ok (.iinc 3 1, 3) := by decide +kernel
theorem dX13_readOrder_127 : decode cX13_readOrder 127 = .ok (.goto (-18), 3) := by decide +kernel
theorem dX13_readOrder_7 : decode cX13_readOrder 7 = .ok (.ifCond .eq 7, 3) := by decide +kernel
theorem dX13_readOrder_14 : decode cX13_readOrder 14 = .ok (.aload_n 0, 1) := by decide +kernel
theorem dX13_readOrder_15 : decode cX13_readOrder 15 = .ok (.ldc2_w 598, 3) := by decide +kernel
theorem dX13_readOrder_18 : decode cX13_readOrder 18 = .ok (.invokevirtual 296, 3) := by decide +kernel
theorem dX13_readOrder_21 : decode cX13_readOrder 21 = .ok (.ifCond .eq 7, 3) := by decide +kernel
theorem dX13_readOrder_28 : decode cX13_readOrder 28 = .ok (.aload_n 0, 1) := by decide +kernel
theorem dX13_readOrder_29 : decode cX13_readOrder 29 = .ok (.ldc2_w 600, 3) := by decide +kernel
theorem dX13_readOrder_32 : decode cX13_readOrder 32 = .ok (.invokevirtual 296, 3) := by decide +kernel
theorem dX13_readOrder_35 : decode cX13_readOrder 35 = .ok (.ifCond .eq 7, 3) := by decide +kernel
theorem dX13_readOrder_42 : decode cX13_readOrder 42 = .ok (.aload_n 0, 1) := by decide +kernel
theorem dX13_readOrder_43 : decode cX13_readOrder 43 = .ok (.ldc2_w 602, 3) := by decide +kernel
theorem dX13_readOrder_46 : decode cX13_readOrder 46 = .ok (.invokevirtual 296, 3) := by decide +kernel
theorem dX13_readOrder_49 : decode cX13_readOrder 49 = .ok (.ifCond .eq 7, 3) := by decide +kernel
theorem dX13_readOrder_56 : decode cX13_readOrder 56 = .ok (.iconst (-1), 1) := by decide +kernel
theorem dX13_readOrder_52 : decode cX13_readOrder 52 = .ok (.iconst 3, 1) := by decide +kernel
theorem dX13_readOrder_53 : decode cX13_readOrder 53 = .ok (.goto 4, 3) := by decide +kernel
theorem dX13_readOrder_38 : decode cX13_readOrder 38 = .ok (.iconst 2, 1) := by decide +kernel
theorem dX13_readOrder_39 : decode cX13_readOrder 39 = .ok (.goto 18, 3) := by decide +kernel
theorem dX13_readOrder_24 : decode cX13_readOrder 24 = .ok (.iconst 1, 1) := by decide +kernel
theorem dX13_readOrder_25 : decode cX13_readOrder 25 = .ok (.goto 32, 3) := by decide +kernel
theorem dX13_readOrder_10 : decode cX13_readOrder 10 = .ok (.iconst 0, 1) := by decide +kernel
theorem dX13_readOrder_11 : decode cX13_readOrder 11 = .ok (.goto 46, 3) := by decide +kernel
set_option maxHeartbeats 4000000 in
set_option maxRecDepth 100000 in
theorem kz_X13_readOrder_c2 (l : Launch) (D : va_G) (cy : Nat → ClassId) (ld ad : Nat → Nat) (am : Nat) (hD : mz_D ad am) (Fa : Nat → Int32) (Ga : Nat → Int64) (Ra : Nat → Nat → Int32) (Sa : Nat → Nat → Int64) (gf : Int32) (gt : Int32) (gs : Int32) (gp : Int32) (gw : Int64) (gb : Int32) (gc : Int32) (gn : Int32) {p : Program} {e : Env} {s : State} {m : MethodId} {args : Array Value} {below : List Frame} {meth : Method} {c : Code} (hx : p.tables.exec = Jvm.exec) (hb : c.code = cX13_readOrder) (hr : meth.sig.returnType = none) (hml : c.maxLocals = 4) (hts : ∀ w ∈ wl yX13_readOrder cX13_readOrder 4 none, w.before args s = true) (htl : ∀ w ∈ wsA, w.before args s = true) (hown : s.vm.findClass RX13 = some m.cls) (hlocks : meth.locks = false) (hK : kk_K D cy ld s) (hp_0 : 0 ≤ (-1) * gf.toInt + gt.toInt) (hp_1 : 0 ≤ gp.toInt + (-1) * gt.toInt) (hp_2 : (1 ≤ gs.toInt → 0 ≤ (-1) * gf.toInt + gt.toInt + (-1))) (hp_3 : (27 ≤ gw.toInt → 1 ≤ gs.toInt → gs.toInt ≤ 1 → 0 ≤ (-1) * gf.toInt + gt.toInt + (-2))) (hp_4 : 0 ≤ (-1) * gc.toInt + gf.toInt) (hp_5 : gb.toInt ≤ 0) (hx_0 : CLS 10 [1, 3, 5, 7] (Ra 24) (Ra 25) (Ra 61) gc.toInt gn.toInt) (hx_1 : TMS (Ra 61) gn.toInt) (v101 : Int32) (v105 : Int32) (v108 : Int32) (v109 : Int32) (v38 : Int32) (v97 : Int32) (v99 : Int32) (w103 : Int64) (H : Heap) (locs : List Loc) (F : Nat → Int32) (G : Nat → Int64) (R : Nat → Nat → Int32) (S : Nat → Nat → Int64) (hq0_kz_X13_readOrder_c2 : v101.toInt ≤ 3) (hq1_kz_X13_readOrder_c2 : 0 ≤ v105.toInt) (hq2_kz_X13_readOrder_c2 : 1 ≤ v109.toInt) (hq3_kz_X13_readOrder_c2 : v109.toInt ≤ 12) (hq4_kz_X13_readOrder_c2 : 2 ≤ v38.toInt) (hq5_kz_X13_readOrder_c2 : v38.toInt ≤ 3) (hq6_kz_X13_readOrder_c2 : v99.toInt ≤ 400) (hq7_kz_X13_readOrder_c2 : 0 ≤ gt.toInt + (-1) * v38.toInt + 1) (hq8_kz_X13_readOrder_c2 : 0 ≤ (-1) * gf.toInt + gt.toInt + (-1)) (hq9_kz_X13_readOrder_c2 : 0 ≤ (-1) * v97.toInt + v99.toInt) (hq10_kz_X13_readOrder_c2 : 0 ≤ gp.toInt + (-1) * v99.toInt) (hq11_kz_X13_readOrder_c2 : 0 ≤ (-1) * gt.toInt + v97.toInt) (hq12_kz_X13_readOrder_c2 : (-10) * gn.toInt + v108.toInt = 0) (hq13_kz_X13_readOrder_c2 : (-1) * gn.toInt + v109.toInt + (-1) = 0) (hq14_kz_X13_readOrder_c2 : 0 ≤ gb.toInt + (-1) * v105.toInt) (hq15_kz_X13_readOrder_c2 : 0 ≤ gc.toInt + (-1) * v105.toInt) (hq16_kz_X13_readOrder_c2 : 0 ≤ gs.toInt + (-1) * v105.toInt + (-1)) (hq17_kz_X13_readOrder_c2 : 0 ≤ (-1) * gs.toInt + v105.toInt + 1) (hq18_kz_X13_readOrder_c2 : 0 ≤ (-1) * gb.toInt + v101.toInt) (hM : mz_S D cy ad am F G R S H) (hS : va_S (mz_W ad am) s.heap H locs) (hIF : mz_IF false F) (hIG : mz_IG G) (hIR : mz_IR [] true R) (hFF : ∀ k : Nat, k ∉ ([14, 15, 16, 18, 19, 21, 23, 26, 29, 30] : List Nat) → F k = Fa k) (hGG : ∀ k : Nat, k ∉ ([17] : List Nat) → G k = Ga k) (hRR : ∀ k : Nat, k ∉ ([24, 25, 27, 28, 61] : List Nat) → R k = Ra k) (hg_3 : F 13 = gp) (hg_6 : F 23 = gc) (hf96 : F 14 = v97) (hf98 : F 15 = v99) (hf100 : F 16 = v101) (hf102 : G 17 = w103) (hf104 : F 19 = v105) (hf111 : F 21 = v109) (hc0_kz_X13_readOrder_c2 : (27 ≤ gw.toInt → 1 ≤ gs.toInt → gs.toInt ≤ 1 → 0 ≤ (-1) * gf.toInt + gt.toInt + (-2))) (hc1_kz_X13_readOrder_c2 : (1 ≤ v101.toInt → 0 ≤ (-1) * v97.toInt + v99.toInt + (-1))) (hc2_kz_X13_readOrder_c2 : (27 ≤ w103.toInt → 1 ≤ v101.toInt → v101.toInt ≤ 1 → 0 ≤ (-1) * v97.toInt + v99.toInt + (-2))) (hc3_kz_X13_readOrder_c2 : (27 ≤ gw.toInt → 1 ≤ gs.toInt → gs.toInt ≤ 1 → 0 ≤ (-1) * gf.toInt + gt.toInt + (-2))) (hL22 : low (10 * gn.toInt.toNat) (Ra 61) (R 61)) (hC : v105.toInt = 0 → CLS 10 [1, 3, 5, 7] (R 24) (R 25) (Ra 61) gc.toInt gn.toInt) (h22_1 : R 61 (10 * gn.toInt.toNat + 1) = 0) (h22_2 : R 61 (10 * gn.toInt.toNat + 2) = 0) (h22_3 : R 61 (10 * gn.toInt.toNat + 3) = 0) (h22_4 : R 61 (10 * gn.toInt.toNat + 4) = 0) (h22_5 : R 61 (10 * gn.toInt.toNat + 5) = 0) (h22_6 : R 61 (10 * gn.toInt.toNat + 6) = 0) (h22_7 : R 61 (10 * gn.toInt.toNat + 7) = 0) (h22_8 : R 61 (10 * gn.toInt.toNat + 8) = 0) (h22_0 : R 61 (10 * gn.toInt.toNat + 0) = v38) (h22_9 : R 61 (10 * gn.toInt.toNat + 9) = 1) (ls : Array Slot) (hl : lv_has ls 4 [(2, .int v108), (0, .ref am)]) : W p l e ({ frames := 12, cells := 0, slots := 0, locals := 770 }) s m args below meth c H locs 0 0 (MQ below (mz_w D cy ad am (fun F G R S => mz_IF false F ∧ mz_IG G ∧ mz_IR [] true R ∧ (∀ k : Nat, k ∉ ([14, 15, 16, 18, 19, 21, 23, 26, 29, 30] : List Nat) → F k = Fa k) ∧ (∀ k : Nat, k ∉ ([24, 25, 27, 28, 61] : List Nat) → R k = Ra k) ∧ (∀ k : Nat, k ∉ ([17] : List Nat) → G k = Ga k) ∧ 0 ≤ (-1) * (F 14).toInt + (F 15).toInt ∧ 0 ≤ gp.toInt + (-1) * (F 15).toInt ∧ (1 ≤ (F 16).toInt → 0 ≤ (-1) * (F 14).toInt + (F 15).toInt + (-1)) ∧ (27 ≤ (G 17).toInt → 1 ≤ (F 16).toInt → (F 16).toInt ≤ 1 → 0 ≤ (-1) * (F 14).toInt + (F 15).toInt + (-2)) ∧ 0 ≤ (-1) * gf.toInt + (F 14).toInt ∧ 0 ≤ (-1) * gc.toInt + (F 23).toInt ∧ 0 ≤ (-1) * (F 23).toInt + (F 14).toInt ∧ 0 ≤ (-1) * gb.toInt + (F 19).toInt ∧ ((F 19).toInt ≤ 0 → 0 ≤ (-1) * gf.toInt + (F 14).toInt + (-1)) ∧ ((F 19).toInt = 0 → CLS 10 [1, 3, 5, 7] (R 24) (R 25) (R 61) (F 23).toInt (F 21).toInt) ∧ ((F 19).toInt = 0 → TMS (R 61) (F 21).toInt))) args s 0 0 (mz_W ad am)) (F0 m 221 ls []) := by
  have hq_gb := tk_rng gb
  have hq_gc := tk_rng gc
  have hq_gf := tk_rng gf
  have hq_gn := tk_rng gn
  have hq_gp := tk_rng gp
  have hq_gs := tk_rng gs
  have hq_gt := tk_rng gt
  have hq_gw := tk_rngL gw
  have hq_v101 := tk_rng v101
  have hq_v105 := tk_rng v105
  have hq_v108 := tk_rng v108
  have hq_v109 := tk_rng v109
  have hq_v38 := tk_rng v38
  have hq_v97 := tk_rng v97
  have hq_v99 := tk_rng v99
  have hq_w103 := tk_rngL w103
  have hr_gp : 0 ≤ gp.toInt ∧ gp.toInt ≤ 400 := hIF.at hg_3
  have hr_gc : 0 ≤ gc.toInt ∧ gc.toInt ≤ 400 := hIF.at hg_6
  have hr_v97 : 0 ≤ v97.toInt ∧ v97.toInt ≤ 400 := hIF.at hf96
  have hr_v99 : 0 ≤ v99.toInt ∧ v99.toInt ≤ 400 := hIF.at hf98
  have hr_v101 : 0 ≤ v101.toInt ∧ v101.toInt ≤ 3 := hIF.at hf100
  have hr_v105 : 0 ≤ v105.toInt ∧ v105.toInt ≤ 1 := hIF.at hf104
  have hr_v109 : 0 ≤ v109.toInt ∧ v109.toInt ≤ 12 := hIF.at hf111
  refine lv_aload_n hx hb dX13_readOrder_221 rfl (lv_at hl 1 rfl) ?_
  refine mz_getR hx hb htl hown hK hM 61 (Nat.le_of_ble_eq_true rfl) (Nat.le_of_ble_eq_true rfl) (htl _ mw_239) (fun _ h9 => h9) dX13_readOrder_222 ?_
  refine lv_iload_n hx hb dX13_readOrder_225 rfl (lv_at hl 0 rfl) ?_
  refine lv_bipush (v := 7) hx hb dX13_readOrder_226 (by decide) ?_
  refine lv_iadd hx hb dX13_readOrder_228 ?_
  refine tk_add rfl (show (7 : Int32).toInt = 7 by decide) (by omega) (by omega) (fun v3351 h_v3351 => ?_)
  refine lv_aload_n hx hb dX13_readOrder_229 rfl (lv_at hl 1 rfl) ?_
  refine mz_getI hx hb htl hown hK hM 23 (Nat.le_of_ble_eq_true rfl) rfl (htl _ mw_670) (fun _ h9 => h9) dX13_readOrder_230 (fun v9 e9 => ?_)
  refine fx_ti (v := gc) (e9.symm.trans hg_6) ?_
  refine mz_iast (x := gc) hx hb hK hD hM hS 61 (Nat.le_of_ble_eq_true rfl) rfl (nn := 120) rfl rfl (by omega) (by omega) dX13_readOrder_233 (fun H locs R hM hS hw9 hj9 => ?_)
  have hIR := hIR.put hw9 hj9 trivial
  have hL22 : low (10 * gn.toInt.toNat) (Ra 61) (R 61) := fun j hj => by rw [hw9, pk_un (fun h9 => by have h8 := tk_nat (i := v3351) rfl (by omega); omega)]; exact hL22 j hj
  have h22_1 : R 61 (10 * gn.toInt.toNat + 1) = 0 := by rw [hw9, pk_un (fun h9 => by have h8 := tk_nat (i := v3351) rfl (by omega); omega)]; exact h22_1
  have h22_2 : R 61 (10 * gn.toInt.toNat + 2) = 0 := by rw [hw9, pk_un (fun h9 => by have h8 := tk_nat (i := v3351) rfl (by omega); omega)]; exact h22_2
  have h22_3 : R 61 (10 * gn.toInt.toNat + 3) = 0 := by rw [hw9, pk_un (fun h9 => by have h8 := tk_nat (i := v3351) rfl (by omega); omega)]; exact h22_3
  have h22_4 : R 61 (10 * gn.toInt.toNat + 4) = 0 := by rw [hw9, pk_un (fun h9 => by have h8 := tk_nat (i := v3351) rfl (by omega); omega)]; exact h22_4
  have h22_5 : R 61 (10 * gn.toInt.toNat + 5) = 0 := by rw [hw9, pk_un (fun h9 => by have h8 := tk_nat (i := v3351) rfl (by omega); omega)]; exact h22_5
  have h22_6 : R 61 (10 * gn.toInt.toNat + 6) = 0 := by rw [hw9, pk_un (fun h9 => by have h8 := tk_nat (i := v3351) rfl (by omega); omega)]; exact h22_6
  have h22_8 : R 61 (10 * gn.toInt.toNat + 8) = 0 := by rw [hw9, pk_un (fun h9 => by have h8 := tk_nat (i := v3351) rfl (by omega); omega)]; exact h22_8
  have h22_0 : R 61 (10 * gn.toInt.toNat + 0) = v38 := by rw [hw9, pk_un (fun h9 => by have h8 := tk_nat (i := v3351) rfl (by omega); omega)]; exact h22_0
  have h22_9 : R 61 (10 * gn.toInt.toNat + 9) = 1 := by rw [hw9, pk_un (fun h9 => by have h8 := tk_nat (i := v3351) rfl (by omega); omega)]; exact h22_9
  have hC9 := hC
  have hC : v105.toInt = 0 → CLS 10 [1, 3, 5, 7] (R 24) (R 25) (Ra 61) gc.toInt gn.toInt := fun h9 => (hC9 (by omega)).to (hj9 24 (by decide)) (hj9 25 (by decide))
  have h22_7 : R 61 (10 * gn.toInt.toNat + 7) = gc := by rw [hw9, show 10 * gn.toInt.toNat + 7 = (v3351 : Int32).toNatClampNeg by show _ = v3351.toInt.toNat; omega]; exact pk_us
  have hRR := mz_frp (K := [24, 25, 27, 28, 61]) (Fa := Ra) hj9 hRR (by decide)
  refine lv_aload_n hx hb dX13_readOrder_234 rfl (lv_at hl 1 rfl) ?_
  refine mz_getI hx hb htl hown hK hM 19 (Nat.le_of_ble_eq_true rfl) rfl (htl _ mw_668) (fun _ h9 => h9) dX13_readOrder_235 (fun v9 e9 => ?_)
  refine fx_ti (v := v105) (e9.symm.trans hf104) ?_
  refine lv_if_ne (tgt := 260) hx hb dX13_readOrder_238 (by decide) (fun c9 => absurd ((fi_eq rfl (show (0 : Int32).toInt = 0 by decide)).mpr (show v105.toInt = 0 by omega)) c9) (fun _ => ?_)
  refine lv_aload_n hx hb dX13_readOrder_241 rfl (lv_at hl 1 rfl) ?_
  refine lv_ldc2 hx hb hown (htl _ mw_705) dX13_readOrder_242 ?_
  have hk_294 : (294 : Int64).toInt = 294 := by decide
  refine mz_Vj (As := [.long 294]) (rest := []) ⟨hx, hb, hml, hown, hts⟩ hK hM hS (k_X13_isWord l D cy ld ad am hD _ _ _ _ 294 v101 w103 hIF hIG hIR hf100 hf102) ⟨callB_of 1 hts (wl_in mw_709) rfl rfl rfl (htl _ mw_5) (htl _ mw_706) hd_yX13_isWord ⟨(Nat.le_of_ble_eq_true rfl), (Nat.le_of_ble_eq_true rfl)⟩, htl _ mw_707, htl _ mw_708⟩ rfl hl.1 rfl (Nat.le_of_ble_eq_true rfl) dX13_readOrder_245 ⟨(Nat.le_of_ble_eq_true rfl), (Nat.le_of_ble_eq_true rfl)⟩ (fun v3353 H locs hpo hM hS => ?_)
  obtain ⟨hpo3354, hpo3355, hpo3356, hpo3357, hpo3358⟩ := hpo
  have hq_v3353 := tk_rng v3353
  refine lv_if_eq (tgt := 260) hx hb dX13_readOrder_248 (by decide) (fun c9 => ?_) (fun c9 => ?_)
  · have hc3360 : v3353.toInt = 0 := (fi_eq rfl (show (0 : Int32).toInt = 0 by decide)).mp c9
    refine lv_aload_n hx hb dX13_readOrder_260 rfl (lv_at hl 1 rfl) ?_
    refine mz_getR hx hb htl hown hK hM 61 (Nat.le_of_ble_eq_true rfl) (Nat.le_of_ble_eq_true rfl) (htl _ mw_239) (fun _ h9 => h9) dX13_readOrder_261 ?_
    refine lv_iload_n hx hb dX13_readOrder_264 rfl (lv_at hl 0 rfl) ?_
    refine lv_bipush (v := 8) hx hb dX13_readOrder_265 (by decide) ?_
    refine lv_iadd hx hb dX13_readOrder_267 ?_
    refine tk_add rfl (show (8 : Int32).toInt = 8 by decide) (by omega) (by omega) (fun v3361 h_v3361 => ?_)
    refine lv_aload_n hx hb dX13_readOrder_268 rfl (lv_at hl 1 rfl) ?_
    refine mz_getI hx hb htl hown hK hM 23 (Nat.le_of_ble_eq_true rfl) rfl (htl _ mw_670) (fun _ h9 => h9) dX13_readOrder_269 (fun v9 e9 => ?_)
    refine fx_ti (v := gc) (e9.symm.trans hg_6) ?_
    refine mz_iast (x := gc) hx hb hK hD hM hS 61 (Nat.le_of_ble_eq_true rfl) rfl (nn := 120) rfl rfl (by omega) (by omega) dX13_readOrder_272 (fun H locs R hM hS hw9 hj9 => ?_)
    have hIR := hIR.put hw9 hj9 trivial
    have hL22 : low (10 * gn.toInt.toNat) (Ra 61) (R 61) := fun j hj => by rw [hw9, pk_un (fun h9 => by have h8 := tk_nat (i := v3361) rfl (by omega); omega)]; exact hL22 j hj
    have h22_1 : R 61 (10 * gn.toInt.toNat + 1) = 0 := by rw [hw9, pk_un (fun h9 => by have h8 := tk_nat (i := v3361) rfl (by omega); omega)]; exact h22_1
    have h22_2 : R 61 (10 * gn.toInt.toNat + 2) = 0 := by rw [hw9, pk_un (fun h9 => by have h8 := tk_nat (i := v3361) rfl (by omega); omega)]; exact h22_2
    have h22_3 : R 61 (10 * gn.toInt.toNat + 3) = 0 := by rw [hw9, pk_un (fun h9 => by have h8 := tk_nat (i := v3361) rfl (by omega); omega)]; exact h22_3
    have h22_4 : R 61 (10 * gn.toInt.toNat + 4) = 0 := by rw [hw9, pk_un (fun h9 => by have h8 := tk_nat (i := v3361) rfl (by omega); omega)]; exact h22_4
    have h22_5 : R 61 (10 * gn.toInt.toNat + 5) = 0 := by rw [hw9, pk_un (fun h9 => by have h8 := tk_nat (i := v3361) rfl (by omega); omega)]; exact h22_5
    have h22_6 : R 61 (10 * gn.toInt.toNat + 6) = 0 := by rw [hw9, pk_un (fun h9 => by have h8 := tk_nat (i := v3361) rfl (by omega); omega)]; exact h22_6
    have h22_7 : R 61 (10 * gn.toInt.toNat + 7) = gc := by rw [hw9, pk_un (fun h9 => by have h8 := tk_nat (i := v3361) rfl (by omega); omega)]; exact h22_7
    have h22_0 : R 61 (10 * gn.toInt.toNat + 0) = v38 := by rw [hw9, pk_un (fun h9 => by have h8 := tk_nat (i := v3361) rfl (by omega); omega)]; exact h22_0
    have h22_9 : R 61 (10 * gn.toInt.toNat + 9) = 1 := by rw [hw9, pk_un (fun h9 => by have h8 := tk_nat (i := v3361) rfl (by omega); omega)]; exact h22_9
    have hC9 := hC
    have hC : v105.toInt = 0 → CLS 10 [1, 3, 5, 7] (R 24) (R 25) (Ra 61) gc.toInt gn.toInt := fun h9 => (hC9 (by omega)).to (hj9 24 (by decide)) (hj9 25 (by decide))
    have h22_8 : R 61 (10 * gn.toInt.toNat + 8) = gc := by rw [hw9, show 10 * gn.toInt.toNat + 8 = (v3361 : Int32).toNatClampNeg by show _ = v3361.toInt.toNat; omega]; exact pk_us
    have hRR := mz_frp (K := [24, 25, 27, 28, 61]) (Fa := Ra) hj9 hRR (by decide)
    have hk_0 : (0 : Int32).toInt = 0 := by decide
    have hk_0 : (0 : Int32).toInt = 0 := by decide
    have hk_0 : (0 : Int32).toInt = 0 := by decide
    have hk_0 : (0 : Int32).toInt = 0 := by decide
    have hk_0 : (0 : Int32).toInt = 0 := by decide
    have hk_0 : (0 : Int32).toInt = 0 := by decide
    have hk_1 : (1 : Int32).toInt = 1 := by decide
    exact mz_vret hx hb hr hlocks ⟨hIF, hIG, hIR, hFF, hRR, hGG, (by rw [hf96, hf98]; omega), (by rw [hf98]; omega), (by rw [hf96, hf98, hf100]; omega), (by rw [hf96, hf98, hf100, hf102]; omega), (by rw [hf96]; omega), (by rw [hg_6]; omega), (by rw [hf96, hg_6]; omega), (by rw [hf104]; omega), (by rw [hf96, hf104]; omega), (by rw [hf104, hg_6, hf111]; exact fun h9 => mz_snoc (N := gn.toInt.toNat) (hC h9) (by omega) (by omega) hL22 (by decide) (by omega) (by intro d hd; simp only [List.mem_cons, List.not_mem_nil, or_false] at hd; rcases hd with rfl | rfl | rfl | rfl <;> first | (rw [show 10 * gn.toInt.toNat + 1 + 1 = 10 * gn.toInt.toNat + 2 from rfl, h22_1, h22_2]; exact ⟨WFX.nil (by omega) (by omega), by omega⟩) | (rw [show 10 * gn.toInt.toNat + 3 + 1 = 10 * gn.toInt.toNat + 4 from rfl, h22_3, h22_4]; exact ⟨WFX.nil (by omega) (by omega), by omega⟩) | (rw [show 10 * gn.toInt.toNat + 5 + 1 = 10 * gn.toInt.toNat + 6 from rfl, h22_5, h22_6]; exact ⟨WFX.nil (by omega) (by omega), by omega⟩) | (rw [show 10 * gn.toInt.toNat + 7 + 1 = 10 * gn.toInt.toNat + 8 from rfl, h22_7, h22_8]; exact ⟨WFX.nil (by omega) (by omega), by omega⟩))), (by rw [hf104, hf111]; exact fun h9 => TMS.snoc (N := gn.toInt.toNat) hx_1 (by omega) (by omega) hL22 h22_9 (by omega) (by omega))⟩ hM hS dX13_readOrder_273
  · have hc3360 : ¬ (v3353.toInt = 0) := fun h9 => c9 ((fi_eq rfl (show (0 : Int32).toInt = 0 by decide)).mpr h9)
    have hwk_3363 : w103.toInt + (-294) = 0 ∧ v101.toInt + (-1) = 0 := by omega
    have hwk_3364 : 0 ≤ (-1) * v97.toInt + v99.toInt + (-1) := by omega
    have hwk_3365 : 0 ≤ (-1) * v97.toInt + v99.toInt + (-2) := by omega
    refine lv_aload_n hx hb dX13_readOrder_251 rfl (lv_at hl 1 rfl) ?_
    refine mz_Vv (As := []) (rest := []) ⟨hx, hb, hml, hown, hts⟩ hK hM hS (k_X13_next l D cy ld ad am hD _ _ _ _ v99 gp hIF hIG hIR hf98 hg_3 (by omega)) ⟨callB_of 0 hts (wl_in mw_685) rfl rfl rfl (htl _ mw_5) (htl _ mw_682) hd_yX13_next ⟨(Nat.le_of_ble_eq_true rfl), (Nat.le_of_ble_eq_true rfl)⟩, htl _ mw_683, htl _ mw_684⟩ rfl hl.1 rfl (Nat.le_of_ble_eq_true rfl) dX13_readOrder_252 ⟨(Nat.le_of_ble_eq_true rfl), (Nat.le_of_ble_eq_true rfl)⟩ (fun H locs F G R S hpo hM hS => ?_)
    obtain ⟨hIF, hIG, hIR, hfr9, hrr9, hgr9, hpo3366, hpo3367, hpo3368, hpo3369, hpo3370⟩ := hpo
    have hFF := mz_fr (K := [14, 15, 16, 18, 19, 21, 23, 26, 29, 30]) (Fa := Fa) hfr9 hFF (by decide)
    have hRR := mz_fr (K := [24, 25, 27, 28, 61]) (Fa := Ra) hrr9 hRR (by decide)
    have hGG := mz_fr (K := [17]) (Fa := Ga) hgr9 hGG (by decide)
    have hg_3 := (hfr9 13 (by decide)).trans hg_3
    have hg_6 := (hfr9 23 (by decide)).trans hg_6
    have hf104 := (hfr9 19 (by decide)).trans hf104
    have hf111 := (hfr9 21 (by decide)).trans hf111
    obtain ⟨v3373, hf3372⟩ : ∃ z : Int32, F 14 = z := ⟨_, rfl⟩
    have hq_v3373 := tk_rng v3373
    rw [hf3372] at hpo3366 hpo3367 hpo3369 hpo3370
    have hr_v3373 : 0 ≤ v3373.toInt ∧ v3373.toInt ≤ 400 := hIF.at hf3372
    obtain ⟨v3375, hf3374⟩ : ∃ z : Int32, F 15 = z := ⟨_, rfl⟩
    have hq_v3375 := tk_rng v3375
    rw [hf3374] at hpo3367 hpo3368 hpo3369 hpo3370
    have hr_v3375 : 0 ≤ v3375.toInt ∧ v3375.toInt ≤ 400 := hIF.at hf3374
    obtain ⟨v3377, hf3376⟩ : ∃ z : Int32, F 16 = z := ⟨_, rfl⟩
    have hq_v3377 := tk_rng v3377
    rw [hf3376] at hpo3369 hpo3370
    have hr_v3377 : 0 ≤ v3377.toInt ∧ v3377.toInt ≤ 3 := hIF.at hf3376
    obtain ⟨w3379, hf3378⟩ : ∃ z : Int64, G 17 = z := ⟨_, rfl⟩
    have hq_w3379 := tk_rngL w3379
    rw [hf3378] at hpo3370
    have hL22 := hL22.to (hrr9 61 (by decide))
    have h22_1 := (congrFun (hrr9 61 (by decide)) _).trans h22_1
    have h22_2 := (congrFun (hrr9 61 (by decide)) _).trans h22_2
    have h22_3 := (congrFun (hrr9 61 (by decide)) _).trans h22_3
    have h22_4 := (congrFun (hrr9 61 (by decide)) _).trans h22_4
    have h22_5 := (congrFun (hrr9 61 (by decide)) _).trans h22_5
    have h22_6 := (congrFun (hrr9 61 (by decide)) _).trans h22_6
    have h22_7 := (congrFun (hrr9 61 (by decide)) _).trans h22_7
    have h22_8 := (congrFun (hrr9 61 (by decide)) _).trans h22_8
    have h22_0 := (congrFun (hrr9 61 (by decide)) _).trans h22_0
    have h22_9 := (congrFun (hrr9 61 (by decide)) _).trans h22_9
    have hC9 := hC
    have hC : v105.toInt = 0 → CLS 10 [1, 3, 5, 7] (R 24) (R 25) (Ra 61) gc.toInt gn.toInt := fun h9 => (hC9 (by omega)).to (hrr9 24 (by decide)) (hrr9 25 (by decide))
    refine lv_aload_n hx hb dX13_readOrder_255 rfl (lv_at hl 1 rfl) ?_
    refine lv_iconst (v := 1) hx hb dX13_readOrder_256 (by decide) ?_
    have hk_1 : (1 : Int32).toInt = 1 := by decide
    refine mz_Vv (As := [.int 1]) (rest := []) ⟨hx, hb, hml, hown, hts⟩ hK hM hS (k_X13_readExpression l D cy ld ad am hD _ _ _ _ 1 v3373 v3375 v3377 gp w3379 v105 gc hIF hIG hIR hf3372 hf3374 hf3376 hg_3 hf3378 hf104 hg_6 (by omega) (by omega) (by omega) (by omega) (by omega) (by omega) (by omega) (by omega)) ⟨callB_of 1 hts (wl_in mw_717) rfl rfl rfl (htl _ mw_5) (htl _ mw_714) hd_yX13_readExpression ⟨(Nat.le_of_ble_eq_true rfl), (Nat.le_of_ble_eq_true rfl)⟩, htl _ mw_715, htl _ mw_716⟩ rfl hl.1 rfl (Nat.le_of_ble_eq_true rfl) dX13_readOrder_257 ⟨(Nat.le_of_ble_eq_true rfl), (Nat.le_of_ble_eq_true rfl)⟩ (fun H locs F G R S hpo hM hS => ?_)
    obtain ⟨hIF, hIG, hIR, hfr9, hrr9, hgr9, hpo3380, hpo3381, hpo3382, hpo3383, hpo3384, hpo3385, hpo3386, hx3387⟩ := hpo
    have hFF := mz_fr (K := [14, 15, 16, 18, 19, 21, 23, 26, 29, 30]) (Fa := Fa) hfr9 hFF (by decide)
    have hRR := mz_fr (K := [24, 25, 27, 28, 61]) (Fa := Ra) hrr9 hRR (by decide)
    have hGG := mz_fr (K := [17]) (Fa := Ga) hgr9 hGG (by decide)
    have hg_3 := (hfr9 13 (by decide)).trans hg_3
    have hf111 := (hfr9 21 (by decide)).trans hf111
    obtain ⟨v3390, hf3389⟩ : ∃ z : Int32, F 14 = z := ⟨_, rfl⟩
    have hq_v3390 := tk_rng v3390
    rw [hf3389] at hpo3380 hpo3382 hpo3383 hpo3384 hpo3385
    have hr_v3390 : 0 ≤ v3390.toInt ∧ v3390.toInt ≤ 400 := hIF.at hf3389
    obtain ⟨v3392, hf3391⟩ : ∃ z : Int32, F 15 = z := ⟨_, rfl⟩
    have hq_v3392 := tk_rng v3392
    rw [hf3391] at hpo3380 hpo3381 hpo3382 hpo3383
    have hr_v3392 : 0 ≤ v3392.toInt ∧ v3392.toInt ≤ 400 := hIF.at hf3391
    obtain ⟨v3394, hf3393⟩ : ∃ z : Int32, F 16 = z := ⟨_, rfl⟩
    have hq_v3394 := tk_rng v3394
    rw [hf3393] at hpo3382 hpo3383
    have hr_v3394 : 0 ≤ v3394.toInt ∧ v3394.toInt ≤ 3 := hIF.at hf3393
    obtain ⟨w3396, hf3395⟩ : ∃ z : Int64, G 17 = z := ⟨_, rfl⟩
    have hq_w3396 := tk_rngL w3396
    rw [hf3395] at hpo3383
    obtain ⟨v3398, hf3397⟩ : ∃ z : Int32, F 19 = z := ⟨_, rfl⟩
    have hq_v3398 := tk_rng v3398
    have hr_v3398 : 0 ≤ v3398.toInt ∧ v3398.toInt ≤ 1 := hIF.at hf3397
    obtain ⟨v3400, hf3399⟩ : ∃ z : Int32, F 23 = z := ⟨_, rfl⟩
    have hq_v3400 := tk_rng v3400
    rw [hf3399] at hpo3385 hpo3386
    have hr_v3400 : 0 ≤ v3400.toInt ∧ v3400.toInt ≤ 400 := hIF.at hf3399
    have hL22 := hL22.to (hrr9 61 (by decide))
    have h22_1 := (congrFun (hrr9 61 (by decide)) _).trans h22_1
    have h22_2 := (congrFun (hrr9 61 (by decide)) _).trans h22_2
    have h22_3 := (congrFun (hrr9 61 (by decide)) _).trans h22_3
    have h22_4 := (congrFun (hrr9 61 (by decide)) _).trans h22_4
    have h22_5 := (congrFun (hrr9 61 (by decide)) _).trans h22_5
    have h22_6 := (congrFun (hrr9 61 (by decide)) _).trans h22_6
    have h22_7 := (congrFun (hrr9 61 (by decide)) _).trans h22_7
    have h22_8 := (congrFun (hrr9 61 (by decide)) _).trans h22_8
    have h22_0 := (congrFun (hrr9 61 (by decide)) _).trans h22_0
    have h22_9 := (congrFun (hrr9 61 (by decide)) _).trans h22_9
    have hE9 : v3398.toInt = 0 → WFC (R 24) (R 25) gc.toInt.toNat v3400.toInt.toNat ∧ low gc.toInt.toNat _ (R 24) ∧ low gc.toInt.toNat _ (R 25) := fun h9 => by have h8 := hx3387 (by rw [hf3397]; exact h9); rw [hf3399] at h8; exact h8
    have hC9 := hC (by omega)
    have hC : v3398.toInt = 0 → CLS 10 [1, 3, 5, 7] (R 24) (R 25) (Ra 61) gc.toInt gn.toInt := fun h9 => hC9.low (N := gc.toInt.toNat) (by omega) (hE9 h9).2.1 (hE9 h9).2.2
    have hX3401 : v3398.toInt = 0 → WFX (R 24) (R 25) gc v3400 := fun h9 => ⟨by omega, by omega, by omega, (hE9 h9).1⟩
    refine lv_aload_n hx hb dX13_readOrder_260 rfl (lv_at hl 1 rfl) ?_
    refine mz_getR hx hb htl hown hK hM 61 (Nat.le_of_ble_eq_true rfl) (Nat.le_of_ble_eq_true rfl) (htl _ mw_239) (fun _ h9 => h9) dX13_readOrder_261 ?_
    refine lv_iload_n hx hb dX13_readOrder_264 rfl (lv_at hl 0 rfl) ?_
    refine lv_bipush (v := 8) hx hb dX13_readOrder_265 (by decide) ?_
    refine lv_iadd hx hb dX13_readOrder_267 ?_
    refine tk_add rfl (show (8 : Int32).toInt = 8 by decide) (by omega) (by omega) (fun v3402 h_v3402 => ?_)
    refine lv_aload_n hx hb dX13_readOrder_268 rfl (lv_at hl 1 rfl) ?_
    refine mz_getI hx hb htl hown hK hM 23 (Nat.le_of_ble_eq_true rfl) rfl (htl _ mw_670) (fun _ h9 => h9) dX13_readOrder_269 (fun v9 e9 => ?_)
    refine fx_ti (v := v3400) (e9.symm.trans hf3399) ?_
    refine mz_iast (x := v3400) hx hb hK hD hM hS 61 (Nat.le_of_ble_eq_true rfl) rfl (nn := 120) rfl rfl (by omega) (by omega) dX13_readOrder_272 (fun H locs R hM hS hw9 hj9 => ?_)
    have hIR := hIR.put hw9 hj9 trivial
    have hL22 : low (10 * gn.toInt.toNat) (Ra 61) (R 61) := fun j hj => by rw [hw9, pk_un (fun h9 => by have h8 := tk_nat (i := v3402) rfl (by omega); omega)]; exact hL22 j hj
    have h22_1 : R 61 (10 * gn.toInt.toNat + 1) = 0 := by rw [hw9, pk_un (fun h9 => by have h8 := tk_nat (i := v3402) rfl (by omega); omega)]; exact h22_1
    have h22_2 : R 61 (10 * gn.toInt.toNat + 2) = 0 := by rw [hw9, pk_un (fun h9 => by have h8 := tk_nat (i := v3402) rfl (by omega); omega)]; exact h22_2
    have h22_3 : R 61 (10 * gn.toInt.toNat + 3) = 0 := by rw [hw9, pk_un (fun h9 => by have h8 := tk_nat (i := v3402) rfl (by omega); omega)]; exact h22_3
    have h22_4 : R 61 (10 * gn.toInt.toNat + 4) = 0 := by rw [hw9, pk_un (fun h9 => by have h8 := tk_nat (i := v3402) rfl (by omega); omega)]; exact h22_4
    have h22_5 : R 61 (10 * gn.toInt.toNat + 5) = 0 := by rw [hw9, pk_un (fun h9 => by have h8 := tk_nat (i := v3402) rfl (by omega); omega)]; exact h22_5
    have h22_6 : R 61 (10 * gn.toInt.toNat + 6) = 0 := by rw [hw9, pk_un (fun h9 => by have h8 := tk_nat (i := v3402) rfl (by omega); omega)]; exact h22_6
    have h22_7 : R 61 (10 * gn.toInt.toNat + 7) = gc := by rw [hw9, pk_un (fun h9 => by have h8 := tk_nat (i := v3402) rfl (by omega); omega)]; exact h22_7
    have h22_0 : R 61 (10 * gn.toInt.toNat + 0) = v38 := by rw [hw9, pk_un (fun h9 => by have h8 := tk_nat (i := v3402) rfl (by omega); omega)]; exact h22_0
    have h22_9 : R 61 (10 * gn.toInt.toNat + 9) = 1 := by rw [hw9, pk_un (fun h9 => by have h8 := tk_nat (i := v3402) rfl (by omega); omega)]; exact h22_9
    have hC9 := hC
    have hC : v3398.toInt = 0 → CLS 10 [1, 3, 5, 7] (R 24) (R 25) (Ra 61) gc.toInt gn.toInt := fun h9 => (hC9 (by omega)).to (hj9 24 (by decide)) (hj9 25 (by decide))
    have hX34019 := hX3401
    have hX3401 : v3398.toInt = 0 → WFX (R 24) (R 25) gc v3400 := fun h9 => by rw [hj9 24 (by decide), hj9 25 (by decide)]; exact hX34019 (by omega)
    have h22_8 : R 61 (10 * gn.toInt.toNat + 8) = v3400 := by rw [hw9, show 10 * gn.toInt.toNat + 8 = (v3402 : Int32).toNatClampNeg by show _ = v3402.toInt.toNat; omega]; exact pk_us
    have hRR := mz_frp (K := [24, 25, 27, 28, 61]) (Fa := Ra) hj9 hRR (by decide)
    have hk_0 : (0 : Int32).toInt = 0 := by decide
    have hk_0 : (0 : Int32).toInt = 0 := by decide
    have hk_0 : (0 : Int32).toInt = 0 := by decide
    have hk_0 : (0 : Int32).toInt = 0 := by decide
    have hk_0 : (0 : Int32).toInt = 0 := by decide
    have hk_0 : (0 : Int32).toInt = 0 := by decide
    have hk_1 : (1 : Int32).toInt = 1 := by decide
    exact mz_vret hx hb hr hlocks ⟨hIF, hIG, hIR, hFF, hRR, hGG, (by rw [hf3389, hf3391]; omega), (by rw [hf3391]; omega), (by rw [hf3389, hf3391, hf3393]; omega), (by rw [hf3389, hf3391, hf3393, hf3395]; omega), (by rw [hf3389]; omega), (by rw [hf3399]; omega), (by rw [hf3389, hf3399]; omega), (by rw [hf3397]; omega), (by rw [hf3389, hf3397]; omega), (by rw [hf3397, hf3399, hf111]; exact fun h9 => mz_snoc (N := gn.toInt.toNat) (hC h9) (by omega) (by omega) hL22 (by decide) (by omega) (by intro d hd; simp only [List.mem_cons, List.not_mem_nil, or_false] at hd; rcases hd with rfl | rfl | rfl | rfl <;> first | (rw [show 10 * gn.toInt.toNat + 1 + 1 = 10 * gn.toInt.toNat + 2 from rfl, h22_1, h22_2]; exact ⟨WFX.nil (by omega) (by omega), by omega⟩) | (rw [show 10 * gn.toInt.toNat + 3 + 1 = 10 * gn.toInt.toNat + 4 from rfl, h22_3, h22_4]; exact ⟨WFX.nil (by omega) (by omega), by omega⟩) | (rw [show 10 * gn.toInt.toNat + 5 + 1 = 10 * gn.toInt.toNat + 6 from rfl, h22_5, h22_6]; exact ⟨WFX.nil (by omega) (by omega), by omega⟩) | (rw [show 10 * gn.toInt.toNat + 7 + 1 = 10 * gn.toInt.toNat + 8 from rfl, h22_7, h22_8]; exact ⟨hX3401 h9, by omega⟩))), (by rw [hf3397, hf111]; exact fun h9 => TMS.snoc (N := gn.toInt.toNat) hx_1 (by omega) (by omega) hL22 h22_9 (by omega) (by omega))⟩ hM hS dX13_readOrder_273
set_option maxHeartbeats 4000000 in
set_option maxRecDepth 100000 in
theorem kz_X13_readOrder_c3 (l : Launch) (D : va_G) (cy : Nat → ClassId) (ld ad : Nat → Nat) (am : Nat) (hD : mz_D ad am) (Fa : Nat → Int32) (Ga : Nat → Int64) (Ra : Nat → Nat → Int32) (Sa : Nat → Nat → Int64) (gf : Int32) (gt : Int32) (gs : Int32) (gp : Int32) (gw : Int64) (gb : Int32) (gc : Int32) (gn : Int32) {p : Program} {e : Env} {s : State} {m : MethodId} {args : Array Value} {below : List Frame} {meth : Method} {c : Code} (hx : p.tables.exec = Jvm.exec) (hb : c.code = cX13_readOrder) (hr : meth.sig.returnType = none) (hml : c.maxLocals = 4) (hts : ∀ w ∈ wl yX13_readOrder cX13_readOrder 4 none, w.before args s = true) (htl : ∀ w ∈ wsA, w.before args s = true) (hown : s.vm.findClass RX13 = some m.cls) (hlocks : meth.locks = false) (hK : kk_K D cy ld s) (hp_0 : 0 ≤ (-1) * gf.toInt + gt.toInt) (hp_1 : 0 ≤ gp.toInt + (-1) * gt.toInt) (hp_2 : (1 ≤ gs.toInt → 0 ≤ (-1) * gf.toInt + gt.toInt + (-1))) (hp_3 : (27 ≤ gw.toInt → 1 ≤ gs.toInt → gs.toInt ≤ 1 → 0 ≤ (-1) * gf.toInt + gt.toInt + (-2))) (hp_4 : 0 ≤ (-1) * gc.toInt + gf.toInt) (hp_5 : gb.toInt ≤ 0) (hx_0 : CLS 10 [1, 3, 5, 7] (Ra 24) (Ra 25) (Ra 61) gc.toInt gn.toInt) (hx_1 : TMS (Ra 61) gn.toInt) (v108 : Int32) (v109 : Int32) (v3422 : Int32) (v3432 : Int32) (v3434 : Int32) (v3436 : Int32) (v3440 : Int32) (v38 : Int32) (w3438 : Int64) (H : Heap) (locs : List Loc) (F : Nat → Int32) (G : Nat → Int64) (R : Nat → Nat → Int32) (S : Nat → Nat → Int64) (hq0_kz_X13_readOrder_c3 : v109.toInt ≤ 12) (hq1_kz_X13_readOrder_c3 : v3434.toInt ≤ 400) (hq2_kz_X13_readOrder_c3 : 0 ≤ v3436.toInt) (hq3_kz_X13_readOrder_c3 : v3436.toInt ≤ 3) (hq4_kz_X13_readOrder_c3 : 0 ≤ v3440.toInt) (hq5_kz_X13_readOrder_c3 : 2 ≤ v38.toInt) (hq6_kz_X13_readOrder_c3 : v38.toInt ≤ 3) (hq7_kz_X13_readOrder_c3 : 0 ≤ gt.toInt + (-1) * v38.toInt + 1) (hq8_kz_X13_readOrder_c3 : 0 ≤ (-1) * gf.toInt + gt.toInt + (-1)) (hq9_kz_X13_readOrder_c3 : (-10) * gn.toInt + v108.toInt = 0) (hq10_kz_X13_readOrder_c3 : (-1) * gn.toInt + v109.toInt + (-1) = 0) (hq11_kz_X13_readOrder_c3 : 0 ≤ (-1) * v3432.toInt + v3434.toInt) (hq12_kz_X13_readOrder_c3 : 0 ≤ gp.toInt + (-1) * v3434.toInt) (hq13_kz_X13_readOrder_c3 : 0 ≤ gb.toInt + (-1) * v3440.toInt + 1) (hq14_kz_X13_readOrder_c3 : 0 ≤ gc.toInt + (-1) * v3440.toInt + 1) (hq15_kz_X13_readOrder_c3 : 0 ≤ gs.toInt + (-1) * v3440.toInt) (hq16_kz_X13_readOrder_c3 : 0 ≤ (-1) * gs.toInt + v108.toInt + 1) (hq17_kz_X13_readOrder_c3 : 0 ≤ (-1) * gt.toInt + v3432.toInt + (-2)) (hq18_kz_X13_readOrder_c3 : 0 ≤ (-1) * gs.toInt + v3436.toInt + 1) (hq19_kz_X13_readOrder_c3 : 0 ≤ (-1) * gs.toInt + v3440.toInt + 1) (hq20_kz_X13_readOrder_c3 : 0 ≤ (-1) * gs.toInt + v38.toInt + (-1)) (hM : mz_S D cy ad am F G R S H) (hS : va_S (mz_W ad am) s.heap H locs) (hIF : mz_IF false F) (hIG : mz_IG G) (hIR : mz_IR [] true R) (hFF : ∀ k : Nat, k ∉ ([14, 15, 16, 18, 19, 21, 23, 26, 29, 30] : List Nat) → F k = Fa k) (hGG : ∀ k : Nat, k ∉ ([17] : List Nat) → G k = Ga k) (hRR : ∀ k : Nat, k ∉ ([24, 25, 27, 28, 61] : List Nat) → R k = Ra k) (hg_3 : F 13 = gp) (hg_6 : F 23 = gc) (hf111 : F 21 = v109) (hf3431 : F 14 = v3432) (hf3433 : F 15 = v3434) (hf3435 : F 16 = v3436) (hf3437 : G 17 = w3438) (hf3439 : F 19 = v3440) (hc0_kz_X13_readOrder_c3 : (27 ≤ gw.toInt → 1 ≤ gs.toInt → gs.toInt ≤ 1 → 0 ≤ (-1) * gf.toInt + gt.toInt + (-2))) (hc1_kz_X13_readOrder_c3 : (27 ≤ gw.toInt → 1 ≤ gs.toInt → gs.toInt ≤ 1 → 0 ≤ (-1) * gf.toInt + gt.toInt + (-2))) (hc2_kz_X13_readOrder_c3 : (1 ≤ v3436.toInt → 0 ≤ (-1) * v3432.toInt + v3434.toInt + (-1))) (hc3_kz_X13_readOrder_c3 : (27 ≤ w3438.toInt → 1 ≤ v3436.toInt → v3436.toInt ≤ 1 → 0 ≤ (-1) * v3432.toInt + v3434.toInt + (-2))) (hc4_kz_X13_readOrder_c3 : (v3440.toInt ≤ 0 → 1 ≤ v3422.toInt ∧ v3422.toInt ≤ 20)) (hL22 : low (10 * gn.toInt.toNat) (Ra 61) (R 61)) (hC : v3440.toInt = 0 → CLS 10 [1, 3, 5, 7] (R 24) (R 25) (Ra 61) gc.toInt gn.toInt) (h22_1 : R 61 (10 * gn.toInt.toNat + 1) = 0) (h22_2 : R 61 (10 * gn.toInt.toNat + 2) = 0) (h22_3 : R 61 (10 * gn.toInt.toNat + 3) = 0) (h22_4 : R 61 (10 * gn.toInt.toNat + 4) = 0) (h22_5 : R 61 (10 * gn.toInt.toNat + 5) = 0) (h22_6 : R 61 (10 * gn.toInt.toNat + 6) = 0) (h22_7 : R 61 (10 * gn.toInt.toNat + 7) = 0) (h22_8 : R 61 (10 * gn.toInt.toNat + 8) = 0) (h22_0 : R 61 (10 * gn.toInt.toNat + 0) = v38) (h22_9 : R 61 (10 * gn.toInt.toNat + 9) = v3422) (ls : Array Slot) (hl : lv_has ls 4 [(2, .int v108), (0, .ref am)]) : W p l e ({ frames := 12, cells := 0, slots := 0, locals := 770 }) s m args below meth c H locs 0 0 (MQ below (mz_w D cy ad am (fun F G R S => mz_IF false F ∧ mz_IG G ∧ mz_IR [] true R ∧ (∀ k : Nat, k ∉ ([14, 15, 16, 18, 19, 21, 23, 26, 29, 30] : List Nat) → F k = Fa k) ∧ (∀ k : Nat, k ∉ ([24, 25, 27, 28, 61] : List Nat) → R k = Ra k) ∧ (∀ k : Nat, k ∉ ([17] : List Nat) → G k = Ga k) ∧ 0 ≤ (-1) * (F 14).toInt + (F 15).toInt ∧ 0 ≤ gp.toInt + (-1) * (F 15).toInt ∧ (1 ≤ (F 16).toInt → 0 ≤ (-1) * (F 14).toInt + (F 15).toInt + (-1)) ∧ (27 ≤ (G 17).toInt → 1 ≤ (F 16).toInt → (F 16).toInt ≤ 1 → 0 ≤ (-1) * (F 14).toInt + (F 15).toInt + (-2)) ∧ 0 ≤ (-1) * gf.toInt + (F 14).toInt ∧ 0 ≤ (-1) * gc.toInt + (F 23).toInt ∧ 0 ≤ (-1) * (F 23).toInt + (F 14).toInt ∧ 0 ≤ (-1) * gb.toInt + (F 19).toInt ∧ ((F 19).toInt ≤ 0 → 0 ≤ (-1) * gf.toInt + (F 14).toInt + (-1)) ∧ ((F 19).toInt = 0 → CLS 10 [1, 3, 5, 7] (R 24) (R 25) (R 61) (F 23).toInt (F 21).toInt) ∧ ((F 19).toInt = 0 → TMS (R 61) (F 21).toInt))) args s 0 0 (mz_W ad am)) (F0 m 221 ls []) := by
  have hq_gb := tk_rng gb
  have hq_gc := tk_rng gc
  have hq_gf := tk_rng gf
  have hq_gn := tk_rng gn
  have hq_gp := tk_rng gp
  have hq_gs := tk_rng gs
  have hq_gt := tk_rng gt
  have hq_gw := tk_rngL gw
  have hq_v108 := tk_rng v108
  have hq_v109 := tk_rng v109
  have hq_v3422 := tk_rng v3422
  have hq_v3432 := tk_rng v3432
  have hq_v3434 := tk_rng v3434
  have hq_v3436 := tk_rng v3436
  have hq_v3440 := tk_rng v3440
  have hq_v38 := tk_rng v38
  have hq_w3438 := tk_rngL w3438
  have hr_gp : 0 ≤ gp.toInt ∧ gp.toInt ≤ 400 := hIF.at hg_3
  have hr_gc : 0 ≤ gc.toInt ∧ gc.toInt ≤ 400 := hIF.at hg_6
  have hr_v109 : 0 ≤ v109.toInt ∧ v109.toInt ≤ 12 := hIF.at hf111
  have hr_v3432 : 0 ≤ v3432.toInt ∧ v3432.toInt ≤ 400 := hIF.at hf3431
  have hr_v3434 : 0 ≤ v3434.toInt ∧ v3434.toInt ≤ 400 := hIF.at hf3433
  have hr_v3436 : 0 ≤ v3436.toInt ∧ v3436.toInt ≤ 3 := hIF.at hf3435
  have hr_v3440 : 0 ≤ v3440.toInt ∧ v3440.toInt ≤ 1 := hIF.at hf3439
  refine lv_aload_n hx hb dX13_readOrder_221 rfl (lv_at hl 1 rfl) ?_
  refine mz_getR hx hb htl hown hK hM 61 (Nat.le_of_ble_eq_true rfl) (Nat.le_of_ble_eq_true rfl) (htl _ mw_239) (fun _ h9 => h9) dX13_readOrder_222 ?_
  refine lv_iload_n hx hb dX13_readOrder_225 rfl (lv_at hl 0 rfl) ?_
  refine lv_bipush (v := 7) hx hb dX13_readOrder_226 (by decide) ?_
  refine lv_iadd hx hb dX13_readOrder_228 ?_
  refine tk_add rfl (show (7 : Int32).toInt = 7 by decide) (by omega) (by omega) (fun v3443 h_v3443 => ?_)
  refine lv_aload_n hx hb dX13_readOrder_229 rfl (lv_at hl 1 rfl) ?_
  refine mz_getI hx hb htl hown hK hM 23 (Nat.le_of_ble_eq_true rfl) rfl (htl _ mw_670) (fun _ h9 => h9) dX13_readOrder_230 (fun v9 e9 => ?_)
  refine fx_ti (v := gc) (e9.symm.trans hg_6) ?_
  refine mz_iast (x := gc) hx hb hK hD hM hS 61 (Nat.le_of_ble_eq_true rfl) rfl (nn := 120) rfl rfl (by omega) (by omega) dX13_readOrder_233 (fun H locs R hM hS hw9 hj9 => ?_)
  have hIR := hIR.put hw9 hj9 trivial
  have hL22 : low (10 * gn.toInt.toNat) (Ra 61) (R 61) := fun j hj => by rw [hw9, pk_un (fun h9 => by have h8 := tk_nat (i := v3443) rfl (by omega); omega)]; exact hL22 j hj
  have h22_1 : R 61 (10 * gn.toInt.toNat + 1) = 0 := by rw [hw9, pk_un (fun h9 => by have h8 := tk_nat (i := v3443) rfl (by omega); omega)]; exact h22_1
  have h22_2 : R 61 (10 * gn.toInt.toNat + 2) = 0 := by rw [hw9, pk_un (fun h9 => by have h8 := tk_nat (i := v3443) rfl (by omega); omega)]; exact h22_2
  have h22_3 : R 61 (10 * gn.toInt.toNat + 3) = 0 := by rw [hw9, pk_un (fun h9 => by have h8 := tk_nat (i := v3443) rfl (by omega); omega)]; exact h22_3
  have h22_4 : R 61 (10 * gn.toInt.toNat + 4) = 0 := by rw [hw9, pk_un (fun h9 => by have h8 := tk_nat (i := v3443) rfl (by omega); omega)]; exact h22_4
  have h22_5 : R 61 (10 * gn.toInt.toNat + 5) = 0 := by rw [hw9, pk_un (fun h9 => by have h8 := tk_nat (i := v3443) rfl (by omega); omega)]; exact h22_5
  have h22_6 : R 61 (10 * gn.toInt.toNat + 6) = 0 := by rw [hw9, pk_un (fun h9 => by have h8 := tk_nat (i := v3443) rfl (by omega); omega)]; exact h22_6
  have h22_8 : R 61 (10 * gn.toInt.toNat + 8) = 0 := by rw [hw9, pk_un (fun h9 => by have h8 := tk_nat (i := v3443) rfl (by omega); omega)]; exact h22_8
  have h22_0 : R 61 (10 * gn.toInt.toNat + 0) = v38 := by rw [hw9, pk_un (fun h9 => by have h8 := tk_nat (i := v3443) rfl (by omega); omega)]; exact h22_0
  have h22_9 : R 61 (10 * gn.toInt.toNat + 9) = v3422 := by rw [hw9, pk_un (fun h9 => by have h8 := tk_nat (i := v3443) rfl (by omega); omega)]; exact h22_9
  have hC9 := hC
  have hC : v3440.toInt = 0 → CLS 10 [1, 3, 5, 7] (R 24) (R 25) (Ra 61) gc.toInt gn.toInt := fun h9 => (hC9 (by omega)).to (hj9 24 (by decide)) (hj9 25 (by decide))
  have h22_7 : R 61 (10 * gn.toInt.toNat + 7) = gc := by rw [hw9, show 10 * gn.toInt.toNat + 7 = (v3443 : Int32).toNatClampNeg by show _ = v3443.toInt.toNat; omega]; exact pk_us
  have hRR := mz_frp (K := [24, 25, 27, 28, 61]) (Fa := Ra) hj9 hRR (by decide)
  refine lv_aload_n hx hb dX13_readOrder_234 rfl (lv_at hl 1 rfl) ?_
  refine mz_getI hx hb htl hown hK hM 19 (Nat.le_of_ble_eq_true rfl) rfl (htl _ mw_668) (fun _ h9 => h9) dX13_readOrder_235 (fun v9 e9 => ?_)
  refine fx_ti (v := v3440) (e9.symm.trans hf3439) ?_
  refine lv_if_ne (tgt := 260) hx hb dX13_readOrder_238 (by decide) (fun c9 => ?_) (fun c9 => ?_)
  · have hc3445 : ¬ (v3440.toInt = 0) := fun h9 => c9 ((fi_eq rfl (show (0 : Int32).toInt = 0 by decide)).mpr h9)
    refine lv_aload_n hx hb dX13_readOrder_260 rfl (lv_at hl 1 rfl) ?_
    refine mz_getR hx hb htl hown hK hM 61 (Nat.le_of_ble_eq_true rfl) (Nat.le_of_ble_eq_true rfl) (htl _ mw_239) (fun _ h9 => h9) dX13_readOrder_261 ?_
    refine lv_iload_n hx hb dX13_readOrder_264 rfl (lv_at hl 0 rfl) ?_
    refine lv_bipush (v := 8) hx hb dX13_readOrder_265 (by decide) ?_
    refine lv_iadd hx hb dX13_readOrder_267 ?_
    refine tk_add rfl (show (8 : Int32).toInt = 8 by decide) (by omega) (by omega) (fun v3446 h_v3446 => ?_)
    refine lv_aload_n hx hb dX13_readOrder_268 rfl (lv_at hl 1 rfl) ?_
    refine mz_getI hx hb htl hown hK hM 23 (Nat.le_of_ble_eq_true rfl) rfl (htl _ mw_670) (fun _ h9 => h9) dX13_readOrder_269 (fun v9 e9 => ?_)
    refine fx_ti (v := gc) (e9.symm.trans hg_6) ?_
    refine mz_iast (x := gc) hx hb hK hD hM hS 61 (Nat.le_of_ble_eq_true rfl) rfl (nn := 120) rfl rfl (by omega) (by omega) dX13_readOrder_272 (fun H locs R hM hS hw9 hj9 => ?_)
    have hIR := hIR.put hw9 hj9 trivial
    have hL22 : low (10 * gn.toInt.toNat) (Ra 61) (R 61) := fun j hj => by rw [hw9, pk_un (fun h9 => by have h8 := tk_nat (i := v3446) rfl (by omega); omega)]; exact hL22 j hj
    have h22_1 : R 61 (10 * gn.toInt.toNat + 1) = 0 := by rw [hw9, pk_un (fun h9 => by have h8 := tk_nat (i := v3446) rfl (by omega); omega)]; exact h22_1
    have h22_2 : R 61 (10 * gn.toInt.toNat + 2) = 0 := by rw [hw9, pk_un (fun h9 => by have h8 := tk_nat (i := v3446) rfl (by omega); omega)]; exact h22_2
    have h22_3 : R 61 (10 * gn.toInt.toNat + 3) = 0 := by rw [hw9, pk_un (fun h9 => by have h8 := tk_nat (i := v3446) rfl (by omega); omega)]; exact h22_3
    have h22_4 : R 61 (10 * gn.toInt.toNat + 4) = 0 := by rw [hw9, pk_un (fun h9 => by have h8 := tk_nat (i := v3446) rfl (by omega); omega)]; exact h22_4
    have h22_5 : R 61 (10 * gn.toInt.toNat + 5) = 0 := by rw [hw9, pk_un (fun h9 => by have h8 := tk_nat (i := v3446) rfl (by omega); omega)]; exact h22_5
    have h22_6 : R 61 (10 * gn.toInt.toNat + 6) = 0 := by rw [hw9, pk_un (fun h9 => by have h8 := tk_nat (i := v3446) rfl (by omega); omega)]; exact h22_6
    have h22_7 : R 61 (10 * gn.toInt.toNat + 7) = gc := by rw [hw9, pk_un (fun h9 => by have h8 := tk_nat (i := v3446) rfl (by omega); omega)]; exact h22_7
    have h22_0 : R 61 (10 * gn.toInt.toNat + 0) = v38 := by rw [hw9, pk_un (fun h9 => by have h8 := tk_nat (i := v3446) rfl (by omega); omega)]; exact h22_0
    have h22_9 : R 61 (10 * gn.toInt.toNat + 9) = v3422 := by rw [hw9, pk_un (fun h9 => by have h8 := tk_nat (i := v3446) rfl (by omega); omega)]; exact h22_9
    have hC9 := hC
    have hC : v3440.toInt = 0 → CLS 10 [1, 3, 5, 7] (R 24) (R 25) (Ra 61) gc.toInt gn.toInt := fun h9 => (hC9 (by omega)).to (hj9 24 (by decide)) (hj9 25 (by decide))
    have h22_8 : R 61 (10 * gn.toInt.toNat + 8) = gc := by rw [hw9, show 10 * gn.toInt.toNat + 8 = (v3446 : Int32).toNatClampNeg by show _ = v3446.toInt.toNat; omega]; exact pk_us
    have hRR := mz_frp (K := [24, 25, 27, 28, 61]) (Fa := Ra) hj9 hRR (by decide)
    exact mz_vret hx hb hr hlocks ⟨hIF, hIG, hIR, hFF, hRR, hGG, (by rw [hf3431, hf3433]; omega), (by rw [hf3433]; omega), (by rw [hf3431, hf3433, hf3435]; omega), (by rw [hf3431, hf3433, hf3435, hf3437]; omega), (by rw [hf3431]; omega), (by rw [hg_6]; omega), (by rw [hf3431, hg_6]; omega), (by rw [hf3439]; omega), (by rw [hf3431, hf3439]; omega), (by rw [hf3439]; exact fun h9 => absurd h9 (by omega)), (by rw [hf3439]; exact fun h9 => absurd h9 (by omega))⟩ hM hS dX13_readOrder_273
  · have hc3445 : v3440.toInt = 0 := (fi_eq rfl (show (0 : Int32).toInt = 0 by decide)).mp c9
    have hwk_3448 : 1 ≤ v3422.toInt ∧ v3422.toInt ≤ 20 := by omega
    refine lv_aload_n hx hb dX13_readOrder_241 rfl (lv_at hl 1 rfl) ?_
    refine lv_ldc2 hx hb hown (htl _ mw_705) dX13_readOrder_242 ?_
    have hk_294 : (294 : Int64).toInt = 294 := by decide
    refine mz_Vj (As := [.long 294]) (rest := []) ⟨hx, hb, hml, hown, hts⟩ hK hM hS (k_X13_isWord l D cy ld ad am hD _ _ _ _ 294 v3436 w3438 hIF hIG hIR hf3435 hf3437) ⟨callB_of 1 hts (wl_in mw_709) rfl rfl rfl (htl _ mw_5) (htl _ mw_706) hd_yX13_isWord ⟨(Nat.le_of_ble_eq_true rfl), (Nat.le_of_ble_eq_true rfl)⟩, htl _ mw_707, htl _ mw_708⟩ rfl hl.1 rfl (Nat.le_of_ble_eq_true rfl) dX13_readOrder_245 ⟨(Nat.le_of_ble_eq_true rfl), (Nat.le_of_ble_eq_true rfl)⟩ (fun v3449 H locs hpo hM hS => ?_)
    obtain ⟨hpo3450, hpo3451, hpo3452, hpo3453, hpo3454⟩ := hpo
    have hq_v3449 := tk_rng v3449
    refine lv_if_eq (tgt := 260) hx hb dX13_readOrder_248 (by decide) (fun c9 => ?_) (fun c9 => ?_)
    · have hc3456 : v3449.toInt = 0 := (fi_eq rfl (show (0 : Int32).toInt = 0 by decide)).mp c9
      refine lv_aload_n hx hb dX13_readOrder_260 rfl (lv_at hl 1 rfl) ?_
      refine mz_getR hx hb htl hown hK hM 61 (Nat.le_of_ble_eq_true rfl) (Nat.le_of_ble_eq_true rfl) (htl _ mw_239) (fun _ h9 => h9) dX13_readOrder_261 ?_
      refine lv_iload_n hx hb dX13_readOrder_264 rfl (lv_at hl 0 rfl) ?_
      refine lv_bipush (v := 8) hx hb dX13_readOrder_265 (by decide) ?_
      refine lv_iadd hx hb dX13_readOrder_267 ?_
      refine tk_add rfl (show (8 : Int32).toInt = 8 by decide) (by omega) (by omega) (fun v3457 h_v3457 => ?_)
      refine lv_aload_n hx hb dX13_readOrder_268 rfl (lv_at hl 1 rfl) ?_
      refine mz_getI hx hb htl hown hK hM 23 (Nat.le_of_ble_eq_true rfl) rfl (htl _ mw_670) (fun _ h9 => h9) dX13_readOrder_269 (fun v9 e9 => ?_)
      refine fx_ti (v := gc) (e9.symm.trans hg_6) ?_
      refine mz_iast (x := gc) hx hb hK hD hM hS 61 (Nat.le_of_ble_eq_true rfl) rfl (nn := 120) rfl rfl (by omega) (by omega) dX13_readOrder_272 (fun H locs R hM hS hw9 hj9 => ?_)
      have hIR := hIR.put hw9 hj9 trivial
      have hL22 : low (10 * gn.toInt.toNat) (Ra 61) (R 61) := fun j hj => by rw [hw9, pk_un (fun h9 => by have h8 := tk_nat (i := v3457) rfl (by omega); omega)]; exact hL22 j hj
      have h22_1 : R 61 (10 * gn.toInt.toNat + 1) = 0 := by rw [hw9, pk_un (fun h9 => by have h8 := tk_nat (i := v3457) rfl (by omega); omega)]; exact h22_1
      have h22_2 : R 61 (10 * gn.toInt.toNat + 2) = 0 := by rw [hw9, pk_un (fun h9 => by have h8 := tk_nat (i := v3457) rfl (by omega); omega)]; exact h22_2
      have h22_3 : R 61 (10 * gn.toInt.toNat + 3) = 0 := by rw [hw9, pk_un (fun h9 => by have h8 := tk_nat (i := v3457) rfl (by omega); omega)]; exact h22_3
      have h22_4 : R 61 (10 * gn.toInt.toNat + 4) = 0 := by rw [hw9, pk_un (fun h9 => by have h8 := tk_nat (i := v3457) rfl (by omega); omega)]; exact h22_4
      have h22_5 : R 61 (10 * gn.toInt.toNat + 5) = 0 := by rw [hw9, pk_un (fun h9 => by have h8 := tk_nat (i := v3457) rfl (by omega); omega)]; exact h22_5
      have h22_6 : R 61 (10 * gn.toInt.toNat + 6) = 0 := by rw [hw9, pk_un (fun h9 => by have h8 := tk_nat (i := v3457) rfl (by omega); omega)]; exact h22_6
      have h22_7 : R 61 (10 * gn.toInt.toNat + 7) = gc := by rw [hw9, pk_un (fun h9 => by have h8 := tk_nat (i := v3457) rfl (by omega); omega)]; exact h22_7
      have h22_0 : R 61 (10 * gn.toInt.toNat + 0) = v38 := by rw [hw9, pk_un (fun h9 => by have h8 := tk_nat (i := v3457) rfl (by omega); omega)]; exact h22_0
      have h22_9 : R 61 (10 * gn.toInt.toNat + 9) = v3422 := by rw [hw9, pk_un (fun h9 => by have h8 := tk_nat (i := v3457) rfl (by omega); omega)]; exact h22_9
      have hC9 := hC
      have hC : v3440.toInt = 0 → CLS 10 [1, 3, 5, 7] (R 24) (R 25) (Ra 61) gc.toInt gn.toInt := fun h9 => (hC9 (by omega)).to (hj9 24 (by decide)) (hj9 25 (by decide))
      have h22_8 : R 61 (10 * gn.toInt.toNat + 8) = gc := by rw [hw9, show 10 * gn.toInt.toNat + 8 = (v3457 : Int32).toNatClampNeg by show _ = v3457.toInt.toNat; omega]; exact pk_us
      have hRR := mz_frp (K := [24, 25, 27, 28, 61]) (Fa := Ra) hj9 hRR (by decide)
      have hk_0 : (0 : Int32).toInt = 0 := by decide
      have hk_0 : (0 : Int32).toInt = 0 := by decide
      have hk_0 : (0 : Int32).toInt = 0 := by decide
      have hk_0 : (0 : Int32).toInt = 0 := by decide
      have hk_0 : (0 : Int32).toInt = 0 := by decide
      have hk_0 : (0 : Int32).toInt = 0 := by decide
      exact mz_vret hx hb hr hlocks ⟨hIF, hIG, hIR, hFF, hRR, hGG, (by rw [hf3431, hf3433]; omega), (by rw [hf3433]; omega), (by rw [hf3431, hf3433, hf3435]; omega), (by rw [hf3431, hf3433, hf3435, hf3437]; omega), (by rw [hf3431]; omega), (by rw [hg_6]; omega), (by rw [hf3431, hg_6]; omega), (by rw [hf3439]; omega), (by rw [hf3431, hf3439]; omega), (by rw [hf3439, hg_6, hf111]; exact fun h9 => mz_snoc (N := gn.toInt.toNat) (hC h9) (by omega) (by omega) hL22 (by decide) (by omega) (by intro d hd; simp only [List.mem_cons, List.not_mem_nil, or_false] at hd; rcases hd with rfl | rfl | rfl | rfl <;> first | (rw [show 10 * gn.toInt.toNat + 1 + 1 = 10 * gn.toInt.toNat + 2 from rfl, h22_1, h22_2]; exact ⟨WFX.nil (by omega) (by omega), by omega⟩) | (rw [show 10 * gn.toInt.toNat + 3 + 1 = 10 * gn.toInt.toNat + 4 from rfl, h22_3, h22_4]; exact ⟨WFX.nil (by omega) (by omega), by omega⟩) | (rw [show 10 * gn.toInt.toNat + 5 + 1 = 10 * gn.toInt.toNat + 6 from rfl, h22_5, h22_6]; exact ⟨WFX.nil (by omega) (by omega), by omega⟩) | (rw [show 10 * gn.toInt.toNat + 7 + 1 = 10 * gn.toInt.toNat + 8 from rfl, h22_7, h22_8]; exact ⟨WFX.nil (by omega) (by omega), by omega⟩))), (by rw [hf3439, hf111]; exact fun h9 => TMS.snoc (N := gn.toInt.toNat) hx_1 (by omega) (by omega) hL22 h22_9 (by omega) (by omega))⟩ hM hS dX13_readOrder_273
    · have hc3456 : ¬ (v3449.toInt = 0) := fun h9 => c9 ((fi_eq rfl (show (0 : Int32).toInt = 0 by decide)).mpr h9)
      have hwk_3459 : w3438.toInt + (-294) = 0 ∧ v3436.toInt + (-1) = 0 := by omega
      have hwk_3460 : 0 ≤ (-1) * v3432.toInt + v3434.toInt + (-1) := by omega
      have hwk_3461 : 0 ≤ (-1) * v3432.toInt + v3434.toInt + (-2) := by omega
      refine lv_aload_n hx hb dX13_readOrder_251 rfl (lv_at hl 1 rfl) ?_
      refine mz_Vv (As := []) (rest := []) ⟨hx, hb, hml, hown, hts⟩ hK hM hS (k_X13_next l D cy ld ad am hD _ _ _ _ v3434 gp hIF hIG hIR hf3433 hg_3 (by omega)) ⟨callB_of 0 hts (wl_in mw_685) rfl rfl rfl (htl _ mw_5) (htl _ mw_682) hd_yX13_next ⟨(Nat.le_of_ble_eq_true rfl), (Nat.le_of_ble_eq_true rfl)⟩, htl _ mw_683, htl _ mw_684⟩ rfl hl.1 rfl (Nat.le_of_ble_eq_true rfl) dX13_readOrder_252 ⟨(Nat.le_of_ble_eq_true rfl), (Nat.le_of_ble_eq_true rfl)⟩ (fun H locs F G R S hpo hM hS => ?_)
      obtain ⟨hIF, hIG, hIR, hfr9, hrr9, hgr9, hpo3462, hpo3463, hpo3464, hpo3465, hpo3466⟩ := hpo
      have hFF := mz_fr (K := [14, 15, 16, 18, 19, 21, 23, 26, 29, 30]) (Fa := Fa) hfr9 hFF (by decide)
      have hRR := mz_fr (K := [24, 25, 27, 28, 61]) (Fa := Ra) hrr9 hRR (by decide)
      have hGG := mz_fr (K := [17]) (Fa := Ga) hgr9 hGG (by decide)
      have hg_3 := (hfr9 13 (by decide)).trans hg_3
      have hg_6 := (hfr9 23 (by decide)).trans hg_6
      have hf111 := (hfr9 21 (by decide)).trans hf111
      have hf3439 := (hfr9 19 (by decide)).trans hf3439
      obtain ⟨v3469, hf3468⟩ : ∃ z : Int32, F 14 = z := ⟨_, rfl⟩
      have hq_v3469 := tk_rng v3469
      rw [hf3468] at hpo3462 hpo3463 hpo3465 hpo3466
      have hr_v3469 : 0 ≤ v3469.toInt ∧ v3469.toInt ≤ 400 := hIF.at hf3468
      obtain ⟨v3471, hf3470⟩ : ∃ z : Int32, F 15 = z := ⟨_, rfl⟩
      have hq_v3471 := tk_rng v3471
      rw [hf3470] at hpo3463 hpo3464 hpo3465 hpo3466
      have hr_v3471 : 0 ≤ v3471.toInt ∧ v3471.toInt ≤ 400 := hIF.at hf3470
      obtain ⟨v3473, hf3472⟩ : ∃ z : Int32, F 16 = z := ⟨_, rfl⟩
      have hq_v3473 := tk_rng v3473
      rw [hf3472] at hpo3465 hpo3466
      have hr_v3473 : 0 ≤ v3473.toInt ∧ v3473.toInt ≤ 3 := hIF.at hf3472
      obtain ⟨w3475, hf3474⟩ : ∃ z : Int64, G 17 = z := ⟨_, rfl⟩
      have hq_w3475 := tk_rngL w3475
      rw [hf3474] at hpo3466
      have hL22 := hL22.to (hrr9 61 (by decide))
      have h22_1 := (congrFun (hrr9 61 (by decide)) _).trans h22_1
      have h22_2 := (congrFun (hrr9 61 (by decide)) _).trans h22_2
      have h22_3 := (congrFun (hrr9 61 (by decide)) _).trans h22_3
      have h22_4 := (congrFun (hrr9 61 (by decide)) _).trans h22_4
      have h22_5 := (congrFun (hrr9 61 (by decide)) _).trans h22_5
      have h22_6 := (congrFun (hrr9 61 (by decide)) _).trans h22_6
      have h22_7 := (congrFun (hrr9 61 (by decide)) _).trans h22_7
      have h22_8 := (congrFun (hrr9 61 (by decide)) _).trans h22_8
      have h22_0 := (congrFun (hrr9 61 (by decide)) _).trans h22_0
      have h22_9 := (congrFun (hrr9 61 (by decide)) _).trans h22_9
      have hC9 := hC
      have hC : v3440.toInt = 0 → CLS 10 [1, 3, 5, 7] (R 24) (R 25) (Ra 61) gc.toInt gn.toInt := fun h9 => (hC9 (by omega)).to (hrr9 24 (by decide)) (hrr9 25 (by decide))
      refine lv_aload_n hx hb dX13_readOrder_255 rfl (lv_at hl 1 rfl) ?_
      refine lv_iconst (v := 1) hx hb dX13_readOrder_256 (by decide) ?_
      have hk_1 : (1 : Int32).toInt = 1 := by decide
      refine mz_Vv (As := [.int 1]) (rest := []) ⟨hx, hb, hml, hown, hts⟩ hK hM hS (k_X13_readExpression l D cy ld ad am hD _ _ _ _ 1 v3469 v3471 v3473 gp w3475 v3440 gc hIF hIG hIR hf3468 hf3470 hf3472 hg_3 hf3474 hf3439 hg_6 (by omega) (by omega) (by omega) (by omega) (by omega) (by omega) (by omega) (by omega)) ⟨callB_of 1 hts (wl_in mw_717) rfl rfl rfl (htl _ mw_5) (htl _ mw_714) hd_yX13_readExpression ⟨(Nat.le_of_ble_eq_true rfl), (Nat.le_of_ble_eq_true rfl)⟩, htl _ mw_715, htl _ mw_716⟩ rfl hl.1 rfl (Nat.le_of_ble_eq_true rfl) dX13_readOrder_257 ⟨(Nat.le_of_ble_eq_true rfl), (Nat.le_of_ble_eq_true rfl)⟩ (fun H locs F G R S hpo hM hS => ?_)
      obtain ⟨hIF, hIG, hIR, hfr9, hrr9, hgr9, hpo3476, hpo3477, hpo3478, hpo3479, hpo3480, hpo3481, hpo3482, hx3483⟩ := hpo
      have hFF := mz_fr (K := [14, 15, 16, 18, 19, 21, 23, 26, 29, 30]) (Fa := Fa) hfr9 hFF (by decide)
      have hRR := mz_fr (K := [24, 25, 27, 28, 61]) (Fa := Ra) hrr9 hRR (by decide)
      have hGG := mz_fr (K := [17]) (Fa := Ga) hgr9 hGG (by decide)
      have hg_3 := (hfr9 13 (by decide)).trans hg_3
      have hf111 := (hfr9 21 (by decide)).trans hf111
      obtain ⟨v3486, hf3485⟩ : ∃ z : Int32, F 14 = z := ⟨_, rfl⟩
      have hq_v3486 := tk_rng v3486
      rw [hf3485] at hpo3476 hpo3478 hpo3479 hpo3480 hpo3481
      have hr_v3486 : 0 ≤ v3486.toInt ∧ v3486.toInt ≤ 400 := hIF.at hf3485
      obtain ⟨v3488, hf3487⟩ : ∃ z : Int32, F 15 = z := ⟨_, rfl⟩
      have hq_v3488 := tk_rng v3488
      rw [hf3487] at hpo3476 hpo3477 hpo3478 hpo3479
      have hr_v3488 : 0 ≤ v3488.toInt ∧ v3488.toInt ≤ 400 := hIF.at hf3487
      obtain ⟨v3490, hf3489⟩ : ∃ z : Int32, F 16 = z := ⟨_, rfl⟩
      have hq_v3490 := tk_rng v3490
      rw [hf3489] at hpo3478 hpo3479
      have hr_v3490 : 0 ≤ v3490.toInt ∧ v3490.toInt ≤ 3 := hIF.at hf3489
      obtain ⟨w3492, hf3491⟩ : ∃ z : Int64, G 17 = z := ⟨_, rfl⟩
      have hq_w3492 := tk_rngL w3492
      rw [hf3491] at hpo3479
      obtain ⟨v3494, hf3493⟩ : ∃ z : Int32, F 19 = z := ⟨_, rfl⟩
      have hq_v3494 := tk_rng v3494
      have hr_v3494 : 0 ≤ v3494.toInt ∧ v3494.toInt ≤ 1 := hIF.at hf3493
      obtain ⟨v3496, hf3495⟩ : ∃ z : Int32, F 23 = z := ⟨_, rfl⟩
      have hq_v3496 := tk_rng v3496
      rw [hf3495] at hpo3481 hpo3482
      have hr_v3496 : 0 ≤ v3496.toInt ∧ v3496.toInt ≤ 400 := hIF.at hf3495
      have hL22 := hL22.to (hrr9 61 (by decide))
      have h22_1 := (congrFun (hrr9 61 (by decide)) _).trans h22_1
      have h22_2 := (congrFun (hrr9 61 (by decide)) _).trans h22_2
      have h22_3 := (congrFun (hrr9 61 (by decide)) _).trans h22_3
      have h22_4 := (congrFun (hrr9 61 (by decide)) _).trans h22_4
      have h22_5 := (congrFun (hrr9 61 (by decide)) _).trans h22_5
      have h22_6 := (congrFun (hrr9 61 (by decide)) _).trans h22_6
      have h22_7 := (congrFun (hrr9 61 (by decide)) _).trans h22_7
      have h22_8 := (congrFun (hrr9 61 (by decide)) _).trans h22_8
      have h22_0 := (congrFun (hrr9 61 (by decide)) _).trans h22_0
      have h22_9 := (congrFun (hrr9 61 (by decide)) _).trans h22_9
      have hE9 : v3494.toInt = 0 → WFC (R 24) (R 25) gc.toInt.toNat v3496.toInt.toNat ∧ low gc.toInt.toNat _ (R 24) ∧ low gc.toInt.toNat _ (R 25) := fun h9 => by have h8 := hx3483 (by rw [hf3493]; exact h9); rw [hf3495] at h8; exact h8
      have hC9 := hC (by omega)
      have hC : v3494.toInt = 0 → CLS 10 [1, 3, 5, 7] (R 24) (R 25) (Ra 61) gc.toInt gn.toInt := fun h9 => hC9.low (N := gc.toInt.toNat) (by omega) (hE9 h9).2.1 (hE9 h9).2.2
      have hX3497 : v3494.toInt = 0 → WFX (R 24) (R 25) gc v3496 := fun h9 => ⟨by omega, by omega, by omega, (hE9 h9).1⟩
      refine lv_aload_n hx hb dX13_readOrder_260 rfl (lv_at hl 1 rfl) ?_
      refine mz_getR hx hb htl hown hK hM 61 (Nat.le_of_ble_eq_true rfl) (Nat.le_of_ble_eq_true rfl) (htl _ mw_239) (fun _ h9 => h9) dX13_readOrder_261 ?_
      refine lv_iload_n hx hb dX13_readOrder_264 rfl (lv_at hl 0 rfl) ?_
      refine lv_bipush (v := 8) hx hb dX13_readOrder_265 (by decide) ?_
      refine lv_iadd hx hb dX13_readOrder_267 ?_
      refine tk_add rfl (show (8 : Int32).toInt = 8 by decide) (by omega) (by omega) (fun v3498 h_v3498 => ?_)
      refine lv_aload_n hx hb dX13_readOrder_268 rfl (lv_at hl 1 rfl) ?_
      refine mz_getI hx hb htl hown hK hM 23 (Nat.le_of_ble_eq_true rfl) rfl (htl _ mw_670) (fun _ h9 => h9) dX13_readOrder_269 (fun v9 e9 => ?_)
      refine fx_ti (v := v3496) (e9.symm.trans hf3495) ?_
      refine mz_iast (x := v3496) hx hb hK hD hM hS 61 (Nat.le_of_ble_eq_true rfl) rfl (nn := 120) rfl rfl (by omega) (by omega) dX13_readOrder_272 (fun H locs R hM hS hw9 hj9 => ?_)
      have hIR := hIR.put hw9 hj9 trivial
      have hL22 : low (10 * gn.toInt.toNat) (Ra 61) (R 61) := fun j hj => by rw [hw9, pk_un (fun h9 => by have h8 := tk_nat (i := v3498) rfl (by omega); omega)]; exact hL22 j hj
      have h22_1 : R 61 (10 * gn.toInt.toNat + 1) = 0 := by rw [hw9, pk_un (fun h9 => by have h8 := tk_nat (i := v3498) rfl (by omega); omega)]; exact h22_1
      have h22_2 : R 61 (10 * gn.toInt.toNat + 2) = 0 := by rw [hw9, pk_un (fun h9 => by have h8 := tk_nat (i := v3498) rfl (by omega); omega)]; exact h22_2
      have h22_3 : R 61 (10 * gn.toInt.toNat + 3) = 0 := by rw [hw9, pk_un (fun h9 => by have h8 := tk_nat (i := v3498) rfl (by omega); omega)]; exact h22_3
      have h22_4 : R 61 (10 * gn.toInt.toNat + 4) = 0 := by rw [hw9, pk_un (fun h9 => by have h8 := tk_nat (i := v3498) rfl (by omega); omega)]; exact h22_4
      have h22_5 : R 61 (10 * gn.toInt.toNat + 5) = 0 := by rw [hw9, pk_un (fun h9 => by have h8 := tk_nat (i := v3498) rfl (by omega); omega)]; exact h22_5
      have h22_6 : R 61 (10 * gn.toInt.toNat + 6) = 0 := by rw [hw9, pk_un (fun h9 => by have h8 := tk_nat (i := v3498) rfl (by omega); omega)]; exact h22_6
      have h22_7 : R 61 (10 * gn.toInt.toNat + 7) = gc := by rw [hw9, pk_un (fun h9 => by have h8 := tk_nat (i := v3498) rfl (by omega); omega)]; exact h22_7
      have h22_0 : R 61 (10 * gn.toInt.toNat + 0) = v38 := by rw [hw9, pk_un (fun h9 => by have h8 := tk_nat (i := v3498) rfl (by omega); omega)]; exact h22_0
      have h22_9 : R 61 (10 * gn.toInt.toNat + 9) = v3422 := by rw [hw9, pk_un (fun h9 => by have h8 := tk_nat (i := v3498) rfl (by omega); omega)]; exact h22_9
      have hC9 := hC
      have hC : v3494.toInt = 0 → CLS 10 [1, 3, 5, 7] (R 24) (R 25) (Ra 61) gc.toInt gn.toInt := fun h9 => (hC9 (by omega)).to (hj9 24 (by decide)) (hj9 25 (by decide))
      have hX34979 := hX3497
      have hX3497 : v3494.toInt = 0 → WFX (R 24) (R 25) gc v3496 := fun h9 => by rw [hj9 24 (by decide), hj9 25 (by decide)]; exact hX34979 (by omega)
      have h22_8 : R 61 (10 * gn.toInt.toNat + 8) = v3496 := by rw [hw9, show 10 * gn.toInt.toNat + 8 = (v3498 : Int32).toNatClampNeg by show _ = v3498.toInt.toNat; omega]; exact pk_us
      have hRR := mz_frp (K := [24, 25, 27, 28, 61]) (Fa := Ra) hj9 hRR (by decide)
      have hk_0 : (0 : Int32).toInt = 0 := by decide
      have hk_0 : (0 : Int32).toInt = 0 := by decide
      have hk_0 : (0 : Int32).toInt = 0 := by decide
      have hk_0 : (0 : Int32).toInt = 0 := by decide
      have hk_0 : (0 : Int32).toInt = 0 := by decide
      have hk_0 : (0 : Int32).toInt = 0 := by decide
      exact mz_vret hx hb hr hlocks ⟨hIF, hIG, hIR, hFF, hRR, hGG, (by rw [hf3485, hf3487]; omega), (by rw [hf3487]; omega), (by rw [hf3485, hf3487, hf3489]; omega), (by rw [hf3485, hf3487, hf3489, hf3491]; omega), (by rw [hf3485]; omega), (by rw [hf3495]; omega), (by rw [hf3485, hf3495]; omega), (by rw [hf3493]; omega), (by rw [hf3485, hf3493]; omega), (by rw [hf3493, hf3495, hf111]; exact fun h9 => mz_snoc (N := gn.toInt.toNat) (hC h9) (by omega) (by omega) hL22 (by decide) (by omega) (by intro d hd; simp only [List.mem_cons, List.not_mem_nil, or_false] at hd; rcases hd with rfl | rfl | rfl | rfl <;> first | (rw [show 10 * gn.toInt.toNat + 1 + 1 = 10 * gn.toInt.toNat + 2 from rfl, h22_1, h22_2]; exact ⟨WFX.nil (by omega) (by omega), by omega⟩) | (rw [show 10 * gn.toInt.toNat + 3 + 1 = 10 * gn.toInt.toNat + 4 from rfl, h22_3, h22_4]; exact ⟨WFX.nil (by omega) (by omega), by omega⟩) | (rw [show 10 * gn.toInt.toNat + 5 + 1 = 10 * gn.toInt.toNat + 6 from rfl, h22_5, h22_6]; exact ⟨WFX.nil (by omega) (by omega), by omega⟩) | (rw [show 10 * gn.toInt.toNat + 7 + 1 = 10 * gn.toInt.toNat + 8 from rfl, h22_7, h22_8]; exact ⟨hX3497 h9, by omega⟩))), (by rw [hf3493, hf111]; exact fun h9 => TMS.snoc (N := gn.toInt.toNat) hx_1 (by omega) (by omega) hL22 h22_9 (by omega) (by omega))⟩ hM hS dX13_readOrder_273
set_option maxHeartbeats 4000000 in
set_option maxRecDepth 100000 in
theorem kz_X13_readOrder_c1 (l : Launch) (D : va_G) (cy : Nat → ClassId) (ld ad : Nat → Nat) (am : Nat) (hD : mz_D ad am) (Fa : Nat → Int32) (Ga : Nat → Int64) (Ra : Nat → Nat → Int32) (Sa : Nat → Nat → Int64) (gf : Int32) (gt : Int32) (gs : Int32) (gp : Int32) (gw : Int64) (gb : Int32) (gc : Int32) (gn : Int32) {p : Program} {e : Env} {s : State} {m : MethodId} {args : Array Value} {below : List Frame} {meth : Method} {c : Code} (hx : p.tables.exec = Jvm.exec) (hb : c.code = cX13_readOrder) (hr : meth.sig.returnType = none) (hml : c.maxLocals = 4) (hts : ∀ w ∈ wl yX13_readOrder cX13_readOrder 4 none, w.before args s = true) (htl : ∀ w ∈ wsA, w.before args s = true) (hown : s.vm.findClass RX13 = some m.cls) (hlocks : meth.locks = false) (hK : kk_K D cy ld s) (hp_0 : 0 ≤ (-1) * gf.toInt + gt.toInt) (hp_1 : 0 ≤ gp.toInt + (-1) * gt.toInt) (hp_2 : (1 ≤ gs.toInt → 0 ≤ (-1) * gf.toInt + gt.toInt + (-1))) (hp_3 : (27 ≤ gw.toInt → 1 ≤ gs.toInt → gs.toInt ≤ 1 → 0 ≤ (-1) * gf.toInt + gt.toInt + (-2))) (hp_4 : 0 ≤ (-1) * gc.toInt + gf.toInt) (hp_5 : gb.toInt ≤ 0) (hx_0 : CLS 10 [1, 3, 5, 7] (Ra 24) (Ra 25) (Ra 61) gc.toInt gn.toInt) (hx_1 : TMS (Ra 61) gn.toInt) (v101 : Int32) (v105 : Int32) (v108 : Int32) (v109 : Int32) (v38 : Int32) (v97 : Int32) (v99 : Int32) (w103 : Int64) (H : Heap) (locs : List Loc) (F : Nat → Int32) (G : Nat → Int64) (R : Nat → Nat → Int32) (S : Nat → Nat → Int64) (hq0_kz_X13_readOrder_c1 : v101.toInt ≤ 3) (hq1_kz_X13_readOrder_c1 : 0 ≤ v105.toInt) (hq2_kz_X13_readOrder_c1 : 1 ≤ v109.toInt) (hq3_kz_X13_readOrder_c1 : v109.toInt ≤ 12) (hq4_kz_X13_readOrder_c1 : 2 ≤ v38.toInt) (hq5_kz_X13_readOrder_c1 : v38.toInt ≤ 3) (hq6_kz_X13_readOrder_c1 : v99.toInt ≤ 400) (hq7_kz_X13_readOrder_c1 : 0 ≤ gt.toInt + (-1) * v38.toInt + 1) (hq8_kz_X13_readOrder_c1 : 0 ≤ (-1) * gf.toInt + gt.toInt + (-1)) (hq9_kz_X13_readOrder_c1 : 0 ≤ (-1) * v97.toInt + v99.toInt) (hq10_kz_X13_readOrder_c1 : 0 ≤ gp.toInt + (-1) * v99.toInt) (hq11_kz_X13_readOrder_c1 : 0 ≤ (-1) * gt.toInt + v97.toInt) (hq12_kz_X13_readOrder_c1 : (-10) * gn.toInt + v108.toInt = 0) (hq13_kz_X13_readOrder_c1 : (-1) * gn.toInt + v109.toInt + (-1) = 0) (hq14_kz_X13_readOrder_c1 : 0 ≤ gb.toInt + (-1) * v105.toInt) (hq15_kz_X13_readOrder_c1 : 0 ≤ gc.toInt + (-1) * v105.toInt) (hq16_kz_X13_readOrder_c1 : 0 ≤ gs.toInt + (-1) * v105.toInt + (-1)) (hq17_kz_X13_readOrder_c1 : 0 ≤ (-1) * gs.toInt + v101.toInt + 1) (hq18_kz_X13_readOrder_c1 : 0 ≤ (-1) * gs.toInt + v105.toInt + 1) (hM : mz_S D cy ad am F G R S H) (hS : va_S (mz_W ad am) s.heap H locs) (hIF : mz_IF false F) (hIG : mz_IG G) (hIR : mz_IR [] true R) (hFF : ∀ k : Nat, k ∉ ([14, 15, 16, 18, 19, 21, 23, 26, 29, 30] : List Nat) → F k = Fa k) (hGG : ∀ k : Nat, k ∉ ([17] : List Nat) → G k = Ga k) (hRR : ∀ k : Nat, k ∉ ([24, 25, 27, 28, 61] : List Nat) → R k = Ra k) (hg_3 : F 13 = gp) (hg_6 : F 23 = gc) (hf96 : F 14 = v97) (hf98 : F 15 = v99) (hf100 : F 16 = v101) (hf102 : G 17 = w103) (hf104 : F 19 = v105) (hf111 : F 21 = v109) (hc0_kz_X13_readOrder_c1 : (27 ≤ gw.toInt → 1 ≤ gs.toInt → gs.toInt ≤ 1 → 0 ≤ (-1) * gf.toInt + gt.toInt + (-2))) (hc1_kz_X13_readOrder_c1 : (1 ≤ v101.toInt → 0 ≤ (-1) * v97.toInt + v99.toInt + (-1))) (hc2_kz_X13_readOrder_c1 : (27 ≤ w103.toInt → 1 ≤ v101.toInt → v101.toInt ≤ 1 → 0 ≤ (-1) * v97.toInt + v99.toInt + (-2))) (hL22 : low (10 * gn.toInt.toNat) (Ra 61) (R 61)) (hC : v105.toInt = 0 → CLS 10 [1, 3, 5, 7] (R 24) (R 25) (Ra 61) gc.toInt gn.toInt) (h22_1 : R 61 (10 * gn.toInt.toNat + 1) = 0) (h22_2 : R 61 (10 * gn.toInt.toNat + 2) = 0) (h22_3 : R 61 (10 * gn.toInt.toNat + 3) = 0) (h22_4 : R 61 (10 * gn.toInt.toNat + 4) = 0) (h22_5 : R 61 (10 * gn.toInt.toNat + 5) = 0) (h22_6 : R 61 (10 * gn.toInt.toNat + 6) = 0) (h22_7 : R 61 (10 * gn.toInt.toNat + 7) = 0) (h22_8 : R 61 (10 * gn.toInt.toNat + 8) = 0) (h22_0 : R 61 (10 * gn.toInt.toNat + 0) = v38) (ls : Array Slot) (hl : lv_has ls 4 [(2, .int v108), (0, .ref am)]) : W p l e ({ frames := 12, cells := 0, slots := 0, locals := 770 }) s m args below meth c H locs 0 0 (MQ below (mz_w D cy ad am (fun F G R S => mz_IF false F ∧ mz_IG G ∧ mz_IR [] true R ∧ (∀ k : Nat, k ∉ ([14, 15, 16, 18, 19, 21, 23, 26, 29, 30] : List Nat) → F k = Fa k) ∧ (∀ k : Nat, k ∉ ([24, 25, 27, 28, 61] : List Nat) → R k = Ra k) ∧ (∀ k : Nat, k ∉ ([17] : List Nat) → G k = Ga k) ∧ 0 ≤ (-1) * (F 14).toInt + (F 15).toInt ∧ 0 ≤ gp.toInt + (-1) * (F 15).toInt ∧ (1 ≤ (F 16).toInt → 0 ≤ (-1) * (F 14).toInt + (F 15).toInt + (-1)) ∧ (27 ≤ (G 17).toInt → 1 ≤ (F 16).toInt → (F 16).toInt ≤ 1 → 0 ≤ (-1) * (F 14).toInt + (F 15).toInt + (-2)) ∧ 0 ≤ (-1) * gf.toInt + (F 14).toInt ∧ 0 ≤ (-1) * gc.toInt + (F 23).toInt ∧ 0 ≤ (-1) * (F 23).toInt + (F 14).toInt ∧ 0 ≤ (-1) * gb.toInt + (F 19).toInt ∧ ((F 19).toInt ≤ 0 → 0 ≤ (-1) * gf.toInt + (F 14).toInt + (-1)) ∧ ((F 19).toInt = 0 → CLS 10 [1, 3, 5, 7] (R 24) (R 25) (R 61) (F 23).toInt (F 21).toInt) ∧ ((F 19).toInt = 0 → TMS (R 61) (F 21).toInt))) args s 0 0 (mz_W ad am)) (F0 m 173 ls []) := by
  have hq_gb := tk_rng gb
  have hq_gc := tk_rng gc
  have hq_gf := tk_rng gf
  have hq_gn := tk_rng gn
  have hq_gp := tk_rng gp
  have hq_gs := tk_rng gs
  have hq_gt := tk_rng gt
  have hq_gw := tk_rngL gw
  have hq_v101 := tk_rng v101
  have hq_v105 := tk_rng v105
  have hq_v108 := tk_rng v108
  have hq_v109 := tk_rng v109
  have hq_v38 := tk_rng v38
  have hq_v97 := tk_rng v97
  have hq_v99 := tk_rng v99
  have hq_w103 := tk_rngL w103
  have hr_gp : 0 ≤ gp.toInt ∧ gp.toInt ≤ 400 := hIF.at hg_3
  have hr_gc : 0 ≤ gc.toInt ∧ gc.toInt ≤ 400 := hIF.at hg_6
  have hr_v97 : 0 ≤ v97.toInt ∧ v97.toInt ≤ 400 := hIF.at hf96
  have hr_v99 : 0 ≤ v99.toInt ∧ v99.toInt ≤ 400 := hIF.at hf98
  have hr_v101 : 0 ≤ v101.toInt ∧ v101.toInt ≤ 3 := hIF.at hf100
  have hr_v105 : 0 ≤ v105.toInt ∧ v105.toInt ≤ 1 := hIF.at hf104
  have hr_v109 : 0 ≤ v109.toInt ∧ v109.toInt ≤ 12 := hIF.at hf111
  refine lv_aload_n hx hb dX13_readOrder_173 rfl (lv_at hl 1 rfl) ?_
  refine mz_getR hx hb htl hown hK hM 61 (Nat.le_of_ble_eq_true rfl) (Nat.le_of_ble_eq_true rfl) (htl _ mw_239) (fun _ h9 => h9) dX13_readOrder_174 ?_
  refine lv_iload_n hx hb dX13_readOrder_177 rfl (lv_at hl 0 rfl) ?_
  refine lv_bipush (v := 9) hx hb dX13_readOrder_178 (by decide) ?_
  refine lv_iadd hx hb dX13_readOrder_180 ?_
  refine tk_add rfl (show (9 : Int32).toInt = 9 by decide) (by omega) (by omega) (fun v3340 h_v3340 => ?_)
  refine lv_iconst (v := 1) hx hb dX13_readOrder_181 (by decide) ?_
  have hk_1 : (1 : Int32).toInt = 1 := by decide
  refine mz_iast (x := 1) hx hb hK hD hM hS 61 (Nat.le_of_ble_eq_true rfl) rfl (nn := 120) rfl rfl (by omega) (by omega) dX13_readOrder_182 (fun H locs R hM hS hw9 hj9 => ?_)
  have hIR := hIR.put hw9 hj9 trivial
  have hL22 : low (10 * gn.toInt.toNat) (Ra 61) (R 61) := fun j hj => by rw [hw9, pk_un (fun h9 => by have h8 := tk_nat (i := v3340) rfl (by omega); omega)]; exact hL22 j hj
  have h22_1 : R 61 (10 * gn.toInt.toNat + 1) = 0 := by rw [hw9, pk_un (fun h9 => by have h8 := tk_nat (i := v3340) rfl (by omega); omega)]; exact h22_1
  have h22_2 : R 61 (10 * gn.toInt.toNat + 2) = 0 := by rw [hw9, pk_un (fun h9 => by have h8 := tk_nat (i := v3340) rfl (by omega); omega)]; exact h22_2
  have h22_3 : R 61 (10 * gn.toInt.toNat + 3) = 0 := by rw [hw9, pk_un (fun h9 => by have h8 := tk_nat (i := v3340) rfl (by omega); omega)]; exact h22_3
  have h22_4 : R 61 (10 * gn.toInt.toNat + 4) = 0 := by rw [hw9, pk_un (fun h9 => by have h8 := tk_nat (i := v3340) rfl (by omega); omega)]; exact h22_4
  have h22_5 : R 61 (10 * gn.toInt.toNat + 5) = 0 := by rw [hw9, pk_un (fun h9 => by have h8 := tk_nat (i := v3340) rfl (by omega); omega)]; exact h22_5
  have h22_6 : R 61 (10 * gn.toInt.toNat + 6) = 0 := by rw [hw9, pk_un (fun h9 => by have h8 := tk_nat (i := v3340) rfl (by omega); omega)]; exact h22_6
  have h22_7 : R 61 (10 * gn.toInt.toNat + 7) = 0 := by rw [hw9, pk_un (fun h9 => by have h8 := tk_nat (i := v3340) rfl (by omega); omega)]; exact h22_7
  have h22_8 : R 61 (10 * gn.toInt.toNat + 8) = 0 := by rw [hw9, pk_un (fun h9 => by have h8 := tk_nat (i := v3340) rfl (by omega); omega)]; exact h22_8
  have h22_0 : R 61 (10 * gn.toInt.toNat + 0) = v38 := by rw [hw9, pk_un (fun h9 => by have h8 := tk_nat (i := v3340) rfl (by omega); omega)]; exact h22_0
  have hC9 := hC
  have hC : v105.toInt = 0 → CLS 10 [1, 3, 5, 7] (R 24) (R 25) (Ra 61) gc.toInt gn.toInt := fun h9 => (hC9 (by omega)).to (hj9 24 (by decide)) (hj9 25 (by decide))
  have h22_9 : R 61 (10 * gn.toInt.toNat + 9) = 1 := by rw [hw9, show 10 * gn.toInt.toNat + 9 = (v3340 : Int32).toNatClampNeg by show _ = v3340.toInt.toNat; omega]; exact pk_us
  have hRR := mz_frp (K := [24, 25, 27, 28, 61]) (Fa := Ra) hj9 hRR (by decide)
  refine lv_aload_n hx hb dX13_readOrder_183 rfl (lv_at hl 1 rfl) ?_
  refine mz_getI hx hb htl hown hK hM 19 (Nat.le_of_ble_eq_true rfl) rfl (htl _ mw_668) (fun _ h9 => h9) dX13_readOrder_184 (fun v9 e9 => ?_)
  refine fx_ti (v := v105) (e9.symm.trans hf104) ?_
  refine lv_if_ne (tgt := 221) hx hb dX13_readOrder_187 (by decide) (fun c9 => absurd ((fi_eq rfl (show (0 : Int32).toInt = 0 by decide)).mpr (show v105.toInt = 0 by omega)) c9) (fun _ => ?_)
  refine lv_aload_n hx hb dX13_readOrder_190 rfl (lv_at hl 1 rfl) ?_
  refine lv_ldc2 hx hb hown (htl _ mw_1021) dX13_readOrder_191 ?_
  have hk_21279923 : (21279923 : Int64).toInt = 21279923 := by decide
  refine mz_Vj (As := [.long 21279923]) (rest := []) ⟨hx, hb, hml, hown, hts⟩ hK hM hS (k_X13_isWord l D cy ld ad am hD _ _ _ _ 21279923 v101 w103 hIF hIG hIR hf100 hf102) ⟨callB_of 1 hts (wl_in mw_709) rfl rfl rfl (htl _ mw_5) (htl _ mw_706) hd_yX13_isWord ⟨(Nat.le_of_ble_eq_true rfl), (Nat.le_of_ble_eq_true rfl)⟩, htl _ mw_707, htl _ mw_708⟩ rfl hl.1 rfl (Nat.le_of_ble_eq_true rfl) dX13_readOrder_194 ⟨(Nat.le_of_ble_eq_true rfl), (Nat.le_of_ble_eq_true rfl)⟩ (fun v3342 H locs hpo hM hS => ?_)
  obtain ⟨hpo3343, hpo3344, hpo3345, hpo3346, hpo3347⟩ := hpo
  have hq_v3342 := tk_rng v3342
  refine lv_if_eq (tgt := 221) hx hb dX13_readOrder_197 (by decide) (fun c9 => ?_) (fun c9 => ?_)
  · have hc3349 : v3342.toInt = 0 := (fi_eq rfl (show (0 : Int32).toInt = 0 by decide)).mp c9
    exact kz_X13_readOrder_c2 l D cy ld ad am hD Fa Ga Ra Sa gf gt gs gp gw gb gc gn hx hb hr hml hts htl hown hlocks hK hp_0 hp_1 hp_2 hp_3 hp_4 hp_5 hx_0 hx_1 v101 v105 v108 v109 v38 v97 v99 w103 _ _ _ _ _ _ (by omega) (by omega) (by omega) (by omega) (by omega) (by omega) (by omega) (by omega) (by omega) (by omega) (by omega) (by omega) (by omega) (by omega) (by omega) (by omega) (by omega) (by omega) (by omega) hM hS hIF hIG hIR hFF hGG hRR hg_3 hg_6 hf96 hf98 hf100 hf102 hf104 hf111 (by omega) (by omega) (by omega) (by omega) hL22 hC h22_1 h22_2 h22_3 h22_4 h22_5 h22_6 h22_7 h22_8 h22_0 h22_9 _ (lv_sub hl [0, 1] rfl)
  · have hc3349 : ¬ (v3342.toInt = 0) := fun h9 => c9 ((fi_eq rfl (show (0 : Int32).toInt = 0 by decide)).mpr h9)
    have hwk_3404 : w103.toInt + (-21279923) = 0 ∧ v101.toInt + (-1) = 0 := by omega
    have hwk_3405 : 0 ≤ (-1) * v97.toInt + v99.toInt + (-1) := by omega
    have hwk_3406 : 0 ≤ (-1) * v97.toInt + v99.toInt + (-2) := by omega
    refine lv_aload_n hx hb dX13_readOrder_200 rfl (lv_at hl 1 rfl) ?_
    refine mz_Vv (As := []) (rest := []) ⟨hx, hb, hml, hown, hts⟩ hK hM hS (k_X13_next l D cy ld ad am hD _ _ _ _ v99 gp hIF hIG hIR hf98 hg_3 (by omega)) ⟨callB_of 0 hts (wl_in mw_685) rfl rfl rfl (htl _ mw_5) (htl _ mw_682) hd_yX13_next ⟨(Nat.le_of_ble_eq_true rfl), (Nat.le_of_ble_eq_true rfl)⟩, htl _ mw_683, htl _ mw_684⟩ rfl hl.1 rfl (Nat.le_of_ble_eq_true rfl) dX13_readOrder_201 ⟨(Nat.le_of_ble_eq_true rfl), (Nat.le_of_ble_eq_true rfl)⟩ (fun H locs F G R S hpo hM hS => ?_)
    obtain ⟨hIF, hIG, hIR, hfr9, hrr9, hgr9, hpo3407, hpo3408, hpo3409, hpo3410, hpo3411⟩ := hpo
    have hFF := mz_fr (K := [14, 15, 16, 18, 19, 21, 23, 26, 29, 30]) (Fa := Fa) hfr9 hFF (by decide)
    have hRR := mz_fr (K := [24, 25, 27, 28, 61]) (Fa := Ra) hrr9 hRR (by decide)
    have hGG := mz_fr (K := [17]) (Fa := Ga) hgr9 hGG (by decide)
    have hg_3 := (hfr9 13 (by decide)).trans hg_3
    have hg_6 := (hfr9 23 (by decide)).trans hg_6
    have hf104 := (hfr9 19 (by decide)).trans hf104
    have hf111 := (hfr9 21 (by decide)).trans hf111
    obtain ⟨v3414, hf3413⟩ : ∃ z : Int32, F 14 = z := ⟨_, rfl⟩
    have hq_v3414 := tk_rng v3414
    rw [hf3413] at hpo3407 hpo3408 hpo3410 hpo3411
    have hr_v3414 : 0 ≤ v3414.toInt ∧ v3414.toInt ≤ 400 := hIF.at hf3413
    obtain ⟨v3416, hf3415⟩ : ∃ z : Int32, F 15 = z := ⟨_, rfl⟩
    have hq_v3416 := tk_rng v3416
    rw [hf3415] at hpo3408 hpo3409 hpo3410 hpo3411
    have hr_v3416 : 0 ≤ v3416.toInt ∧ v3416.toInt ≤ 400 := hIF.at hf3415
    obtain ⟨v3418, hf3417⟩ : ∃ z : Int32, F 16 = z := ⟨_, rfl⟩
    have hq_v3418 := tk_rng v3418
    rw [hf3417] at hpo3410 hpo3411
    have hr_v3418 : 0 ≤ v3418.toInt ∧ v3418.toInt ≤ 3 := hIF.at hf3417
    obtain ⟨w3420, hf3419⟩ : ∃ z : Int64, G 17 = z := ⟨_, rfl⟩
    have hq_w3420 := tk_rngL w3420
    rw [hf3419] at hpo3411
    have hL22 := hL22.to (hrr9 61 (by decide))
    have h22_1 := (congrFun (hrr9 61 (by decide)) _).trans h22_1
    have h22_2 := (congrFun (hrr9 61 (by decide)) _).trans h22_2
    have h22_3 := (congrFun (hrr9 61 (by decide)) _).trans h22_3
    have h22_4 := (congrFun (hrr9 61 (by decide)) _).trans h22_4
    have h22_5 := (congrFun (hrr9 61 (by decide)) _).trans h22_5
    have h22_6 := (congrFun (hrr9 61 (by decide)) _).trans h22_6
    have h22_7 := (congrFun (hrr9 61 (by decide)) _).trans h22_7
    have h22_8 := (congrFun (hrr9 61 (by decide)) _).trans h22_8
    have h22_0 := (congrFun (hrr9 61 (by decide)) _).trans h22_0
    have h22_9 := (congrFun (hrr9 61 (by decide)) _).trans h22_9
    have hC9 := hC
    have hC : v105.toInt = 0 → CLS 10 [1, 3, 5, 7] (R 24) (R 25) (Ra 61) gc.toInt gn.toInt := fun h9 => (hC9 (by omega)).to (hrr9 24 (by decide)) (hrr9 25 (by decide))
    refine lv_aload_n hx hb dX13_readOrder_204 rfl (lv_at hl 1 rfl) ?_
    refine mz_getR hx hb htl hown hK hM 61 (Nat.le_of_ble_eq_true rfl) (Nat.le_of_ble_eq_true rfl) (htl _ mw_239) (fun _ h9 => h9) dX13_readOrder_205 ?_
    refine lv_iload_n hx hb dX13_readOrder_208 rfl (lv_at hl 0 rfl) ?_
    refine lv_bipush (v := 9) hx hb dX13_readOrder_209 (by decide) ?_
    refine lv_iadd hx hb dX13_readOrder_211 ?_
    refine tk_add rfl (show (9 : Int32).toInt = 9 by decide) (by omega) (by omega) (fun v3421 h_v3421 => ?_)
    refine lv_aload_n hx hb dX13_readOrder_212 rfl (lv_at hl 1 rfl) ?_
    refine lv_lconst (v := 1) hx hb dX13_readOrder_213 (by decide) ?_
    refine lv_ldc2 hx hb hown (htl _ mw_782) dX13_readOrder_214 ?_
    have hk_1 : (1 : Int64).toInt = 1 := by decide
    have hk_20 : (20 : Int64).toInt = 20 := by decide
    refine mz_Vi (As := [.long 1, .long 20]) (rest := [.int v3421, .ref (ad 61)]) ⟨hx, hb, hml, hown, hts⟩ hK hM hS (k_X13_number l D cy ld ad am hD _ _ _ _ 1 20 v3414 v3416 v3418 gp w3420 v105 hIF hIG hIR hf3413 hf3415 hf3417 hg_3 hf3419 hf104 (by omega) (by omega) (by omega) (by omega) (by omega) (by omega) (by omega) (by omega)) ⟨callB_of 2 hts (wl_in mw_762) rfl rfl rfl (htl _ mw_5) (htl _ mw_759) hd_yX13_number ⟨(Nat.le_of_ble_eq_true rfl), (Nat.le_of_ble_eq_true rfl)⟩, htl _ mw_760, htl _ mw_761⟩ rfl hl.1 rfl (Nat.le_of_ble_eq_true rfl) dX13_readOrder_217 ⟨(Nat.le_of_ble_eq_true rfl), (Nat.le_of_ble_eq_true rfl)⟩ (fun v3422 H locs F G R S hpo hM hS => ?_)
    obtain ⟨hIF, hIG, hIR, hfr9, hrr9, hgr9, hpo3423, hpo3424, hpo3425, hpo3426, hpo3427, hpo3428, hpo3429⟩ := hpo
    have hq_v3422 := tk_rng v3422
    have hFF := mz_fr (K := [14, 15, 16, 18, 19, 21, 23, 26, 29, 30]) (Fa := Fa) hfr9 hFF (by decide)
    have hRR := mz_fr (K := [24, 25, 27, 28, 61]) (Fa := Ra) hrr9 hRR (by decide)
    have hGG := mz_fr (K := [17]) (Fa := Ga) hgr9 hGG (by decide)
    have hg_3 := (hfr9 13 (by decide)).trans hg_3
    have hg_6 := (hfr9 23 (by decide)).trans hg_6
    have hf111 := (hfr9 21 (by decide)).trans hf111
    obtain ⟨v3432, hf3431⟩ : ∃ z : Int32, F 14 = z := ⟨_, rfl⟩
    have hq_v3432 := tk_rng v3432
    rw [hf3431] at hpo3423 hpo3425 hpo3426 hpo3427 hpo3429
    have hr_v3432 : 0 ≤ v3432.toInt ∧ v3432.toInt ≤ 400 := hIF.at hf3431
    obtain ⟨v3434, hf3433⟩ : ∃ z : Int32, F 15 = z := ⟨_, rfl⟩
    have hq_v3434 := tk_rng v3434
    rw [hf3433] at hpo3423 hpo3424 hpo3425 hpo3426
    have hr_v3434 : 0 ≤ v3434.toInt ∧ v3434.toInt ≤ 400 := hIF.at hf3433
    obtain ⟨v3436, hf3435⟩ : ∃ z : Int32, F 16 = z := ⟨_, rfl⟩
    have hq_v3436 := tk_rng v3436
    rw [hf3435] at hpo3425 hpo3426
    have hr_v3436 : 0 ≤ v3436.toInt ∧ v3436.toInt ≤ 3 := hIF.at hf3435
    obtain ⟨w3438, hf3437⟩ : ∃ z : Int64, G 17 = z := ⟨_, rfl⟩
    have hq_w3438 := tk_rngL w3438
    rw [hf3437] at hpo3426
    obtain ⟨v3440, hf3439⟩ : ∃ z : Int32, F 19 = z := ⟨_, rfl⟩
    have hq_v3440 := tk_rng v3440
    rw [hf3439] at hpo3428 hpo3429
    have hr_v3440 : 0 ≤ v3440.toInt ∧ v3440.toInt ≤ 1 := hIF.at hf3439
    have hL22 := hL22.to (hrr9 61 (by decide))
    have h22_1 := (congrFun (hrr9 61 (by decide)) _).trans h22_1
    have h22_2 := (congrFun (hrr9 61 (by decide)) _).trans h22_2
    have h22_3 := (congrFun (hrr9 61 (by decide)) _).trans h22_3
    have h22_4 := (congrFun (hrr9 61 (by decide)) _).trans h22_4
    have h22_5 := (congrFun (hrr9 61 (by decide)) _).trans h22_5
    have h22_6 := (congrFun (hrr9 61 (by decide)) _).trans h22_6
    have h22_7 := (congrFun (hrr9 61 (by decide)) _).trans h22_7
    have h22_8 := (congrFun (hrr9 61 (by decide)) _).trans h22_8
    have h22_0 := (congrFun (hrr9 61 (by decide)) _).trans h22_0
    have h22_9 := (congrFun (hrr9 61 (by decide)) _).trans h22_9
    have hC9 := hC
    have hC : v3440.toInt = 0 → CLS 10 [1, 3, 5, 7] (R 24) (R 25) (Ra 61) gc.toInt gn.toInt := fun h9 => (hC9 (by omega)).to (hrr9 24 (by decide)) (hrr9 25 (by decide))
    refine mz_iast (x := v3422) hx hb hK hD hM hS 61 (Nat.le_of_ble_eq_true rfl) rfl (nn := 120) rfl rfl (by omega) (by omega) dX13_readOrder_220 (fun H locs R hM hS hw9 hj9 => ?_)
    have hIR := hIR.put hw9 hj9 trivial
    have hL22 : low (10 * gn.toInt.toNat) (Ra 61) (R 61) := fun j hj => by rw [hw9, pk_un (fun h9 => by have h8 := tk_nat (i := v3421) rfl (by omega); omega)]; exact hL22 j hj
    have h22_1 : R 61 (10 * gn.toInt.toNat + 1) = 0 := by rw [hw9, pk_un (fun h9 => by have h8 := tk_nat (i := v3421) rfl (by omega); omega)]; exact h22_1
    have h22_2 : R 61 (10 * gn.toInt.toNat + 2) = 0 := by rw [hw9, pk_un (fun h9 => by have h8 := tk_nat (i := v3421) rfl (by omega); omega)]; exact h22_2
    have h22_3 : R 61 (10 * gn.toInt.toNat + 3) = 0 := by rw [hw9, pk_un (fun h9 => by have h8 := tk_nat (i := v3421) rfl (by omega); omega)]; exact h22_3
    have h22_4 : R 61 (10 * gn.toInt.toNat + 4) = 0 := by rw [hw9, pk_un (fun h9 => by have h8 := tk_nat (i := v3421) rfl (by omega); omega)]; exact h22_4
    have h22_5 : R 61 (10 * gn.toInt.toNat + 5) = 0 := by rw [hw9, pk_un (fun h9 => by have h8 := tk_nat (i := v3421) rfl (by omega); omega)]; exact h22_5
    have h22_6 : R 61 (10 * gn.toInt.toNat + 6) = 0 := by rw [hw9, pk_un (fun h9 => by have h8 := tk_nat (i := v3421) rfl (by omega); omega)]; exact h22_6
    have h22_7 : R 61 (10 * gn.toInt.toNat + 7) = 0 := by rw [hw9, pk_un (fun h9 => by have h8 := tk_nat (i := v3421) rfl (by omega); omega)]; exact h22_7
    have h22_8 : R 61 (10 * gn.toInt.toNat + 8) = 0 := by rw [hw9, pk_un (fun h9 => by have h8 := tk_nat (i := v3421) rfl (by omega); omega)]; exact h22_8
    have h22_0 : R 61 (10 * gn.toInt.toNat + 0) = v38 := by rw [hw9, pk_un (fun h9 => by have h8 := tk_nat (i := v3421) rfl (by omega); omega)]; exact h22_0
    have hC9 := hC
    have hC : v3440.toInt = 0 → CLS 10 [1, 3, 5, 7] (R 24) (R 25) (Ra 61) gc.toInt gn.toInt := fun h9 => (hC9 (by omega)).to (hj9 24 (by decide)) (hj9 25 (by decide))
    have h22_9 : R 61 (10 * gn.toInt.toNat + 9) = v3422 := by rw [hw9, show 10 * gn.toInt.toNat + 9 = (v3421 : Int32).toNatClampNeg by show _ = v3421.toInt.toNat; omega]; exact pk_us
    have hRR := mz_frp (K := [24, 25, 27, 28, 61]) (Fa := Ra) hj9 hRR (by decide)
    exact kz_X13_readOrder_c3 l D cy ld ad am hD Fa Ga Ra Sa gf gt gs gp gw gb gc gn hx hb hr hml hts htl hown hlocks hK hp_0 hp_1 hp_2 hp_3 hp_4 hp_5 hx_0 hx_1 v108 v109 v3422 v3432 v3434 v3436 v3440 v38 w3438 _ _ _ _ _ _ (by omega) (by omega) (by omega) (by omega) (by omega) (by omega) (by omega) (by omega) (by omega) (by omega) (by omega) (by omega) (by omega) (by omega) (by omega) (by omega) (by omega) (by omega) (by omega) (by omega) (by omega) hM hS hIF hIG hIR hFF hGG hRR hg_3 hg_6 hf111 hf3431 hf3433 hf3435 hf3437 hf3439 (by omega) (by omega) (by omega) (by omega) (by omega) hL22 hC h22_1 h22_2 h22_3 h22_4 h22_5 h22_6 h22_7 h22_8 h22_0 h22_9 _ (lv_sub hl [0, 1] rfl)
set_option maxHeartbeats 4000000 in
set_option maxRecDepth 100000 in
theorem kz_X13_readOrder_c5 (l : Launch) (D : va_G) (cy : Nat → ClassId) (ld ad : Nat → Nat) (am : Nat) (hD : mz_D ad am) (Fa : Nat → Int32) (Ga : Nat → Int64) (Ra : Nat → Nat → Int32) (Sa : Nat → Nat → Int64) (gf : Int32) (gt : Int32) (gs : Int32) (gp : Int32) (gw : Int64) (gb : Int32) (gc : Int32) (gn : Int32) {p : Program} {e : Env} {s : State} {m : MethodId} {args : Array Value} {below : List Frame} {meth : Method} {c : Code} (hx : p.tables.exec = Jvm.exec) (hb : c.code = cX13_readOrder) (hr : meth.sig.returnType = none) (hml : c.maxLocals = 4) (hts : ∀ w ∈ wl yX13_readOrder cX13_readOrder 4 none, w.before args s = true) (htl : ∀ w ∈ wsA, w.before args s = true) (hown : s.vm.findClass RX13 = some m.cls) (hlocks : meth.locks = false) (hK : kk_K D cy ld s) (hp_0 : 0 ≤ (-1) * gf.toInt + gt.toInt) (hp_1 : 0 ≤ gp.toInt + (-1) * gt.toInt) (hp_2 : (1 ≤ gs.toInt → 0 ≤ (-1) * gf.toInt + gt.toInt + (-1))) (hp_3 : (27 ≤ gw.toInt → 1 ≤ gs.toInt → gs.toInt ≤ 1 → 0 ≤ (-1) * gf.toInt + gt.toInt + (-2))) (hp_4 : 0 ≤ (-1) * gc.toInt + gf.toInt) (hp_5 : gb.toInt ≤ 0) (hx_0 : CLS 10 [1, 3, 5, 7] (Ra 24) (Ra 25) (Ra 61) gc.toInt gn.toInt) (hx_1 : TMS (Ra 61) gn.toInt) (v108 : Int32) (v109 : Int32) (v3513 : Int32) (v3515 : Int32) (v3517 : Int32) (v3521 : Int32) (v3523 : Int32) (v38 : Int32) (w3519 : Int64) (H : Heap) (locs : List Loc) (F : Nat → Int32) (G : Nat → Int64) (R : Nat → Nat → Int32) (S : Nat → Nat → Int64) (hq0_kz_X13_readOrder_c5 : v109.toInt ≤ 12) (hq1_kz_X13_readOrder_c5 : v3515.toInt ≤ 400) (hq2_kz_X13_readOrder_c5 : v3517.toInt ≤ 3) (hq3_kz_X13_readOrder_c5 : 1 ≤ v38.toInt) (hq4_kz_X13_readOrder_c5 : 0 ≤ (-1) * gf.toInt + gt.toInt + (-1)) (hq5_kz_X13_readOrder_c5 : (-10) * gn.toInt + v108.toInt = 0) (hq6_kz_X13_readOrder_c5 : (-1) * gn.toInt + v109.toInt + (-1) = 0) (hq7_kz_X13_readOrder_c5 : 0 ≤ (-1) * v3513.toInt + v3515.toInt) (hq8_kz_X13_readOrder_c5 : 0 ≤ gp.toInt + (-1) * v3515.toInt) (hq9_kz_X13_readOrder_c5 : 0 ≤ (-1) * gc.toInt + v3523.toInt) (hq10_kz_X13_readOrder_c5 : 0 ≤ v3513.toInt + (-1) * v3523.toInt) (hq11_kz_X13_readOrder_c5 : 0 ≤ gb.toInt + (-1) * v38.toInt + 1) (hq12_kz_X13_readOrder_c5 : 0 ≤ gc.toInt + (-1) * v38.toInt + 1) (hq13_kz_X13_readOrder_c5 : 0 ≤ gs.toInt + (-1) * v3521.toInt) (hq14_kz_X13_readOrder_c5 : 0 ≤ (-1) * gt.toInt + v3513.toInt) (hq15_kz_X13_readOrder_c5 : 0 ≤ (-1) * gs.toInt + v38.toInt) (hq16_kz_X13_readOrder_c5 : 0 ≤ (-1) * gb.toInt + v109.toInt + (-1)) (hq17_kz_X13_readOrder_c5 : 0 ≤ (-1) * gb.toInt + v3517.toInt) (hq18_kz_X13_readOrder_c5 : 0 ≤ (-1) * gb.toInt + v3521.toInt + (-1)) (hM : mz_S D cy ad am F G R S H) (hS : va_S (mz_W ad am) s.heap H locs) (hIF : mz_IF false F) (hIG : mz_IG G) (hIR : mz_IR [] true R) (hFF : ∀ k : Nat, k ∉ ([14, 15, 16, 18, 19, 21, 23, 26, 29, 30] : List Nat) → F k = Fa k) (hGG : ∀ k : Nat, k ∉ ([17] : List Nat) → G k = Ga k) (hRR : ∀ k : Nat, k ∉ ([24, 25, 27, 28, 61] : List Nat) → R k = Ra k) (hg_3 : F 13 = gp) (hf111 : F 21 = v109) (hf3512 : F 14 = v3513) (hf3514 : F 15 = v3515) (hf3516 : F 16 = v3517) (hf3518 : G 17 = w3519) (hf3520 : F 19 = v3521) (hf3522 : F 23 = v3523) (hc0_kz_X13_readOrder_c5 : (27 ≤ gw.toInt → 1 ≤ gs.toInt → gs.toInt ≤ 1 → 0 ≤ (-1) * gf.toInt + gt.toInt + (-2))) (hc1_kz_X13_readOrder_c5 : (1 ≤ v3517.toInt → 0 ≤ (-1) * v3513.toInt + v3515.toInt + (-1))) (hc2_kz_X13_readOrder_c5 : (27 ≤ w3519.toInt → 1 ≤ v3517.toInt → v3517.toInt ≤ 1 → 0 ≤ (-1) * v3513.toInt + v3515.toInt + (-2))) (hc3_kz_X13_readOrder_c5 : (27 ≤ gw.toInt → 1 ≤ gs.toInt → gs.toInt ≤ 1 → 0 ≤ (-1) * gf.toInt + gt.toInt + (-2))) (hL22 : low (10 * gn.toInt.toNat) (Ra 61) (R 61)) (hC : v3521.toInt = 0 → CLS 10 [1, 3, 5, 7] (R 24) (R 25) (Ra 61) gc.toInt gn.toInt) (h22_1 : R 61 (10 * gn.toInt.toNat + 1) = gc) (h22_2 : R 61 (10 * gn.toInt.toNat + 2) = v3523) (h22_3 : R 61 (10 * gn.toInt.toNat + 3) = 0) (h22_4 : R 61 (10 * gn.toInt.toNat + 4) = 0) (h22_5 : R 61 (10 * gn.toInt.toNat + 5) = 0) (h22_6 : R 61 (10 * gn.toInt.toNat + 6) = 0) (h22_7 : R 61 (10 * gn.toInt.toNat + 7) = 0) (h22_8 : R 61 (10 * gn.toInt.toNat + 8) = 0) (h22_0 : R 61 (10 * gn.toInt.toNat + 0) = v38) (h22_9 : R 61 (10 * gn.toInt.toNat + 9) = 1) (hX3524 : v3521.toInt = 0 → WFX (R 24) (R 25) gc v3523) (ls : Array Slot) (hl : lv_has ls 4 [(2, .int v108), (0, .ref am)]) : W p l e ({ frames := 12, cells := 0, slots := 0, locals := 770 }) s m args below meth c H locs 0 0 (MQ below (mz_w D cy ad am (fun F G R S => mz_IF false F ∧ mz_IG G ∧ mz_IR [] true R ∧ (∀ k : Nat, k ∉ ([14, 15, 16, 18, 19, 21, 23, 26, 29, 30] : List Nat) → F k = Fa k) ∧ (∀ k : Nat, k ∉ ([24, 25, 27, 28, 61] : List Nat) → R k = Ra k) ∧ (∀ k : Nat, k ∉ ([17] : List Nat) → G k = Ga k) ∧ 0 ≤ (-1) * (F 14).toInt + (F 15).toInt ∧ 0 ≤ gp.toInt + (-1) * (F 15).toInt ∧ (1 ≤ (F 16).toInt → 0 ≤ (-1) * (F 14).toInt + (F 15).toInt + (-1)) ∧ (27 ≤ (G 17).toInt → 1 ≤ (F 16).toInt → (F 16).toInt ≤ 1 → 0 ≤ (-1) * (F 14).toInt + (F 15).toInt + (-2)) ∧ 0 ≤ (-1) * gf.toInt + (F 14).toInt ∧ 0 ≤ (-1) * gc.toInt + (F 23).toInt ∧ 0 ≤ (-1) * (F 23).toInt + (F 14).toInt ∧ 0 ≤ (-1) * gb.toInt + (F 19).toInt ∧ ((F 19).toInt ≤ 0 → 0 ≤ (-1) * gf.toInt + (F 14).toInt + (-1)) ∧ ((F 19).toInt = 0 → CLS 10 [1, 3, 5, 7] (R 24) (R 25) (R 61) (F 23).toInt (F 21).toInt) ∧ ((F 19).toInt = 0 → TMS (R 61) (F 21).toInt))) args s 0 0 (mz_W ad am)) (F0 m 221 ls []) := by
  have hq_gb := tk_rng gb
  have hq_gc := tk_rng gc
  have hq_gf := tk_rng gf
  have hq_gn := tk_rng gn
  have hq_gp := tk_rng gp
  have hq_gs := tk_rng gs
  have hq_gt := tk_rng gt
  have hq_gw := tk_rngL gw
  have hq_v108 := tk_rng v108
  have hq_v109 := tk_rng v109
  have hq_v3513 := tk_rng v3513
  have hq_v3515 := tk_rng v3515
  have hq_v3517 := tk_rng v3517
  have hq_v3521 := tk_rng v3521
  have hq_v3523 := tk_rng v3523
  have hq_v38 := tk_rng v38
  have hq_w3519 := tk_rngL w3519
  have hr_gp : 0 ≤ gp.toInt ∧ gp.toInt ≤ 400 := hIF.at hg_3
  have hr_v109 : 0 ≤ v109.toInt ∧ v109.toInt ≤ 12 := hIF.at hf111
  have hr_v3513 : 0 ≤ v3513.toInt ∧ v3513.toInt ≤ 400 := hIF.at hf3512
  have hr_v3515 : 0 ≤ v3515.toInt ∧ v3515.toInt ≤ 400 := hIF.at hf3514
  have hr_v3517 : 0 ≤ v3517.toInt ∧ v3517.toInt ≤ 3 := hIF.at hf3516
  have hr_v3521 : 0 ≤ v3521.toInt ∧ v3521.toInt ≤ 1 := hIF.at hf3520
  have hr_v3523 : 0 ≤ v3523.toInt ∧ v3523.toInt ≤ 400 := hIF.at hf3522
  refine lv_aload_n hx hb dX13_readOrder_221 rfl (lv_at hl 1 rfl) ?_
  refine mz_getR hx hb htl hown hK hM 61 (Nat.le_of_ble_eq_true rfl) (Nat.le_of_ble_eq_true rfl) (htl _ mw_239) (fun _ h9 => h9) dX13_readOrder_222 ?_
  refine lv_iload_n hx hb dX13_readOrder_225 rfl (lv_at hl 0 rfl) ?_
  refine lv_bipush (v := 7) hx hb dX13_readOrder_226 (by decide) ?_
  refine lv_iadd hx hb dX13_readOrder_228 ?_
  refine tk_add rfl (show (7 : Int32).toInt = 7 by decide) (by omega) (by omega) (fun v3531 h_v3531 => ?_)
  refine lv_aload_n hx hb dX13_readOrder_229 rfl (lv_at hl 1 rfl) ?_
  refine mz_getI hx hb htl hown hK hM 23 (Nat.le_of_ble_eq_true rfl) rfl (htl _ mw_670) (fun _ h9 => h9) dX13_readOrder_230 (fun v9 e9 => ?_)
  refine fx_ti (v := v3523) (e9.symm.trans hf3522) ?_
  refine mz_iast (x := v3523) hx hb hK hD hM hS 61 (Nat.le_of_ble_eq_true rfl) rfl (nn := 120) rfl rfl (by omega) (by omega) dX13_readOrder_233 (fun H locs R hM hS hw9 hj9 => ?_)
  have hIR := hIR.put hw9 hj9 trivial
  have hL22 : low (10 * gn.toInt.toNat) (Ra 61) (R 61) := fun j hj => by rw [hw9, pk_un (fun h9 => by have h8 := tk_nat (i := v3531) rfl (by omega); omega)]; exact hL22 j hj
  have h22_1 : R 61 (10 * gn.toInt.toNat + 1) = gc := by rw [hw9, pk_un (fun h9 => by have h8 := tk_nat (i := v3531) rfl (by omega); omega)]; exact h22_1
  have h22_2 : R 61 (10 * gn.toInt.toNat + 2) = v3523 := by rw [hw9, pk_un (fun h9 => by have h8 := tk_nat (i := v3531) rfl (by omega); omega)]; exact h22_2
  have h22_3 : R 61 (10 * gn.toInt.toNat + 3) = 0 := by rw [hw9, pk_un (fun h9 => by have h8 := tk_nat (i := v3531) rfl (by omega); omega)]; exact h22_3
  have h22_4 : R 61 (10 * gn.toInt.toNat + 4) = 0 := by rw [hw9, pk_un (fun h9 => by have h8 := tk_nat (i := v3531) rfl (by omega); omega)]; exact h22_4
  have h22_5 : R 61 (10 * gn.toInt.toNat + 5) = 0 := by rw [hw9, pk_un (fun h9 => by have h8 := tk_nat (i := v3531) rfl (by omega); omega)]; exact h22_5
  have h22_6 : R 61 (10 * gn.toInt.toNat + 6) = 0 := by rw [hw9, pk_un (fun h9 => by have h8 := tk_nat (i := v3531) rfl (by omega); omega)]; exact h22_6
  have h22_8 : R 61 (10 * gn.toInt.toNat + 8) = 0 := by rw [hw9, pk_un (fun h9 => by have h8 := tk_nat (i := v3531) rfl (by omega); omega)]; exact h22_8
  have h22_0 : R 61 (10 * gn.toInt.toNat + 0) = v38 := by rw [hw9, pk_un (fun h9 => by have h8 := tk_nat (i := v3531) rfl (by omega); omega)]; exact h22_0
  have h22_9 : R 61 (10 * gn.toInt.toNat + 9) = 1 := by rw [hw9, pk_un (fun h9 => by have h8 := tk_nat (i := v3531) rfl (by omega); omega)]; exact h22_9
  have hC9 := hC
  have hC : v3521.toInt = 0 → CLS 10 [1, 3, 5, 7] (R 24) (R 25) (Ra 61) gc.toInt gn.toInt := fun h9 => (hC9 (by omega)).to (hj9 24 (by decide)) (hj9 25 (by decide))
  have hX35249 := hX3524
  have hX3524 : v3521.toInt = 0 → WFX (R 24) (R 25) gc v3523 := fun h9 => by rw [hj9 24 (by decide), hj9 25 (by decide)]; exact hX35249 (by omega)
  have h22_7 : R 61 (10 * gn.toInt.toNat + 7) = v3523 := by rw [hw9, show 10 * gn.toInt.toNat + 7 = (v3531 : Int32).toNatClampNeg by show _ = v3531.toInt.toNat; omega]; exact pk_us
  have hRR := mz_frp (K := [24, 25, 27, 28, 61]) (Fa := Ra) hj9 hRR (by decide)
  refine lv_aload_n hx hb dX13_readOrder_234 rfl (lv_at hl 1 rfl) ?_
  refine mz_getI hx hb htl hown hK hM 19 (Nat.le_of_ble_eq_true rfl) rfl (htl _ mw_668) (fun _ h9 => h9) dX13_readOrder_235 (fun v9 e9 => ?_)
  refine fx_ti (v := v3521) (e9.symm.trans hf3520) ?_
  refine lv_if_ne (tgt := 260) hx hb dX13_readOrder_238 (by decide) (fun _ => ?_) (fun c9 => absurd (show v3521.toInt = 0 from (fi_eq rfl (show (0 : Int32).toInt = 0 by decide)).mp c9) (by omega))
  refine lv_aload_n hx hb dX13_readOrder_260 rfl (lv_at hl 1 rfl) ?_
  refine mz_getR hx hb htl hown hK hM 61 (Nat.le_of_ble_eq_true rfl) (Nat.le_of_ble_eq_true rfl) (htl _ mw_239) (fun _ h9 => h9) dX13_readOrder_261 ?_
  refine lv_iload_n hx hb dX13_readOrder_264 rfl (lv_at hl 0 rfl) ?_
  refine lv_bipush (v := 8) hx hb dX13_readOrder_265 (by decide) ?_
  refine lv_iadd hx hb dX13_readOrder_267 ?_
  refine tk_add rfl (show (8 : Int32).toInt = 8 by decide) (by omega) (by omega) (fun v3533 h_v3533 => ?_)
  refine lv_aload_n hx hb dX13_readOrder_268 rfl (lv_at hl 1 rfl) ?_
  refine mz_getI hx hb htl hown hK hM 23 (Nat.le_of_ble_eq_true rfl) rfl (htl _ mw_670) (fun _ h9 => h9) dX13_readOrder_269 (fun v9 e9 => ?_)
  refine fx_ti (v := v3523) (e9.symm.trans hf3522) ?_
  refine mz_iast (x := v3523) hx hb hK hD hM hS 61 (Nat.le_of_ble_eq_true rfl) rfl (nn := 120) rfl rfl (by omega) (by omega) dX13_readOrder_272 (fun H locs R hM hS hw9 hj9 => ?_)
  have hIR := hIR.put hw9 hj9 trivial
  have hL22 : low (10 * gn.toInt.toNat) (Ra 61) (R 61) := fun j hj => by rw [hw9, pk_un (fun h9 => by have h8 := tk_nat (i := v3533) rfl (by omega); omega)]; exact hL22 j hj
  have h22_1 : R 61 (10 * gn.toInt.toNat + 1) = gc := by rw [hw9, pk_un (fun h9 => by have h8 := tk_nat (i := v3533) rfl (by omega); omega)]; exact h22_1
  have h22_2 : R 61 (10 * gn.toInt.toNat + 2) = v3523 := by rw [hw9, pk_un (fun h9 => by have h8 := tk_nat (i := v3533) rfl (by omega); omega)]; exact h22_2
  have h22_3 : R 61 (10 * gn.toInt.toNat + 3) = 0 := by rw [hw9, pk_un (fun h9 => by have h8 := tk_nat (i := v3533) rfl (by omega); omega)]; exact h22_3
  have h22_4 : R 61 (10 * gn.toInt.toNat + 4) = 0 := by rw [hw9, pk_un (fun h9 => by have h8 := tk_nat (i := v3533) rfl (by omega); omega)]; exact h22_4
  have h22_5 : R 61 (10 * gn.toInt.toNat + 5) = 0 := by rw [hw9, pk_un (fun h9 => by have h8 := tk_nat (i := v3533) rfl (by omega); omega)]; exact h22_5
  have h22_6 : R 61 (10 * gn.toInt.toNat + 6) = 0 := by rw [hw9, pk_un (fun h9 => by have h8 := tk_nat (i := v3533) rfl (by omega); omega)]; exact h22_6
  have h22_7 : R 61 (10 * gn.toInt.toNat + 7) = v3523 := by rw [hw9, pk_un (fun h9 => by have h8 := tk_nat (i := v3533) rfl (by omega); omega)]; exact h22_7
  have h22_0 : R 61 (10 * gn.toInt.toNat + 0) = v38 := by rw [hw9, pk_un (fun h9 => by have h8 := tk_nat (i := v3533) rfl (by omega); omega)]; exact h22_0
  have h22_9 : R 61 (10 * gn.toInt.toNat + 9) = 1 := by rw [hw9, pk_un (fun h9 => by have h8 := tk_nat (i := v3533) rfl (by omega); omega)]; exact h22_9
  have hC9 := hC
  have hC : v3521.toInt = 0 → CLS 10 [1, 3, 5, 7] (R 24) (R 25) (Ra 61) gc.toInt gn.toInt := fun h9 => (hC9 (by omega)).to (hj9 24 (by decide)) (hj9 25 (by decide))
  have hX35249 := hX3524
  have hX3524 : v3521.toInt = 0 → WFX (R 24) (R 25) gc v3523 := fun h9 => by rw [hj9 24 (by decide), hj9 25 (by decide)]; exact hX35249 (by omega)
  have h22_8 : R 61 (10 * gn.toInt.toNat + 8) = v3523 := by rw [hw9, show 10 * gn.toInt.toNat + 8 = (v3533 : Int32).toNatClampNeg by show _ = v3533.toInt.toNat; omega]; exact pk_us
  have hRR := mz_frp (K := [24, 25, 27, 28, 61]) (Fa := Ra) hj9 hRR (by decide)
  exact mz_vret hx hb hr hlocks ⟨hIF, hIG, hIR, hFF, hRR, hGG, (by rw [hf3512, hf3514]; omega), (by rw [hf3514]; omega), (by rw [hf3512, hf3514, hf3516]; omega), (by rw [hf3512, hf3514, hf3516, hf3518]; omega), (by rw [hf3512]; omega), (by rw [hf3522]; omega), (by rw [hf3512, hf3522]; omega), (by rw [hf3520]; omega), (by rw [hf3512, hf3520]; omega), (by rw [hf3520]; exact fun h9 => absurd h9 (by omega)), (by rw [hf3520]; exact fun h9 => absurd h9 (by omega))⟩ hM hS dX13_readOrder_273
set_option maxHeartbeats 4000000 in
set_option maxRecDepth 100000 in
theorem kz_X13_readOrder_c6 (l : Launch) (D : va_G) (cy : Nat → ClassId) (ld ad : Nat → Nat) (am : Nat) (hD : mz_D ad am) (Fa : Nat → Int32) (Ga : Nat → Int64) (Ra : Nat → Nat → Int32) (Sa : Nat → Nat → Int64) (gf : Int32) (gt : Int32) (gs : Int32) (gp : Int32) (gw : Int64) (gb : Int32) (gc : Int32) (gn : Int32) {p : Program} {e : Env} {s : State} {m : MethodId} {args : Array Value} {below : List Frame} {meth : Method} {c : Code} (hx : p.tables.exec = Jvm.exec) (hb : c.code = cX13_readOrder) (hr : meth.sig.returnType = none) (hml : c.maxLocals = 4) (hts : ∀ w ∈ wl yX13_readOrder cX13_readOrder 4 none, w.before args s = true) (htl : ∀ w ∈ wsA, w.before args s = true) (hown : s.vm.findClass RX13 = some m.cls) (hlocks : meth.locks = false) (hK : kk_K D cy ld s) (hp_0 : 0 ≤ (-1) * gf.toInt + gt.toInt) (hp_1 : 0 ≤ gp.toInt + (-1) * gt.toInt) (hp_2 : (1 ≤ gs.toInt → 0 ≤ (-1) * gf.toInt + gt.toInt + (-1))) (hp_3 : (27 ≤ gw.toInt → 1 ≤ gs.toInt → gs.toInt ≤ 1 → 0 ≤ (-1) * gf.toInt + gt.toInt + (-2))) (hp_4 : 0 ≤ (-1) * gc.toInt + gf.toInt) (hp_5 : gb.toInt ≤ 0) (hx_0 : CLS 10 [1, 3, 5, 7] (Ra 24) (Ra 25) (Ra 61) gc.toInt gn.toInt) (hx_1 : TMS (Ra 61) gn.toInt) (v108 : Int32) (v109 : Int32) (v3513 : Int32) (v3515 : Int32) (v3517 : Int32) (v3521 : Int32) (v3523 : Int32) (v38 : Int32) (w3519 : Int64) (H : Heap) (locs : List Loc) (F : Nat → Int32) (G : Nat → Int64) (R : Nat → Nat → Int32) (S : Nat → Nat → Int64) (hq0_kz_X13_readOrder_c6 : v109.toInt ≤ 12) (hq1_kz_X13_readOrder_c6 : v3515.toInt ≤ 400) (hq2_kz_X13_readOrder_c6 : v3517.toInt ≤ 3) (hq3_kz_X13_readOrder_c6 : v3521.toInt ≤ 0) (hq4_kz_X13_readOrder_c6 : 1 ≤ v38.toInt) (hq5_kz_X13_readOrder_c6 : 0 ≤ (-1) * gf.toInt + gt.toInt + (-1)) (hq6_kz_X13_readOrder_c6 : (-10) * gn.toInt + v108.toInt = 0) (hq7_kz_X13_readOrder_c6 : (-1) * gn.toInt + v109.toInt + (-1) = 0) (hq8_kz_X13_readOrder_c6 : 0 ≤ (-1) * v3513.toInt + v3515.toInt) (hq9_kz_X13_readOrder_c6 : 0 ≤ gp.toInt + (-1) * v3515.toInt) (hq10_kz_X13_readOrder_c6 : 0 ≤ (-1) * gc.toInt + v3523.toInt) (hq11_kz_X13_readOrder_c6 : 0 ≤ v3513.toInt + (-1) * v3523.toInt) (hq12_kz_X13_readOrder_c6 : 0 ≤ gb.toInt + (-1) * v38.toInt + 1) (hq13_kz_X13_readOrder_c6 : 0 ≤ gc.toInt + (-1) * v38.toInt + 1) (hq14_kz_X13_readOrder_c6 : 0 ≤ gs.toInt + (-1) * v38.toInt) (hq15_kz_X13_readOrder_c6 : 0 ≤ (-1) * gt.toInt + v3513.toInt) (hq16_kz_X13_readOrder_c6 : 0 ≤ (-1) * gs.toInt + v38.toInt) (hq17_kz_X13_readOrder_c6 : 0 ≤ (-1) * gb.toInt + v109.toInt + (-1)) (hq18_kz_X13_readOrder_c6 : 0 ≤ (-1) * gb.toInt + v3517.toInt) (hq19_kz_X13_readOrder_c6 : 0 ≤ (-1) * gb.toInt + v3521.toInt) (hM : mz_S D cy ad am F G R S H) (hS : va_S (mz_W ad am) s.heap H locs) (hIF : mz_IF false F) (hIG : mz_IG G) (hIR : mz_IR [] true R) (hFF : ∀ k : Nat, k ∉ ([14, 15, 16, 18, 19, 21, 23, 26, 29, 30] : List Nat) → F k = Fa k) (hGG : ∀ k : Nat, k ∉ ([17] : List Nat) → G k = Ga k) (hRR : ∀ k : Nat, k ∉ ([24, 25, 27, 28, 61] : List Nat) → R k = Ra k) (hg_3 : F 13 = gp) (hf111 : F 21 = v109) (hf3512 : F 14 = v3513) (hf3514 : F 15 = v3515) (hf3516 : F 16 = v3517) (hf3518 : G 17 = w3519) (hf3520 : F 19 = v3521) (hf3522 : F 23 = v3523) (hc0_kz_X13_readOrder_c6 : (27 ≤ gw.toInt → 1 ≤ gs.toInt → gs.toInt ≤ 1 → 0 ≤ (-1) * gf.toInt + gt.toInt + (-2))) (hc1_kz_X13_readOrder_c6 : (1 ≤ v3517.toInt → 0 ≤ (-1) * v3513.toInt + v3515.toInt + (-1))) (hc2_kz_X13_readOrder_c6 : (27 ≤ w3519.toInt → 1 ≤ v3517.toInt → v3517.toInt ≤ 1 → 0 ≤ (-1) * v3513.toInt + v3515.toInt + (-2))) (hc3_kz_X13_readOrder_c6 : (27 ≤ gw.toInt → 1 ≤ gs.toInt → gs.toInt ≤ 1 → 0 ≤ (-1) * gf.toInt + gt.toInt + (-2))) (hL22 : low (10 * gn.toInt.toNat) (Ra 61) (R 61)) (hC : v3521.toInt = 0 → CLS 10 [1, 3, 5, 7] (R 24) (R 25) (Ra 61) gc.toInt gn.toInt) (h22_1 : R 61 (10 * gn.toInt.toNat + 1) = gc) (h22_2 : R 61 (10 * gn.toInt.toNat + 2) = v3523) (h22_3 : R 61 (10 * gn.toInt.toNat + 3) = 0) (h22_4 : R 61 (10 * gn.toInt.toNat + 4) = 0) (h22_5 : R 61 (10 * gn.toInt.toNat + 5) = 0) (h22_6 : R 61 (10 * gn.toInt.toNat + 6) = 0) (h22_7 : R 61 (10 * gn.toInt.toNat + 7) = 0) (h22_8 : R 61 (10 * gn.toInt.toNat + 8) = 0) (h22_0 : R 61 (10 * gn.toInt.toNat + 0) = v38) (h22_9 : R 61 (10 * gn.toInt.toNat + 9) = 1) (hX3524 : v3521.toInt = 0 → WFX (R 24) (R 25) gc v3523) (ls : Array Slot) (hl : lv_has ls 4 [(2, .int v108), (0, .ref am)]) : W p l e ({ frames := 12, cells := 0, slots := 0, locals := 770 }) s m args below meth c H locs 0 0 (MQ below (mz_w D cy ad am (fun F G R S => mz_IF false F ∧ mz_IG G ∧ mz_IR [] true R ∧ (∀ k : Nat, k ∉ ([14, 15, 16, 18, 19, 21, 23, 26, 29, 30] : List Nat) → F k = Fa k) ∧ (∀ k : Nat, k ∉ ([24, 25, 27, 28, 61] : List Nat) → R k = Ra k) ∧ (∀ k : Nat, k ∉ ([17] : List Nat) → G k = Ga k) ∧ 0 ≤ (-1) * (F 14).toInt + (F 15).toInt ∧ 0 ≤ gp.toInt + (-1) * (F 15).toInt ∧ (1 ≤ (F 16).toInt → 0 ≤ (-1) * (F 14).toInt + (F 15).toInt + (-1)) ∧ (27 ≤ (G 17).toInt → 1 ≤ (F 16).toInt → (F 16).toInt ≤ 1 → 0 ≤ (-1) * (F 14).toInt + (F 15).toInt + (-2)) ∧ 0 ≤ (-1) * gf.toInt + (F 14).toInt ∧ 0 ≤ (-1) * gc.toInt + (F 23).toInt ∧ 0 ≤ (-1) * (F 23).toInt + (F 14).toInt ∧ 0 ≤ (-1) * gb.toInt + (F 19).toInt ∧ ((F 19).toInt ≤ 0 → 0 ≤ (-1) * gf.toInt + (F 14).toInt + (-1)) ∧ ((F 19).toInt = 0 → CLS 10 [1, 3, 5, 7] (R 24) (R 25) (R 61) (F 23).toInt (F 21).toInt) ∧ ((F 19).toInt = 0 → TMS (R 61) (F 21).toInt))) args s 0 0 (mz_W ad am)) (F0 m 221 ls []) := by
  have hq_gb := tk_rng gb
  have hq_gc := tk_rng gc
  have hq_gf := tk_rng gf
  have hq_gn := tk_rng gn
  have hq_gp := tk_rng gp
  have hq_gs := tk_rng gs
  have hq_gt := tk_rng gt
  have hq_gw := tk_rngL gw
  have hq_v108 := tk_rng v108
  have hq_v109 := tk_rng v109
  have hq_v3513 := tk_rng v3513
  have hq_v3515 := tk_rng v3515
  have hq_v3517 := tk_rng v3517
  have hq_v3521 := tk_rng v3521
  have hq_v3523 := tk_rng v3523
  have hq_v38 := tk_rng v38
  have hq_w3519 := tk_rngL w3519
  have hr_gp : 0 ≤ gp.toInt ∧ gp.toInt ≤ 400 := hIF.at hg_3
  have hr_v109 : 0 ≤ v109.toInt ∧ v109.toInt ≤ 12 := hIF.at hf111
  have hr_v3513 : 0 ≤ v3513.toInt ∧ v3513.toInt ≤ 400 := hIF.at hf3512
  have hr_v3515 : 0 ≤ v3515.toInt ∧ v3515.toInt ≤ 400 := hIF.at hf3514
  have hr_v3517 : 0 ≤ v3517.toInt ∧ v3517.toInt ≤ 3 := hIF.at hf3516
  have hr_v3521 : 0 ≤ v3521.toInt ∧ v3521.toInt ≤ 1 := hIF.at hf3520
  have hr_v3523 : 0 ≤ v3523.toInt ∧ v3523.toInt ≤ 400 := hIF.at hf3522
  refine lv_aload_n hx hb dX13_readOrder_221 rfl (lv_at hl 1 rfl) ?_
  refine mz_getR hx hb htl hown hK hM 61 (Nat.le_of_ble_eq_true rfl) (Nat.le_of_ble_eq_true rfl) (htl _ mw_239) (fun _ h9 => h9) dX13_readOrder_222 ?_
  refine lv_iload_n hx hb dX13_readOrder_225 rfl (lv_at hl 0 rfl) ?_
  refine lv_bipush (v := 7) hx hb dX13_readOrder_226 (by decide) ?_
  refine lv_iadd hx hb dX13_readOrder_228 ?_
  refine tk_add rfl (show (7 : Int32).toInt = 7 by decide) (by omega) (by omega) (fun v3544 h_v3544 => ?_)
  refine lv_aload_n hx hb dX13_readOrder_229 rfl (lv_at hl 1 rfl) ?_
  refine mz_getI hx hb htl hown hK hM 23 (Nat.le_of_ble_eq_true rfl) rfl (htl _ mw_670) (fun _ h9 => h9) dX13_readOrder_230 (fun v9 e9 => ?_)
  refine fx_ti (v := v3523) (e9.symm.trans hf3522) ?_
  refine mz_iast (x := v3523) hx hb hK hD hM hS 61 (Nat.le_of_ble_eq_true rfl) rfl (nn := 120) rfl rfl (by omega) (by omega) dX13_readOrder_233 (fun H locs R hM hS hw9 hj9 => ?_)
  have hIR := hIR.put hw9 hj9 trivial
  have hL22 : low (10 * gn.toInt.toNat) (Ra 61) (R 61) := fun j hj => by rw [hw9, pk_un (fun h9 => by have h8 := tk_nat (i := v3544) rfl (by omega); omega)]; exact hL22 j hj
  have h22_1 : R 61 (10 * gn.toInt.toNat + 1) = gc := by rw [hw9, pk_un (fun h9 => by have h8 := tk_nat (i := v3544) rfl (by omega); omega)]; exact h22_1
  have h22_2 : R 61 (10 * gn.toInt.toNat + 2) = v3523 := by rw [hw9, pk_un (fun h9 => by have h8 := tk_nat (i := v3544) rfl (by omega); omega)]; exact h22_2
  have h22_3 : R 61 (10 * gn.toInt.toNat + 3) = 0 := by rw [hw9, pk_un (fun h9 => by have h8 := tk_nat (i := v3544) rfl (by omega); omega)]; exact h22_3
  have h22_4 : R 61 (10 * gn.toInt.toNat + 4) = 0 := by rw [hw9, pk_un (fun h9 => by have h8 := tk_nat (i := v3544) rfl (by omega); omega)]; exact h22_4
  have h22_5 : R 61 (10 * gn.toInt.toNat + 5) = 0 := by rw [hw9, pk_un (fun h9 => by have h8 := tk_nat (i := v3544) rfl (by omega); omega)]; exact h22_5
  have h22_6 : R 61 (10 * gn.toInt.toNat + 6) = 0 := by rw [hw9, pk_un (fun h9 => by have h8 := tk_nat (i := v3544) rfl (by omega); omega)]; exact h22_6
  have h22_8 : R 61 (10 * gn.toInt.toNat + 8) = 0 := by rw [hw9, pk_un (fun h9 => by have h8 := tk_nat (i := v3544) rfl (by omega); omega)]; exact h22_8
  have h22_0 : R 61 (10 * gn.toInt.toNat + 0) = v38 := by rw [hw9, pk_un (fun h9 => by have h8 := tk_nat (i := v3544) rfl (by omega); omega)]; exact h22_0
  have h22_9 : R 61 (10 * gn.toInt.toNat + 9) = 1 := by rw [hw9, pk_un (fun h9 => by have h8 := tk_nat (i := v3544) rfl (by omega); omega)]; exact h22_9
  have hC9 := hC
  have hC : v3521.toInt = 0 → CLS 10 [1, 3, 5, 7] (R 24) (R 25) (Ra 61) gc.toInt gn.toInt := fun h9 => (hC9 (by omega)).to (hj9 24 (by decide)) (hj9 25 (by decide))
  have hX35249 := hX3524
  have hX3524 : v3521.toInt = 0 → WFX (R 24) (R 25) gc v3523 := fun h9 => by rw [hj9 24 (by decide), hj9 25 (by decide)]; exact hX35249 (by omega)
  have h22_7 : R 61 (10 * gn.toInt.toNat + 7) = v3523 := by rw [hw9, show 10 * gn.toInt.toNat + 7 = (v3544 : Int32).toNatClampNeg by show _ = v3544.toInt.toNat; omega]; exact pk_us
  have hRR := mz_frp (K := [24, 25, 27, 28, 61]) (Fa := Ra) hj9 hRR (by decide)
  refine lv_aload_n hx hb dX13_readOrder_234 rfl (lv_at hl 1 rfl) ?_
  refine mz_getI hx hb htl hown hK hM 19 (Nat.le_of_ble_eq_true rfl) rfl (htl _ mw_668) (fun _ h9 => h9) dX13_readOrder_235 (fun v9 e9 => ?_)
  refine fx_ti (v := v3521) (e9.symm.trans hf3520) ?_
  refine lv_if_ne (tgt := 260) hx hb dX13_readOrder_238 (by decide) (fun c9 => absurd ((fi_eq rfl (show (0 : Int32).toInt = 0 by decide)).mpr (show v3521.toInt = 0 by omega)) c9) (fun _ => ?_)
  refine lv_aload_n hx hb dX13_readOrder_241 rfl (lv_at hl 1 rfl) ?_
  refine lv_ldc2 hx hb hown (htl _ mw_705) dX13_readOrder_242 ?_
  have hk_294 : (294 : Int64).toInt = 294 := by decide
  refine mz_Vj (As := [.long 294]) (rest := []) ⟨hx, hb, hml, hown, hts⟩ hK hM hS (k_X13_isWord l D cy ld ad am hD _ _ _ _ 294 v3517 w3519 hIF hIG hIR hf3516 hf3518) ⟨callB_of 1 hts (wl_in mw_709) rfl rfl rfl (htl _ mw_5) (htl _ mw_706) hd_yX13_isWord ⟨(Nat.le_of_ble_eq_true rfl), (Nat.le_of_ble_eq_true rfl)⟩, htl _ mw_707, htl _ mw_708⟩ rfl hl.1 rfl (Nat.le_of_ble_eq_true rfl) dX13_readOrder_245 ⟨(Nat.le_of_ble_eq_true rfl), (Nat.le_of_ble_eq_true rfl)⟩ (fun v3546 H locs hpo hM hS => ?_)
  obtain ⟨hpo3547, hpo3548, hpo3549, hpo3550, hpo3551⟩ := hpo
  have hq_v3546 := tk_rng v3546
  refine lv_if_eq (tgt := 260) hx hb dX13_readOrder_248 (by decide) (fun c9 => ?_) (fun c9 => ?_)
  · have hc3553 : v3546.toInt = 0 := (fi_eq rfl (show (0 : Int32).toInt = 0 by decide)).mp c9
    refine lv_aload_n hx hb dX13_readOrder_260 rfl (lv_at hl 1 rfl) ?_
    refine mz_getR hx hb htl hown hK hM 61 (Nat.le_of_ble_eq_true rfl) (Nat.le_of_ble_eq_true rfl) (htl _ mw_239) (fun _ h9 => h9) dX13_readOrder_261 ?_
    refine lv_iload_n hx hb dX13_readOrder_264 rfl (lv_at hl 0 rfl) ?_
    refine lv_bipush (v := 8) hx hb dX13_readOrder_265 (by decide) ?_
    refine lv_iadd hx hb dX13_readOrder_267 ?_
    refine tk_add rfl (show (8 : Int32).toInt = 8 by decide) (by omega) (by omega) (fun v3554 h_v3554 => ?_)
    refine lv_aload_n hx hb dX13_readOrder_268 rfl (lv_at hl 1 rfl) ?_
    refine mz_getI hx hb htl hown hK hM 23 (Nat.le_of_ble_eq_true rfl) rfl (htl _ mw_670) (fun _ h9 => h9) dX13_readOrder_269 (fun v9 e9 => ?_)
    refine fx_ti (v := v3523) (e9.symm.trans hf3522) ?_
    refine mz_iast (x := v3523) hx hb hK hD hM hS 61 (Nat.le_of_ble_eq_true rfl) rfl (nn := 120) rfl rfl (by omega) (by omega) dX13_readOrder_272 (fun H locs R hM hS hw9 hj9 => ?_)
    have hIR := hIR.put hw9 hj9 trivial
    have hL22 : low (10 * gn.toInt.toNat) (Ra 61) (R 61) := fun j hj => by rw [hw9, pk_un (fun h9 => by have h8 := tk_nat (i := v3554) rfl (by omega); omega)]; exact hL22 j hj
    have h22_1 : R 61 (10 * gn.toInt.toNat + 1) = gc := by rw [hw9, pk_un (fun h9 => by have h8 := tk_nat (i := v3554) rfl (by omega); omega)]; exact h22_1
    have h22_2 : R 61 (10 * gn.toInt.toNat + 2) = v3523 := by rw [hw9, pk_un (fun h9 => by have h8 := tk_nat (i := v3554) rfl (by omega); omega)]; exact h22_2
    have h22_3 : R 61 (10 * gn.toInt.toNat + 3) = 0 := by rw [hw9, pk_un (fun h9 => by have h8 := tk_nat (i := v3554) rfl (by omega); omega)]; exact h22_3
    have h22_4 : R 61 (10 * gn.toInt.toNat + 4) = 0 := by rw [hw9, pk_un (fun h9 => by have h8 := tk_nat (i := v3554) rfl (by omega); omega)]; exact h22_4
    have h22_5 : R 61 (10 * gn.toInt.toNat + 5) = 0 := by rw [hw9, pk_un (fun h9 => by have h8 := tk_nat (i := v3554) rfl (by omega); omega)]; exact h22_5
    have h22_6 : R 61 (10 * gn.toInt.toNat + 6) = 0 := by rw [hw9, pk_un (fun h9 => by have h8 := tk_nat (i := v3554) rfl (by omega); omega)]; exact h22_6
    have h22_7 : R 61 (10 * gn.toInt.toNat + 7) = v3523 := by rw [hw9, pk_un (fun h9 => by have h8 := tk_nat (i := v3554) rfl (by omega); omega)]; exact h22_7
    have h22_0 : R 61 (10 * gn.toInt.toNat + 0) = v38 := by rw [hw9, pk_un (fun h9 => by have h8 := tk_nat (i := v3554) rfl (by omega); omega)]; exact h22_0
    have h22_9 : R 61 (10 * gn.toInt.toNat + 9) = 1 := by rw [hw9, pk_un (fun h9 => by have h8 := tk_nat (i := v3554) rfl (by omega); omega)]; exact h22_9
    have hC9 := hC
    have hC : v3521.toInt = 0 → CLS 10 [1, 3, 5, 7] (R 24) (R 25) (Ra 61) gc.toInt gn.toInt := fun h9 => (hC9 (by omega)).to (hj9 24 (by decide)) (hj9 25 (by decide))
    have hX35249 := hX3524
    have hX3524 : v3521.toInt = 0 → WFX (R 24) (R 25) gc v3523 := fun h9 => by rw [hj9 24 (by decide), hj9 25 (by decide)]; exact hX35249 (by omega)
    have h22_8 : R 61 (10 * gn.toInt.toNat + 8) = v3523 := by rw [hw9, show 10 * gn.toInt.toNat + 8 = (v3554 : Int32).toNatClampNeg by show _ = v3554.toInt.toNat; omega]; exact pk_us
    have hRR := mz_frp (K := [24, 25, 27, 28, 61]) (Fa := Ra) hj9 hRR (by decide)
    have hk_0 : (0 : Int32).toInt = 0 := by decide
    have hk_0 : (0 : Int32).toInt = 0 := by decide
    have hk_0 : (0 : Int32).toInt = 0 := by decide
    have hk_0 : (0 : Int32).toInt = 0 := by decide
    have hk_1 : (1 : Int32).toInt = 1 := by decide
    exact mz_vret hx hb hr hlocks ⟨hIF, hIG, hIR, hFF, hRR, hGG, (by rw [hf3512, hf3514]; omega), (by rw [hf3514]; omega), (by rw [hf3512, hf3514, hf3516]; omega), (by rw [hf3512, hf3514, hf3516, hf3518]; omega), (by rw [hf3512]; omega), (by rw [hf3522]; omega), (by rw [hf3512, hf3522]; omega), (by rw [hf3520]; omega), (by rw [hf3512, hf3520]; omega), (by rw [hf3520, hf3522, hf111]; exact fun h9 => mz_snoc (N := gn.toInt.toNat) (hC h9) (by omega) (by omega) hL22 (by decide) (by omega) (by intro d hd; simp only [List.mem_cons, List.not_mem_nil, or_false] at hd; rcases hd with rfl | rfl | rfl | rfl <;> first | (rw [show 10 * gn.toInt.toNat + 1 + 1 = 10 * gn.toInt.toNat + 2 from rfl, h22_1, h22_2]; exact ⟨hX3524 h9, by omega⟩) | (rw [show 10 * gn.toInt.toNat + 3 + 1 = 10 * gn.toInt.toNat + 4 from rfl, h22_3, h22_4]; exact ⟨WFX.nil (by omega) (by omega), by omega⟩) | (rw [show 10 * gn.toInt.toNat + 5 + 1 = 10 * gn.toInt.toNat + 6 from rfl, h22_5, h22_6]; exact ⟨WFX.nil (by omega) (by omega), by omega⟩) | (rw [show 10 * gn.toInt.toNat + 7 + 1 = 10 * gn.toInt.toNat + 8 from rfl, h22_7, h22_8]; exact ⟨WFX.nil (by omega) (by omega), by omega⟩))), (by rw [hf3520, hf111]; exact fun h9 => TMS.snoc (N := gn.toInt.toNat) hx_1 (by omega) (by omega) hL22 h22_9 (by omega) (by omega))⟩ hM hS dX13_readOrder_273
  · have hc3553 : ¬ (v3546.toInt = 0) := fun h9 => c9 ((fi_eq rfl (show (0 : Int32).toInt = 0 by decide)).mpr h9)
    have hwk_3556 : w3519.toInt + (-294) = 0 ∧ v3517.toInt + (-1) = 0 := by omega
    have hwk_3557 : 0 ≤ (-1) * v3513.toInt + v3515.toInt + (-1) := by omega
    have hwk_3558 : 0 ≤ (-1) * v3513.toInt + v3515.toInt + (-2) := by omega
    refine lv_aload_n hx hb dX13_readOrder_251 rfl (lv_at hl 1 rfl) ?_
    refine mz_Vv (As := []) (rest := []) ⟨hx, hb, hml, hown, hts⟩ hK hM hS (k_X13_next l D cy ld ad am hD _ _ _ _ v3515 gp hIF hIG hIR hf3514 hg_3 (by omega)) ⟨callB_of 0 hts (wl_in mw_685) rfl rfl rfl (htl _ mw_5) (htl _ mw_682) hd_yX13_next ⟨(Nat.le_of_ble_eq_true rfl), (Nat.le_of_ble_eq_true rfl)⟩, htl _ mw_683, htl _ mw_684⟩ rfl hl.1 rfl (Nat.le_of_ble_eq_true rfl) dX13_readOrder_252 ⟨(Nat.le_of_ble_eq_true rfl), (Nat.le_of_ble_eq_true rfl)⟩ (fun H locs F G R S hpo hM hS => ?_)
    obtain ⟨hIF, hIG, hIR, hfr9, hrr9, hgr9, hpo3559, hpo3560, hpo3561, hpo3562, hpo3563⟩ := hpo
    have hFF := mz_fr (K := [14, 15, 16, 18, 19, 21, 23, 26, 29, 30]) (Fa := Fa) hfr9 hFF (by decide)
    have hRR := mz_fr (K := [24, 25, 27, 28, 61]) (Fa := Ra) hrr9 hRR (by decide)
    have hGG := mz_fr (K := [17]) (Fa := Ga) hgr9 hGG (by decide)
    have hg_3 := (hfr9 13 (by decide)).trans hg_3
    have hf111 := (hfr9 21 (by decide)).trans hf111
    have hf3520 := (hfr9 19 (by decide)).trans hf3520
    have hf3522 := (hfr9 23 (by decide)).trans hf3522
    obtain ⟨v3566, hf3565⟩ : ∃ z : Int32, F 14 = z := ⟨_, rfl⟩
    have hq_v3566 := tk_rng v3566
    rw [hf3565] at hpo3559 hpo3560 hpo3562 hpo3563
    have hr_v3566 : 0 ≤ v3566.toInt ∧ v3566.toInt ≤ 400 := hIF.at hf3565
    obtain ⟨v3568, hf3567⟩ : ∃ z : Int32, F 15 = z := ⟨_, rfl⟩
    have hq_v3568 := tk_rng v3568
    rw [hf3567] at hpo3560 hpo3561 hpo3562 hpo3563
    have hr_v3568 : 0 ≤ v3568.toInt ∧ v3568.toInt ≤ 400 := hIF.at hf3567
    obtain ⟨v3570, hf3569⟩ : ∃ z : Int32, F 16 = z := ⟨_, rfl⟩
    have hq_v3570 := tk_rng v3570
    rw [hf3569] at hpo3562 hpo3563
    have hr_v3570 : 0 ≤ v3570.toInt ∧ v3570.toInt ≤ 3 := hIF.at hf3569
    obtain ⟨w3572, hf3571⟩ : ∃ z : Int64, G 17 = z := ⟨_, rfl⟩
    have hq_w3572 := tk_rngL w3572
    rw [hf3571] at hpo3563
    have hL22 := hL22.to (hrr9 61 (by decide))
    have h22_1 := (congrFun (hrr9 61 (by decide)) _).trans h22_1
    have h22_2 := (congrFun (hrr9 61 (by decide)) _).trans h22_2
    have h22_3 := (congrFun (hrr9 61 (by decide)) _).trans h22_3
    have h22_4 := (congrFun (hrr9 61 (by decide)) _).trans h22_4
    have h22_5 := (congrFun (hrr9 61 (by decide)) _).trans h22_5
    have h22_6 := (congrFun (hrr9 61 (by decide)) _).trans h22_6
    have h22_7 := (congrFun (hrr9 61 (by decide)) _).trans h22_7
    have h22_8 := (congrFun (hrr9 61 (by decide)) _).trans h22_8
    have h22_0 := (congrFun (hrr9 61 (by decide)) _).trans h22_0
    have h22_9 := (congrFun (hrr9 61 (by decide)) _).trans h22_9
    have hC9 := hC
    have hC : v3521.toInt = 0 → CLS 10 [1, 3, 5, 7] (R 24) (R 25) (Ra 61) gc.toInt gn.toInt := fun h9 => (hC9 (by omega)).to (hrr9 24 (by decide)) (hrr9 25 (by decide))
    have hX35249 := hX3524
    have hX3524 : v3521.toInt = 0 → WFX (R 24) (R 25) gc v3523 := fun h9 => by rw [hrr9 24 (by decide), hrr9 25 (by decide)]; exact hX35249 (by omega)
    refine lv_aload_n hx hb dX13_readOrder_255 rfl (lv_at hl 1 rfl) ?_
    refine lv_iconst (v := 1) hx hb dX13_readOrder_256 (by decide) ?_
    have hk_1 : (1 : Int32).toInt = 1 := by decide
    refine mz_Vv (As := [.int 1]) (rest := []) ⟨hx, hb, hml, hown, hts⟩ hK hM hS (k_X13_readExpression l D cy ld ad am hD _ _ _ _ 1 v3566 v3568 v3570 gp w3572 v3521 v3523 hIF hIG hIR hf3565 hf3567 hf3569 hg_3 hf3571 hf3520 hf3522 (by omega) (by omega) (by omega) (by omega) (by omega) (by omega) (by omega) (by omega)) ⟨callB_of 1 hts (wl_in mw_717) rfl rfl rfl (htl _ mw_5) (htl _ mw_714) hd_yX13_readExpression ⟨(Nat.le_of_ble_eq_true rfl), (Nat.le_of_ble_eq_true rfl)⟩, htl _ mw_715, htl _ mw_716⟩ rfl hl.1 rfl (Nat.le_of_ble_eq_true rfl) dX13_readOrder_257 ⟨(Nat.le_of_ble_eq_true rfl), (Nat.le_of_ble_eq_true rfl)⟩ (fun H locs F G R S hpo hM hS => ?_)
    obtain ⟨hIF, hIG, hIR, hfr9, hrr9, hgr9, hpo3573, hpo3574, hpo3575, hpo3576, hpo3577, hpo3578, hpo3579, hx3580⟩ := hpo
    have hFF := mz_fr (K := [14, 15, 16, 18, 19, 21, 23, 26, 29, 30]) (Fa := Fa) hfr9 hFF (by decide)
    have hRR := mz_fr (K := [24, 25, 27, 28, 61]) (Fa := Ra) hrr9 hRR (by decide)
    have hGG := mz_fr (K := [17]) (Fa := Ga) hgr9 hGG (by decide)
    have hg_3 := (hfr9 13 (by decide)).trans hg_3
    have hf111 := (hfr9 21 (by decide)).trans hf111
    obtain ⟨v3583, hf3582⟩ : ∃ z : Int32, F 14 = z := ⟨_, rfl⟩
    have hq_v3583 := tk_rng v3583
    rw [hf3582] at hpo3573 hpo3575 hpo3576 hpo3577 hpo3578
    have hr_v3583 : 0 ≤ v3583.toInt ∧ v3583.toInt ≤ 400 := hIF.at hf3582
    obtain ⟨v3585, hf3584⟩ : ∃ z : Int32, F 15 = z := ⟨_, rfl⟩
    have hq_v3585 := tk_rng v3585
    rw [hf3584] at hpo3573 hpo3574 hpo3575 hpo3576
    have hr_v3585 : 0 ≤ v3585.toInt ∧ v3585.toInt ≤ 400 := hIF.at hf3584
    obtain ⟨v3587, hf3586⟩ : ∃ z : Int32, F 16 = z := ⟨_, rfl⟩
    have hq_v3587 := tk_rng v3587
    rw [hf3586] at hpo3575 hpo3576
    have hr_v3587 : 0 ≤ v3587.toInt ∧ v3587.toInt ≤ 3 := hIF.at hf3586
    obtain ⟨w3589, hf3588⟩ : ∃ z : Int64, G 17 = z := ⟨_, rfl⟩
    have hq_w3589 := tk_rngL w3589
    rw [hf3588] at hpo3576
    obtain ⟨v3591, hf3590⟩ : ∃ z : Int32, F 19 = z := ⟨_, rfl⟩
    have hq_v3591 := tk_rng v3591
    have hr_v3591 : 0 ≤ v3591.toInt ∧ v3591.toInt ≤ 1 := hIF.at hf3590
    obtain ⟨v3593, hf3592⟩ : ∃ z : Int32, F 23 = z := ⟨_, rfl⟩
    have hq_v3593 := tk_rng v3593
    rw [hf3592] at hpo3578 hpo3579
    have hr_v3593 : 0 ≤ v3593.toInt ∧ v3593.toInt ≤ 400 := hIF.at hf3592
    have hL22 := hL22.to (hrr9 61 (by decide))
    have h22_1 := (congrFun (hrr9 61 (by decide)) _).trans h22_1
    have h22_2 := (congrFun (hrr9 61 (by decide)) _).trans h22_2
    have h22_3 := (congrFun (hrr9 61 (by decide)) _).trans h22_3
    have h22_4 := (congrFun (hrr9 61 (by decide)) _).trans h22_4
    have h22_5 := (congrFun (hrr9 61 (by decide)) _).trans h22_5
    have h22_6 := (congrFun (hrr9 61 (by decide)) _).trans h22_6
    have h22_7 := (congrFun (hrr9 61 (by decide)) _).trans h22_7
    have h22_8 := (congrFun (hrr9 61 (by decide)) _).trans h22_8
    have h22_0 := (congrFun (hrr9 61 (by decide)) _).trans h22_0
    have h22_9 := (congrFun (hrr9 61 (by decide)) _).trans h22_9
    have hE9 : v3591.toInt = 0 → WFC (R 24) (R 25) v3523.toInt.toNat v3593.toInt.toNat ∧ low v3523.toInt.toNat _ (R 24) ∧ low v3523.toInt.toNat _ (R 25) := fun h9 => by have h8 := hx3580 (by rw [hf3590]; exact h9); rw [hf3592] at h8; exact h8
    have hC9 := hC (by omega)
    have hC : v3591.toInt = 0 → CLS 10 [1, 3, 5, 7] (R 24) (R 25) (Ra 61) gc.toInt gn.toInt := fun h9 => hC9.low (N := v3523.toInt.toNat) (by omega) (hE9 h9).2.1 (hE9 h9).2.2
    have hX35249 := hX3524 (by omega)
    have hX3524 : v3591.toInt = 0 → WFX (R 24) (R 25) gc v3523 := fun h9 => hX35249.low (n := v3523.toInt.toNat) (by omega) (hE9 h9).2.1 (hE9 h9).2.2
    have hX3594 : v3591.toInt = 0 → WFX (R 24) (R 25) v3523 v3593 := fun h9 => ⟨by omega, by omega, by omega, (hE9 h9).1⟩
    refine lv_aload_n hx hb dX13_readOrder_260 rfl (lv_at hl 1 rfl) ?_
    refine mz_getR hx hb htl hown hK hM 61 (Nat.le_of_ble_eq_true rfl) (Nat.le_of_ble_eq_true rfl) (htl _ mw_239) (fun _ h9 => h9) dX13_readOrder_261 ?_
    refine lv_iload_n hx hb dX13_readOrder_264 rfl (lv_at hl 0 rfl) ?_
    refine lv_bipush (v := 8) hx hb dX13_readOrder_265 (by decide) ?_
    refine lv_iadd hx hb dX13_readOrder_267 ?_
    refine tk_add rfl (show (8 : Int32).toInt = 8 by decide) (by omega) (by omega) (fun v3595 h_v3595 => ?_)
    refine lv_aload_n hx hb dX13_readOrder_268 rfl (lv_at hl 1 rfl) ?_
    refine mz_getI hx hb htl hown hK hM 23 (Nat.le_of_ble_eq_true rfl) rfl (htl _ mw_670) (fun _ h9 => h9) dX13_readOrder_269 (fun v9 e9 => ?_)
    refine fx_ti (v := v3593) (e9.symm.trans hf3592) ?_
    refine mz_iast (x := v3593) hx hb hK hD hM hS 61 (Nat.le_of_ble_eq_true rfl) rfl (nn := 120) rfl rfl (by omega) (by omega) dX13_readOrder_272 (fun H locs R hM hS hw9 hj9 => ?_)
    have hIR := hIR.put hw9 hj9 trivial
    have hL22 : low (10 * gn.toInt.toNat) (Ra 61) (R 61) := fun j hj => by rw [hw9, pk_un (fun h9 => by have h8 := tk_nat (i := v3595) rfl (by omega); omega)]; exact hL22 j hj
    have h22_1 : R 61 (10 * gn.toInt.toNat + 1) = gc := by rw [hw9, pk_un (fun h9 => by have h8 := tk_nat (i := v3595) rfl (by omega); omega)]; exact h22_1
    have h22_2 : R 61 (10 * gn.toInt.toNat + 2) = v3523 := by rw [hw9, pk_un (fun h9 => by have h8 := tk_nat (i := v3595) rfl (by omega); omega)]; exact h22_2
    have h22_3 : R 61 (10 * gn.toInt.toNat + 3) = 0 := by rw [hw9, pk_un (fun h9 => by have h8 := tk_nat (i := v3595) rfl (by omega); omega)]; exact h22_3
    have h22_4 : R 61 (10 * gn.toInt.toNat + 4) = 0 := by rw [hw9, pk_un (fun h9 => by have h8 := tk_nat (i := v3595) rfl (by omega); omega)]; exact h22_4
    have h22_5 : R 61 (10 * gn.toInt.toNat + 5) = 0 := by rw [hw9, pk_un (fun h9 => by have h8 := tk_nat (i := v3595) rfl (by omega); omega)]; exact h22_5
    have h22_6 : R 61 (10 * gn.toInt.toNat + 6) = 0 := by rw [hw9, pk_un (fun h9 => by have h8 := tk_nat (i := v3595) rfl (by omega); omega)]; exact h22_6
    have h22_7 : R 61 (10 * gn.toInt.toNat + 7) = v3523 := by rw [hw9, pk_un (fun h9 => by have h8 := tk_nat (i := v3595) rfl (by omega); omega)]; exact h22_7
    have h22_0 : R 61 (10 * gn.toInt.toNat + 0) = v38 := by rw [hw9, pk_un (fun h9 => by have h8 := tk_nat (i := v3595) rfl (by omega); omega)]; exact h22_0
    have h22_9 : R 61 (10 * gn.toInt.toNat + 9) = 1 := by rw [hw9, pk_un (fun h9 => by have h8 := tk_nat (i := v3595) rfl (by omega); omega)]; exact h22_9
    have hC9 := hC
    have hC : v3591.toInt = 0 → CLS 10 [1, 3, 5, 7] (R 24) (R 25) (Ra 61) gc.toInt gn.toInt := fun h9 => (hC9 (by omega)).to (hj9 24 (by decide)) (hj9 25 (by decide))
    have hX35249 := hX3524
    have hX3524 : v3591.toInt = 0 → WFX (R 24) (R 25) gc v3523 := fun h9 => by rw [hj9 24 (by decide), hj9 25 (by decide)]; exact hX35249 (by omega)
    have hX35949 := hX3594
    have hX3594 : v3591.toInt = 0 → WFX (R 24) (R 25) v3523 v3593 := fun h9 => by rw [hj9 24 (by decide), hj9 25 (by decide)]; exact hX35949 (by omega)
    have h22_8 : R 61 (10 * gn.toInt.toNat + 8) = v3593 := by rw [hw9, show 10 * gn.toInt.toNat + 8 = (v3595 : Int32).toNatClampNeg by show _ = v3595.toInt.toNat; omega]; exact pk_us
    have hRR := mz_frp (K := [24, 25, 27, 28, 61]) (Fa := Ra) hj9 hRR (by decide)
    have hk_0 : (0 : Int32).toInt = 0 := by decide
    have hk_0 : (0 : Int32).toInt = 0 := by decide
    have hk_0 : (0 : Int32).toInt = 0 := by decide
    have hk_0 : (0 : Int32).toInt = 0 := by decide
    have hk_1 : (1 : Int32).toInt = 1 := by decide
    exact mz_vret hx hb hr hlocks ⟨hIF, hIG, hIR, hFF, hRR, hGG, (by rw [hf3582, hf3584]; omega), (by rw [hf3584]; omega), (by rw [hf3582, hf3584, hf3586]; omega), (by rw [hf3582, hf3584, hf3586, hf3588]; omega), (by rw [hf3582]; omega), (by rw [hf3592]; omega), (by rw [hf3582, hf3592]; omega), (by rw [hf3590]; omega), (by rw [hf3582, hf3590]; omega), (by rw [hf3590, hf3592, hf111]; exact fun h9 => mz_snoc (N := gn.toInt.toNat) (hC h9) (by omega) (by omega) hL22 (by decide) (by omega) (by intro d hd; simp only [List.mem_cons, List.not_mem_nil, or_false] at hd; rcases hd with rfl | rfl | rfl | rfl <;> first | (rw [show 10 * gn.toInt.toNat + 1 + 1 = 10 * gn.toInt.toNat + 2 from rfl, h22_1, h22_2]; exact ⟨hX3524 h9, by omega⟩) | (rw [show 10 * gn.toInt.toNat + 3 + 1 = 10 * gn.toInt.toNat + 4 from rfl, h22_3, h22_4]; exact ⟨WFX.nil (by omega) (by omega), by omega⟩) | (rw [show 10 * gn.toInt.toNat + 5 + 1 = 10 * gn.toInt.toNat + 6 from rfl, h22_5, h22_6]; exact ⟨WFX.nil (by omega) (by omega), by omega⟩) | (rw [show 10 * gn.toInt.toNat + 7 + 1 = 10 * gn.toInt.toNat + 8 from rfl, h22_7, h22_8]; exact ⟨hX3594 h9, by omega⟩))), (by rw [hf3590, hf111]; exact fun h9 => TMS.snoc (N := gn.toInt.toNat) hx_1 (by omega) (by omega) hL22 h22_9 (by omega) (by omega))⟩ hM hS dX13_readOrder_273
set_option maxHeartbeats 4000000 in
set_option maxRecDepth 100000 in
theorem kz_X13_readOrder_c7 (l : Launch) (D : va_G) (cy : Nat → ClassId) (ld ad : Nat → Nat) (am : Nat) (hD : mz_D ad am) (Fa : Nat → Int32) (Ga : Nat → Int64) (Ra : Nat → Nat → Int32) (Sa : Nat → Nat → Int64) (gf : Int32) (gt : Int32) (gs : Int32) (gp : Int32) (gw : Int64) (gb : Int32) (gc : Int32) (gn : Int32) {p : Program} {e : Env} {s : State} {m : MethodId} {args : Array Value} {below : List Frame} {meth : Method} {c : Code} (hx : p.tables.exec = Jvm.exec) (hb : c.code = cX13_readOrder) (hr : meth.sig.returnType = none) (hml : c.maxLocals = 4) (hts : ∀ w ∈ wl yX13_readOrder cX13_readOrder 4 none, w.before args s = true) (htl : ∀ w ∈ wsA, w.before args s = true) (hown : s.vm.findClass RX13 = some m.cls) (hlocks : meth.locks = false) (hK : kk_K D cy ld s) (hp_0 : 0 ≤ (-1) * gf.toInt + gt.toInt) (hp_1 : 0 ≤ gp.toInt + (-1) * gt.toInt) (hp_2 : (1 ≤ gs.toInt → 0 ≤ (-1) * gf.toInt + gt.toInt + (-1))) (hp_3 : (27 ≤ gw.toInt → 1 ≤ gs.toInt → gs.toInt ≤ 1 → 0 ≤ (-1) * gf.toInt + gt.toInt + (-2))) (hp_4 : 0 ≤ (-1) * gc.toInt + gf.toInt) (hp_5 : gb.toInt ≤ 0) (hx_0 : CLS 10 [1, 3, 5, 7] (Ra 24) (Ra 25) (Ra 61) gc.toInt gn.toInt) (hx_1 : TMS (Ra 61) gn.toInt) (v108 : Int32) (v109 : Int32) (v3523 : Int32) (v3615 : Int32) (v3625 : Int32) (v3627 : Int32) (v3629 : Int32) (v3633 : Int32) (v38 : Int32) (w3631 : Int64) (H : Heap) (locs : List Loc) (F : Nat → Int32) (G : Nat → Int64) (R : Nat → Nat → Int32) (S : Nat → Nat → Int64) (hq0_kz_X13_readOrder_c7 : v109.toInt ≤ 12) (hq1_kz_X13_readOrder_c7 : v3627.toInt ≤ 400) (hq2_kz_X13_readOrder_c7 : v3629.toInt ≤ 3) (hq3_kz_X13_readOrder_c7 : v3633.toInt ≤ 1) (hq4_kz_X13_readOrder_c7 : 1 ≤ v38.toInt) (hq5_kz_X13_readOrder_c7 : 0 ≤ (-1) * gf.toInt + gt.toInt + (-1)) (hq6_kz_X13_readOrder_c7 : (-10) * gn.toInt + v108.toInt = 0) (hq7_kz_X13_readOrder_c7 : (-1) * gn.toInt + v109.toInt + (-1) = 0) (hq8_kz_X13_readOrder_c7 : 0 ≤ (-1) * gc.toInt + v3523.toInt) (hq9_kz_X13_readOrder_c7 : 0 ≤ gb.toInt + (-1) * v38.toInt + 1) (hq10_kz_X13_readOrder_c7 : 0 ≤ gc.toInt + (-1) * v38.toInt + 1) (hq11_kz_X13_readOrder_c7 : 0 ≤ gs.toInt + (-1) * v38.toInt) (hq12_kz_X13_readOrder_c7 : 0 ≤ (-1) * gs.toInt + v38.toInt) (hq13_kz_X13_readOrder_c7 : 0 ≤ (-1) * v3625.toInt + v3627.toInt) (hq14_kz_X13_readOrder_c7 : 0 ≤ gp.toInt + (-1) * v3627.toInt) (hq15_kz_X13_readOrder_c7 : 0 ≤ (-1) * gb.toInt + v109.toInt + (-1)) (hq16_kz_X13_readOrder_c7 : 0 ≤ (-1) * gt.toInt + v3625.toInt + (-2)) (hq17_kz_X13_readOrder_c7 : 0 ≤ (-1) * v3523.toInt + v3625.toInt + (-2)) (hq18_kz_X13_readOrder_c7 : 0 ≤ (-1) * gb.toInt + v3629.toInt) (hq19_kz_X13_readOrder_c7 : 0 ≤ (-1) * gb.toInt + v3633.toInt) (hM : mz_S D cy ad am F G R S H) (hS : va_S (mz_W ad am) s.heap H locs) (hIF : mz_IF false F) (hIG : mz_IG G) (hIR : mz_IR [] true R) (hFF : ∀ k : Nat, k ∉ ([14, 15, 16, 18, 19, 21, 23, 26, 29, 30] : List Nat) → F k = Fa k) (hGG : ∀ k : Nat, k ∉ ([17] : List Nat) → G k = Ga k) (hRR : ∀ k : Nat, k ∉ ([24, 25, 27, 28, 61] : List Nat) → R k = Ra k) (hg_3 : F 13 = gp) (hf111 : F 21 = v109) (hf3522 : F 23 = v3523) (hf3624 : F 14 = v3625) (hf3626 : F 15 = v3627) (hf3628 : F 16 = v3629) (hf3630 : G 17 = w3631) (hf3632 : F 19 = v3633) (hc0_kz_X13_readOrder_c7 : (27 ≤ gw.toInt → 1 ≤ gs.toInt → gs.toInt ≤ 1 → 0 ≤ (-1) * gf.toInt + gt.toInt + (-2))) (hc1_kz_X13_readOrder_c7 : (27 ≤ gw.toInt → 1 ≤ gs.toInt → gs.toInt ≤ 1 → 0 ≤ (-1) * gf.toInt + gt.toInt + (-2))) (hc2_kz_X13_readOrder_c7 : (1 ≤ v3629.toInt → 0 ≤ (-1) * v3625.toInt + v3627.toInt + (-1))) (hc3_kz_X13_readOrder_c7 : (27 ≤ w3631.toInt → 1 ≤ v3629.toInt → v3629.toInt ≤ 1 → 0 ≤ (-1) * v3625.toInt + v3627.toInt + (-2))) (hc4_kz_X13_readOrder_c7 : (v3633.toInt ≤ 0 → 1 ≤ v3615.toInt ∧ v3615.toInt ≤ 20)) (hL22 : low (10 * gn.toInt.toNat) (Ra 61) (R 61)) (hC : v3633.toInt = 0 → CLS 10 [1, 3, 5, 7] (R 24) (R 25) (Ra 61) gc.toInt gn.toInt) (h22_1 : R 61 (10 * gn.toInt.toNat + 1) = gc) (h22_2 : R 61 (10 * gn.toInt.toNat + 2) = v3523) (h22_3 : R 61 (10 * gn.toInt.toNat + 3) = 0) (h22_4 : R 61 (10 * gn.toInt.toNat + 4) = 0) (h22_5 : R 61 (10 * gn.toInt.toNat + 5) = 0) (h22_6 : R 61 (10 * gn.toInt.toNat + 6) = 0) (h22_7 : R 61 (10 * gn.toInt.toNat + 7) = 0) (h22_8 : R 61 (10 * gn.toInt.toNat + 8) = 0) (h22_0 : R 61 (10 * gn.toInt.toNat + 0) = v38) (h22_9 : R 61 (10 * gn.toInt.toNat + 9) = v3615) (hX3524 : v3633.toInt = 0 → WFX (R 24) (R 25) gc v3523) (ls : Array Slot) (hl : lv_has ls 4 [(2, .int v108), (0, .ref am)]) : W p l e ({ frames := 12, cells := 0, slots := 0, locals := 770 }) s m args below meth c H locs 0 0 (MQ below (mz_w D cy ad am (fun F G R S => mz_IF false F ∧ mz_IG G ∧ mz_IR [] true R ∧ (∀ k : Nat, k ∉ ([14, 15, 16, 18, 19, 21, 23, 26, 29, 30] : List Nat) → F k = Fa k) ∧ (∀ k : Nat, k ∉ ([24, 25, 27, 28, 61] : List Nat) → R k = Ra k) ∧ (∀ k : Nat, k ∉ ([17] : List Nat) → G k = Ga k) ∧ 0 ≤ (-1) * (F 14).toInt + (F 15).toInt ∧ 0 ≤ gp.toInt + (-1) * (F 15).toInt ∧ (1 ≤ (F 16).toInt → 0 ≤ (-1) * (F 14).toInt + (F 15).toInt + (-1)) ∧ (27 ≤ (G 17).toInt → 1 ≤ (F 16).toInt → (F 16).toInt ≤ 1 → 0 ≤ (-1) * (F 14).toInt + (F 15).toInt + (-2)) ∧ 0 ≤ (-1) * gf.toInt + (F 14).toInt ∧ 0 ≤ (-1) * gc.toInt + (F 23).toInt ∧ 0 ≤ (-1) * (F 23).toInt + (F 14).toInt ∧ 0 ≤ (-1) * gb.toInt + (F 19).toInt ∧ ((F 19).toInt ≤ 0 → 0 ≤ (-1) * gf.toInt + (F 14).toInt + (-1)) ∧ ((F 19).toInt = 0 → CLS 10 [1, 3, 5, 7] (R 24) (R 25) (R 61) (F 23).toInt (F 21).toInt) ∧ ((F 19).toInt = 0 → TMS (R 61) (F 21).toInt))) args s 0 0 (mz_W ad am)) (F0 m 221 ls []) := by
  have hq_gb := tk_rng gb
  have hq_gc := tk_rng gc
  have hq_gf := tk_rng gf
  have hq_gn := tk_rng gn
  have hq_gp := tk_rng gp
  have hq_gs := tk_rng gs
  have hq_gt := tk_rng gt
  have hq_gw := tk_rngL gw
  have hq_v108 := tk_rng v108
  have hq_v109 := tk_rng v109
  have hq_v3523 := tk_rng v3523
  have hq_v3615 := tk_rng v3615
  have hq_v3625 := tk_rng v3625
  have hq_v3627 := tk_rng v3627
  have hq_v3629 := tk_rng v3629
  have hq_v3633 := tk_rng v3633
  have hq_v38 := tk_rng v38
  have hq_w3631 := tk_rngL w3631
  have hr_gp : 0 ≤ gp.toInt ∧ gp.toInt ≤ 400 := hIF.at hg_3
  have hr_v109 : 0 ≤ v109.toInt ∧ v109.toInt ≤ 12 := hIF.at hf111
  have hr_v3523 : 0 ≤ v3523.toInt ∧ v3523.toInt ≤ 400 := hIF.at hf3522
  have hr_v3625 : 0 ≤ v3625.toInt ∧ v3625.toInt ≤ 400 := hIF.at hf3624
  have hr_v3627 : 0 ≤ v3627.toInt ∧ v3627.toInt ≤ 400 := hIF.at hf3626
  have hr_v3629 : 0 ≤ v3629.toInt ∧ v3629.toInt ≤ 3 := hIF.at hf3628
  have hr_v3633 : 0 ≤ v3633.toInt ∧ v3633.toInt ≤ 1 := hIF.at hf3632
  refine lv_aload_n hx hb dX13_readOrder_221 rfl (lv_at hl 1 rfl) ?_
  refine mz_getR hx hb htl hown hK hM 61 (Nat.le_of_ble_eq_true rfl) (Nat.le_of_ble_eq_true rfl) (htl _ mw_239) (fun _ h9 => h9) dX13_readOrder_222 ?_
  refine lv_iload_n hx hb dX13_readOrder_225 rfl (lv_at hl 0 rfl) ?_
  refine lv_bipush (v := 7) hx hb dX13_readOrder_226 (by decide) ?_
  refine lv_iadd hx hb dX13_readOrder_228 ?_
  refine tk_add rfl (show (7 : Int32).toInt = 7 by decide) (by omega) (by omega) (fun v3636 h_v3636 => ?_)
  refine lv_aload_n hx hb dX13_readOrder_229 rfl (lv_at hl 1 rfl) ?_
  refine mz_getI hx hb htl hown hK hM 23 (Nat.le_of_ble_eq_true rfl) rfl (htl _ mw_670) (fun _ h9 => h9) dX13_readOrder_230 (fun v9 e9 => ?_)
  refine fx_ti (v := v3523) (e9.symm.trans hf3522) ?_
  refine mz_iast (x := v3523) hx hb hK hD hM hS 61 (Nat.le_of_ble_eq_true rfl) rfl (nn := 120) rfl rfl (by omega) (by omega) dX13_readOrder_233 (fun H locs R hM hS hw9 hj9 => ?_)
  have hIR := hIR.put hw9 hj9 trivial
  have hL22 : low (10 * gn.toInt.toNat) (Ra 61) (R 61) := fun j hj => by rw [hw9, pk_un (fun h9 => by have h8 := tk_nat (i := v3636) rfl (by omega); omega)]; exact hL22 j hj
  have h22_1 : R 61 (10 * gn.toInt.toNat + 1) = gc := by rw [hw9, pk_un (fun h9 => by have h8 := tk_nat (i := v3636) rfl (by omega); omega)]; exact h22_1
  have h22_2 : R 61 (10 * gn.toInt.toNat + 2) = v3523 := by rw [hw9, pk_un (fun h9 => by have h8 := tk_nat (i := v3636) rfl (by omega); omega)]; exact h22_2
  have h22_3 : R 61 (10 * gn.toInt.toNat + 3) = 0 := by rw [hw9, pk_un (fun h9 => by have h8 := tk_nat (i := v3636) rfl (by omega); omega)]; exact h22_3
  have h22_4 : R 61 (10 * gn.toInt.toNat + 4) = 0 := by rw [hw9, pk_un (fun h9 => by have h8 := tk_nat (i := v3636) rfl (by omega); omega)]; exact h22_4
  have h22_5 : R 61 (10 * gn.toInt.toNat + 5) = 0 := by rw [hw9, pk_un (fun h9 => by have h8 := tk_nat (i := v3636) rfl (by omega); omega)]; exact h22_5
  have h22_6 : R 61 (10 * gn.toInt.toNat + 6) = 0 := by rw [hw9, pk_un (fun h9 => by have h8 := tk_nat (i := v3636) rfl (by omega); omega)]; exact h22_6
  have h22_8 : R 61 (10 * gn.toInt.toNat + 8) = 0 := by rw [hw9, pk_un (fun h9 => by have h8 := tk_nat (i := v3636) rfl (by omega); omega)]; exact h22_8
  have h22_0 : R 61 (10 * gn.toInt.toNat + 0) = v38 := by rw [hw9, pk_un (fun h9 => by have h8 := tk_nat (i := v3636) rfl (by omega); omega)]; exact h22_0
  have h22_9 : R 61 (10 * gn.toInt.toNat + 9) = v3615 := by rw [hw9, pk_un (fun h9 => by have h8 := tk_nat (i := v3636) rfl (by omega); omega)]; exact h22_9
  have hC9 := hC
  have hC : v3633.toInt = 0 → CLS 10 [1, 3, 5, 7] (R 24) (R 25) (Ra 61) gc.toInt gn.toInt := fun h9 => (hC9 (by omega)).to (hj9 24 (by decide)) (hj9 25 (by decide))
  have hX35249 := hX3524
  have hX3524 : v3633.toInt = 0 → WFX (R 24) (R 25) gc v3523 := fun h9 => by rw [hj9 24 (by decide), hj9 25 (by decide)]; exact hX35249 (by omega)
  have h22_7 : R 61 (10 * gn.toInt.toNat + 7) = v3523 := by rw [hw9, show 10 * gn.toInt.toNat + 7 = (v3636 : Int32).toNatClampNeg by show _ = v3636.toInt.toNat; omega]; exact pk_us
  have hRR := mz_frp (K := [24, 25, 27, 28, 61]) (Fa := Ra) hj9 hRR (by decide)
  refine lv_aload_n hx hb dX13_readOrder_234 rfl (lv_at hl 1 rfl) ?_
  refine mz_getI hx hb htl hown hK hM 19 (Nat.le_of_ble_eq_true rfl) rfl (htl _ mw_668) (fun _ h9 => h9) dX13_readOrder_235 (fun v9 e9 => ?_)
  refine fx_ti (v := v3633) (e9.symm.trans hf3632) ?_
  refine lv_if_ne (tgt := 260) hx hb dX13_readOrder_238 (by decide) (fun c9 => ?_) (fun c9 => ?_)
  · have hc3638 : ¬ (v3633.toInt = 0) := fun h9 => c9 ((fi_eq rfl (show (0 : Int32).toInt = 0 by decide)).mpr h9)
    refine lv_aload_n hx hb dX13_readOrder_260 rfl (lv_at hl 1 rfl) ?_
    refine mz_getR hx hb htl hown hK hM 61 (Nat.le_of_ble_eq_true rfl) (Nat.le_of_ble_eq_true rfl) (htl _ mw_239) (fun _ h9 => h9) dX13_readOrder_261 ?_
    refine lv_iload_n hx hb dX13_readOrder_264 rfl (lv_at hl 0 rfl) ?_
    refine lv_bipush (v := 8) hx hb dX13_readOrder_265 (by decide) ?_
    refine lv_iadd hx hb dX13_readOrder_267 ?_
    refine tk_add rfl (show (8 : Int32).toInt = 8 by decide) (by omega) (by omega) (fun v3639 h_v3639 => ?_)
    refine lv_aload_n hx hb dX13_readOrder_268 rfl (lv_at hl 1 rfl) ?_
    refine mz_getI hx hb htl hown hK hM 23 (Nat.le_of_ble_eq_true rfl) rfl (htl _ mw_670) (fun _ h9 => h9) dX13_readOrder_269 (fun v9 e9 => ?_)
    refine fx_ti (v := v3523) (e9.symm.trans hf3522) ?_
    refine mz_iast (x := v3523) hx hb hK hD hM hS 61 (Nat.le_of_ble_eq_true rfl) rfl (nn := 120) rfl rfl (by omega) (by omega) dX13_readOrder_272 (fun H locs R hM hS hw9 hj9 => ?_)
    have hIR := hIR.put hw9 hj9 trivial
    have hL22 : low (10 * gn.toInt.toNat) (Ra 61) (R 61) := fun j hj => by rw [hw9, pk_un (fun h9 => by have h8 := tk_nat (i := v3639) rfl (by omega); omega)]; exact hL22 j hj
    have h22_1 : R 61 (10 * gn.toInt.toNat + 1) = gc := by rw [hw9, pk_un (fun h9 => by have h8 := tk_nat (i := v3639) rfl (by omega); omega)]; exact h22_1
    have h22_2 : R 61 (10 * gn.toInt.toNat + 2) = v3523 := by rw [hw9, pk_un (fun h9 => by have h8 := tk_nat (i := v3639) rfl (by omega); omega)]; exact h22_2
    have h22_3 : R 61 (10 * gn.toInt.toNat + 3) = 0 := by rw [hw9, pk_un (fun h9 => by have h8 := tk_nat (i := v3639) rfl (by omega); omega)]; exact h22_3
    have h22_4 : R 61 (10 * gn.toInt.toNat + 4) = 0 := by rw [hw9, pk_un (fun h9 => by have h8 := tk_nat (i := v3639) rfl (by omega); omega)]; exact h22_4
    have h22_5 : R 61 (10 * gn.toInt.toNat + 5) = 0 := by rw [hw9, pk_un (fun h9 => by have h8 := tk_nat (i := v3639) rfl (by omega); omega)]; exact h22_5
    have h22_6 : R 61 (10 * gn.toInt.toNat + 6) = 0 := by rw [hw9, pk_un (fun h9 => by have h8 := tk_nat (i := v3639) rfl (by omega); omega)]; exact h22_6
    have h22_7 : R 61 (10 * gn.toInt.toNat + 7) = v3523 := by rw [hw9, pk_un (fun h9 => by have h8 := tk_nat (i := v3639) rfl (by omega); omega)]; exact h22_7
    have h22_0 : R 61 (10 * gn.toInt.toNat + 0) = v38 := by rw [hw9, pk_un (fun h9 => by have h8 := tk_nat (i := v3639) rfl (by omega); omega)]; exact h22_0
    have h22_9 : R 61 (10 * gn.toInt.toNat + 9) = v3615 := by rw [hw9, pk_un (fun h9 => by have h8 := tk_nat (i := v3639) rfl (by omega); omega)]; exact h22_9
    have hC9 := hC
    have hC : v3633.toInt = 0 → CLS 10 [1, 3, 5, 7] (R 24) (R 25) (Ra 61) gc.toInt gn.toInt := fun h9 => (hC9 (by omega)).to (hj9 24 (by decide)) (hj9 25 (by decide))
    have hX35249 := hX3524
    have hX3524 : v3633.toInt = 0 → WFX (R 24) (R 25) gc v3523 := fun h9 => by rw [hj9 24 (by decide), hj9 25 (by decide)]; exact hX35249 (by omega)
    have h22_8 : R 61 (10 * gn.toInt.toNat + 8) = v3523 := by rw [hw9, show 10 * gn.toInt.toNat + 8 = (v3639 : Int32).toNatClampNeg by show _ = v3639.toInt.toNat; omega]; exact pk_us
    have hRR := mz_frp (K := [24, 25, 27, 28, 61]) (Fa := Ra) hj9 hRR (by decide)
    exact mz_vret hx hb hr hlocks ⟨hIF, hIG, hIR, hFF, hRR, hGG, (by rw [hf3624, hf3626]; omega), (by rw [hf3626]; omega), (by rw [hf3624, hf3626, hf3628]; omega), (by rw [hf3624, hf3626, hf3628, hf3630]; omega), (by rw [hf3624]; omega), (by rw [hf3522]; omega), (by rw [hf3624, hf3522]; omega), (by rw [hf3632]; omega), (by rw [hf3624, hf3632]; omega), (by rw [hf3632]; exact fun h9 => absurd h9 (by omega)), (by rw [hf3632]; exact fun h9 => absurd h9 (by omega))⟩ hM hS dX13_readOrder_273
  · have hc3638 : v3633.toInt = 0 := (fi_eq rfl (show (0 : Int32).toInt = 0 by decide)).mp c9
    have hwk_3641 : 1 ≤ v3615.toInt ∧ v3615.toInt ≤ 20 := by omega
    refine lv_aload_n hx hb dX13_readOrder_241 rfl (lv_at hl 1 rfl) ?_
    refine lv_ldc2 hx hb hown (htl _ mw_705) dX13_readOrder_242 ?_
    have hk_294 : (294 : Int64).toInt = 294 := by decide
    refine mz_Vj (As := [.long 294]) (rest := []) ⟨hx, hb, hml, hown, hts⟩ hK hM hS (k_X13_isWord l D cy ld ad am hD _ _ _ _ 294 v3629 w3631 hIF hIG hIR hf3628 hf3630) ⟨callB_of 1 hts (wl_in mw_709) rfl rfl rfl (htl _ mw_5) (htl _ mw_706) hd_yX13_isWord ⟨(Nat.le_of_ble_eq_true rfl), (Nat.le_of_ble_eq_true rfl)⟩, htl _ mw_707, htl _ mw_708⟩ rfl hl.1 rfl (Nat.le_of_ble_eq_true rfl) dX13_readOrder_245 ⟨(Nat.le_of_ble_eq_true rfl), (Nat.le_of_ble_eq_true rfl)⟩ (fun v3642 H locs hpo hM hS => ?_)
    obtain ⟨hpo3643, hpo3644, hpo3645, hpo3646, hpo3647⟩ := hpo
    have hq_v3642 := tk_rng v3642
    refine lv_if_eq (tgt := 260) hx hb dX13_readOrder_248 (by decide) (fun c9 => ?_) (fun c9 => ?_)
    · have hc3649 : v3642.toInt = 0 := (fi_eq rfl (show (0 : Int32).toInt = 0 by decide)).mp c9
      refine lv_aload_n hx hb dX13_readOrder_260 rfl (lv_at hl 1 rfl) ?_
      refine mz_getR hx hb htl hown hK hM 61 (Nat.le_of_ble_eq_true rfl) (Nat.le_of_ble_eq_true rfl) (htl _ mw_239) (fun _ h9 => h9) dX13_readOrder_261 ?_
      refine lv_iload_n hx hb dX13_readOrder_264 rfl (lv_at hl 0 rfl) ?_
      refine lv_bipush (v := 8) hx hb dX13_readOrder_265 (by decide) ?_
      refine lv_iadd hx hb dX13_readOrder_267 ?_
      refine tk_add rfl (show (8 : Int32).toInt = 8 by decide) (by omega) (by omega) (fun v3650 h_v3650 => ?_)
      refine lv_aload_n hx hb dX13_readOrder_268 rfl (lv_at hl 1 rfl) ?_
      refine mz_getI hx hb htl hown hK hM 23 (Nat.le_of_ble_eq_true rfl) rfl (htl _ mw_670) (fun _ h9 => h9) dX13_readOrder_269 (fun v9 e9 => ?_)
      refine fx_ti (v := v3523) (e9.symm.trans hf3522) ?_
      refine mz_iast (x := v3523) hx hb hK hD hM hS 61 (Nat.le_of_ble_eq_true rfl) rfl (nn := 120) rfl rfl (by omega) (by omega) dX13_readOrder_272 (fun H locs R hM hS hw9 hj9 => ?_)
      have hIR := hIR.put hw9 hj9 trivial
      have hL22 : low (10 * gn.toInt.toNat) (Ra 61) (R 61) := fun j hj => by rw [hw9, pk_un (fun h9 => by have h8 := tk_nat (i := v3650) rfl (by omega); omega)]; exact hL22 j hj
      have h22_1 : R 61 (10 * gn.toInt.toNat + 1) = gc := by rw [hw9, pk_un (fun h9 => by have h8 := tk_nat (i := v3650) rfl (by omega); omega)]; exact h22_1
      have h22_2 : R 61 (10 * gn.toInt.toNat + 2) = v3523 := by rw [hw9, pk_un (fun h9 => by have h8 := tk_nat (i := v3650) rfl (by omega); omega)]; exact h22_2
      have h22_3 : R 61 (10 * gn.toInt.toNat + 3) = 0 := by rw [hw9, pk_un (fun h9 => by have h8 := tk_nat (i := v3650) rfl (by omega); omega)]; exact h22_3
      have h22_4 : R 61 (10 * gn.toInt.toNat + 4) = 0 := by rw [hw9, pk_un (fun h9 => by have h8 := tk_nat (i := v3650) rfl (by omega); omega)]; exact h22_4
      have h22_5 : R 61 (10 * gn.toInt.toNat + 5) = 0 := by rw [hw9, pk_un (fun h9 => by have h8 := tk_nat (i := v3650) rfl (by omega); omega)]; exact h22_5
      have h22_6 : R 61 (10 * gn.toInt.toNat + 6) = 0 := by rw [hw9, pk_un (fun h9 => by have h8 := tk_nat (i := v3650) rfl (by omega); omega)]; exact h22_6
      have h22_7 : R 61 (10 * gn.toInt.toNat + 7) = v3523 := by rw [hw9, pk_un (fun h9 => by have h8 := tk_nat (i := v3650) rfl (by omega); omega)]; exact h22_7
      have h22_0 : R 61 (10 * gn.toInt.toNat + 0) = v38 := by rw [hw9, pk_un (fun h9 => by have h8 := tk_nat (i := v3650) rfl (by omega); omega)]; exact h22_0
      have h22_9 : R 61 (10 * gn.toInt.toNat + 9) = v3615 := by rw [hw9, pk_un (fun h9 => by have h8 := tk_nat (i := v3650) rfl (by omega); omega)]; exact h22_9
      have hC9 := hC
      have hC : v3633.toInt = 0 → CLS 10 [1, 3, 5, 7] (R 24) (R 25) (Ra 61) gc.toInt gn.toInt := fun h9 => (hC9 (by omega)).to (hj9 24 (by decide)) (hj9 25 (by decide))
      have hX35249 := hX3524
      have hX3524 : v3633.toInt = 0 → WFX (R 24) (R 25) gc v3523 := fun h9 => by rw [hj9 24 (by decide), hj9 25 (by decide)]; exact hX35249 (by omega)
      have h22_8 : R 61 (10 * gn.toInt.toNat + 8) = v3523 := by rw [hw9, show 10 * gn.toInt.toNat + 8 = (v3650 : Int32).toNatClampNeg by show _ = v3650.toInt.toNat; omega]; exact pk_us
      have hRR := mz_frp (K := [24, 25, 27, 28, 61]) (Fa := Ra) hj9 hRR (by decide)
      have hk_0 : (0 : Int32).toInt = 0 := by decide
      have hk_0 : (0 : Int32).toInt = 0 := by decide
      have hk_0 : (0 : Int32).toInt = 0 := by decide
      have hk_0 : (0 : Int32).toInt = 0 := by decide
      exact mz_vret hx hb hr hlocks ⟨hIF, hIG, hIR, hFF, hRR, hGG, (by rw [hf3624, hf3626]; omega), (by rw [hf3626]; omega), (by rw [hf3624, hf3626, hf3628]; omega), (by rw [hf3624, hf3626, hf3628, hf3630]; omega), (by rw [hf3624]; omega), (by rw [hf3522]; omega), (by rw [hf3624, hf3522]; omega), (by rw [hf3632]; omega), (by rw [hf3624, hf3632]; omega), (by rw [hf3632, hf3522, hf111]; exact fun h9 => mz_snoc (N := gn.toInt.toNat) (hC h9) (by omega) (by omega) hL22 (by decide) (by omega) (by intro d hd; simp only [List.mem_cons, List.not_mem_nil, or_false] at hd; rcases hd with rfl | rfl | rfl | rfl <;> first | (rw [show 10 * gn.toInt.toNat + 1 + 1 = 10 * gn.toInt.toNat + 2 from rfl, h22_1, h22_2]; exact ⟨hX3524 h9, by omega⟩) | (rw [show 10 * gn.toInt.toNat + 3 + 1 = 10 * gn.toInt.toNat + 4 from rfl, h22_3, h22_4]; exact ⟨WFX.nil (by omega) (by omega), by omega⟩) | (rw [show 10 * gn.toInt.toNat + 5 + 1 = 10 * gn.toInt.toNat + 6 from rfl, h22_5, h22_6]; exact ⟨WFX.nil (by omega) (by omega), by omega⟩) | (rw [show 10 * gn.toInt.toNat + 7 + 1 = 10 * gn.toInt.toNat + 8 from rfl, h22_7, h22_8]; exact ⟨WFX.nil (by omega) (by omega), by omega⟩))), (by rw [hf3632, hf111]; exact fun h9 => TMS.snoc (N := gn.toInt.toNat) hx_1 (by omega) (by omega) hL22 h22_9 (by omega) (by omega))⟩ hM hS dX13_readOrder_273
    · have hc3649 : ¬ (v3642.toInt = 0) := fun h9 => c9 ((fi_eq rfl (show (0 : Int32).toInt = 0 by decide)).mpr h9)
      have hwk_3652 : w3631.toInt + (-294) = 0 ∧ v3629.toInt + (-1) = 0 := by omega
      have hwk_3653 : 0 ≤ (-1) * v3625.toInt + v3627.toInt + (-1) := by omega
      have hwk_3654 : 0 ≤ (-1) * v3625.toInt + v3627.toInt + (-2) := by omega
      refine lv_aload_n hx hb dX13_readOrder_251 rfl (lv_at hl 1 rfl) ?_
      refine mz_Vv (As := []) (rest := []) ⟨hx, hb, hml, hown, hts⟩ hK hM hS (k_X13_next l D cy ld ad am hD _ _ _ _ v3627 gp hIF hIG hIR hf3626 hg_3 (by omega)) ⟨callB_of 0 hts (wl_in mw_685) rfl rfl rfl (htl _ mw_5) (htl _ mw_682) hd_yX13_next ⟨(Nat.le_of_ble_eq_true rfl), (Nat.le_of_ble_eq_true rfl)⟩, htl _ mw_683, htl _ mw_684⟩ rfl hl.1 rfl (Nat.le_of_ble_eq_true rfl) dX13_readOrder_252 ⟨(Nat.le_of_ble_eq_true rfl), (Nat.le_of_ble_eq_true rfl)⟩ (fun H locs F G R S hpo hM hS => ?_)
      obtain ⟨hIF, hIG, hIR, hfr9, hrr9, hgr9, hpo3655, hpo3656, hpo3657, hpo3658, hpo3659⟩ := hpo
      have hFF := mz_fr (K := [14, 15, 16, 18, 19, 21, 23, 26, 29, 30]) (Fa := Fa) hfr9 hFF (by decide)
      have hRR := mz_fr (K := [24, 25, 27, 28, 61]) (Fa := Ra) hrr9 hRR (by decide)
      have hGG := mz_fr (K := [17]) (Fa := Ga) hgr9 hGG (by decide)
      have hg_3 := (hfr9 13 (by decide)).trans hg_3
      have hf111 := (hfr9 21 (by decide)).trans hf111
      have hf3522 := (hfr9 23 (by decide)).trans hf3522
      have hf3632 := (hfr9 19 (by decide)).trans hf3632
      obtain ⟨v3662, hf3661⟩ : ∃ z : Int32, F 14 = z := ⟨_, rfl⟩
      have hq_v3662 := tk_rng v3662
      rw [hf3661] at hpo3655 hpo3656 hpo3658 hpo3659
      have hr_v3662 : 0 ≤ v3662.toInt ∧ v3662.toInt ≤ 400 := hIF.at hf3661
      obtain ⟨v3664, hf3663⟩ : ∃ z : Int32, F 15 = z := ⟨_, rfl⟩
      have hq_v3664 := tk_rng v3664
      rw [hf3663] at hpo3656 hpo3657 hpo3658 hpo3659
      have hr_v3664 : 0 ≤ v3664.toInt ∧ v3664.toInt ≤ 400 := hIF.at hf3663
      obtain ⟨v3666, hf3665⟩ : ∃ z : Int32, F 16 = z := ⟨_, rfl⟩
      have hq_v3666 := tk_rng v3666
      rw [hf3665] at hpo3658 hpo3659
      have hr_v3666 : 0 ≤ v3666.toInt ∧ v3666.toInt ≤ 3 := hIF.at hf3665
      obtain ⟨w3668, hf3667⟩ : ∃ z : Int64, G 17 = z := ⟨_, rfl⟩
      have hq_w3668 := tk_rngL w3668
      rw [hf3667] at hpo3659
      have hL22 := hL22.to (hrr9 61 (by decide))
      have h22_1 := (congrFun (hrr9 61 (by decide)) _).trans h22_1
      have h22_2 := (congrFun (hrr9 61 (by decide)) _).trans h22_2
      have h22_3 := (congrFun (hrr9 61 (by decide)) _).trans h22_3
      have h22_4 := (congrFun (hrr9 61 (by decide)) _).trans h22_4
      have h22_5 := (congrFun (hrr9 61 (by decide)) _).trans h22_5
      have h22_6 := (congrFun (hrr9 61 (by decide)) _).trans h22_6
      have h22_7 := (congrFun (hrr9 61 (by decide)) _).trans h22_7
      have h22_8 := (congrFun (hrr9 61 (by decide)) _).trans h22_8
      have h22_0 := (congrFun (hrr9 61 (by decide)) _).trans h22_0
      have h22_9 := (congrFun (hrr9 61 (by decide)) _).trans h22_9
      have hC9 := hC
      have hC : v3633.toInt = 0 → CLS 10 [1, 3, 5, 7] (R 24) (R 25) (Ra 61) gc.toInt gn.toInt := fun h9 => (hC9 (by omega)).to (hrr9 24 (by decide)) (hrr9 25 (by decide))
      have hX35249 := hX3524
      have hX3524 : v3633.toInt = 0 → WFX (R 24) (R 25) gc v3523 := fun h9 => by rw [hrr9 24 (by decide), hrr9 25 (by decide)]; exact hX35249 (by omega)
      refine lv_aload_n hx hb dX13_readOrder_255 rfl (lv_at hl 1 rfl) ?_
      refine lv_iconst (v := 1) hx hb dX13_readOrder_256 (by decide) ?_
      have hk_1 : (1 : Int32).toInt = 1 := by decide
      refine mz_Vv (As := [.int 1]) (rest := []) ⟨hx, hb, hml, hown, hts⟩ hK hM hS (k_X13_readExpression l D cy ld ad am hD _ _ _ _ 1 v3662 v3664 v3666 gp w3668 v3633 v3523 hIF hIG hIR hf3661 hf3663 hf3665 hg_3 hf3667 hf3632 hf3522 (by omega) (by omega) (by omega) (by omega) (by omega) (by omega) (by omega) (by omega)) ⟨callB_of 1 hts (wl_in mw_717) rfl rfl rfl (htl _ mw_5) (htl _ mw_714) hd_yX13_readExpression ⟨(Nat.le_of_ble_eq_true rfl), (Nat.le_of_ble_eq_true rfl)⟩, htl _ mw_715, htl _ mw_716⟩ rfl hl.1 rfl (Nat.le_of_ble_eq_true rfl) dX13_readOrder_257 ⟨(Nat.le_of_ble_eq_true rfl), (Nat.le_of_ble_eq_true rfl)⟩ (fun H locs F G R S hpo hM hS => ?_)
      obtain ⟨hIF, hIG, hIR, hfr9, hrr9, hgr9, hpo3669, hpo3670, hpo3671, hpo3672, hpo3673, hpo3674, hpo3675, hx3676⟩ := hpo
      have hFF := mz_fr (K := [14, 15, 16, 18, 19, 21, 23, 26, 29, 30]) (Fa := Fa) hfr9 hFF (by decide)
      have hRR := mz_fr (K := [24, 25, 27, 28, 61]) (Fa := Ra) hrr9 hRR (by decide)
      have hGG := mz_fr (K := [17]) (Fa := Ga) hgr9 hGG (by decide)
      have hg_3 := (hfr9 13 (by decide)).trans hg_3
      have hf111 := (hfr9 21 (by decide)).trans hf111
      obtain ⟨v3679, hf3678⟩ : ∃ z : Int32, F 14 = z := ⟨_, rfl⟩
      have hq_v3679 := tk_rng v3679
      rw [hf3678] at hpo3669 hpo3671 hpo3672 hpo3673 hpo3674
      have hr_v3679 : 0 ≤ v3679.toInt ∧ v3679.toInt ≤ 400 := hIF.at hf3678
      obtain ⟨v3681, hf3680⟩ : ∃ z : Int32, F 15 = z := ⟨_, rfl⟩
      have hq_v3681 := tk_rng v3681
      rw [hf3680] at hpo3669 hpo3670 hpo3671 hpo3672
      have hr_v3681 : 0 ≤ v3681.toInt ∧ v3681.toInt ≤ 400 := hIF.at hf3680
      obtain ⟨v3683, hf3682⟩ : ∃ z : Int32, F 16 = z := ⟨_, rfl⟩
      have hq_v3683 := tk_rng v3683
      rw [hf3682] at hpo3671 hpo3672
      have hr_v3683 : 0 ≤ v3683.toInt ∧ v3683.toInt ≤ 3 := hIF.at hf3682
      obtain ⟨w3685, hf3684⟩ : ∃ z : Int64, G 17 = z := ⟨_, rfl⟩
      have hq_w3685 := tk_rngL w3685
      rw [hf3684] at hpo3672
      obtain ⟨v3687, hf3686⟩ : ∃ z : Int32, F 19 = z := ⟨_, rfl⟩
      have hq_v3687 := tk_rng v3687
      have hr_v3687 : 0 ≤ v3687.toInt ∧ v3687.toInt ≤ 1 := hIF.at hf3686
      obtain ⟨v3689, hf3688⟩ : ∃ z : Int32, F 23 = z := ⟨_, rfl⟩
      have hq_v3689 := tk_rng v3689
      rw [hf3688] at hpo3674 hpo3675
      have hr_v3689 : 0 ≤ v3689.toInt ∧ v3689.toInt ≤ 400 := hIF.at hf3688
      have hL22 := hL22.to (hrr9 61 (by decide))
      have h22_1 := (congrFun (hrr9 61 (by decide)) _).trans h22_1
      have h22_2 := (congrFun (hrr9 61 (by decide)) _).trans h22_2
      have h22_3 := (congrFun (hrr9 61 (by decide)) _).trans h22_3
      have h22_4 := (congrFun (hrr9 61 (by decide)) _).trans h22_4
      have h22_5 := (congrFun (hrr9 61 (by decide)) _).trans h22_5
      have h22_6 := (congrFun (hrr9 61 (by decide)) _).trans h22_6
      have h22_7 := (congrFun (hrr9 61 (by decide)) _).trans h22_7
      have h22_8 := (congrFun (hrr9 61 (by decide)) _).trans h22_8
      have h22_0 := (congrFun (hrr9 61 (by decide)) _).trans h22_0
      have h22_9 := (congrFun (hrr9 61 (by decide)) _).trans h22_9
      have hE9 : v3687.toInt = 0 → WFC (R 24) (R 25) v3523.toInt.toNat v3689.toInt.toNat ∧ low v3523.toInt.toNat _ (R 24) ∧ low v3523.toInt.toNat _ (R 25) := fun h9 => by have h8 := hx3676 (by rw [hf3686]; exact h9); rw [hf3688] at h8; exact h8
      have hC9 := hC (by omega)
      have hC : v3687.toInt = 0 → CLS 10 [1, 3, 5, 7] (R 24) (R 25) (Ra 61) gc.toInt gn.toInt := fun h9 => hC9.low (N := v3523.toInt.toNat) (by omega) (hE9 h9).2.1 (hE9 h9).2.2
      have hX35249 := hX3524 (by omega)
      have hX3524 : v3687.toInt = 0 → WFX (R 24) (R 25) gc v3523 := fun h9 => hX35249.low (n := v3523.toInt.toNat) (by omega) (hE9 h9).2.1 (hE9 h9).2.2
      have hX3690 : v3687.toInt = 0 → WFX (R 24) (R 25) v3523 v3689 := fun h9 => ⟨by omega, by omega, by omega, (hE9 h9).1⟩
      refine lv_aload_n hx hb dX13_readOrder_260 rfl (lv_at hl 1 rfl) ?_
      refine mz_getR hx hb htl hown hK hM 61 (Nat.le_of_ble_eq_true rfl) (Nat.le_of_ble_eq_true rfl) (htl _ mw_239) (fun _ h9 => h9) dX13_readOrder_261 ?_
      refine lv_iload_n hx hb dX13_readOrder_264 rfl (lv_at hl 0 rfl) ?_
      refine lv_bipush (v := 8) hx hb dX13_readOrder_265 (by decide) ?_
      refine lv_iadd hx hb dX13_readOrder_267 ?_
      refine tk_add rfl (show (8 : Int32).toInt = 8 by decide) (by omega) (by omega) (fun v3691 h_v3691 => ?_)
      refine lv_aload_n hx hb dX13_readOrder_268 rfl (lv_at hl 1 rfl) ?_
      refine mz_getI hx hb htl hown hK hM 23 (Nat.le_of_ble_eq_true rfl) rfl (htl _ mw_670) (fun _ h9 => h9) dX13_readOrder_269 (fun v9 e9 => ?_)
      refine fx_ti (v := v3689) (e9.symm.trans hf3688) ?_
      refine mz_iast (x := v3689) hx hb hK hD hM hS 61 (Nat.le_of_ble_eq_true rfl) rfl (nn := 120) rfl rfl (by omega) (by omega) dX13_readOrder_272 (fun H locs R hM hS hw9 hj9 => ?_)
      have hIR := hIR.put hw9 hj9 trivial
      have hL22 : low (10 * gn.toInt.toNat) (Ra 61) (R 61) := fun j hj => by rw [hw9, pk_un (fun h9 => by have h8 := tk_nat (i := v3691) rfl (by omega); omega)]; exact hL22 j hj
      have h22_1 : R 61 (10 * gn.toInt.toNat + 1) = gc := by rw [hw9, pk_un (fun h9 => by have h8 := tk_nat (i := v3691) rfl (by omega); omega)]; exact h22_1
      have h22_2 : R 61 (10 * gn.toInt.toNat + 2) = v3523 := by rw [hw9, pk_un (fun h9 => by have h8 := tk_nat (i := v3691) rfl (by omega); omega)]; exact h22_2
      have h22_3 : R 61 (10 * gn.toInt.toNat + 3) = 0 := by rw [hw9, pk_un (fun h9 => by have h8 := tk_nat (i := v3691) rfl (by omega); omega)]; exact h22_3
      have h22_4 : R 61 (10 * gn.toInt.toNat + 4) = 0 := by rw [hw9, pk_un (fun h9 => by have h8 := tk_nat (i := v3691) rfl (by omega); omega)]; exact h22_4
      have h22_5 : R 61 (10 * gn.toInt.toNat + 5) = 0 := by rw [hw9, pk_un (fun h9 => by have h8 := tk_nat (i := v3691) rfl (by omega); omega)]; exact h22_5
      have h22_6 : R 61 (10 * gn.toInt.toNat + 6) = 0 := by rw [hw9, pk_un (fun h9 => by have h8 := tk_nat (i := v3691) rfl (by omega); omega)]; exact h22_6
      have h22_7 : R 61 (10 * gn.toInt.toNat + 7) = v3523 := by rw [hw9, pk_un (fun h9 => by have h8 := tk_nat (i := v3691) rfl (by omega); omega)]; exact h22_7
      have h22_0 : R 61 (10 * gn.toInt.toNat + 0) = v38 := by rw [hw9, pk_un (fun h9 => by have h8 := tk_nat (i := v3691) rfl (by omega); omega)]; exact h22_0
      have h22_9 : R 61 (10 * gn.toInt.toNat + 9) = v3615 := by rw [hw9, pk_un (fun h9 => by have h8 := tk_nat (i := v3691) rfl (by omega); omega)]; exact h22_9
      have hC9 := hC
      have hC : v3687.toInt = 0 → CLS 10 [1, 3, 5, 7] (R 24) (R 25) (Ra 61) gc.toInt gn.toInt := fun h9 => (hC9 (by omega)).to (hj9 24 (by decide)) (hj9 25 (by decide))
      have hX35249 := hX3524
      have hX3524 : v3687.toInt = 0 → WFX (R 24) (R 25) gc v3523 := fun h9 => by rw [hj9 24 (by decide), hj9 25 (by decide)]; exact hX35249 (by omega)
      have hX36909 := hX3690
      have hX3690 : v3687.toInt = 0 → WFX (R 24) (R 25) v3523 v3689 := fun h9 => by rw [hj9 24 (by decide), hj9 25 (by decide)]; exact hX36909 (by omega)
      have h22_8 : R 61 (10 * gn.toInt.toNat + 8) = v3689 := by rw [hw9, show 10 * gn.toInt.toNat + 8 = (v3691 : Int32).toNatClampNeg by show _ = v3691.toInt.toNat; omega]; exact pk_us
      have hRR := mz_frp (K := [24, 25, 27, 28, 61]) (Fa := Ra) hj9 hRR (by decide)
      have hk_0 : (0 : Int32).toInt = 0 := by decide
      have hk_0 : (0 : Int32).toInt = 0 := by decide
      have hk_0 : (0 : Int32).toInt = 0 := by decide
      have hk_0 : (0 : Int32).toInt = 0 := by decide
      exact mz_vret hx hb hr hlocks ⟨hIF, hIG, hIR, hFF, hRR, hGG, (by rw [hf3678, hf3680]; omega), (by rw [hf3680]; omega), (by rw [hf3678, hf3680, hf3682]; omega), (by rw [hf3678, hf3680, hf3682, hf3684]; omega), (by rw [hf3678]; omega), (by rw [hf3688]; omega), (by rw [hf3678, hf3688]; omega), (by rw [hf3686]; omega), (by rw [hf3678, hf3686]; omega), (by rw [hf3686, hf3688, hf111]; exact fun h9 => mz_snoc (N := gn.toInt.toNat) (hC h9) (by omega) (by omega) hL22 (by decide) (by omega) (by intro d hd; simp only [List.mem_cons, List.not_mem_nil, or_false] at hd; rcases hd with rfl | rfl | rfl | rfl <;> first | (rw [show 10 * gn.toInt.toNat + 1 + 1 = 10 * gn.toInt.toNat + 2 from rfl, h22_1, h22_2]; exact ⟨hX3524 h9, by omega⟩) | (rw [show 10 * gn.toInt.toNat + 3 + 1 = 10 * gn.toInt.toNat + 4 from rfl, h22_3, h22_4]; exact ⟨WFX.nil (by omega) (by omega), by omega⟩) | (rw [show 10 * gn.toInt.toNat + 5 + 1 = 10 * gn.toInt.toNat + 6 from rfl, h22_5, h22_6]; exact ⟨WFX.nil (by omega) (by omega), by omega⟩) | (rw [show 10 * gn.toInt.toNat + 7 + 1 = 10 * gn.toInt.toNat + 8 from rfl, h22_7, h22_8]; exact ⟨hX3690 h9, by omega⟩))), (by rw [hf3686, hf111]; exact fun h9 => TMS.snoc (N := gn.toInt.toNat) hx_1 (by omega) (by omega) hL22 h22_9 (by omega) (by omega))⟩ hM hS dX13_readOrder_273
set_option maxHeartbeats 4000000 in
set_option maxRecDepth 100000 in
theorem kz_X13_readOrder_c4 (l : Launch) (D : va_G) (cy : Nat → ClassId) (ld ad : Nat → Nat) (am : Nat) (hD : mz_D ad am) (Fa : Nat → Int32) (Ga : Nat → Int64) (Ra : Nat → Nat → Int32) (Sa : Nat → Nat → Int64) (gf : Int32) (gt : Int32) (gs : Int32) (gp : Int32) (gw : Int64) (gb : Int32) (gc : Int32) (gn : Int32) {p : Program} {e : Env} {s : State} {m : MethodId} {args : Array Value} {below : List Frame} {meth : Method} {c : Code} (hx : p.tables.exec = Jvm.exec) (hb : c.code = cX13_readOrder) (hr : meth.sig.returnType = none) (hml : c.maxLocals = 4) (hts : ∀ w ∈ wl yX13_readOrder cX13_readOrder 4 none, w.before args s = true) (htl : ∀ w ∈ wsA, w.before args s = true) (hown : s.vm.findClass RX13 = some m.cls) (hlocks : meth.locks = false) (hK : kk_K D cy ld s) (hp_0 : 0 ≤ (-1) * gf.toInt + gt.toInt) (hp_1 : 0 ≤ gp.toInt + (-1) * gt.toInt) (hp_2 : (1 ≤ gs.toInt → 0 ≤ (-1) * gf.toInt + gt.toInt + (-1))) (hp_3 : (27 ≤ gw.toInt → 1 ≤ gs.toInt → gs.toInt ≤ 1 → 0 ≤ (-1) * gf.toInt + gt.toInt + (-2))) (hp_4 : 0 ≤ (-1) * gc.toInt + gf.toInt) (hp_5 : gb.toInt ≤ 0) (hx_0 : CLS 10 [1, 3, 5, 7] (Ra 24) (Ra 25) (Ra 61) gc.toInt gn.toInt) (hx_1 : TMS (Ra 61) gn.toInt) (v108 : Int32) (v109 : Int32) (v3513 : Int32) (v3515 : Int32) (v3517 : Int32) (v3521 : Int32) (v3523 : Int32) (v38 : Int32) (w3519 : Int64) (H : Heap) (locs : List Loc) (F : Nat → Int32) (G : Nat → Int64) (R : Nat → Nat → Int32) (S : Nat → Nat → Int64) (hq0_kz_X13_readOrder_c4 : v109.toInt ≤ 12) (hq1_kz_X13_readOrder_c4 : v3515.toInt ≤ 400) (hq2_kz_X13_readOrder_c4 : v3517.toInt ≤ 3) (hq3_kz_X13_readOrder_c4 : 1 ≤ v38.toInt) (hq4_kz_X13_readOrder_c4 : 0 ≤ (-1) * gf.toInt + gt.toInt + (-1)) (hq5_kz_X13_readOrder_c4 : (-10) * gn.toInt + v108.toInt = 0) (hq6_kz_X13_readOrder_c4 : (-1) * gn.toInt + v109.toInt + (-1) = 0) (hq7_kz_X13_readOrder_c4 : 0 ≤ (-1) * v3513.toInt + v3515.toInt) (hq8_kz_X13_readOrder_c4 : 0 ≤ gp.toInt + (-1) * v3515.toInt) (hq9_kz_X13_readOrder_c4 : 0 ≤ (-1) * gc.toInt + v3523.toInt) (hq10_kz_X13_readOrder_c4 : 0 ≤ v3513.toInt + (-1) * v3523.toInt) (hq11_kz_X13_readOrder_c4 : 0 ≤ gb.toInt + (-1) * v38.toInt + 1) (hq12_kz_X13_readOrder_c4 : 0 ≤ gc.toInt + (-1) * v38.toInt + 1) (hq13_kz_X13_readOrder_c4 : 0 ≤ gs.toInt + (-1) * v3521.toInt) (hq14_kz_X13_readOrder_c4 : 0 ≤ gs.toInt + (-1) * v38.toInt) (hq15_kz_X13_readOrder_c4 : 0 ≤ (-1) * gs.toInt + v109.toInt) (hq16_kz_X13_readOrder_c4 : 0 ≤ (-1) * gt.toInt + v3513.toInt) (hq17_kz_X13_readOrder_c4 : 0 ≤ (-1) * gs.toInt + v3517.toInt + 1) (hq18_kz_X13_readOrder_c4 : 0 ≤ (-1) * gs.toInt + v3521.toInt + 1) (hq19_kz_X13_readOrder_c4 : 0 ≤ (-1) * gs.toInt + v38.toInt) (hM : mz_S D cy ad am F G R S H) (hS : va_S (mz_W ad am) s.heap H locs) (hIF : mz_IF false F) (hIG : mz_IG G) (hIR : mz_IR [] true R) (hFF : ∀ k : Nat, k ∉ ([14, 15, 16, 18, 19, 21, 23, 26, 29, 30] : List Nat) → F k = Fa k) (hGG : ∀ k : Nat, k ∉ ([17] : List Nat) → G k = Ga k) (hRR : ∀ k : Nat, k ∉ ([24, 25, 27, 28, 61] : List Nat) → R k = Ra k) (hg_3 : F 13 = gp) (hf111 : F 21 = v109) (hf3512 : F 14 = v3513) (hf3514 : F 15 = v3515) (hf3516 : F 16 = v3517) (hf3518 : G 17 = w3519) (hf3520 : F 19 = v3521) (hf3522 : F 23 = v3523) (hc0_kz_X13_readOrder_c4 : (27 ≤ gw.toInt → 1 ≤ gs.toInt → gs.toInt ≤ 1 → 0 ≤ (-1) * gf.toInt + gt.toInt + (-2))) (hc1_kz_X13_readOrder_c4 : (1 ≤ v3517.toInt → 0 ≤ (-1) * v3513.toInt + v3515.toInt + (-1))) (hc2_kz_X13_readOrder_c4 : (27 ≤ w3519.toInt → 1 ≤ v3517.toInt → v3517.toInt ≤ 1 → 0 ≤ (-1) * v3513.toInt + v3515.toInt + (-2))) (hL22 : low (10 * gn.toInt.toNat) (Ra 61) (R 61)) (hC : v3521.toInt = 0 → CLS 10 [1, 3, 5, 7] (R 24) (R 25) (Ra 61) gc.toInt gn.toInt) (h22_1 : R 61 (10 * gn.toInt.toNat + 1) = gc) (h22_2 : R 61 (10 * gn.toInt.toNat + 2) = v3523) (h22_3 : R 61 (10 * gn.toInt.toNat + 3) = 0) (h22_4 : R 61 (10 * gn.toInt.toNat + 4) = 0) (h22_5 : R 61 (10 * gn.toInt.toNat + 5) = 0) (h22_6 : R 61 (10 * gn.toInt.toNat + 6) = 0) (h22_7 : R 61 (10 * gn.toInt.toNat + 7) = 0) (h22_8 : R 61 (10 * gn.toInt.toNat + 8) = 0) (h22_0 : R 61 (10 * gn.toInt.toNat + 0) = v38) (hX3524 : v3521.toInt = 0 → WFX (R 24) (R 25) gc v3523) (ls : Array Slot) (hl : lv_has ls 4 [(2, .int v108), (0, .ref am)]) : W p l e ({ frames := 12, cells := 0, slots := 0, locals := 770 }) s m args below meth c H locs 0 0 (MQ below (mz_w D cy ad am (fun F G R S => mz_IF false F ∧ mz_IG G ∧ mz_IR [] true R ∧ (∀ k : Nat, k ∉ ([14, 15, 16, 18, 19, 21, 23, 26, 29, 30] : List Nat) → F k = Fa k) ∧ (∀ k : Nat, k ∉ ([24, 25, 27, 28, 61] : List Nat) → R k = Ra k) ∧ (∀ k : Nat, k ∉ ([17] : List Nat) → G k = Ga k) ∧ 0 ≤ (-1) * (F 14).toInt + (F 15).toInt ∧ 0 ≤ gp.toInt + (-1) * (F 15).toInt ∧ (1 ≤ (F 16).toInt → 0 ≤ (-1) * (F 14).toInt + (F 15).toInt + (-1)) ∧ (27 ≤ (G 17).toInt → 1 ≤ (F 16).toInt → (F 16).toInt ≤ 1 → 0 ≤ (-1) * (F 14).toInt + (F 15).toInt + (-2)) ∧ 0 ≤ (-1) * gf.toInt + (F 14).toInt ∧ 0 ≤ (-1) * gc.toInt + (F 23).toInt ∧ 0 ≤ (-1) * (F 23).toInt + (F 14).toInt ∧ 0 ≤ (-1) * gb.toInt + (F 19).toInt ∧ ((F 19).toInt ≤ 0 → 0 ≤ (-1) * gf.toInt + (F 14).toInt + (-1)) ∧ ((F 19).toInt = 0 → CLS 10 [1, 3, 5, 7] (R 24) (R 25) (R 61) (F 23).toInt (F 21).toInt) ∧ ((F 19).toInt = 0 → TMS (R 61) (F 21).toInt))) args s 0 0 (mz_W ad am)) (F0 m 173 ls []) := by
  have hq_gb := tk_rng gb
  have hq_gc := tk_rng gc
  have hq_gf := tk_rng gf
  have hq_gn := tk_rng gn
  have hq_gp := tk_rng gp
  have hq_gs := tk_rng gs
  have hq_gt := tk_rng gt
  have hq_gw := tk_rngL gw
  have hq_v108 := tk_rng v108
  have hq_v109 := tk_rng v109
  have hq_v3513 := tk_rng v3513
  have hq_v3515 := tk_rng v3515
  have hq_v3517 := tk_rng v3517
  have hq_v3521 := tk_rng v3521
  have hq_v3523 := tk_rng v3523
  have hq_v38 := tk_rng v38
  have hq_w3519 := tk_rngL w3519
  have hr_gp : 0 ≤ gp.toInt ∧ gp.toInt ≤ 400 := hIF.at hg_3
  have hr_v109 : 0 ≤ v109.toInt ∧ v109.toInt ≤ 12 := hIF.at hf111
  have hr_v3513 : 0 ≤ v3513.toInt ∧ v3513.toInt ≤ 400 := hIF.at hf3512
  have hr_v3515 : 0 ≤ v3515.toInt ∧ v3515.toInt ≤ 400 := hIF.at hf3514
  have hr_v3517 : 0 ≤ v3517.toInt ∧ v3517.toInt ≤ 3 := hIF.at hf3516
  have hr_v3521 : 0 ≤ v3521.toInt ∧ v3521.toInt ≤ 1 := hIF.at hf3520
  have hr_v3523 : 0 ≤ v3523.toInt ∧ v3523.toInt ≤ 400 := hIF.at hf3522
  refine lv_aload_n hx hb dX13_readOrder_173 rfl (lv_at hl 1 rfl) ?_
  refine mz_getR hx hb htl hown hK hM 61 (Nat.le_of_ble_eq_true rfl) (Nat.le_of_ble_eq_true rfl) (htl _ mw_239) (fun _ h9 => h9) dX13_readOrder_174 ?_
  refine lv_iload_n hx hb dX13_readOrder_177 rfl (lv_at hl 0 rfl) ?_
  refine lv_bipush (v := 9) hx hb dX13_readOrder_178 (by decide) ?_
  refine lv_iadd hx hb dX13_readOrder_180 ?_
  refine tk_add rfl (show (9 : Int32).toInt = 9 by decide) (by omega) (by omega) (fun v3527 h_v3527 => ?_)
  refine lv_iconst (v := 1) hx hb dX13_readOrder_181 (by decide) ?_
  have hk_1 : (1 : Int32).toInt = 1 := by decide
  refine mz_iast (x := 1) hx hb hK hD hM hS 61 (Nat.le_of_ble_eq_true rfl) rfl (nn := 120) rfl rfl (by omega) (by omega) dX13_readOrder_182 (fun H locs R hM hS hw9 hj9 => ?_)
  have hIR := hIR.put hw9 hj9 trivial
  have hL22 : low (10 * gn.toInt.toNat) (Ra 61) (R 61) := fun j hj => by rw [hw9, pk_un (fun h9 => by have h8 := tk_nat (i := v3527) rfl (by omega); omega)]; exact hL22 j hj
  have h22_1 : R 61 (10 * gn.toInt.toNat + 1) = gc := by rw [hw9, pk_un (fun h9 => by have h8 := tk_nat (i := v3527) rfl (by omega); omega)]; exact h22_1
  have h22_2 : R 61 (10 * gn.toInt.toNat + 2) = v3523 := by rw [hw9, pk_un (fun h9 => by have h8 := tk_nat (i := v3527) rfl (by omega); omega)]; exact h22_2
  have h22_3 : R 61 (10 * gn.toInt.toNat + 3) = 0 := by rw [hw9, pk_un (fun h9 => by have h8 := tk_nat (i := v3527) rfl (by omega); omega)]; exact h22_3
  have h22_4 : R 61 (10 * gn.toInt.toNat + 4) = 0 := by rw [hw9, pk_un (fun h9 => by have h8 := tk_nat (i := v3527) rfl (by omega); omega)]; exact h22_4
  have h22_5 : R 61 (10 * gn.toInt.toNat + 5) = 0 := by rw [hw9, pk_un (fun h9 => by have h8 := tk_nat (i := v3527) rfl (by omega); omega)]; exact h22_5
  have h22_6 : R 61 (10 * gn.toInt.toNat + 6) = 0 := by rw [hw9, pk_un (fun h9 => by have h8 := tk_nat (i := v3527) rfl (by omega); omega)]; exact h22_6
  have h22_7 : R 61 (10 * gn.toInt.toNat + 7) = 0 := by rw [hw9, pk_un (fun h9 => by have h8 := tk_nat (i := v3527) rfl (by omega); omega)]; exact h22_7
  have h22_8 : R 61 (10 * gn.toInt.toNat + 8) = 0 := by rw [hw9, pk_un (fun h9 => by have h8 := tk_nat (i := v3527) rfl (by omega); omega)]; exact h22_8
  have h22_0 : R 61 (10 * gn.toInt.toNat + 0) = v38 := by rw [hw9, pk_un (fun h9 => by have h8 := tk_nat (i := v3527) rfl (by omega); omega)]; exact h22_0
  have hC9 := hC
  have hC : v3521.toInt = 0 → CLS 10 [1, 3, 5, 7] (R 24) (R 25) (Ra 61) gc.toInt gn.toInt := fun h9 => (hC9 (by omega)).to (hj9 24 (by decide)) (hj9 25 (by decide))
  have hX35249 := hX3524
  have hX3524 : v3521.toInt = 0 → WFX (R 24) (R 25) gc v3523 := fun h9 => by rw [hj9 24 (by decide), hj9 25 (by decide)]; exact hX35249 (by omega)
  have h22_9 : R 61 (10 * gn.toInt.toNat + 9) = 1 := by rw [hw9, show 10 * gn.toInt.toNat + 9 = (v3527 : Int32).toNatClampNeg by show _ = v3527.toInt.toNat; omega]; exact pk_us
  have hRR := mz_frp (K := [24, 25, 27, 28, 61]) (Fa := Ra) hj9 hRR (by decide)
  refine lv_aload_n hx hb dX13_readOrder_183 rfl (lv_at hl 1 rfl) ?_
  refine mz_getI hx hb htl hown hK hM 19 (Nat.le_of_ble_eq_true rfl) rfl (htl _ mw_668) (fun _ h9 => h9) dX13_readOrder_184 (fun v9 e9 => ?_)
  refine fx_ti (v := v3521) (e9.symm.trans hf3520) ?_
  refine lv_if_ne (tgt := 221) hx hb dX13_readOrder_187 (by decide) (fun c9 => ?_) (fun c9 => ?_)
  · have hc3529 : ¬ (v3521.toInt = 0) := fun h9 => c9 ((fi_eq rfl (show (0 : Int32).toInt = 0 by decide)).mpr h9)
    exact kz_X13_readOrder_c5 l D cy ld ad am hD Fa Ga Ra Sa gf gt gs gp gw gb gc gn hx hb hr hml hts htl hown hlocks hK hp_0 hp_1 hp_2 hp_3 hp_4 hp_5 hx_0 hx_1 v108 v109 v3513 v3515 v3517 v3521 v3523 v38 w3519 _ _ _ _ _ _ (by omega) (by omega) (by omega) (by omega) (by omega) (by omega) (by omega) (by omega) (by omega) (by omega) (by omega) (by omega) (by omega) (by omega) (by omega) (by omega) (by omega) (by omega) (by omega) hM hS hIF hIG hIR hFF hGG hRR hg_3 hf111 hf3512 hf3514 hf3516 hf3518 hf3520 hf3522 (by omega) (by omega) (by omega) (by omega) hL22 hC h22_1 h22_2 h22_3 h22_4 h22_5 h22_6 h22_7 h22_8 h22_0 h22_9 hX3524 _ (lv_sub hl [0, 1] rfl)
  · have hc3529 : v3521.toInt = 0 := (fi_eq rfl (show (0 : Int32).toInt = 0 by decide)).mp c9
    refine lv_aload_n hx hb dX13_readOrder_190 rfl (lv_at hl 1 rfl) ?_
    refine lv_ldc2 hx hb hown (htl _ mw_1021) dX13_readOrder_191 ?_
    have hk_21279923 : (21279923 : Int64).toInt = 21279923 := by decide
    refine mz_Vj (As := [.long 21279923]) (rest := []) ⟨hx, hb, hml, hown, hts⟩ hK hM hS (k_X13_isWord l D cy ld ad am hD _ _ _ _ 21279923 v3517 w3519 hIF hIG hIR hf3516 hf3518) ⟨callB_of 1 hts (wl_in mw_709) rfl rfl rfl (htl _ mw_5) (htl _ mw_706) hd_yX13_isWord ⟨(Nat.le_of_ble_eq_true rfl), (Nat.le_of_ble_eq_true rfl)⟩, htl _ mw_707, htl _ mw_708⟩ rfl hl.1 rfl (Nat.le_of_ble_eq_true rfl) dX13_readOrder_194 ⟨(Nat.le_of_ble_eq_true rfl), (Nat.le_of_ble_eq_true rfl)⟩ (fun v3535 H locs hpo hM hS => ?_)
    obtain ⟨hpo3536, hpo3537, hpo3538, hpo3539, hpo3540⟩ := hpo
    have hq_v3535 := tk_rng v3535
    refine lv_if_eq (tgt := 221) hx hb dX13_readOrder_197 (by decide) (fun c9 => ?_) (fun c9 => ?_)
    · have hc3542 : v3535.toInt = 0 := (fi_eq rfl (show (0 : Int32).toInt = 0 by decide)).mp c9
      exact kz_X13_readOrder_c6 l D cy ld ad am hD Fa Ga Ra Sa gf gt gs gp gw gb gc gn hx hb hr hml hts htl hown hlocks hK hp_0 hp_1 hp_2 hp_3 hp_4 hp_5 hx_0 hx_1 v108 v109 v3513 v3515 v3517 v3521 v3523 v38 w3519 _ _ _ _ _ _ (by omega) (by omega) (by omega) (by omega) (by omega) (by omega) (by omega) (by omega) (by omega) (by omega) (by omega) (by omega) (by omega) (by omega) (by omega) (by omega) (by omega) (by omega) (by omega) (by omega) hM hS hIF hIG hIR hFF hGG hRR hg_3 hf111 hf3512 hf3514 hf3516 hf3518 hf3520 hf3522 (by omega) (by omega) (by omega) (by omega) hL22 hC h22_1 h22_2 h22_3 h22_4 h22_5 h22_6 h22_7 h22_8 h22_0 h22_9 hX3524 _ (lv_sub hl [0, 1] rfl)
    · have hc3542 : ¬ (v3535.toInt = 0) := fun h9 => c9 ((fi_eq rfl (show (0 : Int32).toInt = 0 by decide)).mpr h9)
      have hwk_3597 : w3519.toInt + (-21279923) = 0 ∧ v3517.toInt + (-1) = 0 := by omega
      have hwk_3598 : 0 ≤ (-1) * v3513.toInt + v3515.toInt + (-1) := by omega
      have hwk_3599 : 0 ≤ (-1) * v3513.toInt + v3515.toInt + (-2) := by omega
      refine lv_aload_n hx hb dX13_readOrder_200 rfl (lv_at hl 1 rfl) ?_
      refine mz_Vv (As := []) (rest := []) ⟨hx, hb, hml, hown, hts⟩ hK hM hS (k_X13_next l D cy ld ad am hD _ _ _ _ v3515 gp hIF hIG hIR hf3514 hg_3 (by omega)) ⟨callB_of 0 hts (wl_in mw_685) rfl rfl rfl (htl _ mw_5) (htl _ mw_682) hd_yX13_next ⟨(Nat.le_of_ble_eq_true rfl), (Nat.le_of_ble_eq_true rfl)⟩, htl _ mw_683, htl _ mw_684⟩ rfl hl.1 rfl (Nat.le_of_ble_eq_true rfl) dX13_readOrder_201 ⟨(Nat.le_of_ble_eq_true rfl), (Nat.le_of_ble_eq_true rfl)⟩ (fun H locs F G R S hpo hM hS => ?_)
      obtain ⟨hIF, hIG, hIR, hfr9, hrr9, hgr9, hpo3600, hpo3601, hpo3602, hpo3603, hpo3604⟩ := hpo
      have hFF := mz_fr (K := [14, 15, 16, 18, 19, 21, 23, 26, 29, 30]) (Fa := Fa) hfr9 hFF (by decide)
      have hRR := mz_fr (K := [24, 25, 27, 28, 61]) (Fa := Ra) hrr9 hRR (by decide)
      have hGG := mz_fr (K := [17]) (Fa := Ga) hgr9 hGG (by decide)
      have hg_3 := (hfr9 13 (by decide)).trans hg_3
      have hf111 := (hfr9 21 (by decide)).trans hf111
      have hf3520 := (hfr9 19 (by decide)).trans hf3520
      have hf3522 := (hfr9 23 (by decide)).trans hf3522
      obtain ⟨v3607, hf3606⟩ : ∃ z : Int32, F 14 = z := ⟨_, rfl⟩
      have hq_v3607 := tk_rng v3607
      rw [hf3606] at hpo3600 hpo3601 hpo3603 hpo3604
      have hr_v3607 : 0 ≤ v3607.toInt ∧ v3607.toInt ≤ 400 := hIF.at hf3606
      obtain ⟨v3609, hf3608⟩ : ∃ z : Int32, F 15 = z := ⟨_, rfl⟩
      have hq_v3609 := tk_rng v3609
      rw [hf3608] at hpo3601 hpo3602 hpo3603 hpo3604
      have hr_v3609 : 0 ≤ v3609.toInt ∧ v3609.toInt ≤ 400 := hIF.at hf3608
      obtain ⟨v3611, hf3610⟩ : ∃ z : Int32, F 16 = z := ⟨_, rfl⟩
      have hq_v3611 := tk_rng v3611
      rw [hf3610] at hpo3603 hpo3604
      have hr_v3611 : 0 ≤ v3611.toInt ∧ v3611.toInt ≤ 3 := hIF.at hf3610
      obtain ⟨w3613, hf3612⟩ : ∃ z : Int64, G 17 = z := ⟨_, rfl⟩
      have hq_w3613 := tk_rngL w3613
      rw [hf3612] at hpo3604
      have hL22 := hL22.to (hrr9 61 (by decide))
      have h22_1 := (congrFun (hrr9 61 (by decide)) _).trans h22_1
      have h22_2 := (congrFun (hrr9 61 (by decide)) _).trans h22_2
      have h22_3 := (congrFun (hrr9 61 (by decide)) _).trans h22_3
      have h22_4 := (congrFun (hrr9 61 (by decide)) _).trans h22_4
      have h22_5 := (congrFun (hrr9 61 (by decide)) _).trans h22_5
      have h22_6 := (congrFun (hrr9 61 (by decide)) _).trans h22_6
      have h22_7 := (congrFun (hrr9 61 (by decide)) _).trans h22_7
      have h22_8 := (congrFun (hrr9 61 (by decide)) _).trans h22_8
      have h22_0 := (congrFun (hrr9 61 (by decide)) _).trans h22_0
      have h22_9 := (congrFun (hrr9 61 (by decide)) _).trans h22_9
      have hC9 := hC
      have hC : v3521.toInt = 0 → CLS 10 [1, 3, 5, 7] (R 24) (R 25) (Ra 61) gc.toInt gn.toInt := fun h9 => (hC9 (by omega)).to (hrr9 24 (by decide)) (hrr9 25 (by decide))
      have hX35249 := hX3524
      have hX3524 : v3521.toInt = 0 → WFX (R 24) (R 25) gc v3523 := fun h9 => by rw [hrr9 24 (by decide), hrr9 25 (by decide)]; exact hX35249 (by omega)
      refine lv_aload_n hx hb dX13_readOrder_204 rfl (lv_at hl 1 rfl) ?_
      refine mz_getR hx hb htl hown hK hM 61 (Nat.le_of_ble_eq_true rfl) (Nat.le_of_ble_eq_true rfl) (htl _ mw_239) (fun _ h9 => h9) dX13_readOrder_205 ?_
      refine lv_iload_n hx hb dX13_readOrder_208 rfl (lv_at hl 0 rfl) ?_
      refine lv_bipush (v := 9) hx hb dX13_readOrder_209 (by decide) ?_
      refine lv_iadd hx hb dX13_readOrder_211 ?_
      refine tk_add rfl (show (9 : Int32).toInt = 9 by decide) (by omega) (by omega) (fun v3614 h_v3614 => ?_)
      refine lv_aload_n hx hb dX13_readOrder_212 rfl (lv_at hl 1 rfl) ?_
      refine lv_lconst (v := 1) hx hb dX13_readOrder_213 (by decide) ?_
      refine lv_ldc2 hx hb hown (htl _ mw_782) dX13_readOrder_214 ?_
      have hk_1 : (1 : Int64).toInt = 1 := by decide
      have hk_20 : (20 : Int64).toInt = 20 := by decide
      refine mz_Vi (As := [.long 1, .long 20]) (rest := [.int v3614, .ref (ad 61)]) ⟨hx, hb, hml, hown, hts⟩ hK hM hS (k_X13_number l D cy ld ad am hD _ _ _ _ 1 20 v3607 v3609 v3611 gp w3613 v3521 hIF hIG hIR hf3606 hf3608 hf3610 hg_3 hf3612 hf3520 (by omega) (by omega) (by omega) (by omega) (by omega) (by omega) (by omega) (by omega)) ⟨callB_of 2 hts (wl_in mw_762) rfl rfl rfl (htl _ mw_5) (htl _ mw_759) hd_yX13_number ⟨(Nat.le_of_ble_eq_true rfl), (Nat.le_of_ble_eq_true rfl)⟩, htl _ mw_760, htl _ mw_761⟩ rfl hl.1 rfl (Nat.le_of_ble_eq_true rfl) dX13_readOrder_217 ⟨(Nat.le_of_ble_eq_true rfl), (Nat.le_of_ble_eq_true rfl)⟩ (fun v3615 H locs F G R S hpo hM hS => ?_)
      obtain ⟨hIF, hIG, hIR, hfr9, hrr9, hgr9, hpo3616, hpo3617, hpo3618, hpo3619, hpo3620, hpo3621, hpo3622⟩ := hpo
      have hq_v3615 := tk_rng v3615
      have hFF := mz_fr (K := [14, 15, 16, 18, 19, 21, 23, 26, 29, 30]) (Fa := Fa) hfr9 hFF (by decide)
      have hRR := mz_fr (K := [24, 25, 27, 28, 61]) (Fa := Ra) hrr9 hRR (by decide)
      have hGG := mz_fr (K := [17]) (Fa := Ga) hgr9 hGG (by decide)
      have hg_3 := (hfr9 13 (by decide)).trans hg_3
      have hf111 := (hfr9 21 (by decide)).trans hf111
      have hf3522 := (hfr9 23 (by decide)).trans hf3522
      obtain ⟨v3625, hf3624⟩ : ∃ z : Int32, F 14 = z := ⟨_, rfl⟩
      have hq_v3625 := tk_rng v3625
      rw [hf3624] at hpo3616 hpo3618 hpo3619 hpo3620 hpo3622
      have hr_v3625 : 0 ≤ v3625.toInt ∧ v3625.toInt ≤ 400 := hIF.at hf3624
      obtain ⟨v3627, hf3626⟩ : ∃ z : Int32, F 15 = z := ⟨_, rfl⟩
      have hq_v3627 := tk_rng v3627
      rw [hf3626] at hpo3616 hpo3617 hpo3618 hpo3619
      have hr_v3627 : 0 ≤ v3627.toInt ∧ v3627.toInt ≤ 400 := hIF.at hf3626
      obtain ⟨v3629, hf3628⟩ : ∃ z : Int32, F 16 = z := ⟨_, rfl⟩
      have hq_v3629 := tk_rng v3629
      rw [hf3628] at hpo3618 hpo3619
      have hr_v3629 : 0 ≤ v3629.toInt ∧ v3629.toInt ≤ 3 := hIF.at hf3628
      obtain ⟨w3631, hf3630⟩ : ∃ z : Int64, G 17 = z := ⟨_, rfl⟩
      have hq_w3631 := tk_rngL w3631
      rw [hf3630] at hpo3619
      obtain ⟨v3633, hf3632⟩ : ∃ z : Int32, F 19 = z := ⟨_, rfl⟩
      have hq_v3633 := tk_rng v3633
      rw [hf3632] at hpo3621 hpo3622
      have hr_v3633 : 0 ≤ v3633.toInt ∧ v3633.toInt ≤ 1 := hIF.at hf3632
      have hL22 := hL22.to (hrr9 61 (by decide))
      have h22_1 := (congrFun (hrr9 61 (by decide)) _).trans h22_1
      have h22_2 := (congrFun (hrr9 61 (by decide)) _).trans h22_2
      have h22_3 := (congrFun (hrr9 61 (by decide)) _).trans h22_3
      have h22_4 := (congrFun (hrr9 61 (by decide)) _).trans h22_4
      have h22_5 := (congrFun (hrr9 61 (by decide)) _).trans h22_5
      have h22_6 := (congrFun (hrr9 61 (by decide)) _).trans h22_6
      have h22_7 := (congrFun (hrr9 61 (by decide)) _).trans h22_7
      have h22_8 := (congrFun (hrr9 61 (by decide)) _).trans h22_8
      have h22_0 := (congrFun (hrr9 61 (by decide)) _).trans h22_0
      have h22_9 := (congrFun (hrr9 61 (by decide)) _).trans h22_9
      have hC9 := hC
      have hC : v3633.toInt = 0 → CLS 10 [1, 3, 5, 7] (R 24) (R 25) (Ra 61) gc.toInt gn.toInt := fun h9 => (hC9 (by omega)).to (hrr9 24 (by decide)) (hrr9 25 (by decide))
      have hX35249 := hX3524
      have hX3524 : v3633.toInt = 0 → WFX (R 24) (R 25) gc v3523 := fun h9 => by rw [hrr9 24 (by decide), hrr9 25 (by decide)]; exact hX35249 (by omega)
      refine mz_iast (x := v3615) hx hb hK hD hM hS 61 (Nat.le_of_ble_eq_true rfl) rfl (nn := 120) rfl rfl (by omega) (by omega) dX13_readOrder_220 (fun H locs R hM hS hw9 hj9 => ?_)
      have hIR := hIR.put hw9 hj9 trivial
      have hL22 : low (10 * gn.toInt.toNat) (Ra 61) (R 61) := fun j hj => by rw [hw9, pk_un (fun h9 => by have h8 := tk_nat (i := v3614) rfl (by omega); omega)]; exact hL22 j hj
      have h22_1 : R 61 (10 * gn.toInt.toNat + 1) = gc := by rw [hw9, pk_un (fun h9 => by have h8 := tk_nat (i := v3614) rfl (by omega); omega)]; exact h22_1
      have h22_2 : R 61 (10 * gn.toInt.toNat + 2) = v3523 := by rw [hw9, pk_un (fun h9 => by have h8 := tk_nat (i := v3614) rfl (by omega); omega)]; exact h22_2
      have h22_3 : R 61 (10 * gn.toInt.toNat + 3) = 0 := by rw [hw9, pk_un (fun h9 => by have h8 := tk_nat (i := v3614) rfl (by omega); omega)]; exact h22_3
      have h22_4 : R 61 (10 * gn.toInt.toNat + 4) = 0 := by rw [hw9, pk_un (fun h9 => by have h8 := tk_nat (i := v3614) rfl (by omega); omega)]; exact h22_4
      have h22_5 : R 61 (10 * gn.toInt.toNat + 5) = 0 := by rw [hw9, pk_un (fun h9 => by have h8 := tk_nat (i := v3614) rfl (by omega); omega)]; exact h22_5
      have h22_6 : R 61 (10 * gn.toInt.toNat + 6) = 0 := by rw [hw9, pk_un (fun h9 => by have h8 := tk_nat (i := v3614) rfl (by omega); omega)]; exact h22_6
      have h22_7 : R 61 (10 * gn.toInt.toNat + 7) = 0 := by rw [hw9, pk_un (fun h9 => by have h8 := tk_nat (i := v3614) rfl (by omega); omega)]; exact h22_7
      have h22_8 : R 61 (10 * gn.toInt.toNat + 8) = 0 := by rw [hw9, pk_un (fun h9 => by have h8 := tk_nat (i := v3614) rfl (by omega); omega)]; exact h22_8
      have h22_0 : R 61 (10 * gn.toInt.toNat + 0) = v38 := by rw [hw9, pk_un (fun h9 => by have h8 := tk_nat (i := v3614) rfl (by omega); omega)]; exact h22_0
      have hC9 := hC
      have hC : v3633.toInt = 0 → CLS 10 [1, 3, 5, 7] (R 24) (R 25) (Ra 61) gc.toInt gn.toInt := fun h9 => (hC9 (by omega)).to (hj9 24 (by decide)) (hj9 25 (by decide))
      have hX35249 := hX3524
      have hX3524 : v3633.toInt = 0 → WFX (R 24) (R 25) gc v3523 := fun h9 => by rw [hj9 24 (by decide), hj9 25 (by decide)]; exact hX35249 (by omega)
      have h22_9 : R 61 (10 * gn.toInt.toNat + 9) = v3615 := by rw [hw9, show 10 * gn.toInt.toNat + 9 = (v3614 : Int32).toNatClampNeg by show _ = v3614.toInt.toNat; omega]; exact pk_us
      have hRR := mz_frp (K := [24, 25, 27, 28, 61]) (Fa := Ra) hj9 hRR (by decide)
      exact kz_X13_readOrder_c7 l D cy ld ad am hD Fa Ga Ra Sa gf gt gs gp gw gb gc gn hx hb hr hml hts htl hown hlocks hK hp_0 hp_1 hp_2 hp_3 hp_4 hp_5 hx_0 hx_1 v108 v109 v3523 v3615 v3625 v3627 v3629 v3633 v38 w3631 _ _ _ _ _ _ (by omega) (by omega) (by omega) (by omega) (by omega) (by omega) (by omega) (by omega) (by omega) (by omega) (by omega) (by omega) (by omega) (by omega) (by omega) (by omega) (by omega) (by omega) (by omega) (by omega) hM hS hIF hIG hIR hFF hGG hRR hg_3 hf111 hf3522 hf3624 hf3626 hf3628 hf3630 hf3632 (by omega) (by omega) (by omega) (by omega) (by omega) hL22 hC h22_1 h22_2 h22_3 h22_4 h22_5 h22_6 h22_7 h22_8 h22_0 h22_9 hX3524 _ (lv_sub hl [0, 1] rfl)
set_option maxHeartbeats 4000000 in
set_option maxRecDepth 100000 in
theorem kz_X13_readOrder_c9 (l : Launch) (D : va_G) (cy : Nat → ClassId) (ld ad : Nat → Nat) (am : Nat) (hD : mz_D ad am) (Fa : Nat → Int32) (Ga : Nat → Int64) (Ra : Nat → Nat → Int32) (Sa : Nat → Nat → Int64) (gf : Int32) (gt : Int32) (gs : Int32) (gp : Int32) (gw : Int64) (gb : Int32) (gc : Int32) (gn : Int32) {p : Program} {e : Env} {s : State} {m : MethodId} {args : Array Value} {below : List Frame} {meth : Method} {c : Code} (hx : p.tables.exec = Jvm.exec) (hb : c.code = cX13_readOrder) (hr : meth.sig.returnType = none) (hml : c.maxLocals = 4) (hts : ∀ w ∈ wl yX13_readOrder cX13_readOrder 4 none, w.before args s = true) (htl : ∀ w ∈ wsA, w.before args s = true) (hown : s.vm.findClass RX13 = some m.cls) (hlocks : meth.locks = false) (hK : kk_K D cy ld s) (hp_0 : 0 ≤ (-1) * gf.toInt + gt.toInt) (hp_1 : 0 ≤ gp.toInt + (-1) * gt.toInt) (hp_2 : (1 ≤ gs.toInt → 0 ≤ (-1) * gf.toInt + gt.toInt + (-1))) (hp_3 : (27 ≤ gw.toInt → 1 ≤ gs.toInt → gs.toInt ≤ 1 → 0 ≤ (-1) * gf.toInt + gt.toInt + (-2))) (hp_4 : 0 ≤ (-1) * gc.toInt + gf.toInt) (hp_5 : gb.toInt ≤ 0) (hx_0 : CLS 10 [1, 3, 5, 7] (Ra 24) (Ra 25) (Ra 61) gc.toInt gn.toInt) (hx_1 : TMS (Ra 61) gn.toInt) (v108 : Int32) (v109 : Int32) (v3523 : Int32) (v3716 : Int32) (v3731 : Int32) (v3733 : Int32) (v3735 : Int32) (v3739 : Int32) (v3741 : Int32) (v38 : Int32) (w3737 : Int64) (H : Heap) (locs : List Loc) (F : Nat → Int32) (G : Nat → Int64) (R : Nat → Nat → Int32) (S : Nat → Nat → Int64) (hq0_kz_X13_readOrder_c9 : v109.toInt ≤ 12) (hq1_kz_X13_readOrder_c9 : v3733.toInt ≤ 400) (hq2_kz_X13_readOrder_c9 : v3735.toInt ≤ 3) (hq3_kz_X13_readOrder_c9 : 0 ≤ v38.toInt) (hq4_kz_X13_readOrder_c9 : 0 ≤ (-1) * gf.toInt + gt.toInt + (-1)) (hq5_kz_X13_readOrder_c9 : (-10) * gn.toInt + v108.toInt = 0) (hq6_kz_X13_readOrder_c9 : (-1) * gn.toInt + v109.toInt + (-1) = 0) (hq7_kz_X13_readOrder_c9 : 0 ≤ (-1) * gc.toInt + v3523.toInt) (hq8_kz_X13_readOrder_c9 : 0 ≤ (-1) * v3523.toInt + v3716.toInt) (hq9_kz_X13_readOrder_c9 : 0 ≤ (-1) * v3731.toInt + v3733.toInt) (hq10_kz_X13_readOrder_c9 : 0 ≤ gp.toInt + (-1) * v3733.toInt) (hq11_kz_X13_readOrder_c9 : 0 ≤ (-1) * v3716.toInt + v3741.toInt) (hq12_kz_X13_readOrder_c9 : 0 ≤ v3731.toInt + (-1) * v3741.toInt) (hq13_kz_X13_readOrder_c9 : 0 ≤ gb.toInt + (-1) * v38.toInt) (hq14_kz_X13_readOrder_c9 : 0 ≤ gc.toInt + (-1) * v38.toInt) (hq15_kz_X13_readOrder_c9 : 0 ≤ gs.toInt + (-1) * v3739.toInt) (hq16_kz_X13_readOrder_c9 : 0 ≤ (-1) * gt.toInt + v3731.toInt) (hq17_kz_X13_readOrder_c9 : 0 ≤ (-1) * gs.toInt + v38.toInt + 1) (hq18_kz_X13_readOrder_c9 : 0 ≤ (-1) * gb.toInt + v109.toInt + (-1)) (hq19_kz_X13_readOrder_c9 : 0 ≤ (-1) * gb.toInt + v3735.toInt) (hq20_kz_X13_readOrder_c9 : 0 ≤ (-1) * gb.toInt + v3739.toInt + (-1)) (hM : mz_S D cy ad am F G R S H) (hS : va_S (mz_W ad am) s.heap H locs) (hIF : mz_IF false F) (hIG : mz_IG G) (hIR : mz_IR [] true R) (hFF : ∀ k : Nat, k ∉ ([14, 15, 16, 18, 19, 21, 23, 26, 29, 30] : List Nat) → F k = Fa k) (hGG : ∀ k : Nat, k ∉ ([17] : List Nat) → G k = Ga k) (hRR : ∀ k : Nat, k ∉ ([24, 25, 27, 28, 61] : List Nat) → R k = Ra k) (hg_3 : F 13 = gp) (hf111 : F 21 = v109) (hf3730 : F 14 = v3731) (hf3732 : F 15 = v3733) (hf3734 : F 16 = v3735) (hf3736 : G 17 = w3737) (hf3738 : F 19 = v3739) (hf3740 : F 23 = v3741) (hc0_kz_X13_readOrder_c9 : (27 ≤ gw.toInt → 1 ≤ gs.toInt → gs.toInt ≤ 1 → 0 ≤ (-1) * gf.toInt + gt.toInt + (-2))) (hc1_kz_X13_readOrder_c9 : (1 ≤ v3735.toInt → 0 ≤ (-1) * v3731.toInt + v3733.toInt + (-1))) (hc2_kz_X13_readOrder_c9 : (27 ≤ w3737.toInt → 1 ≤ v3735.toInt → v3735.toInt ≤ 1 → 0 ≤ (-1) * v3731.toInt + v3733.toInt + (-2))) (hc3_kz_X13_readOrder_c9 : (27 ≤ gw.toInt → 1 ≤ gs.toInt → gs.toInt ≤ 1 → 0 ≤ (-1) * gf.toInt + gt.toInt + (-2))) (hL22 : low (10 * gn.toInt.toNat) (Ra 61) (R 61)) (hC : v3739.toInt = 0 → CLS 10 [1, 3, 5, 7] (R 24) (R 25) (Ra 61) gc.toInt gn.toInt) (h22_1 : R 61 (10 * gn.toInt.toNat + 1) = gc) (h22_2 : R 61 (10 * gn.toInt.toNat + 2) = v3523) (h22_3 : R 61 (10 * gn.toInt.toNat + 3) = v3523) (h22_4 : R 61 (10 * gn.toInt.toNat + 4) = v3716) (h22_5 : R 61 (10 * gn.toInt.toNat + 5) = v3716) (h22_6 : R 61 (10 * gn.toInt.toNat + 6) = v3741) (h22_7 : R 61 (10 * gn.toInt.toNat + 7) = 0) (h22_8 : R 61 (10 * gn.toInt.toNat + 8) = 0) (h22_0 : R 61 (10 * gn.toInt.toNat + 0) = v38) (h22_9 : R 61 (10 * gn.toInt.toNat + 9) = 1) (hX3524 : v3739.toInt = 0 → WFX (R 24) (R 25) gc v3523) (hX3717 : v3739.toInt = 0 → WFX (R 24) (R 25) v3523 v3716) (hX3742 : v3739.toInt = 0 → WFX (R 24) (R 25) v3716 v3741) (ls : Array Slot) (hl : lv_has ls 4 [(2, .int v108), (0, .ref am)]) : W p l e ({ frames := 12, cells := 0, slots := 0, locals := 770 }) s m args below meth c H locs 0 0 (MQ below (mz_w D cy ad am (fun F G R S => mz_IF false F ∧ mz_IG G ∧ mz_IR [] true R ∧ (∀ k : Nat, k ∉ ([14, 15, 16, 18, 19, 21, 23, 26, 29, 30] : List Nat) → F k = Fa k) ∧ (∀ k : Nat, k ∉ ([24, 25, 27, 28, 61] : List Nat) → R k = Ra k) ∧ (∀ k : Nat, k ∉ ([17] : List Nat) → G k = Ga k) ∧ 0 ≤ (-1) * (F 14).toInt + (F 15).toInt ∧ 0 ≤ gp.toInt + (-1) * (F 15).toInt ∧ (1 ≤ (F 16).toInt → 0 ≤ (-1) * (F 14).toInt + (F 15).toInt + (-1)) ∧ (27 ≤ (G 17).toInt → 1 ≤ (F 16).toInt → (F 16).toInt ≤ 1 → 0 ≤ (-1) * (F 14).toInt + (F 15).toInt + (-2)) ∧ 0 ≤ (-1) * gf.toInt + (F 14).toInt ∧ 0 ≤ (-1) * gc.toInt + (F 23).toInt ∧ 0 ≤ (-1) * (F 23).toInt + (F 14).toInt ∧ 0 ≤ (-1) * gb.toInt + (F 19).toInt ∧ ((F 19).toInt ≤ 0 → 0 ≤ (-1) * gf.toInt + (F 14).toInt + (-1)) ∧ ((F 19).toInt = 0 → CLS 10 [1, 3, 5, 7] (R 24) (R 25) (R 61) (F 23).toInt (F 21).toInt) ∧ ((F 19).toInt = 0 → TMS (R 61) (F 21).toInt))) args s 0 0 (mz_W ad am)) (F0 m 221 ls []) := by
  have hq_gb := tk_rng gb
  have hq_gc := tk_rng gc
  have hq_gf := tk_rng gf
  have hq_gn := tk_rng gn
  have hq_gp := tk_rng gp
  have hq_gs := tk_rng gs
  have hq_gt := tk_rng gt
  have hq_gw := tk_rngL gw
  have hq_v108 := tk_rng v108
  have hq_v109 := tk_rng v109
  have hq_v3523 := tk_rng v3523
  have hq_v3716 := tk_rng v3716
  have hq_v3731 := tk_rng v3731
  have hq_v3733 := tk_rng v3733
  have hq_v3735 := tk_rng v3735
  have hq_v3739 := tk_rng v3739
  have hq_v3741 := tk_rng v3741
  have hq_v38 := tk_rng v38
  have hq_w3737 := tk_rngL w3737
  have hr_gp : 0 ≤ gp.toInt ∧ gp.toInt ≤ 400 := hIF.at hg_3
  have hr_v109 : 0 ≤ v109.toInt ∧ v109.toInt ≤ 12 := hIF.at hf111
  have hr_v3731 : 0 ≤ v3731.toInt ∧ v3731.toInt ≤ 400 := hIF.at hf3730
  have hr_v3733 : 0 ≤ v3733.toInt ∧ v3733.toInt ≤ 400 := hIF.at hf3732
  have hr_v3735 : 0 ≤ v3735.toInt ∧ v3735.toInt ≤ 3 := hIF.at hf3734
  have hr_v3739 : 0 ≤ v3739.toInt ∧ v3739.toInt ≤ 1 := hIF.at hf3738
  have hr_v3741 : 0 ≤ v3741.toInt ∧ v3741.toInt ≤ 400 := hIF.at hf3740
  refine lv_aload_n hx hb dX13_readOrder_221 rfl (lv_at hl 1 rfl) ?_
  refine mz_getR hx hb htl hown hK hM 61 (Nat.le_of_ble_eq_true rfl) (Nat.le_of_ble_eq_true rfl) (htl _ mw_239) (fun _ h9 => h9) dX13_readOrder_222 ?_
  refine lv_iload_n hx hb dX13_readOrder_225 rfl (lv_at hl 0 rfl) ?_
  refine lv_bipush (v := 7) hx hb dX13_readOrder_226 (by decide) ?_
  refine lv_iadd hx hb dX13_readOrder_228 ?_
  refine tk_add rfl (show (7 : Int32).toInt = 7 by decide) (by omega) (by omega) (fun v3748 h_v3748 => ?_)
  refine lv_aload_n hx hb dX13_readOrder_229 rfl (lv_at hl 1 rfl) ?_
  refine mz_getI hx hb htl hown hK hM 23 (Nat.le_of_ble_eq_true rfl) rfl (htl _ mw_670) (fun _ h9 => h9) dX13_readOrder_230 (fun v9 e9 => ?_)
  refine fx_ti (v := v3741) (e9.symm.trans hf3740) ?_
  refine mz_iast (x := v3741) hx hb hK hD hM hS 61 (Nat.le_of_ble_eq_true rfl) rfl (nn := 120) rfl rfl (by omega) (by omega) dX13_readOrder_233 (fun H locs R hM hS hw9 hj9 => ?_)
  have hIR := hIR.put hw9 hj9 trivial
  have hL22 : low (10 * gn.toInt.toNat) (Ra 61) (R 61) := fun j hj => by rw [hw9, pk_un (fun h9 => by have h8 := tk_nat (i := v3748) rfl (by omega); omega)]; exact hL22 j hj
  have h22_1 : R 61 (10 * gn.toInt.toNat + 1) = gc := by rw [hw9, pk_un (fun h9 => by have h8 := tk_nat (i := v3748) rfl (by omega); omega)]; exact h22_1
  have h22_2 : R 61 (10 * gn.toInt.toNat + 2) = v3523 := by rw [hw9, pk_un (fun h9 => by have h8 := tk_nat (i := v3748) rfl (by omega); omega)]; exact h22_2
  have h22_3 : R 61 (10 * gn.toInt.toNat + 3) = v3523 := by rw [hw9, pk_un (fun h9 => by have h8 := tk_nat (i := v3748) rfl (by omega); omega)]; exact h22_3
  have h22_4 : R 61 (10 * gn.toInt.toNat + 4) = v3716 := by rw [hw9, pk_un (fun h9 => by have h8 := tk_nat (i := v3748) rfl (by omega); omega)]; exact h22_4
  have h22_5 : R 61 (10 * gn.toInt.toNat + 5) = v3716 := by rw [hw9, pk_un (fun h9 => by have h8 := tk_nat (i := v3748) rfl (by omega); omega)]; exact h22_5
  have h22_6 : R 61 (10 * gn.toInt.toNat + 6) = v3741 := by rw [hw9, pk_un (fun h9 => by have h8 := tk_nat (i := v3748) rfl (by omega); omega)]; exact h22_6
  have h22_8 : R 61 (10 * gn.toInt.toNat + 8) = 0 := by rw [hw9, pk_un (fun h9 => by have h8 := tk_nat (i := v3748) rfl (by omega); omega)]; exact h22_8
  have h22_0 : R 61 (10 * gn.toInt.toNat + 0) = v38 := by rw [hw9, pk_un (fun h9 => by have h8 := tk_nat (i := v3748) rfl (by omega); omega)]; exact h22_0
  have h22_9 : R 61 (10 * gn.toInt.toNat + 9) = 1 := by rw [hw9, pk_un (fun h9 => by have h8 := tk_nat (i := v3748) rfl (by omega); omega)]; exact h22_9
  have hC9 := hC
  have hC : v3739.toInt = 0 → CLS 10 [1, 3, 5, 7] (R 24) (R 25) (Ra 61) gc.toInt gn.toInt := fun h9 => (hC9 (by omega)).to (hj9 24 (by decide)) (hj9 25 (by decide))
  have hX35249 := hX3524
  have hX3524 : v3739.toInt = 0 → WFX (R 24) (R 25) gc v3523 := fun h9 => by rw [hj9 24 (by decide), hj9 25 (by decide)]; exact hX35249 (by omega)
  have hX37179 := hX3717
  have hX3717 : v3739.toInt = 0 → WFX (R 24) (R 25) v3523 v3716 := fun h9 => by rw [hj9 24 (by decide), hj9 25 (by decide)]; exact hX37179 (by omega)
  have hX37429 := hX3742
  have hX3742 : v3739.toInt = 0 → WFX (R 24) (R 25) v3716 v3741 := fun h9 => by rw [hj9 24 (by decide), hj9 25 (by decide)]; exact hX37429 (by omega)
  have h22_7 : R 61 (10 * gn.toInt.toNat + 7) = v3741 := by rw [hw9, show 10 * gn.toInt.toNat + 7 = (v3748 : Int32).toNatClampNeg by show _ = v3748.toInt.toNat; omega]; exact pk_us
  have hRR := mz_frp (K := [24, 25, 27, 28, 61]) (Fa := Ra) hj9 hRR (by decide)
  refine lv_aload_n hx hb dX13_readOrder_234 rfl (lv_at hl 1 rfl) ?_
  refine mz_getI hx hb htl hown hK hM 19 (Nat.le_of_ble_eq_true rfl) rfl (htl _ mw_668) (fun _ h9 => h9) dX13_readOrder_235 (fun v9 e9 => ?_)
  refine fx_ti (v := v3739) (e9.symm.trans hf3738) ?_
  refine lv_if_ne (tgt := 260) hx hb dX13_readOrder_238 (by decide) (fun _ => ?_) (fun c9 => absurd (show v3739.toInt = 0 from (fi_eq rfl (show (0 : Int32).toInt = 0 by decide)).mp c9) (by omega))
  refine lv_aload_n hx hb dX13_readOrder_260 rfl (lv_at hl 1 rfl) ?_
  refine mz_getR hx hb htl hown hK hM 61 (Nat.le_of_ble_eq_true rfl) (Nat.le_of_ble_eq_true rfl) (htl _ mw_239) (fun _ h9 => h9) dX13_readOrder_261 ?_
  refine lv_iload_n hx hb dX13_readOrder_264 rfl (lv_at hl 0 rfl) ?_
  refine lv_bipush (v := 8) hx hb dX13_readOrder_265 (by decide) ?_
  refine lv_iadd hx hb dX13_readOrder_267 ?_
  refine tk_add rfl (show (8 : Int32).toInt = 8 by decide) (by omega) (by omega) (fun v3750 h_v3750 => ?_)
  refine lv_aload_n hx hb dX13_readOrder_268 rfl (lv_at hl 1 rfl) ?_
  refine mz_getI hx hb htl hown hK hM 23 (Nat.le_of_ble_eq_true rfl) rfl (htl _ mw_670) (fun _ h9 => h9) dX13_readOrder_269 (fun v9 e9 => ?_)
  refine fx_ti (v := v3741) (e9.symm.trans hf3740) ?_
  refine mz_iast (x := v3741) hx hb hK hD hM hS 61 (Nat.le_of_ble_eq_true rfl) rfl (nn := 120) rfl rfl (by omega) (by omega) dX13_readOrder_272 (fun H locs R hM hS hw9 hj9 => ?_)
  have hIR := hIR.put hw9 hj9 trivial
  have hL22 : low (10 * gn.toInt.toNat) (Ra 61) (R 61) := fun j hj => by rw [hw9, pk_un (fun h9 => by have h8 := tk_nat (i := v3750) rfl (by omega); omega)]; exact hL22 j hj
  have h22_1 : R 61 (10 * gn.toInt.toNat + 1) = gc := by rw [hw9, pk_un (fun h9 => by have h8 := tk_nat (i := v3750) rfl (by omega); omega)]; exact h22_1
  have h22_2 : R 61 (10 * gn.toInt.toNat + 2) = v3523 := by rw [hw9, pk_un (fun h9 => by have h8 := tk_nat (i := v3750) rfl (by omega); omega)]; exact h22_2
  have h22_3 : R 61 (10 * gn.toInt.toNat + 3) = v3523 := by rw [hw9, pk_un (fun h9 => by have h8 := tk_nat (i := v3750) rfl (by omega); omega)]; exact h22_3
  have h22_4 : R 61 (10 * gn.toInt.toNat + 4) = v3716 := by rw [hw9, pk_un (fun h9 => by have h8 := tk_nat (i := v3750) rfl (by omega); omega)]; exact h22_4
  have h22_5 : R 61 (10 * gn.toInt.toNat + 5) = v3716 := by rw [hw9, pk_un (fun h9 => by have h8 := tk_nat (i := v3750) rfl (by omega); omega)]; exact h22_5
  have h22_6 : R 61 (10 * gn.toInt.toNat + 6) = v3741 := by rw [hw9, pk_un (fun h9 => by have h8 := tk_nat (i := v3750) rfl (by omega); omega)]; exact h22_6
  have h22_7 : R 61 (10 * gn.toInt.toNat + 7) = v3741 := by rw [hw9, pk_un (fun h9 => by have h8 := tk_nat (i := v3750) rfl (by omega); omega)]; exact h22_7
  have h22_0 : R 61 (10 * gn.toInt.toNat + 0) = v38 := by rw [hw9, pk_un (fun h9 => by have h8 := tk_nat (i := v3750) rfl (by omega); omega)]; exact h22_0
  have h22_9 : R 61 (10 * gn.toInt.toNat + 9) = 1 := by rw [hw9, pk_un (fun h9 => by have h8 := tk_nat (i := v3750) rfl (by omega); omega)]; exact h22_9
  have hC9 := hC
  have hC : v3739.toInt = 0 → CLS 10 [1, 3, 5, 7] (R 24) (R 25) (Ra 61) gc.toInt gn.toInt := fun h9 => (hC9 (by omega)).to (hj9 24 (by decide)) (hj9 25 (by decide))
  have hX35249 := hX3524
  have hX3524 : v3739.toInt = 0 → WFX (R 24) (R 25) gc v3523 := fun h9 => by rw [hj9 24 (by decide), hj9 25 (by decide)]; exact hX35249 (by omega)
  have hX37179 := hX3717
  have hX3717 : v3739.toInt = 0 → WFX (R 24) (R 25) v3523 v3716 := fun h9 => by rw [hj9 24 (by decide), hj9 25 (by decide)]; exact hX37179 (by omega)
  have hX37429 := hX3742
  have hX3742 : v3739.toInt = 0 → WFX (R 24) (R 25) v3716 v3741 := fun h9 => by rw [hj9 24 (by decide), hj9 25 (by decide)]; exact hX37429 (by omega)
  have h22_8 : R 61 (10 * gn.toInt.toNat + 8) = v3741 := by rw [hw9, show 10 * gn.toInt.toNat + 8 = (v3750 : Int32).toNatClampNeg by show _ = v3750.toInt.toNat; omega]; exact pk_us
  have hRR := mz_frp (K := [24, 25, 27, 28, 61]) (Fa := Ra) hj9 hRR (by decide)
  exact mz_vret hx hb hr hlocks ⟨hIF, hIG, hIR, hFF, hRR, hGG, (by rw [hf3730, hf3732]; omega), (by rw [hf3732]; omega), (by rw [hf3730, hf3732, hf3734]; omega), (by rw [hf3730, hf3732, hf3734, hf3736]; omega), (by rw [hf3730]; omega), (by rw [hf3740]; omega), (by rw [hf3730, hf3740]; omega), (by rw [hf3738]; omega), (by rw [hf3730, hf3738]; omega), (by rw [hf3738]; exact fun h9 => absurd h9 (by omega)), (by rw [hf3738]; exact fun h9 => absurd h9 (by omega))⟩ hM hS dX13_readOrder_273
set_option maxHeartbeats 4000000 in
set_option maxRecDepth 100000 in
theorem kz_X13_readOrder_c10 (l : Launch) (D : va_G) (cy : Nat → ClassId) (ld ad : Nat → Nat) (am : Nat) (hD : mz_D ad am) (Fa : Nat → Int32) (Ga : Nat → Int64) (Ra : Nat → Nat → Int32) (Sa : Nat → Nat → Int64) (gf : Int32) (gt : Int32) (gs : Int32) (gp : Int32) (gw : Int64) (gb : Int32) (gc : Int32) (gn : Int32) {p : Program} {e : Env} {s : State} {m : MethodId} {args : Array Value} {below : List Frame} {meth : Method} {c : Code} (hx : p.tables.exec = Jvm.exec) (hb : c.code = cX13_readOrder) (hr : meth.sig.returnType = none) (hml : c.maxLocals = 4) (hts : ∀ w ∈ wl yX13_readOrder cX13_readOrder 4 none, w.before args s = true) (htl : ∀ w ∈ wsA, w.before args s = true) (hown : s.vm.findClass RX13 = some m.cls) (hlocks : meth.locks = false) (hK : kk_K D cy ld s) (hp_0 : 0 ≤ (-1) * gf.toInt + gt.toInt) (hp_1 : 0 ≤ gp.toInt + (-1) * gt.toInt) (hp_2 : (1 ≤ gs.toInt → 0 ≤ (-1) * gf.toInt + gt.toInt + (-1))) (hp_3 : (27 ≤ gw.toInt → 1 ≤ gs.toInt → gs.toInt ≤ 1 → 0 ≤ (-1) * gf.toInt + gt.toInt + (-2))) (hp_4 : 0 ≤ (-1) * gc.toInt + gf.toInt) (hp_5 : gb.toInt ≤ 0) (hx_0 : CLS 10 [1, 3, 5, 7] (Ra 24) (Ra 25) (Ra 61) gc.toInt gn.toInt) (hx_1 : TMS (Ra 61) gn.toInt) (v108 : Int32) (v109 : Int32) (v3523 : Int32) (v3716 : Int32) (v3731 : Int32) (v3733 : Int32) (v3735 : Int32) (v3739 : Int32) (v3741 : Int32) (v38 : Int32) (w3737 : Int64) (H : Heap) (locs : List Loc) (F : Nat → Int32) (G : Nat → Int64) (R : Nat → Nat → Int32) (S : Nat → Nat → Int64) (hq0_kz_X13_readOrder_c10 : v109.toInt ≤ 12) (hq1_kz_X13_readOrder_c10 : v3733.toInt ≤ 400) (hq2_kz_X13_readOrder_c10 : v3735.toInt ≤ 3) (hq3_kz_X13_readOrder_c10 : v3739.toInt ≤ 0) (hq4_kz_X13_readOrder_c10 : 0 ≤ v38.toInt) (hq5_kz_X13_readOrder_c10 : 0 ≤ (-1) * gf.toInt + gt.toInt + (-1)) (hq6_kz_X13_readOrder_c10 : (-10) * gn.toInt + v108.toInt = 0) (hq7_kz_X13_readOrder_c10 : (-1) * gn.toInt + v109.toInt + (-1) = 0) (hq8_kz_X13_readOrder_c10 : 0 ≤ (-1) * gc.toInt + v3523.toInt) (hq9_kz_X13_readOrder_c10 : 0 ≤ (-1) * v3523.toInt + v3716.toInt) (hq10_kz_X13_readOrder_c10 : 0 ≤ (-1) * v3731.toInt + v3733.toInt) (hq11_kz_X13_readOrder_c10 : 0 ≤ gp.toInt + (-1) * v3733.toInt) (hq12_kz_X13_readOrder_c10 : 0 ≤ (-1) * v3716.toInt + v3741.toInt) (hq13_kz_X13_readOrder_c10 : 0 ≤ v3731.toInt + (-1) * v3741.toInt) (hq14_kz_X13_readOrder_c10 : 0 ≤ gb.toInt + (-1) * v38.toInt) (hq15_kz_X13_readOrder_c10 : 0 ≤ gc.toInt + (-1) * v38.toInt) (hq16_kz_X13_readOrder_c10 : 0 ≤ gs.toInt + (-1) * v38.toInt + (-1)) (hq17_kz_X13_readOrder_c10 : 0 ≤ (-1) * gt.toInt + v3731.toInt) (hq18_kz_X13_readOrder_c10 : 0 ≤ (-1) * gs.toInt + v38.toInt + 1) (hq19_kz_X13_readOrder_c10 : 0 ≤ (-1) * gb.toInt + v109.toInt + (-1)) (hq20_kz_X13_readOrder_c10 : 0 ≤ (-1) * gb.toInt + v3735.toInt) (hq21_kz_X13_readOrder_c10 : 0 ≤ (-1) * gb.toInt + v3739.toInt) (hM : mz_S D cy ad am F G R S H) (hS : va_S (mz_W ad am) s.heap H locs) (hIF : mz_IF false F) (hIG : mz_IG G) (hIR : mz_IR [] true R) (hFF : ∀ k : Nat, k ∉ ([14, 15, 16, 18, 19, 21, 23, 26, 29, 30] : List Nat) → F k = Fa k) (hGG : ∀ k : Nat, k ∉ ([17] : List Nat) → G k = Ga k) (hRR : ∀ k : Nat, k ∉ ([24, 25, 27, 28, 61] : List Nat) → R k = Ra k) (hg_3 : F 13 = gp) (hf111 : F 21 = v109) (hf3730 : F 14 = v3731) (hf3732 : F 15 = v3733) (hf3734 : F 16 = v3735) (hf3736 : G 17 = w3737) (hf3738 : F 19 = v3739) (hf3740 : F 23 = v3741) (hc0_kz_X13_readOrder_c10 : (27 ≤ gw.toInt → 1 ≤ gs.toInt → gs.toInt ≤ 1 → 0 ≤ (-1) * gf.toInt + gt.toInt + (-2))) (hc1_kz_X13_readOrder_c10 : (1 ≤ v3735.toInt → 0 ≤ (-1) * v3731.toInt + v3733.toInt + (-1))) (hc2_kz_X13_readOrder_c10 : (27 ≤ w3737.toInt → 1 ≤ v3735.toInt → v3735.toInt ≤ 1 → 0 ≤ (-1) * v3731.toInt + v3733.toInt + (-2))) (hc3_kz_X13_readOrder_c10 : (27 ≤ gw.toInt → 1 ≤ gs.toInt → gs.toInt ≤ 1 → 0 ≤ (-1) * gf.toInt + gt.toInt + (-2))) (hL22 : low (10 * gn.toInt.toNat) (Ra 61) (R 61)) (hC : v3739.toInt = 0 → CLS 10 [1, 3, 5, 7] (R 24) (R 25) (Ra 61) gc.toInt gn.toInt) (h22_1 : R 61 (10 * gn.toInt.toNat + 1) = gc) (h22_2 : R 61 (10 * gn.toInt.toNat + 2) = v3523) (h22_3 : R 61 (10 * gn.toInt.toNat + 3) = v3523) (h22_4 : R 61 (10 * gn.toInt.toNat + 4) = v3716) (h22_5 : R 61 (10 * gn.toInt.toNat + 5) = v3716) (h22_6 : R 61 (10 * gn.toInt.toNat + 6) = v3741) (h22_7 : R 61 (10 * gn.toInt.toNat + 7) = 0) (h22_8 : R 61 (10 * gn.toInt.toNat + 8) = 0) (h22_0 : R 61 (10 * gn.toInt.toNat + 0) = v38) (h22_9 : R 61 (10 * gn.toInt.toNat + 9) = 1) (hX3524 : v3739.toInt = 0 → WFX (R 24) (R 25) gc v3523) (hX3717 : v3739.toInt = 0 → WFX (R 24) (R 25) v3523 v3716) (hX3742 : v3739.toInt = 0 → WFX (R 24) (R 25) v3716 v3741) (ls : Array Slot) (hl : lv_has ls 4 [(2, .int v108), (0, .ref am)]) : W p l e ({ frames := 12, cells := 0, slots := 0, locals := 770 }) s m args below meth c H locs 0 0 (MQ below (mz_w D cy ad am (fun F G R S => mz_IF false F ∧ mz_IG G ∧ mz_IR [] true R ∧ (∀ k : Nat, k ∉ ([14, 15, 16, 18, 19, 21, 23, 26, 29, 30] : List Nat) → F k = Fa k) ∧ (∀ k : Nat, k ∉ ([24, 25, 27, 28, 61] : List Nat) → R k = Ra k) ∧ (∀ k : Nat, k ∉ ([17] : List Nat) → G k = Ga k) ∧ 0 ≤ (-1) * (F 14).toInt + (F 15).toInt ∧ 0 ≤ gp.toInt + (-1) * (F 15).toInt ∧ (1 ≤ (F 16).toInt → 0 ≤ (-1) * (F 14).toInt + (F 15).toInt + (-1)) ∧ (27 ≤ (G 17).toInt → 1 ≤ (F 16).toInt → (F 16).toInt ≤ 1 → 0 ≤ (-1) * (F 14).toInt + (F 15).toInt + (-2)) ∧ 0 ≤ (-1) * gf.toInt + (F 14).toInt ∧ 0 ≤ (-1) * gc.toInt + (F 23).toInt ∧ 0 ≤ (-1) * (F 23).toInt + (F 14).toInt ∧ 0 ≤ (-1) * gb.toInt + (F 19).toInt ∧ ((F 19).toInt ≤ 0 → 0 ≤ (-1) * gf.toInt + (F 14).toInt + (-1)) ∧ ((F 19).toInt = 0 → CLS 10 [1, 3, 5, 7] (R 24) (R 25) (R 61) (F 23).toInt (F 21).toInt) ∧ ((F 19).toInt = 0 → TMS (R 61) (F 21).toInt))) args s 0 0 (mz_W ad am)) (F0 m 221 ls []) := by
  have hq_gb := tk_rng gb
  have hq_gc := tk_rng gc
  have hq_gf := tk_rng gf
  have hq_gn := tk_rng gn
  have hq_gp := tk_rng gp
  have hq_gs := tk_rng gs
  have hq_gt := tk_rng gt
  have hq_gw := tk_rngL gw
  have hq_v108 := tk_rng v108
  have hq_v109 := tk_rng v109
  have hq_v3523 := tk_rng v3523
  have hq_v3716 := tk_rng v3716
  have hq_v3731 := tk_rng v3731
  have hq_v3733 := tk_rng v3733
  have hq_v3735 := tk_rng v3735
  have hq_v3739 := tk_rng v3739
  have hq_v3741 := tk_rng v3741
  have hq_v38 := tk_rng v38
  have hq_w3737 := tk_rngL w3737
  have hr_gp : 0 ≤ gp.toInt ∧ gp.toInt ≤ 400 := hIF.at hg_3
  have hr_v109 : 0 ≤ v109.toInt ∧ v109.toInt ≤ 12 := hIF.at hf111
  have hr_v3731 : 0 ≤ v3731.toInt ∧ v3731.toInt ≤ 400 := hIF.at hf3730
  have hr_v3733 : 0 ≤ v3733.toInt ∧ v3733.toInt ≤ 400 := hIF.at hf3732
  have hr_v3735 : 0 ≤ v3735.toInt ∧ v3735.toInt ≤ 3 := hIF.at hf3734
  have hr_v3739 : 0 ≤ v3739.toInt ∧ v3739.toInt ≤ 1 := hIF.at hf3738
  have hr_v3741 : 0 ≤ v3741.toInt ∧ v3741.toInt ≤ 400 := hIF.at hf3740
  refine lv_aload_n hx hb dX13_readOrder_221 rfl (lv_at hl 1 rfl) ?_
  refine mz_getR hx hb htl hown hK hM 61 (Nat.le_of_ble_eq_true rfl) (Nat.le_of_ble_eq_true rfl) (htl _ mw_239) (fun _ h9 => h9) dX13_readOrder_222 ?_
  refine lv_iload_n hx hb dX13_readOrder_225 rfl (lv_at hl 0 rfl) ?_
  refine lv_bipush (v := 7) hx hb dX13_readOrder_226 (by decide) ?_
  refine lv_iadd hx hb dX13_readOrder_228 ?_
  refine tk_add rfl (show (7 : Int32).toInt = 7 by decide) (by omega) (by omega) (fun v3761 h_v3761 => ?_)
  refine lv_aload_n hx hb dX13_readOrder_229 rfl (lv_at hl 1 rfl) ?_
  refine mz_getI hx hb htl hown hK hM 23 (Nat.le_of_ble_eq_true rfl) rfl (htl _ mw_670) (fun _ h9 => h9) dX13_readOrder_230 (fun v9 e9 => ?_)
  refine fx_ti (v := v3741) (e9.symm.trans hf3740) ?_
  refine mz_iast (x := v3741) hx hb hK hD hM hS 61 (Nat.le_of_ble_eq_true rfl) rfl (nn := 120) rfl rfl (by omega) (by omega) dX13_readOrder_233 (fun H locs R hM hS hw9 hj9 => ?_)
  have hIR := hIR.put hw9 hj9 trivial
  have hL22 : low (10 * gn.toInt.toNat) (Ra 61) (R 61) := fun j hj => by rw [hw9, pk_un (fun h9 => by have h8 := tk_nat (i := v3761) rfl (by omega); omega)]; exact hL22 j hj
  have h22_1 : R 61 (10 * gn.toInt.toNat + 1) = gc := by rw [hw9, pk_un (fun h9 => by have h8 := tk_nat (i := v3761) rfl (by omega); omega)]; exact h22_1
  have h22_2 : R 61 (10 * gn.toInt.toNat + 2) = v3523 := by rw [hw9, pk_un (fun h9 => by have h8 := tk_nat (i := v3761) rfl (by omega); omega)]; exact h22_2
  have h22_3 : R 61 (10 * gn.toInt.toNat + 3) = v3523 := by rw [hw9, pk_un (fun h9 => by have h8 := tk_nat (i := v3761) rfl (by omega); omega)]; exact h22_3
  have h22_4 : R 61 (10 * gn.toInt.toNat + 4) = v3716 := by rw [hw9, pk_un (fun h9 => by have h8 := tk_nat (i := v3761) rfl (by omega); omega)]; exact h22_4
  have h22_5 : R 61 (10 * gn.toInt.toNat + 5) = v3716 := by rw [hw9, pk_un (fun h9 => by have h8 := tk_nat (i := v3761) rfl (by omega); omega)]; exact h22_5
  have h22_6 : R 61 (10 * gn.toInt.toNat + 6) = v3741 := by rw [hw9, pk_un (fun h9 => by have h8 := tk_nat (i := v3761) rfl (by omega); omega)]; exact h22_6
  have h22_8 : R 61 (10 * gn.toInt.toNat + 8) = 0 := by rw [hw9, pk_un (fun h9 => by have h8 := tk_nat (i := v3761) rfl (by omega); omega)]; exact h22_8
  have h22_0 : R 61 (10 * gn.toInt.toNat + 0) = v38 := by rw [hw9, pk_un (fun h9 => by have h8 := tk_nat (i := v3761) rfl (by omega); omega)]; exact h22_0
  have h22_9 : R 61 (10 * gn.toInt.toNat + 9) = 1 := by rw [hw9, pk_un (fun h9 => by have h8 := tk_nat (i := v3761) rfl (by omega); omega)]; exact h22_9
  have hC9 := hC
  have hC : v3739.toInt = 0 → CLS 10 [1, 3, 5, 7] (R 24) (R 25) (Ra 61) gc.toInt gn.toInt := fun h9 => (hC9 (by omega)).to (hj9 24 (by decide)) (hj9 25 (by decide))
  have hX35249 := hX3524
  have hX3524 : v3739.toInt = 0 → WFX (R 24) (R 25) gc v3523 := fun h9 => by rw [hj9 24 (by decide), hj9 25 (by decide)]; exact hX35249 (by omega)
  have hX37179 := hX3717
  have hX3717 : v3739.toInt = 0 → WFX (R 24) (R 25) v3523 v3716 := fun h9 => by rw [hj9 24 (by decide), hj9 25 (by decide)]; exact hX37179 (by omega)
  have hX37429 := hX3742
  have hX3742 : v3739.toInt = 0 → WFX (R 24) (R 25) v3716 v3741 := fun h9 => by rw [hj9 24 (by decide), hj9 25 (by decide)]; exact hX37429 (by omega)
  have h22_7 : R 61 (10 * gn.toInt.toNat + 7) = v3741 := by rw [hw9, show 10 * gn.toInt.toNat + 7 = (v3761 : Int32).toNatClampNeg by show _ = v3761.toInt.toNat; omega]; exact pk_us
  have hRR := mz_frp (K := [24, 25, 27, 28, 61]) (Fa := Ra) hj9 hRR (by decide)
  refine lv_aload_n hx hb dX13_readOrder_234 rfl (lv_at hl 1 rfl) ?_
  refine mz_getI hx hb htl hown hK hM 19 (Nat.le_of_ble_eq_true rfl) rfl (htl _ mw_668) (fun _ h9 => h9) dX13_readOrder_235 (fun v9 e9 => ?_)
  refine fx_ti (v := v3739) (e9.symm.trans hf3738) ?_
  refine lv_if_ne (tgt := 260) hx hb dX13_readOrder_238 (by decide) (fun c9 => absurd ((fi_eq rfl (show (0 : Int32).toInt = 0 by decide)).mpr (show v3739.toInt = 0 by omega)) c9) (fun _ => ?_)
  refine lv_aload_n hx hb dX13_readOrder_241 rfl (lv_at hl 1 rfl) ?_
  refine lv_ldc2 hx hb hown (htl _ mw_705) dX13_readOrder_242 ?_
  have hk_294 : (294 : Int64).toInt = 294 := by decide
  refine mz_Vj (As := [.long 294]) (rest := []) ⟨hx, hb, hml, hown, hts⟩ hK hM hS (k_X13_isWord l D cy ld ad am hD _ _ _ _ 294 v3735 w3737 hIF hIG hIR hf3734 hf3736) ⟨callB_of 1 hts (wl_in mw_709) rfl rfl rfl (htl _ mw_5) (htl _ mw_706) hd_yX13_isWord ⟨(Nat.le_of_ble_eq_true rfl), (Nat.le_of_ble_eq_true rfl)⟩, htl _ mw_707, htl _ mw_708⟩ rfl hl.1 rfl (Nat.le_of_ble_eq_true rfl) dX13_readOrder_245 ⟨(Nat.le_of_ble_eq_true rfl), (Nat.le_of_ble_eq_true rfl)⟩ (fun v3763 H locs hpo hM hS => ?_)
  obtain ⟨hpo3764, hpo3765, hpo3766, hpo3767, hpo3768⟩ := hpo
  have hq_v3763 := tk_rng v3763
  refine lv_if_eq (tgt := 260) hx hb dX13_readOrder_248 (by decide) (fun c9 => ?_) (fun c9 => ?_)
  · have hc3770 : v3763.toInt = 0 := (fi_eq rfl (show (0 : Int32).toInt = 0 by decide)).mp c9
    refine lv_aload_n hx hb dX13_readOrder_260 rfl (lv_at hl 1 rfl) ?_
    refine mz_getR hx hb htl hown hK hM 61 (Nat.le_of_ble_eq_true rfl) (Nat.le_of_ble_eq_true rfl) (htl _ mw_239) (fun _ h9 => h9) dX13_readOrder_261 ?_
    refine lv_iload_n hx hb dX13_readOrder_264 rfl (lv_at hl 0 rfl) ?_
    refine lv_bipush (v := 8) hx hb dX13_readOrder_265 (by decide) ?_
    refine lv_iadd hx hb dX13_readOrder_267 ?_
    refine tk_add rfl (show (8 : Int32).toInt = 8 by decide) (by omega) (by omega) (fun v3771 h_v3771 => ?_)
    refine lv_aload_n hx hb dX13_readOrder_268 rfl (lv_at hl 1 rfl) ?_
    refine mz_getI hx hb htl hown hK hM 23 (Nat.le_of_ble_eq_true rfl) rfl (htl _ mw_670) (fun _ h9 => h9) dX13_readOrder_269 (fun v9 e9 => ?_)
    refine fx_ti (v := v3741) (e9.symm.trans hf3740) ?_
    refine mz_iast (x := v3741) hx hb hK hD hM hS 61 (Nat.le_of_ble_eq_true rfl) rfl (nn := 120) rfl rfl (by omega) (by omega) dX13_readOrder_272 (fun H locs R hM hS hw9 hj9 => ?_)
    have hIR := hIR.put hw9 hj9 trivial
    have hL22 : low (10 * gn.toInt.toNat) (Ra 61) (R 61) := fun j hj => by rw [hw9, pk_un (fun h9 => by have h8 := tk_nat (i := v3771) rfl (by omega); omega)]; exact hL22 j hj
    have h22_1 : R 61 (10 * gn.toInt.toNat + 1) = gc := by rw [hw9, pk_un (fun h9 => by have h8 := tk_nat (i := v3771) rfl (by omega); omega)]; exact h22_1
    have h22_2 : R 61 (10 * gn.toInt.toNat + 2) = v3523 := by rw [hw9, pk_un (fun h9 => by have h8 := tk_nat (i := v3771) rfl (by omega); omega)]; exact h22_2
    have h22_3 : R 61 (10 * gn.toInt.toNat + 3) = v3523 := by rw [hw9, pk_un (fun h9 => by have h8 := tk_nat (i := v3771) rfl (by omega); omega)]; exact h22_3
    have h22_4 : R 61 (10 * gn.toInt.toNat + 4) = v3716 := by rw [hw9, pk_un (fun h9 => by have h8 := tk_nat (i := v3771) rfl (by omega); omega)]; exact h22_4
    have h22_5 : R 61 (10 * gn.toInt.toNat + 5) = v3716 := by rw [hw9, pk_un (fun h9 => by have h8 := tk_nat (i := v3771) rfl (by omega); omega)]; exact h22_5
    have h22_6 : R 61 (10 * gn.toInt.toNat + 6) = v3741 := by rw [hw9, pk_un (fun h9 => by have h8 := tk_nat (i := v3771) rfl (by omega); omega)]; exact h22_6
    have h22_7 : R 61 (10 * gn.toInt.toNat + 7) = v3741 := by rw [hw9, pk_un (fun h9 => by have h8 := tk_nat (i := v3771) rfl (by omega); omega)]; exact h22_7
    have h22_0 : R 61 (10 * gn.toInt.toNat + 0) = v38 := by rw [hw9, pk_un (fun h9 => by have h8 := tk_nat (i := v3771) rfl (by omega); omega)]; exact h22_0
    have h22_9 : R 61 (10 * gn.toInt.toNat + 9) = 1 := by rw [hw9, pk_un (fun h9 => by have h8 := tk_nat (i := v3771) rfl (by omega); omega)]; exact h22_9
    have hC9 := hC
    have hC : v3739.toInt = 0 → CLS 10 [1, 3, 5, 7] (R 24) (R 25) (Ra 61) gc.toInt gn.toInt := fun h9 => (hC9 (by omega)).to (hj9 24 (by decide)) (hj9 25 (by decide))
    have hX35249 := hX3524
    have hX3524 : v3739.toInt = 0 → WFX (R 24) (R 25) gc v3523 := fun h9 => by rw [hj9 24 (by decide), hj9 25 (by decide)]; exact hX35249 (by omega)
    have hX37179 := hX3717
    have hX3717 : v3739.toInt = 0 → WFX (R 24) (R 25) v3523 v3716 := fun h9 => by rw [hj9 24 (by decide), hj9 25 (by decide)]; exact hX37179 (by omega)
    have hX37429 := hX3742
    have hX3742 : v3739.toInt = 0 → WFX (R 24) (R 25) v3716 v3741 := fun h9 => by rw [hj9 24 (by decide), hj9 25 (by decide)]; exact hX37429 (by omega)
    have h22_8 : R 61 (10 * gn.toInt.toNat + 8) = v3741 := by rw [hw9, show 10 * gn.toInt.toNat + 8 = (v3771 : Int32).toNatClampNeg by show _ = v3771.toInt.toNat; omega]; exact pk_us
    have hRR := mz_frp (K := [24, 25, 27, 28, 61]) (Fa := Ra) hj9 hRR (by decide)
    have hk_1 : (1 : Int32).toInt = 1 := by decide
    exact mz_vret hx hb hr hlocks ⟨hIF, hIG, hIR, hFF, hRR, hGG, (by rw [hf3730, hf3732]; omega), (by rw [hf3732]; omega), (by rw [hf3730, hf3732, hf3734]; omega), (by rw [hf3730, hf3732, hf3734, hf3736]; omega), (by rw [hf3730]; omega), (by rw [hf3740]; omega), (by rw [hf3730, hf3740]; omega), (by rw [hf3738]; omega), (by rw [hf3730, hf3738]; omega), (by rw [hf3738, hf3740, hf111]; exact fun h9 => mz_snoc (N := gn.toInt.toNat) (hC h9) (by omega) (by omega) hL22 (by decide) (by omega) (by intro d hd; simp only [List.mem_cons, List.not_mem_nil, or_false] at hd; rcases hd with rfl | rfl | rfl | rfl <;> first | (rw [show 10 * gn.toInt.toNat + 1 + 1 = 10 * gn.toInt.toNat + 2 from rfl, h22_1, h22_2]; exact ⟨hX3524 h9, by omega⟩) | (rw [show 10 * gn.toInt.toNat + 3 + 1 = 10 * gn.toInt.toNat + 4 from rfl, h22_3, h22_4]; exact ⟨hX3717 h9, by omega⟩) | (rw [show 10 * gn.toInt.toNat + 5 + 1 = 10 * gn.toInt.toNat + 6 from rfl, h22_5, h22_6]; exact ⟨hX3742 h9, by omega⟩) | (rw [show 10 * gn.toInt.toNat + 7 + 1 = 10 * gn.toInt.toNat + 8 from rfl, h22_7, h22_8]; exact ⟨WFX.nil (by omega) (by omega), by omega⟩))), (by rw [hf3738, hf111]; exact fun h9 => TMS.snoc (N := gn.toInt.toNat) hx_1 (by omega) (by omega) hL22 h22_9 (by omega) (by omega))⟩ hM hS dX13_readOrder_273
  · have hc3770 : ¬ (v3763.toInt = 0) := fun h9 => c9 ((fi_eq rfl (show (0 : Int32).toInt = 0 by decide)).mpr h9)
    have hwk_3773 : w3737.toInt + (-294) = 0 ∧ v3735.toInt + (-1) = 0 := by omega
    have hwk_3774 : 0 ≤ (-1) * v3731.toInt + v3733.toInt + (-1) := by omega
    have hwk_3775 : 0 ≤ (-1) * v3731.toInt + v3733.toInt + (-2) := by omega
    refine lv_aload_n hx hb dX13_readOrder_251 rfl (lv_at hl 1 rfl) ?_
    refine mz_Vv (As := []) (rest := []) ⟨hx, hb, hml, hown, hts⟩ hK hM hS (k_X13_next l D cy ld ad am hD _ _ _ _ v3733 gp hIF hIG hIR hf3732 hg_3 (by omega)) ⟨callB_of 0 hts (wl_in mw_685) rfl rfl rfl (htl _ mw_5) (htl _ mw_682) hd_yX13_next ⟨(Nat.le_of_ble_eq_true rfl), (Nat.le_of_ble_eq_true rfl)⟩, htl _ mw_683, htl _ mw_684⟩ rfl hl.1 rfl (Nat.le_of_ble_eq_true rfl) dX13_readOrder_252 ⟨(Nat.le_of_ble_eq_true rfl), (Nat.le_of_ble_eq_true rfl)⟩ (fun H locs F G R S hpo hM hS => ?_)
    obtain ⟨hIF, hIG, hIR, hfr9, hrr9, hgr9, hpo3776, hpo3777, hpo3778, hpo3779, hpo3780⟩ := hpo
    have hFF := mz_fr (K := [14, 15, 16, 18, 19, 21, 23, 26, 29, 30]) (Fa := Fa) hfr9 hFF (by decide)
    have hRR := mz_fr (K := [24, 25, 27, 28, 61]) (Fa := Ra) hrr9 hRR (by decide)
    have hGG := mz_fr (K := [17]) (Fa := Ga) hgr9 hGG (by decide)
    have hg_3 := (hfr9 13 (by decide)).trans hg_3
    have hf111 := (hfr9 21 (by decide)).trans hf111
    have hf3738 := (hfr9 19 (by decide)).trans hf3738
    have hf3740 := (hfr9 23 (by decide)).trans hf3740
    obtain ⟨v3783, hf3782⟩ : ∃ z : Int32, F 14 = z := ⟨_, rfl⟩
    have hq_v3783 := tk_rng v3783
    rw [hf3782] at hpo3776 hpo3777 hpo3779 hpo3780
    have hr_v3783 : 0 ≤ v3783.toInt ∧ v3783.toInt ≤ 400 := hIF.at hf3782
    obtain ⟨v3785, hf3784⟩ : ∃ z : Int32, F 15 = z := ⟨_, rfl⟩
    have hq_v3785 := tk_rng v3785
    rw [hf3784] at hpo3777 hpo3778 hpo3779 hpo3780
    have hr_v3785 : 0 ≤ v3785.toInt ∧ v3785.toInt ≤ 400 := hIF.at hf3784
    obtain ⟨v3787, hf3786⟩ : ∃ z : Int32, F 16 = z := ⟨_, rfl⟩
    have hq_v3787 := tk_rng v3787
    rw [hf3786] at hpo3779 hpo3780
    have hr_v3787 : 0 ≤ v3787.toInt ∧ v3787.toInt ≤ 3 := hIF.at hf3786
    obtain ⟨w3789, hf3788⟩ : ∃ z : Int64, G 17 = z := ⟨_, rfl⟩
    have hq_w3789 := tk_rngL w3789
    rw [hf3788] at hpo3780
    have hL22 := hL22.to (hrr9 61 (by decide))
    have h22_1 := (congrFun (hrr9 61 (by decide)) _).trans h22_1
    have h22_2 := (congrFun (hrr9 61 (by decide)) _).trans h22_2
    have h22_3 := (congrFun (hrr9 61 (by decide)) _).trans h22_3
    have h22_4 := (congrFun (hrr9 61 (by decide)) _).trans h22_4
    have h22_5 := (congrFun (hrr9 61 (by decide)) _).trans h22_5
    have h22_6 := (congrFun (hrr9 61 (by decide)) _).trans h22_6
    have h22_7 := (congrFun (hrr9 61 (by decide)) _).trans h22_7
    have h22_8 := (congrFun (hrr9 61 (by decide)) _).trans h22_8
    have h22_0 := (congrFun (hrr9 61 (by decide)) _).trans h22_0
    have h22_9 := (congrFun (hrr9 61 (by decide)) _).trans h22_9
    have hC9 := hC
    have hC : v3739.toInt = 0 → CLS 10 [1, 3, 5, 7] (R 24) (R 25) (Ra 61) gc.toInt gn.toInt := fun h9 => (hC9 (by omega)).to (hrr9 24 (by decide)) (hrr9 25 (by decide))
    have hX35249 := hX3524
    have hX3524 : v3739.toInt = 0 → WFX (R 24) (R 25) gc v3523 := fun h9 => by rw [hrr9 24 (by decide), hrr9 25 (by decide)]; exact hX35249 (by omega)
    have hX37179 := hX3717
    have hX3717 : v3739.toInt = 0 → WFX (R 24) (R 25) v3523 v3716 := fun h9 => by rw [hrr9 24 (by decide), hrr9 25 (by decide)]; exact hX37179 (by omega)
    have hX37429 := hX3742
    have hX3742 : v3739.toInt = 0 → WFX (R 24) (R 25) v3716 v3741 := fun h9 => by rw [hrr9 24 (by decide), hrr9 25 (by decide)]; exact hX37429 (by omega)
    refine lv_aload_n hx hb dX13_readOrder_255 rfl (lv_at hl 1 rfl) ?_
    refine lv_iconst (v := 1) hx hb dX13_readOrder_256 (by decide) ?_
    have hk_1 : (1 : Int32).toInt = 1 := by decide
    refine mz_Vv (As := [.int 1]) (rest := []) ⟨hx, hb, hml, hown, hts⟩ hK hM hS (k_X13_readExpression l D cy ld ad am hD _ _ _ _ 1 v3783 v3785 v3787 gp w3789 v3739 v3741 hIF hIG hIR hf3782 hf3784 hf3786 hg_3 hf3788 hf3738 hf3740 (by omega) (by omega) (by omega) (by omega) (by omega) (by omega) (by omega) (by omega)) ⟨callB_of 1 hts (wl_in mw_717) rfl rfl rfl (htl _ mw_5) (htl _ mw_714) hd_yX13_readExpression ⟨(Nat.le_of_ble_eq_true rfl), (Nat.le_of_ble_eq_true rfl)⟩, htl _ mw_715, htl _ mw_716⟩ rfl hl.1 rfl (Nat.le_of_ble_eq_true rfl) dX13_readOrder_257 ⟨(Nat.le_of_ble_eq_true rfl), (Nat.le_of_ble_eq_true rfl)⟩ (fun H locs F G R S hpo hM hS => ?_)
    obtain ⟨hIF, hIG, hIR, hfr9, hrr9, hgr9, hpo3790, hpo3791, hpo3792, hpo3793, hpo3794, hpo3795, hpo3796, hx3797⟩ := hpo
    have hFF := mz_fr (K := [14, 15, 16, 18, 19, 21, 23, 26, 29, 30]) (Fa := Fa) hfr9 hFF (by decide)
    have hRR := mz_fr (K := [24, 25, 27, 28, 61]) (Fa := Ra) hrr9 hRR (by decide)
    have hGG := mz_fr (K := [17]) (Fa := Ga) hgr9 hGG (by decide)
    have hg_3 := (hfr9 13 (by decide)).trans hg_3
    have hf111 := (hfr9 21 (by decide)).trans hf111
    obtain ⟨v3800, hf3799⟩ : ∃ z : Int32, F 14 = z := ⟨_, rfl⟩
    have hq_v3800 := tk_rng v3800
    rw [hf3799] at hpo3790 hpo3792 hpo3793 hpo3794 hpo3795
    have hr_v3800 : 0 ≤ v3800.toInt ∧ v3800.toInt ≤ 400 := hIF.at hf3799
    obtain ⟨v3802, hf3801⟩ : ∃ z : Int32, F 15 = z := ⟨_, rfl⟩
    have hq_v3802 := tk_rng v3802
    rw [hf3801] at hpo3790 hpo3791 hpo3792 hpo3793
    have hr_v3802 : 0 ≤ v3802.toInt ∧ v3802.toInt ≤ 400 := hIF.at hf3801
    obtain ⟨v3804, hf3803⟩ : ∃ z : Int32, F 16 = z := ⟨_, rfl⟩
    have hq_v3804 := tk_rng v3804
    rw [hf3803] at hpo3792 hpo3793
    have hr_v3804 : 0 ≤ v3804.toInt ∧ v3804.toInt ≤ 3 := hIF.at hf3803
    obtain ⟨w3806, hf3805⟩ : ∃ z : Int64, G 17 = z := ⟨_, rfl⟩
    have hq_w3806 := tk_rngL w3806
    rw [hf3805] at hpo3793
    obtain ⟨v3808, hf3807⟩ : ∃ z : Int32, F 19 = z := ⟨_, rfl⟩
    have hq_v3808 := tk_rng v3808
    have hr_v3808 : 0 ≤ v3808.toInt ∧ v3808.toInt ≤ 1 := hIF.at hf3807
    obtain ⟨v3810, hf3809⟩ : ∃ z : Int32, F 23 = z := ⟨_, rfl⟩
    have hq_v3810 := tk_rng v3810
    rw [hf3809] at hpo3795 hpo3796
    have hr_v3810 : 0 ≤ v3810.toInt ∧ v3810.toInt ≤ 400 := hIF.at hf3809
    have hL22 := hL22.to (hrr9 61 (by decide))
    have h22_1 := (congrFun (hrr9 61 (by decide)) _).trans h22_1
    have h22_2 := (congrFun (hrr9 61 (by decide)) _).trans h22_2
    have h22_3 := (congrFun (hrr9 61 (by decide)) _).trans h22_3
    have h22_4 := (congrFun (hrr9 61 (by decide)) _).trans h22_4
    have h22_5 := (congrFun (hrr9 61 (by decide)) _).trans h22_5
    have h22_6 := (congrFun (hrr9 61 (by decide)) _).trans h22_6
    have h22_7 := (congrFun (hrr9 61 (by decide)) _).trans h22_7
    have h22_8 := (congrFun (hrr9 61 (by decide)) _).trans h22_8
    have h22_0 := (congrFun (hrr9 61 (by decide)) _).trans h22_0
    have h22_9 := (congrFun (hrr9 61 (by decide)) _).trans h22_9
    have hE9 : v3808.toInt = 0 → WFC (R 24) (R 25) v3741.toInt.toNat v3810.toInt.toNat ∧ low v3741.toInt.toNat _ (R 24) ∧ low v3741.toInt.toNat _ (R 25) := fun h9 => by have h8 := hx3797 (by rw [hf3807]; exact h9); rw [hf3809] at h8; exact h8
    have hC9 := hC (by omega)
    have hC : v3808.toInt = 0 → CLS 10 [1, 3, 5, 7] (R 24) (R 25) (Ra 61) gc.toInt gn.toInt := fun h9 => hC9.low (N := v3741.toInt.toNat) (by omega) (hE9 h9).2.1 (hE9 h9).2.2
    have hX35249 := hX3524 (by omega)
    have hX3524 : v3808.toInt = 0 → WFX (R 24) (R 25) gc v3523 := fun h9 => hX35249.low (n := v3741.toInt.toNat) (by omega) (hE9 h9).2.1 (hE9 h9).2.2
    have hX37179 := hX3717 (by omega)
    have hX3717 : v3808.toInt = 0 → WFX (R 24) (R 25) v3523 v3716 := fun h9 => hX37179.low (n := v3741.toInt.toNat) (by omega) (hE9 h9).2.1 (hE9 h9).2.2
    have hX37429 := hX3742 (by omega)
    have hX3742 : v3808.toInt = 0 → WFX (R 24) (R 25) v3716 v3741 := fun h9 => hX37429.low (n := v3741.toInt.toNat) (by omega) (hE9 h9).2.1 (hE9 h9).2.2
    have hX3811 : v3808.toInt = 0 → WFX (R 24) (R 25) v3741 v3810 := fun h9 => ⟨by omega, by omega, by omega, (hE9 h9).1⟩
    refine lv_aload_n hx hb dX13_readOrder_260 rfl (lv_at hl 1 rfl) ?_
    refine mz_getR hx hb htl hown hK hM 61 (Nat.le_of_ble_eq_true rfl) (Nat.le_of_ble_eq_true rfl) (htl _ mw_239) (fun _ h9 => h9) dX13_readOrder_261 ?_
    refine lv_iload_n hx hb dX13_readOrder_264 rfl (lv_at hl 0 rfl) ?_
    refine lv_bipush (v := 8) hx hb dX13_readOrder_265 (by decide) ?_
    refine lv_iadd hx hb dX13_readOrder_267 ?_
    refine tk_add rfl (show (8 : Int32).toInt = 8 by decide) (by omega) (by omega) (fun v3812 h_v3812 => ?_)
    refine lv_aload_n hx hb dX13_readOrder_268 rfl (lv_at hl 1 rfl) ?_
    refine mz_getI hx hb htl hown hK hM 23 (Nat.le_of_ble_eq_true rfl) rfl (htl _ mw_670) (fun _ h9 => h9) dX13_readOrder_269 (fun v9 e9 => ?_)
    refine fx_ti (v := v3810) (e9.symm.trans hf3809) ?_
    refine mz_iast (x := v3810) hx hb hK hD hM hS 61 (Nat.le_of_ble_eq_true rfl) rfl (nn := 120) rfl rfl (by omega) (by omega) dX13_readOrder_272 (fun H locs R hM hS hw9 hj9 => ?_)
    have hIR := hIR.put hw9 hj9 trivial
    have hL22 : low (10 * gn.toInt.toNat) (Ra 61) (R 61) := fun j hj => by rw [hw9, pk_un (fun h9 => by have h8 := tk_nat (i := v3812) rfl (by omega); omega)]; exact hL22 j hj
    have h22_1 : R 61 (10 * gn.toInt.toNat + 1) = gc := by rw [hw9, pk_un (fun h9 => by have h8 := tk_nat (i := v3812) rfl (by omega); omega)]; exact h22_1
    have h22_2 : R 61 (10 * gn.toInt.toNat + 2) = v3523 := by rw [hw9, pk_un (fun h9 => by have h8 := tk_nat (i := v3812) rfl (by omega); omega)]; exact h22_2
    have h22_3 : R 61 (10 * gn.toInt.toNat + 3) = v3523 := by rw [hw9, pk_un (fun h9 => by have h8 := tk_nat (i := v3812) rfl (by omega); omega)]; exact h22_3
    have h22_4 : R 61 (10 * gn.toInt.toNat + 4) = v3716 := by rw [hw9, pk_un (fun h9 => by have h8 := tk_nat (i := v3812) rfl (by omega); omega)]; exact h22_4
    have h22_5 : R 61 (10 * gn.toInt.toNat + 5) = v3716 := by rw [hw9, pk_un (fun h9 => by have h8 := tk_nat (i := v3812) rfl (by omega); omega)]; exact h22_5
    have h22_6 : R 61 (10 * gn.toInt.toNat + 6) = v3741 := by rw [hw9, pk_un (fun h9 => by have h8 := tk_nat (i := v3812) rfl (by omega); omega)]; exact h22_6
    have h22_7 : R 61 (10 * gn.toInt.toNat + 7) = v3741 := by rw [hw9, pk_un (fun h9 => by have h8 := tk_nat (i := v3812) rfl (by omega); omega)]; exact h22_7
    have h22_0 : R 61 (10 * gn.toInt.toNat + 0) = v38 := by rw [hw9, pk_un (fun h9 => by have h8 := tk_nat (i := v3812) rfl (by omega); omega)]; exact h22_0
    have h22_9 : R 61 (10 * gn.toInt.toNat + 9) = 1 := by rw [hw9, pk_un (fun h9 => by have h8 := tk_nat (i := v3812) rfl (by omega); omega)]; exact h22_9
    have hC9 := hC
    have hC : v3808.toInt = 0 → CLS 10 [1, 3, 5, 7] (R 24) (R 25) (Ra 61) gc.toInt gn.toInt := fun h9 => (hC9 (by omega)).to (hj9 24 (by decide)) (hj9 25 (by decide))
    have hX35249 := hX3524
    have hX3524 : v3808.toInt = 0 → WFX (R 24) (R 25) gc v3523 := fun h9 => by rw [hj9 24 (by decide), hj9 25 (by decide)]; exact hX35249 (by omega)
    have hX37179 := hX3717
    have hX3717 : v3808.toInt = 0 → WFX (R 24) (R 25) v3523 v3716 := fun h9 => by rw [hj9 24 (by decide), hj9 25 (by decide)]; exact hX37179 (by omega)
    have hX37429 := hX3742
    have hX3742 : v3808.toInt = 0 → WFX (R 24) (R 25) v3716 v3741 := fun h9 => by rw [hj9 24 (by decide), hj9 25 (by decide)]; exact hX37429 (by omega)
    have hX38119 := hX3811
    have hX3811 : v3808.toInt = 0 → WFX (R 24) (R 25) v3741 v3810 := fun h9 => by rw [hj9 24 (by decide), hj9 25 (by decide)]; exact hX38119 (by omega)
    have h22_8 : R 61 (10 * gn.toInt.toNat + 8) = v3810 := by rw [hw9, show 10 * gn.toInt.toNat + 8 = (v3812 : Int32).toNatClampNeg by show _ = v3812.toInt.toNat; omega]; exact pk_us
    have hRR := mz_frp (K := [24, 25, 27, 28, 61]) (Fa := Ra) hj9 hRR (by decide)
    have hk_1 : (1 : Int32).toInt = 1 := by decide
    exact mz_vret hx hb hr hlocks ⟨hIF, hIG, hIR, hFF, hRR, hGG, (by rw [hf3799, hf3801]; omega), (by rw [hf3801]; omega), (by rw [hf3799, hf3801, hf3803]; omega), (by rw [hf3799, hf3801, hf3803, hf3805]; omega), (by rw [hf3799]; omega), (by rw [hf3809]; omega), (by rw [hf3799, hf3809]; omega), (by rw [hf3807]; omega), (by rw [hf3799, hf3807]; omega), (by rw [hf3807, hf3809, hf111]; exact fun h9 => mz_snoc (N := gn.toInt.toNat) (hC h9) (by omega) (by omega) hL22 (by decide) (by omega) (by intro d hd; simp only [List.mem_cons, List.not_mem_nil, or_false] at hd; rcases hd with rfl | rfl | rfl | rfl <;> first | (rw [show 10 * gn.toInt.toNat + 1 + 1 = 10 * gn.toInt.toNat + 2 from rfl, h22_1, h22_2]; exact ⟨hX3524 h9, by omega⟩) | (rw [show 10 * gn.toInt.toNat + 3 + 1 = 10 * gn.toInt.toNat + 4 from rfl, h22_3, h22_4]; exact ⟨hX3717 h9, by omega⟩) | (rw [show 10 * gn.toInt.toNat + 5 + 1 = 10 * gn.toInt.toNat + 6 from rfl, h22_5, h22_6]; exact ⟨hX3742 h9, by omega⟩) | (rw [show 10 * gn.toInt.toNat + 7 + 1 = 10 * gn.toInt.toNat + 8 from rfl, h22_7, h22_8]; exact ⟨hX3811 h9, by omega⟩))), (by rw [hf3807, hf111]; exact fun h9 => TMS.snoc (N := gn.toInt.toNat) hx_1 (by omega) (by omega) hL22 h22_9 (by omega) (by omega))⟩ hM hS dX13_readOrder_273
set_option maxHeartbeats 4000000 in
set_option maxRecDepth 100000 in
theorem kz_X13_readOrder_c11 (l : Launch) (D : va_G) (cy : Nat → ClassId) (ld ad : Nat → Nat) (am : Nat) (hD : mz_D ad am) (Fa : Nat → Int32) (Ga : Nat → Int64) (Ra : Nat → Nat → Int32) (Sa : Nat → Nat → Int64) (gf : Int32) (gt : Int32) (gs : Int32) (gp : Int32) (gw : Int64) (gb : Int32) (gc : Int32) (gn : Int32) {p : Program} {e : Env} {s : State} {m : MethodId} {args : Array Value} {below : List Frame} {meth : Method} {c : Code} (hx : p.tables.exec = Jvm.exec) (hb : c.code = cX13_readOrder) (hr : meth.sig.returnType = none) (hml : c.maxLocals = 4) (hts : ∀ w ∈ wl yX13_readOrder cX13_readOrder 4 none, w.before args s = true) (htl : ∀ w ∈ wsA, w.before args s = true) (hown : s.vm.findClass RX13 = some m.cls) (hlocks : meth.locks = false) (hK : kk_K D cy ld s) (hp_0 : 0 ≤ (-1) * gf.toInt + gt.toInt) (hp_1 : 0 ≤ gp.toInt + (-1) * gt.toInt) (hp_2 : (1 ≤ gs.toInt → 0 ≤ (-1) * gf.toInt + gt.toInt + (-1))) (hp_3 : (27 ≤ gw.toInt → 1 ≤ gs.toInt → gs.toInt ≤ 1 → 0 ≤ (-1) * gf.toInt + gt.toInt + (-2))) (hp_4 : 0 ≤ (-1) * gc.toInt + gf.toInt) (hp_5 : gb.toInt ≤ 0) (hx_0 : CLS 10 [1, 3, 5, 7] (Ra 24) (Ra 25) (Ra 61) gc.toInt gn.toInt) (hx_1 : TMS (Ra 61) gn.toInt) (v108 : Int32) (v109 : Int32) (v3523 : Int32) (v3716 : Int32) (v3741 : Int32) (v38 : Int32) (v3832 : Int32) (v3842 : Int32) (v3844 : Int32) (v3846 : Int32) (v3850 : Int32) (w3848 : Int64) (H : Heap) (locs : List Loc) (F : Nat → Int32) (G : Nat → Int64) (R : Nat → Nat → Int32) (S : Nat → Nat → Int64) (hq0_kz_X13_readOrder_c11 : v109.toInt ≤ 12) (hq1_kz_X13_readOrder_c11 : 0 ≤ v38.toInt) (hq2_kz_X13_readOrder_c11 : v3844.toInt ≤ 400) (hq3_kz_X13_readOrder_c11 : 0 ≤ v3846.toInt) (hq4_kz_X13_readOrder_c11 : v3846.toInt ≤ 3) (hq5_kz_X13_readOrder_c11 : 0 ≤ v3850.toInt) (hq6_kz_X13_readOrder_c11 : v3850.toInt ≤ 1) (hq7_kz_X13_readOrder_c11 : 0 ≤ (-1) * gf.toInt + gt.toInt + (-1)) (hq8_kz_X13_readOrder_c11 : (-10) * gn.toInt + v108.toInt = 0) (hq9_kz_X13_readOrder_c11 : (-1) * gn.toInt + v109.toInt + (-1) = 0) (hq10_kz_X13_readOrder_c11 : 0 ≤ (-1) * gc.toInt + v3523.toInt) (hq11_kz_X13_readOrder_c11 : 0 ≤ (-1) * v3523.toInt + v3716.toInt) (hq12_kz_X13_readOrder_c11 : 0 ≤ (-1) * v3716.toInt + v3741.toInt) (hq13_kz_X13_readOrder_c11 : 0 ≤ gb.toInt + (-1) * v38.toInt) (hq14_kz_X13_readOrder_c11 : 0 ≤ gc.toInt + (-1) * v38.toInt) (hq15_kz_X13_readOrder_c11 : 0 ≤ gs.toInt + (-1) * v38.toInt + (-1)) (hq16_kz_X13_readOrder_c11 : 0 ≤ (-1) * gs.toInt + v38.toInt + 1) (hq17_kz_X13_readOrder_c11 : 0 ≤ (-1) * v3842.toInt + v3844.toInt) (hq18_kz_X13_readOrder_c11 : 0 ≤ gp.toInt + (-1) * v3844.toInt) (hq19_kz_X13_readOrder_c11 : 0 ≤ (-1) * gb.toInt + v109.toInt + (-1)) (hq20_kz_X13_readOrder_c11 : 0 ≤ (-1) * gt.toInt + v3842.toInt + (-2)) (hq21_kz_X13_readOrder_c11 : 0 ≤ (-1) * v3741.toInt + v3842.toInt + (-2)) (hM : mz_S D cy ad am F G R S H) (hS : va_S (mz_W ad am) s.heap H locs) (hIF : mz_IF false F) (hIG : mz_IG G) (hIR : mz_IR [] true R) (hFF : ∀ k : Nat, k ∉ ([14, 15, 16, 18, 19, 21, 23, 26, 29, 30] : List Nat) → F k = Fa k) (hGG : ∀ k : Nat, k ∉ ([17] : List Nat) → G k = Ga k) (hRR : ∀ k : Nat, k ∉ ([24, 25, 27, 28, 61] : List Nat) → R k = Ra k) (hg_3 : F 13 = gp) (hf111 : F 21 = v109) (hf3740 : F 23 = v3741) (hf3841 : F 14 = v3842) (hf3843 : F 15 = v3844) (hf3845 : F 16 = v3846) (hf3847 : G 17 = w3848) (hf3849 : F 19 = v3850) (hc0_kz_X13_readOrder_c11 : (27 ≤ gw.toInt → 1 ≤ gs.toInt → gs.toInt ≤ 1 → 0 ≤ (-1) * gf.toInt + gt.toInt + (-2))) (hc1_kz_X13_readOrder_c11 : (27 ≤ gw.toInt → 1 ≤ gs.toInt → gs.toInt ≤ 1 → 0 ≤ (-1) * gf.toInt + gt.toInt + (-2))) (hc2_kz_X13_readOrder_c11 : (1 ≤ v3846.toInt → 0 ≤ (-1) * v3842.toInt + v3844.toInt + (-1))) (hc3_kz_X13_readOrder_c11 : (27 ≤ w3848.toInt → 1 ≤ v3846.toInt → v3846.toInt ≤ 1 → 0 ≤ (-1) * v3842.toInt + v3844.toInt + (-2))) (hc4_kz_X13_readOrder_c11 : (v3850.toInt ≤ 0 → 1 ≤ v3832.toInt ∧ v3832.toInt ≤ 20)) (hL22 : low (10 * gn.toInt.toNat) (Ra 61) (R 61)) (hC : v3850.toInt = 0 → CLS 10 [1, 3, 5, 7] (R 24) (R 25) (Ra 61) gc.toInt gn.toInt) (h22_1 : R 61 (10 * gn.toInt.toNat + 1) = gc) (h22_2 : R 61 (10 * gn.toInt.toNat + 2) = v3523) (h22_3 : R 61 (10 * gn.toInt.toNat + 3) = v3523) (h22_4 : R 61 (10 * gn.toInt.toNat + 4) = v3716) (h22_5 : R 61 (10 * gn.toInt.toNat + 5) = v3716) (h22_6 : R 61 (10 * gn.toInt.toNat + 6) = v3741) (h22_7 : R 61 (10 * gn.toInt.toNat + 7) = 0) (h22_8 : R 61 (10 * gn.toInt.toNat + 8) = 0) (h22_0 : R 61 (10 * gn.toInt.toNat + 0) = v38) (h22_9 : R 61 (10 * gn.toInt.toNat + 9) = v3832) (hX3524 : v3850.toInt = 0 → WFX (R 24) (R 25) gc v3523) (hX3717 : v3850.toInt = 0 → WFX (R 24) (R 25) v3523 v3716) (hX3742 : v3850.toInt = 0 → WFX (R 24) (R 25) v3716 v3741) (ls : Array Slot) (hl : lv_has ls 4 [(2, .int v108), (0, .ref am)]) : W p l e ({ frames := 12, cells := 0, slots := 0, locals := 770 }) s m args below meth c H locs 0 0 (MQ below (mz_w D cy ad am (fun F G R S => mz_IF false F ∧ mz_IG G ∧ mz_IR [] true R ∧ (∀ k : Nat, k ∉ ([14, 15, 16, 18, 19, 21, 23, 26, 29, 30] : List Nat) → F k = Fa k) ∧ (∀ k : Nat, k ∉ ([24, 25, 27, 28, 61] : List Nat) → R k = Ra k) ∧ (∀ k : Nat, k ∉ ([17] : List Nat) → G k = Ga k) ∧ 0 ≤ (-1) * (F 14).toInt + (F 15).toInt ∧ 0 ≤ gp.toInt + (-1) * (F 15).toInt ∧ (1 ≤ (F 16).toInt → 0 ≤ (-1) * (F 14).toInt + (F 15).toInt + (-1)) ∧ (27 ≤ (G 17).toInt → 1 ≤ (F 16).toInt → (F 16).toInt ≤ 1 → 0 ≤ (-1) * (F 14).toInt + (F 15).toInt + (-2)) ∧ 0 ≤ (-1) * gf.toInt + (F 14).toInt ∧ 0 ≤ (-1) * gc.toInt + (F 23).toInt ∧ 0 ≤ (-1) * (F 23).toInt + (F 14).toInt ∧ 0 ≤ (-1) * gb.toInt + (F 19).toInt ∧ ((F 19).toInt ≤ 0 → 0 ≤ (-1) * gf.toInt + (F 14).toInt + (-1)) ∧ ((F 19).toInt = 0 → CLS 10 [1, 3, 5, 7] (R 24) (R 25) (R 61) (F 23).toInt (F 21).toInt) ∧ ((F 19).toInt = 0 → TMS (R 61) (F 21).toInt))) args s 0 0 (mz_W ad am)) (F0 m 221 ls []) := by
  have hq_gb := tk_rng gb
  have hq_gc := tk_rng gc
  have hq_gf := tk_rng gf
  have hq_gn := tk_rng gn
  have hq_gp := tk_rng gp
  have hq_gs := tk_rng gs
  have hq_gt := tk_rng gt
  have hq_gw := tk_rngL gw
  have hq_v108 := tk_rng v108
  have hq_v109 := tk_rng v109
  have hq_v3523 := tk_rng v3523
  have hq_v3716 := tk_rng v3716
  have hq_v3741 := tk_rng v3741
  have hq_v38 := tk_rng v38
  have hq_v3832 := tk_rng v3832
  have hq_v3842 := tk_rng v3842
  have hq_v3844 := tk_rng v3844
  have hq_v3846 := tk_rng v3846
  have hq_v3850 := tk_rng v3850
  have hq_w3848 := tk_rngL w3848
  have hr_gp : 0 ≤ gp.toInt ∧ gp.toInt ≤ 400 := hIF.at hg_3
  have hr_v109 : 0 ≤ v109.toInt ∧ v109.toInt ≤ 12 := hIF.at hf111
  have hr_v3741 : 0 ≤ v3741.toInt ∧ v3741.toInt ≤ 400 := hIF.at hf3740
  have hr_v3842 : 0 ≤ v3842.toInt ∧ v3842.toInt ≤ 400 := hIF.at hf3841
  have hr_v3844 : 0 ≤ v3844.toInt ∧ v3844.toInt ≤ 400 := hIF.at hf3843
  have hr_v3846 : 0 ≤ v3846.toInt ∧ v3846.toInt ≤ 3 := hIF.at hf3845
  have hr_v3850 : 0 ≤ v3850.toInt ∧ v3850.toInt ≤ 1 := hIF.at hf3849
  refine lv_aload_n hx hb dX13_readOrder_221 rfl (lv_at hl 1 rfl) ?_
  refine mz_getR hx hb htl hown hK hM 61 (Nat.le_of_ble_eq_true rfl) (Nat.le_of_ble_eq_true rfl) (htl _ mw_239) (fun _ h9 => h9) dX13_readOrder_222 ?_
  refine lv_iload_n hx hb dX13_readOrder_225 rfl (lv_at hl 0 rfl) ?_
  refine lv_bipush (v := 7) hx hb dX13_readOrder_226 (by decide) ?_
  refine lv_iadd hx hb dX13_readOrder_228 ?_
  refine tk_add rfl (show (7 : Int32).toInt = 7 by decide) (by omega) (by omega) (fun v3853 h_v3853 => ?_)
  refine lv_aload_n hx hb dX13_readOrder_229 rfl (lv_at hl 1 rfl) ?_
  refine mz_getI hx hb htl hown hK hM 23 (Nat.le_of_ble_eq_true rfl) rfl (htl _ mw_670) (fun _ h9 => h9) dX13_readOrder_230 (fun v9 e9 => ?_)
  refine fx_ti (v := v3741) (e9.symm.trans hf3740) ?_
  refine mz_iast (x := v3741) hx hb hK hD hM hS 61 (Nat.le_of_ble_eq_true rfl) rfl (nn := 120) rfl rfl (by omega) (by omega) dX13_readOrder_233 (fun H locs R hM hS hw9 hj9 => ?_)
  have hIR := hIR.put hw9 hj9 trivial
  have hL22 : low (10 * gn.toInt.toNat) (Ra 61) (R 61) := fun j hj => by rw [hw9, pk_un (fun h9 => by have h8 := tk_nat (i := v3853) rfl (by omega); omega)]; exact hL22 j hj
  have h22_1 : R 61 (10 * gn.toInt.toNat + 1) = gc := by rw [hw9, pk_un (fun h9 => by have h8 := tk_nat (i := v3853) rfl (by omega); omega)]; exact h22_1
  have h22_2 : R 61 (10 * gn.toInt.toNat + 2) = v3523 := by rw [hw9, pk_un (fun h9 => by have h8 := tk_nat (i := v3853) rfl (by omega); omega)]; exact h22_2
  have h22_3 : R 61 (10 * gn.toInt.toNat + 3) = v3523 := by rw [hw9, pk_un (fun h9 => by have h8 := tk_nat (i := v3853) rfl (by omega); omega)]; exact h22_3
  have h22_4 : R 61 (10 * gn.toInt.toNat + 4) = v3716 := by rw [hw9, pk_un (fun h9 => by have h8 := tk_nat (i := v3853) rfl (by omega); omega)]; exact h22_4
  have h22_5 : R 61 (10 * gn.toInt.toNat + 5) = v3716 := by rw [hw9, pk_un (fun h9 => by have h8 := tk_nat (i := v3853) rfl (by omega); omega)]; exact h22_5
  have h22_6 : R 61 (10 * gn.toInt.toNat + 6) = v3741 := by rw [hw9, pk_un (fun h9 => by have h8 := tk_nat (i := v3853) rfl (by omega); omega)]; exact h22_6
  have h22_8 : R 61 (10 * gn.toInt.toNat + 8) = 0 := by rw [hw9, pk_un (fun h9 => by have h8 := tk_nat (i := v3853) rfl (by omega); omega)]; exact h22_8
  have h22_0 : R 61 (10 * gn.toInt.toNat + 0) = v38 := by rw [hw9, pk_un (fun h9 => by have h8 := tk_nat (i := v3853) rfl (by omega); omega)]; exact h22_0
  have h22_9 : R 61 (10 * gn.toInt.toNat + 9) = v3832 := by rw [hw9, pk_un (fun h9 => by have h8 := tk_nat (i := v3853) rfl (by omega); omega)]; exact h22_9
  have hC9 := hC
  have hC : v3850.toInt = 0 → CLS 10 [1, 3, 5, 7] (R 24) (R 25) (Ra 61) gc.toInt gn.toInt := fun h9 => (hC9 (by omega)).to (hj9 24 (by decide)) (hj9 25 (by decide))
  have hX35249 := hX3524
  have hX3524 : v3850.toInt = 0 → WFX (R 24) (R 25) gc v3523 := fun h9 => by rw [hj9 24 (by decide), hj9 25 (by decide)]; exact hX35249 (by omega)
  have hX37179 := hX3717
  have hX3717 : v3850.toInt = 0 → WFX (R 24) (R 25) v3523 v3716 := fun h9 => by rw [hj9 24 (by decide), hj9 25 (by decide)]; exact hX37179 (by omega)
  have hX37429 := hX3742
  have hX3742 : v3850.toInt = 0 → WFX (R 24) (R 25) v3716 v3741 := fun h9 => by rw [hj9 24 (by decide), hj9 25 (by decide)]; exact hX37429 (by omega)
  have h22_7 : R 61 (10 * gn.toInt.toNat + 7) = v3741 := by rw [hw9, show 10 * gn.toInt.toNat + 7 = (v3853 : Int32).toNatClampNeg by show _ = v3853.toInt.toNat; omega]; exact pk_us
  have hRR := mz_frp (K := [24, 25, 27, 28, 61]) (Fa := Ra) hj9 hRR (by decide)
  refine lv_aload_n hx hb dX13_readOrder_234 rfl (lv_at hl 1 rfl) ?_
  refine mz_getI hx hb htl hown hK hM 19 (Nat.le_of_ble_eq_true rfl) rfl (htl _ mw_668) (fun _ h9 => h9) dX13_readOrder_235 (fun v9 e9 => ?_)
  refine fx_ti (v := v3850) (e9.symm.trans hf3849) ?_
  refine lv_if_ne (tgt := 260) hx hb dX13_readOrder_238 (by decide) (fun c9 => ?_) (fun c9 => ?_)
  · have hc3855 : ¬ (v3850.toInt = 0) := fun h9 => c9 ((fi_eq rfl (show (0 : Int32).toInt = 0 by decide)).mpr h9)
    refine lv_aload_n hx hb dX13_readOrder_260 rfl (lv_at hl 1 rfl) ?_
    refine mz_getR hx hb htl hown hK hM 61 (Nat.le_of_ble_eq_true rfl) (Nat.le_of_ble_eq_true rfl) (htl _ mw_239) (fun _ h9 => h9) dX13_readOrder_261 ?_
    refine lv_iload_n hx hb dX13_readOrder_264 rfl (lv_at hl 0 rfl) ?_
    refine lv_bipush (v := 8) hx hb dX13_readOrder_265 (by decide) ?_
    refine lv_iadd hx hb dX13_readOrder_267 ?_
    refine tk_add rfl (show (8 : Int32).toInt = 8 by decide) (by omega) (by omega) (fun v3856 h_v3856 => ?_)
    refine lv_aload_n hx hb dX13_readOrder_268 rfl (lv_at hl 1 rfl) ?_
    refine mz_getI hx hb htl hown hK hM 23 (Nat.le_of_ble_eq_true rfl) rfl (htl _ mw_670) (fun _ h9 => h9) dX13_readOrder_269 (fun v9 e9 => ?_)
    refine fx_ti (v := v3741) (e9.symm.trans hf3740) ?_
    refine mz_iast (x := v3741) hx hb hK hD hM hS 61 (Nat.le_of_ble_eq_true rfl) rfl (nn := 120) rfl rfl (by omega) (by omega) dX13_readOrder_272 (fun H locs R hM hS hw9 hj9 => ?_)
    have hIR := hIR.put hw9 hj9 trivial
    have hL22 : low (10 * gn.toInt.toNat) (Ra 61) (R 61) := fun j hj => by rw [hw9, pk_un (fun h9 => by have h8 := tk_nat (i := v3856) rfl (by omega); omega)]; exact hL22 j hj
    have h22_1 : R 61 (10 * gn.toInt.toNat + 1) = gc := by rw [hw9, pk_un (fun h9 => by have h8 := tk_nat (i := v3856) rfl (by omega); omega)]; exact h22_1
    have h22_2 : R 61 (10 * gn.toInt.toNat + 2) = v3523 := by rw [hw9, pk_un (fun h9 => by have h8 := tk_nat (i := v3856) rfl (by omega); omega)]; exact h22_2
    have h22_3 : R 61 (10 * gn.toInt.toNat + 3) = v3523 := by rw [hw9, pk_un (fun h9 => by have h8 := tk_nat (i := v3856) rfl (by omega); omega)]; exact h22_3
    have h22_4 : R 61 (10 * gn.toInt.toNat + 4) = v3716 := by rw [hw9, pk_un (fun h9 => by have h8 := tk_nat (i := v3856) rfl (by omega); omega)]; exact h22_4
    have h22_5 : R 61 (10 * gn.toInt.toNat + 5) = v3716 := by rw [hw9, pk_un (fun h9 => by have h8 := tk_nat (i := v3856) rfl (by omega); omega)]; exact h22_5
    have h22_6 : R 61 (10 * gn.toInt.toNat + 6) = v3741 := by rw [hw9, pk_un (fun h9 => by have h8 := tk_nat (i := v3856) rfl (by omega); omega)]; exact h22_6
    have h22_7 : R 61 (10 * gn.toInt.toNat + 7) = v3741 := by rw [hw9, pk_un (fun h9 => by have h8 := tk_nat (i := v3856) rfl (by omega); omega)]; exact h22_7
    have h22_0 : R 61 (10 * gn.toInt.toNat + 0) = v38 := by rw [hw9, pk_un (fun h9 => by have h8 := tk_nat (i := v3856) rfl (by omega); omega)]; exact h22_0
    have h22_9 : R 61 (10 * gn.toInt.toNat + 9) = v3832 := by rw [hw9, pk_un (fun h9 => by have h8 := tk_nat (i := v3856) rfl (by omega); omega)]; exact h22_9
    have hC9 := hC
    have hC : v3850.toInt = 0 → CLS 10 [1, 3, 5, 7] (R 24) (R 25) (Ra 61) gc.toInt gn.toInt := fun h9 => (hC9 (by omega)).to (hj9 24 (by decide)) (hj9 25 (by decide))
    have hX35249 := hX3524
    have hX3524 : v3850.toInt = 0 → WFX (R 24) (R 25) gc v3523 := fun h9 => by rw [hj9 24 (by decide), hj9 25 (by decide)]; exact hX35249 (by omega)
    have hX37179 := hX3717
    have hX3717 : v3850.toInt = 0 → WFX (R 24) (R 25) v3523 v3716 := fun h9 => by rw [hj9 24 (by decide), hj9 25 (by decide)]; exact hX37179 (by omega)
    have hX37429 := hX3742
    have hX3742 : v3850.toInt = 0 → WFX (R 24) (R 25) v3716 v3741 := fun h9 => by rw [hj9 24 (by decide), hj9 25 (by decide)]; exact hX37429 (by omega)
    have h22_8 : R 61 (10 * gn.toInt.toNat + 8) = v3741 := by rw [hw9, show 10 * gn.toInt.toNat + 8 = (v3856 : Int32).toNatClampNeg by show _ = v3856.toInt.toNat; omega]; exact pk_us
    have hRR := mz_frp (K := [24, 25, 27, 28, 61]) (Fa := Ra) hj9 hRR (by decide)
    exact mz_vret hx hb hr hlocks ⟨hIF, hIG, hIR, hFF, hRR, hGG, (by rw [hf3841, hf3843]; omega), (by rw [hf3843]; omega), (by rw [hf3841, hf3843, hf3845]; omega), (by rw [hf3841, hf3843, hf3845, hf3847]; omega), (by rw [hf3841]; omega), (by rw [hf3740]; omega), (by rw [hf3841, hf3740]; omega), (by rw [hf3849]; omega), (by rw [hf3841, hf3849]; omega), (by rw [hf3849]; exact fun h9 => absurd h9 (by omega)), (by rw [hf3849]; exact fun h9 => absurd h9 (by omega))⟩ hM hS dX13_readOrder_273
  · have hc3855 : v3850.toInt = 0 := (fi_eq rfl (show (0 : Int32).toInt = 0 by decide)).mp c9
    have hwk_3858 : 1 ≤ v3832.toInt ∧ v3832.toInt ≤ 20 := by omega
    refine lv_aload_n hx hb dX13_readOrder_241 rfl (lv_at hl 1 rfl) ?_
    refine lv_ldc2 hx hb hown (htl _ mw_705) dX13_readOrder_242 ?_
    have hk_294 : (294 : Int64).toInt = 294 := by decide
    refine mz_Vj (As := [.long 294]) (rest := []) ⟨hx, hb, hml, hown, hts⟩ hK hM hS (k_X13_isWord l D cy ld ad am hD _ _ _ _ 294 v3846 w3848 hIF hIG hIR hf3845 hf3847) ⟨callB_of 1 hts (wl_in mw_709) rfl rfl rfl (htl _ mw_5) (htl _ mw_706) hd_yX13_isWord ⟨(Nat.le_of_ble_eq_true rfl), (Nat.le_of_ble_eq_true rfl)⟩, htl _ mw_707, htl _ mw_708⟩ rfl hl.1 rfl (Nat.le_of_ble_eq_true rfl) dX13_readOrder_245 ⟨(Nat.le_of_ble_eq_true rfl), (Nat.le_of_ble_eq_true rfl)⟩ (fun v3859 H locs hpo hM hS => ?_)
    obtain ⟨hpo3860, hpo3861, hpo3862, hpo3863, hpo3864⟩ := hpo
    have hq_v3859 := tk_rng v3859
    refine lv_if_eq (tgt := 260) hx hb dX13_readOrder_248 (by decide) (fun c9 => ?_) (fun c9 => ?_)
    · have hc3866 : v3859.toInt = 0 := (fi_eq rfl (show (0 : Int32).toInt = 0 by decide)).mp c9
      refine lv_aload_n hx hb dX13_readOrder_260 rfl (lv_at hl 1 rfl) ?_
      refine mz_getR hx hb htl hown hK hM 61 (Nat.le_of_ble_eq_true rfl) (Nat.le_of_ble_eq_true rfl) (htl _ mw_239) (fun _ h9 => h9) dX13_readOrder_261 ?_
      refine lv_iload_n hx hb dX13_readOrder_264 rfl (lv_at hl 0 rfl) ?_
      refine lv_bipush (v := 8) hx hb dX13_readOrder_265 (by decide) ?_
      refine lv_iadd hx hb dX13_readOrder_267 ?_
      refine tk_add rfl (show (8 : Int32).toInt = 8 by decide) (by omega) (by omega) (fun v3867 h_v3867 => ?_)
      refine lv_aload_n hx hb dX13_readOrder_268 rfl (lv_at hl 1 rfl) ?_
      refine mz_getI hx hb htl hown hK hM 23 (Nat.le_of_ble_eq_true rfl) rfl (htl _ mw_670) (fun _ h9 => h9) dX13_readOrder_269 (fun v9 e9 => ?_)
      refine fx_ti (v := v3741) (e9.symm.trans hf3740) ?_
      refine mz_iast (x := v3741) hx hb hK hD hM hS 61 (Nat.le_of_ble_eq_true rfl) rfl (nn := 120) rfl rfl (by omega) (by omega) dX13_readOrder_272 (fun H locs R hM hS hw9 hj9 => ?_)
      have hIR := hIR.put hw9 hj9 trivial
      have hL22 : low (10 * gn.toInt.toNat) (Ra 61) (R 61) := fun j hj => by rw [hw9, pk_un (fun h9 => by have h8 := tk_nat (i := v3867) rfl (by omega); omega)]; exact hL22 j hj
      have h22_1 : R 61 (10 * gn.toInt.toNat + 1) = gc := by rw [hw9, pk_un (fun h9 => by have h8 := tk_nat (i := v3867) rfl (by omega); omega)]; exact h22_1
      have h22_2 : R 61 (10 * gn.toInt.toNat + 2) = v3523 := by rw [hw9, pk_un (fun h9 => by have h8 := tk_nat (i := v3867) rfl (by omega); omega)]; exact h22_2
      have h22_3 : R 61 (10 * gn.toInt.toNat + 3) = v3523 := by rw [hw9, pk_un (fun h9 => by have h8 := tk_nat (i := v3867) rfl (by omega); omega)]; exact h22_3
      have h22_4 : R 61 (10 * gn.toInt.toNat + 4) = v3716 := by rw [hw9, pk_un (fun h9 => by have h8 := tk_nat (i := v3867) rfl (by omega); omega)]; exact h22_4
      have h22_5 : R 61 (10 * gn.toInt.toNat + 5) = v3716 := by rw [hw9, pk_un (fun h9 => by have h8 := tk_nat (i := v3867) rfl (by omega); omega)]; exact h22_5
      have h22_6 : R 61 (10 * gn.toInt.toNat + 6) = v3741 := by rw [hw9, pk_un (fun h9 => by have h8 := tk_nat (i := v3867) rfl (by omega); omega)]; exact h22_6
      have h22_7 : R 61 (10 * gn.toInt.toNat + 7) = v3741 := by rw [hw9, pk_un (fun h9 => by have h8 := tk_nat (i := v3867) rfl (by omega); omega)]; exact h22_7
      have h22_0 : R 61 (10 * gn.toInt.toNat + 0) = v38 := by rw [hw9, pk_un (fun h9 => by have h8 := tk_nat (i := v3867) rfl (by omega); omega)]; exact h22_0
      have h22_9 : R 61 (10 * gn.toInt.toNat + 9) = v3832 := by rw [hw9, pk_un (fun h9 => by have h8 := tk_nat (i := v3867) rfl (by omega); omega)]; exact h22_9
      have hC9 := hC
      have hC : v3850.toInt = 0 → CLS 10 [1, 3, 5, 7] (R 24) (R 25) (Ra 61) gc.toInt gn.toInt := fun h9 => (hC9 (by omega)).to (hj9 24 (by decide)) (hj9 25 (by decide))
      have hX35249 := hX3524
      have hX3524 : v3850.toInt = 0 → WFX (R 24) (R 25) gc v3523 := fun h9 => by rw [hj9 24 (by decide), hj9 25 (by decide)]; exact hX35249 (by omega)
      have hX37179 := hX3717
      have hX3717 : v3850.toInt = 0 → WFX (R 24) (R 25) v3523 v3716 := fun h9 => by rw [hj9 24 (by decide), hj9 25 (by decide)]; exact hX37179 (by omega)
      have hX37429 := hX3742
      have hX3742 : v3850.toInt = 0 → WFX (R 24) (R 25) v3716 v3741 := fun h9 => by rw [hj9 24 (by decide), hj9 25 (by decide)]; exact hX37429 (by omega)
      have h22_8 : R 61 (10 * gn.toInt.toNat + 8) = v3741 := by rw [hw9, show 10 * gn.toInt.toNat + 8 = (v3867 : Int32).toNatClampNeg by show _ = v3867.toInt.toNat; omega]; exact pk_us
      have hRR := mz_frp (K := [24, 25, 27, 28, 61]) (Fa := Ra) hj9 hRR (by decide)
      exact mz_vret hx hb hr hlocks ⟨hIF, hIG, hIR, hFF, hRR, hGG, (by rw [hf3841, hf3843]; omega), (by rw [hf3843]; omega), (by rw [hf3841, hf3843, hf3845]; omega), (by rw [hf3841, hf3843, hf3845, hf3847]; omega), (by rw [hf3841]; omega), (by rw [hf3740]; omega), (by rw [hf3841, hf3740]; omega), (by rw [hf3849]; omega), (by rw [hf3841, hf3849]; omega), (by rw [hf3849, hf3740, hf111]; exact fun h9 => mz_snoc (N := gn.toInt.toNat) (hC h9) (by omega) (by omega) hL22 (by decide) (by omega) (by intro d hd; simp only [List.mem_cons, List.not_mem_nil, or_false] at hd; rcases hd with rfl | rfl | rfl | rfl <;> first | (rw [show 10 * gn.toInt.toNat + 1 + 1 = 10 * gn.toInt.toNat + 2 from rfl, h22_1, h22_2]; exact ⟨hX3524 h9, by omega⟩) | (rw [show 10 * gn.toInt.toNat + 3 + 1 = 10 * gn.toInt.toNat + 4 from rfl, h22_3, h22_4]; exact ⟨hX3717 h9, by omega⟩) | (rw [show 10 * gn.toInt.toNat + 5 + 1 = 10 * gn.toInt.toNat + 6 from rfl, h22_5, h22_6]; exact ⟨hX3742 h9, by omega⟩) | (rw [show 10 * gn.toInt.toNat + 7 + 1 = 10 * gn.toInt.toNat + 8 from rfl, h22_7, h22_8]; exact ⟨WFX.nil (by omega) (by omega), by omega⟩))), (by rw [hf3849, hf111]; exact fun h9 => TMS.snoc (N := gn.toInt.toNat) hx_1 (by omega) (by omega) hL22 h22_9 (by omega) (by omega))⟩ hM hS dX13_readOrder_273
    · have hc3866 : ¬ (v3859.toInt = 0) := fun h9 => c9 ((fi_eq rfl (show (0 : Int32).toInt = 0 by decide)).mpr h9)
      have hwk_3869 : w3848.toInt + (-294) = 0 ∧ v3846.toInt + (-1) = 0 := by omega
      have hwk_3870 : 0 ≤ (-1) * v3842.toInt + v3844.toInt + (-1) := by omega
      have hwk_3871 : 0 ≤ (-1) * v3842.toInt + v3844.toInt + (-2) := by omega
      refine lv_aload_n hx hb dX13_readOrder_251 rfl (lv_at hl 1 rfl) ?_
      refine mz_Vv (As := []) (rest := []) ⟨hx, hb, hml, hown, hts⟩ hK hM hS (k_X13_next l D cy ld ad am hD _ _ _ _ v3844 gp hIF hIG hIR hf3843 hg_3 (by omega)) ⟨callB_of 0 hts (wl_in mw_685) rfl rfl rfl (htl _ mw_5) (htl _ mw_682) hd_yX13_next ⟨(Nat.le_of_ble_eq_true rfl), (Nat.le_of_ble_eq_true rfl)⟩, htl _ mw_683, htl _ mw_684⟩ rfl hl.1 rfl (Nat.le_of_ble_eq_true rfl) dX13_readOrder_252 ⟨(Nat.le_of_ble_eq_true rfl), (Nat.le_of_ble_eq_true rfl)⟩ (fun H locs F G R S hpo hM hS => ?_)
      obtain ⟨hIF, hIG, hIR, hfr9, hrr9, hgr9, hpo3872, hpo3873, hpo3874, hpo3875, hpo3876⟩ := hpo
      have hFF := mz_fr (K := [14, 15, 16, 18, 19, 21, 23, 26, 29, 30]) (Fa := Fa) hfr9 hFF (by decide)
      have hRR := mz_fr (K := [24, 25, 27, 28, 61]) (Fa := Ra) hrr9 hRR (by decide)
      have hGG := mz_fr (K := [17]) (Fa := Ga) hgr9 hGG (by decide)
      have hg_3 := (hfr9 13 (by decide)).trans hg_3
      have hf111 := (hfr9 21 (by decide)).trans hf111
      have hf3740 := (hfr9 23 (by decide)).trans hf3740
      have hf3849 := (hfr9 19 (by decide)).trans hf3849
      obtain ⟨v3879, hf3878⟩ : ∃ z : Int32, F 14 = z := ⟨_, rfl⟩
      have hq_v3879 := tk_rng v3879
      rw [hf3878] at hpo3872 hpo3873 hpo3875 hpo3876
      have hr_v3879 : 0 ≤ v3879.toInt ∧ v3879.toInt ≤ 400 := hIF.at hf3878
      obtain ⟨v3881, hf3880⟩ : ∃ z : Int32, F 15 = z := ⟨_, rfl⟩
      have hq_v3881 := tk_rng v3881
      rw [hf3880] at hpo3873 hpo3874 hpo3875 hpo3876
      have hr_v3881 : 0 ≤ v3881.toInt ∧ v3881.toInt ≤ 400 := hIF.at hf3880
      obtain ⟨v3883, hf3882⟩ : ∃ z : Int32, F 16 = z := ⟨_, rfl⟩
      have hq_v3883 := tk_rng v3883
      rw [hf3882] at hpo3875 hpo3876
      have hr_v3883 : 0 ≤ v3883.toInt ∧ v3883.toInt ≤ 3 := hIF.at hf3882
      obtain ⟨w3885, hf3884⟩ : ∃ z : Int64, G 17 = z := ⟨_, rfl⟩
      have hq_w3885 := tk_rngL w3885
      rw [hf3884] at hpo3876
      have hL22 := hL22.to (hrr9 61 (by decide))
      have h22_1 := (congrFun (hrr9 61 (by decide)) _).trans h22_1
      have h22_2 := (congrFun (hrr9 61 (by decide)) _).trans h22_2
      have h22_3 := (congrFun (hrr9 61 (by decide)) _).trans h22_3
      have h22_4 := (congrFun (hrr9 61 (by decide)) _).trans h22_4
      have h22_5 := (congrFun (hrr9 61 (by decide)) _).trans h22_5
      have h22_6 := (congrFun (hrr9 61 (by decide)) _).trans h22_6
      have h22_7 := (congrFun (hrr9 61 (by decide)) _).trans h22_7
      have h22_8 := (congrFun (hrr9 61 (by decide)) _).trans h22_8
      have h22_0 := (congrFun (hrr9 61 (by decide)) _).trans h22_0
      have h22_9 := (congrFun (hrr9 61 (by decide)) _).trans h22_9
      have hC9 := hC
      have hC : v3850.toInt = 0 → CLS 10 [1, 3, 5, 7] (R 24) (R 25) (Ra 61) gc.toInt gn.toInt := fun h9 => (hC9 (by omega)).to (hrr9 24 (by decide)) (hrr9 25 (by decide))
      have hX35249 := hX3524
      have hX3524 : v3850.toInt = 0 → WFX (R 24) (R 25) gc v3523 := fun h9 => by rw [hrr9 24 (by decide), hrr9 25 (by decide)]; exact hX35249 (by omega)
      have hX37179 := hX3717
      have hX3717 : v3850.toInt = 0 → WFX (R 24) (R 25) v3523 v3716 := fun h9 => by rw [hrr9 24 (by decide), hrr9 25 (by decide)]; exact hX37179 (by omega)
      have hX37429 := hX3742
      have hX3742 : v3850.toInt = 0 → WFX (R 24) (R 25) v3716 v3741 := fun h9 => by rw [hrr9 24 (by decide), hrr9 25 (by decide)]; exact hX37429 (by omega)
      refine lv_aload_n hx hb dX13_readOrder_255 rfl (lv_at hl 1 rfl) ?_
      refine lv_iconst (v := 1) hx hb dX13_readOrder_256 (by decide) ?_
      have hk_1 : (1 : Int32).toInt = 1 := by decide
      refine mz_Vv (As := [.int 1]) (rest := []) ⟨hx, hb, hml, hown, hts⟩ hK hM hS (k_X13_readExpression l D cy ld ad am hD _ _ _ _ 1 v3879 v3881 v3883 gp w3885 v3850 v3741 hIF hIG hIR hf3878 hf3880 hf3882 hg_3 hf3884 hf3849 hf3740 (by omega) (by omega) (by omega) (by omega) (by omega) (by omega) (by omega) (by omega)) ⟨callB_of 1 hts (wl_in mw_717) rfl rfl rfl (htl _ mw_5) (htl _ mw_714) hd_yX13_readExpression ⟨(Nat.le_of_ble_eq_true rfl), (Nat.le_of_ble_eq_true rfl)⟩, htl _ mw_715, htl _ mw_716⟩ rfl hl.1 rfl (Nat.le_of_ble_eq_true rfl) dX13_readOrder_257 ⟨(Nat.le_of_ble_eq_true rfl), (Nat.le_of_ble_eq_true rfl)⟩ (fun H locs F G R S hpo hM hS => ?_)
      obtain ⟨hIF, hIG, hIR, hfr9, hrr9, hgr9, hpo3886, hpo3887, hpo3888, hpo3889, hpo3890, hpo3891, hpo3892, hx3893⟩ := hpo
      have hFF := mz_fr (K := [14, 15, 16, 18, 19, 21, 23, 26, 29, 30]) (Fa := Fa) hfr9 hFF (by decide)
      have hRR := mz_fr (K := [24, 25, 27, 28, 61]) (Fa := Ra) hrr9 hRR (by decide)
      have hGG := mz_fr (K := [17]) (Fa := Ga) hgr9 hGG (by decide)
      have hg_3 := (hfr9 13 (by decide)).trans hg_3
      have hf111 := (hfr9 21 (by decide)).trans hf111
      obtain ⟨v3896, hf3895⟩ : ∃ z : Int32, F 14 = z := ⟨_, rfl⟩
      have hq_v3896 := tk_rng v3896
      rw [hf3895] at hpo3886 hpo3888 hpo3889 hpo3890 hpo3891
      have hr_v3896 : 0 ≤ v3896.toInt ∧ v3896.toInt ≤ 400 := hIF.at hf3895
      obtain ⟨v3898, hf3897⟩ : ∃ z : Int32, F 15 = z := ⟨_, rfl⟩
      have hq_v3898 := tk_rng v3898
      rw [hf3897] at hpo3886 hpo3887 hpo3888 hpo3889
      have hr_v3898 : 0 ≤ v3898.toInt ∧ v3898.toInt ≤ 400 := hIF.at hf3897
      obtain ⟨v3900, hf3899⟩ : ∃ z : Int32, F 16 = z := ⟨_, rfl⟩
      have hq_v3900 := tk_rng v3900
      rw [hf3899] at hpo3888 hpo3889
      have hr_v3900 : 0 ≤ v3900.toInt ∧ v3900.toInt ≤ 3 := hIF.at hf3899
      obtain ⟨w3902, hf3901⟩ : ∃ z : Int64, G 17 = z := ⟨_, rfl⟩
      have hq_w3902 := tk_rngL w3902
      rw [hf3901] at hpo3889
      obtain ⟨v3904, hf3903⟩ : ∃ z : Int32, F 19 = z := ⟨_, rfl⟩
      have hq_v3904 := tk_rng v3904
      have hr_v3904 : 0 ≤ v3904.toInt ∧ v3904.toInt ≤ 1 := hIF.at hf3903
      obtain ⟨v3906, hf3905⟩ : ∃ z : Int32, F 23 = z := ⟨_, rfl⟩
      have hq_v3906 := tk_rng v3906
      rw [hf3905] at hpo3891 hpo3892
      have hr_v3906 : 0 ≤ v3906.toInt ∧ v3906.toInt ≤ 400 := hIF.at hf3905
      have hL22 := hL22.to (hrr9 61 (by decide))
      have h22_1 := (congrFun (hrr9 61 (by decide)) _).trans h22_1
      have h22_2 := (congrFun (hrr9 61 (by decide)) _).trans h22_2
      have h22_3 := (congrFun (hrr9 61 (by decide)) _).trans h22_3
      have h22_4 := (congrFun (hrr9 61 (by decide)) _).trans h22_4
      have h22_5 := (congrFun (hrr9 61 (by decide)) _).trans h22_5
      have h22_6 := (congrFun (hrr9 61 (by decide)) _).trans h22_6
      have h22_7 := (congrFun (hrr9 61 (by decide)) _).trans h22_7
      have h22_8 := (congrFun (hrr9 61 (by decide)) _).trans h22_8
      have h22_0 := (congrFun (hrr9 61 (by decide)) _).trans h22_0
      have h22_9 := (congrFun (hrr9 61 (by decide)) _).trans h22_9
      have hE9 : v3904.toInt = 0 → WFC (R 24) (R 25) v3741.toInt.toNat v3906.toInt.toNat ∧ low v3741.toInt.toNat _ (R 24) ∧ low v3741.toInt.toNat _ (R 25) := fun h9 => by have h8 := hx3893 (by rw [hf3903]; exact h9); rw [hf3905] at h8; exact h8
      have hC9 := hC (by omega)
      have hC : v3904.toInt = 0 → CLS 10 [1, 3, 5, 7] (R 24) (R 25) (Ra 61) gc.toInt gn.toInt := fun h9 => hC9.low (N := v3741.toInt.toNat) (by omega) (hE9 h9).2.1 (hE9 h9).2.2
      have hX35249 := hX3524 (by omega)
      have hX3524 : v3904.toInt = 0 → WFX (R 24) (R 25) gc v3523 := fun h9 => hX35249.low (n := v3741.toInt.toNat) (by omega) (hE9 h9).2.1 (hE9 h9).2.2
      have hX37179 := hX3717 (by omega)
      have hX3717 : v3904.toInt = 0 → WFX (R 24) (R 25) v3523 v3716 := fun h9 => hX37179.low (n := v3741.toInt.toNat) (by omega) (hE9 h9).2.1 (hE9 h9).2.2
      have hX37429 := hX3742 (by omega)
      have hX3742 : v3904.toInt = 0 → WFX (R 24) (R 25) v3716 v3741 := fun h9 => hX37429.low (n := v3741.toInt.toNat) (by omega) (hE9 h9).2.1 (hE9 h9).2.2
      have hX3907 : v3904.toInt = 0 → WFX (R 24) (R 25) v3741 v3906 := fun h9 => ⟨by omega, by omega, by omega, (hE9 h9).1⟩
      refine lv_aload_n hx hb dX13_readOrder_260 rfl (lv_at hl 1 rfl) ?_
      refine mz_getR hx hb htl hown hK hM 61 (Nat.le_of_ble_eq_true rfl) (Nat.le_of_ble_eq_true rfl) (htl _ mw_239) (fun _ h9 => h9) dX13_readOrder_261 ?_
      refine lv_iload_n hx hb dX13_readOrder_264 rfl (lv_at hl 0 rfl) ?_
      refine lv_bipush (v := 8) hx hb dX13_readOrder_265 (by decide) ?_
      refine lv_iadd hx hb dX13_readOrder_267 ?_
      refine tk_add rfl (show (8 : Int32).toInt = 8 by decide) (by omega) (by omega) (fun v3908 h_v3908 => ?_)
      refine lv_aload_n hx hb dX13_readOrder_268 rfl (lv_at hl 1 rfl) ?_
      refine mz_getI hx hb htl hown hK hM 23 (Nat.le_of_ble_eq_true rfl) rfl (htl _ mw_670) (fun _ h9 => h9) dX13_readOrder_269 (fun v9 e9 => ?_)
      refine fx_ti (v := v3906) (e9.symm.trans hf3905) ?_
      refine mz_iast (x := v3906) hx hb hK hD hM hS 61 (Nat.le_of_ble_eq_true rfl) rfl (nn := 120) rfl rfl (by omega) (by omega) dX13_readOrder_272 (fun H locs R hM hS hw9 hj9 => ?_)
      have hIR := hIR.put hw9 hj9 trivial
      have hL22 : low (10 * gn.toInt.toNat) (Ra 61) (R 61) := fun j hj => by rw [hw9, pk_un (fun h9 => by have h8 := tk_nat (i := v3908) rfl (by omega); omega)]; exact hL22 j hj
      have h22_1 : R 61 (10 * gn.toInt.toNat + 1) = gc := by rw [hw9, pk_un (fun h9 => by have h8 := tk_nat (i := v3908) rfl (by omega); omega)]; exact h22_1
      have h22_2 : R 61 (10 * gn.toInt.toNat + 2) = v3523 := by rw [hw9, pk_un (fun h9 => by have h8 := tk_nat (i := v3908) rfl (by omega); omega)]; exact h22_2
      have h22_3 : R 61 (10 * gn.toInt.toNat + 3) = v3523 := by rw [hw9, pk_un (fun h9 => by have h8 := tk_nat (i := v3908) rfl (by omega); omega)]; exact h22_3
      have h22_4 : R 61 (10 * gn.toInt.toNat + 4) = v3716 := by rw [hw9, pk_un (fun h9 => by have h8 := tk_nat (i := v3908) rfl (by omega); omega)]; exact h22_4
      have h22_5 : R 61 (10 * gn.toInt.toNat + 5) = v3716 := by rw [hw9, pk_un (fun h9 => by have h8 := tk_nat (i := v3908) rfl (by omega); omega)]; exact h22_5
      have h22_6 : R 61 (10 * gn.toInt.toNat + 6) = v3741 := by rw [hw9, pk_un (fun h9 => by have h8 := tk_nat (i := v3908) rfl (by omega); omega)]; exact h22_6
      have h22_7 : R 61 (10 * gn.toInt.toNat + 7) = v3741 := by rw [hw9, pk_un (fun h9 => by have h8 := tk_nat (i := v3908) rfl (by omega); omega)]; exact h22_7
      have h22_0 : R 61 (10 * gn.toInt.toNat + 0) = v38 := by rw [hw9, pk_un (fun h9 => by have h8 := tk_nat (i := v3908) rfl (by omega); omega)]; exact h22_0
      have h22_9 : R 61 (10 * gn.toInt.toNat + 9) = v3832 := by rw [hw9, pk_un (fun h9 => by have h8 := tk_nat (i := v3908) rfl (by omega); omega)]; exact h22_9
      have hC9 := hC
      have hC : v3904.toInt = 0 → CLS 10 [1, 3, 5, 7] (R 24) (R 25) (Ra 61) gc.toInt gn.toInt := fun h9 => (hC9 (by omega)).to (hj9 24 (by decide)) (hj9 25 (by decide))
      have hX35249 := hX3524
      have hX3524 : v3904.toInt = 0 → WFX (R 24) (R 25) gc v3523 := fun h9 => by rw [hj9 24 (by decide), hj9 25 (by decide)]; exact hX35249 (by omega)
      have hX37179 := hX3717
      have hX3717 : v3904.toInt = 0 → WFX (R 24) (R 25) v3523 v3716 := fun h9 => by rw [hj9 24 (by decide), hj9 25 (by decide)]; exact hX37179 (by omega)
      have hX37429 := hX3742
      have hX3742 : v3904.toInt = 0 → WFX (R 24) (R 25) v3716 v3741 := fun h9 => by rw [hj9 24 (by decide), hj9 25 (by decide)]; exact hX37429 (by omega)
      have hX39079 := hX3907
      have hX3907 : v3904.toInt = 0 → WFX (R 24) (R 25) v3741 v3906 := fun h9 => by rw [hj9 24 (by decide), hj9 25 (by decide)]; exact hX39079 (by omega)
      have h22_8 : R 61 (10 * gn.toInt.toNat + 8) = v3906 := by rw [hw9, show 10 * gn.toInt.toNat + 8 = (v3908 : Int32).toNatClampNeg by show _ = v3908.toInt.toNat; omega]; exact pk_us
      have hRR := mz_frp (K := [24, 25, 27, 28, 61]) (Fa := Ra) hj9 hRR (by decide)
      exact mz_vret hx hb hr hlocks ⟨hIF, hIG, hIR, hFF, hRR, hGG, (by rw [hf3895, hf3897]; omega), (by rw [hf3897]; omega), (by rw [hf3895, hf3897, hf3899]; omega), (by rw [hf3895, hf3897, hf3899, hf3901]; omega), (by rw [hf3895]; omega), (by rw [hf3905]; omega), (by rw [hf3895, hf3905]; omega), (by rw [hf3903]; omega), (by rw [hf3895, hf3903]; omega), (by rw [hf3903, hf3905, hf111]; exact fun h9 => mz_snoc (N := gn.toInt.toNat) (hC h9) (by omega) (by omega) hL22 (by decide) (by omega) (by intro d hd; simp only [List.mem_cons, List.not_mem_nil, or_false] at hd; rcases hd with rfl | rfl | rfl | rfl <;> first | (rw [show 10 * gn.toInt.toNat + 1 + 1 = 10 * gn.toInt.toNat + 2 from rfl, h22_1, h22_2]; exact ⟨hX3524 h9, by omega⟩) | (rw [show 10 * gn.toInt.toNat + 3 + 1 = 10 * gn.toInt.toNat + 4 from rfl, h22_3, h22_4]; exact ⟨hX3717 h9, by omega⟩) | (rw [show 10 * gn.toInt.toNat + 5 + 1 = 10 * gn.toInt.toNat + 6 from rfl, h22_5, h22_6]; exact ⟨hX3742 h9, by omega⟩) | (rw [show 10 * gn.toInt.toNat + 7 + 1 = 10 * gn.toInt.toNat + 8 from rfl, h22_7, h22_8]; exact ⟨hX3907 h9, by omega⟩))), (by rw [hf3903, hf111]; exact fun h9 => TMS.snoc (N := gn.toInt.toNat) hx_1 (by omega) (by omega) hL22 h22_9 (by omega) (by omega))⟩ hM hS dX13_readOrder_273
set_option maxHeartbeats 4000000 in
set_option maxRecDepth 100000 in
theorem kz_X13_readOrder_c8 (l : Launch) (D : va_G) (cy : Nat → ClassId) (ld ad : Nat → Nat) (am : Nat) (hD : mz_D ad am) (Fa : Nat → Int32) (Ga : Nat → Int64) (Ra : Nat → Nat → Int32) (Sa : Nat → Nat → Int64) (gf : Int32) (gt : Int32) (gs : Int32) (gp : Int32) (gw : Int64) (gb : Int32) (gc : Int32) (gn : Int32) {p : Program} {e : Env} {s : State} {m : MethodId} {args : Array Value} {below : List Frame} {meth : Method} {c : Code} (hx : p.tables.exec = Jvm.exec) (hb : c.code = cX13_readOrder) (hr : meth.sig.returnType = none) (hml : c.maxLocals = 4) (hts : ∀ w ∈ wl yX13_readOrder cX13_readOrder 4 none, w.before args s = true) (htl : ∀ w ∈ wsA, w.before args s = true) (hown : s.vm.findClass RX13 = some m.cls) (hlocks : meth.locks = false) (hK : kk_K D cy ld s) (hp_0 : 0 ≤ (-1) * gf.toInt + gt.toInt) (hp_1 : 0 ≤ gp.toInt + (-1) * gt.toInt) (hp_2 : (1 ≤ gs.toInt → 0 ≤ (-1) * gf.toInt + gt.toInt + (-1))) (hp_3 : (27 ≤ gw.toInt → 1 ≤ gs.toInt → gs.toInt ≤ 1 → 0 ≤ (-1) * gf.toInt + gt.toInt + (-2))) (hp_4 : 0 ≤ (-1) * gc.toInt + gf.toInt) (hp_5 : gb.toInt ≤ 0) (hx_0 : CLS 10 [1, 3, 5, 7] (Ra 24) (Ra 25) (Ra 61) gc.toInt gn.toInt) (hx_1 : TMS (Ra 61) gn.toInt) (v108 : Int32) (v109 : Int32) (v3523 : Int32) (v3716 : Int32) (v3731 : Int32) (v3733 : Int32) (v3735 : Int32) (v3739 : Int32) (v3741 : Int32) (v38 : Int32) (w3737 : Int64) (H : Heap) (locs : List Loc) (F : Nat → Int32) (G : Nat → Int64) (R : Nat → Nat → Int32) (S : Nat → Nat → Int64) (hq0_kz_X13_readOrder_c8 : v109.toInt ≤ 12) (hq1_kz_X13_readOrder_c8 : v3733.toInt ≤ 400) (hq2_kz_X13_readOrder_c8 : v3735.toInt ≤ 3) (hq3_kz_X13_readOrder_c8 : 0 ≤ v38.toInt) (hq4_kz_X13_readOrder_c8 : 0 ≤ (-1) * gf.toInt + gt.toInt + (-1)) (hq5_kz_X13_readOrder_c8 : (-10) * gn.toInt + v108.toInt = 0) (hq6_kz_X13_readOrder_c8 : (-1) * gn.toInt + v109.toInt + (-1) = 0) (hq7_kz_X13_readOrder_c8 : 0 ≤ (-1) * gc.toInt + v3523.toInt) (hq8_kz_X13_readOrder_c8 : 0 ≤ (-1) * v3523.toInt + v3716.toInt) (hq9_kz_X13_readOrder_c8 : 0 ≤ (-1) * v3731.toInt + v3733.toInt) (hq10_kz_X13_readOrder_c8 : 0 ≤ gp.toInt + (-1) * v3733.toInt) (hq11_kz_X13_readOrder_c8 : 0 ≤ (-1) * v3716.toInt + v3741.toInt) (hq12_kz_X13_readOrder_c8 : 0 ≤ v3731.toInt + (-1) * v3741.toInt) (hq13_kz_X13_readOrder_c8 : 0 ≤ gb.toInt + (-1) * v38.toInt) (hq14_kz_X13_readOrder_c8 : 0 ≤ gc.toInt + (-1) * v38.toInt) (hq15_kz_X13_readOrder_c8 : 0 ≤ gs.toInt + (-1) * v3739.toInt) (hq16_kz_X13_readOrder_c8 : 0 ≤ gs.toInt + (-1) * v38.toInt + (-1)) (hq17_kz_X13_readOrder_c8 : 0 ≤ (-1) * gs.toInt + v109.toInt) (hq18_kz_X13_readOrder_c8 : 0 ≤ (-1) * gt.toInt + v3731.toInt) (hq19_kz_X13_readOrder_c8 : 0 ≤ (-1) * gs.toInt + v3735.toInt + 1) (hq20_kz_X13_readOrder_c8 : 0 ≤ (-1) * gs.toInt + v3739.toInt + 1) (hq21_kz_X13_readOrder_c8 : 0 ≤ (-1) * gs.toInt + v38.toInt + 1) (hM : mz_S D cy ad am F G R S H) (hS : va_S (mz_W ad am) s.heap H locs) (hIF : mz_IF false F) (hIG : mz_IG G) (hIR : mz_IR [] true R) (hFF : ∀ k : Nat, k ∉ ([14, 15, 16, 18, 19, 21, 23, 26, 29, 30] : List Nat) → F k = Fa k) (hGG : ∀ k : Nat, k ∉ ([17] : List Nat) → G k = Ga k) (hRR : ∀ k : Nat, k ∉ ([24, 25, 27, 28, 61] : List Nat) → R k = Ra k) (hg_3 : F 13 = gp) (hf111 : F 21 = v109) (hf3730 : F 14 = v3731) (hf3732 : F 15 = v3733) (hf3734 : F 16 = v3735) (hf3736 : G 17 = w3737) (hf3738 : F 19 = v3739) (hf3740 : F 23 = v3741) (hc0_kz_X13_readOrder_c8 : (27 ≤ gw.toInt → 1 ≤ gs.toInt → gs.toInt ≤ 1 → 0 ≤ (-1) * gf.toInt + gt.toInt + (-2))) (hc1_kz_X13_readOrder_c8 : (1 ≤ v3735.toInt → 0 ≤ (-1) * v3731.toInt + v3733.toInt + (-1))) (hc2_kz_X13_readOrder_c8 : (27 ≤ w3737.toInt → 1 ≤ v3735.toInt → v3735.toInt ≤ 1 → 0 ≤ (-1) * v3731.toInt + v3733.toInt + (-2))) (hL22 : low (10 * gn.toInt.toNat) (Ra 61) (R 61)) (hC : v3739.toInt = 0 → CLS 10 [1, 3, 5, 7] (R 24) (R 25) (Ra 61) gc.toInt gn.toInt) (h22_1 : R 61 (10 * gn.toInt.toNat + 1) = gc) (h22_2 : R 61 (10 * gn.toInt.toNat + 2) = v3523) (h22_3 : R 61 (10 * gn.toInt.toNat + 3) = v3523) (h22_4 : R 61 (10 * gn.toInt.toNat + 4) = v3716) (h22_5 : R 61 (10 * gn.toInt.toNat + 5) = v3716) (h22_6 : R 61 (10 * gn.toInt.toNat + 6) = v3741) (h22_7 : R 61 (10 * gn.toInt.toNat + 7) = 0) (h22_8 : R 61 (10 * gn.toInt.toNat + 8) = 0) (h22_0 : R 61 (10 * gn.toInt.toNat + 0) = v38) (hX3524 : v3739.toInt = 0 → WFX (R 24) (R 25) gc v3523) (hX3717 : v3739.toInt = 0 → WFX (R 24) (R 25) v3523 v3716) (hX3742 : v3739.toInt = 0 → WFX (R 24) (R 25) v3716 v3741) (ls : Array Slot) (hl : lv_has ls 4 [(2, .int v108), (0, .ref am)]) : W p l e ({ frames := 12, cells := 0, slots := 0, locals := 770 }) s m args below meth c H locs 0 0 (MQ below (mz_w D cy ad am (fun F G R S => mz_IF false F ∧ mz_IG G ∧ mz_IR [] true R ∧ (∀ k : Nat, k ∉ ([14, 15, 16, 18, 19, 21, 23, 26, 29, 30] : List Nat) → F k = Fa k) ∧ (∀ k : Nat, k ∉ ([24, 25, 27, 28, 61] : List Nat) → R k = Ra k) ∧ (∀ k : Nat, k ∉ ([17] : List Nat) → G k = Ga k) ∧ 0 ≤ (-1) * (F 14).toInt + (F 15).toInt ∧ 0 ≤ gp.toInt + (-1) * (F 15).toInt ∧ (1 ≤ (F 16).toInt → 0 ≤ (-1) * (F 14).toInt + (F 15).toInt + (-1)) ∧ (27 ≤ (G 17).toInt → 1 ≤ (F 16).toInt → (F 16).toInt ≤ 1 → 0 ≤ (-1) * (F 14).toInt + (F 15).toInt + (-2)) ∧ 0 ≤ (-1) * gf.toInt + (F 14).toInt ∧ 0 ≤ (-1) * gc.toInt + (F 23).toInt ∧ 0 ≤ (-1) * (F 23).toInt + (F 14).toInt ∧ 0 ≤ (-1) * gb.toInt + (F 19).toInt ∧ ((F 19).toInt ≤ 0 → 0 ≤ (-1) * gf.toInt + (F 14).toInt + (-1)) ∧ ((F 19).toInt = 0 → CLS 10 [1, 3, 5, 7] (R 24) (R 25) (R 61) (F 23).toInt (F 21).toInt) ∧ ((F 19).toInt = 0 → TMS (R 61) (F 21).toInt))) args s 0 0 (mz_W ad am)) (F0 m 173 ls []) := by
  have hq_gb := tk_rng gb
  have hq_gc := tk_rng gc
  have hq_gf := tk_rng gf
  have hq_gn := tk_rng gn
  have hq_gp := tk_rng gp
  have hq_gs := tk_rng gs
  have hq_gt := tk_rng gt
  have hq_gw := tk_rngL gw
  have hq_v108 := tk_rng v108
  have hq_v109 := tk_rng v109
  have hq_v3523 := tk_rng v3523
  have hq_v3716 := tk_rng v3716
  have hq_v3731 := tk_rng v3731
  have hq_v3733 := tk_rng v3733
  have hq_v3735 := tk_rng v3735
  have hq_v3739 := tk_rng v3739
  have hq_v3741 := tk_rng v3741
  have hq_v38 := tk_rng v38
  have hq_w3737 := tk_rngL w3737
  have hr_gp : 0 ≤ gp.toInt ∧ gp.toInt ≤ 400 := hIF.at hg_3
  have hr_v109 : 0 ≤ v109.toInt ∧ v109.toInt ≤ 12 := hIF.at hf111
  have hr_v3731 : 0 ≤ v3731.toInt ∧ v3731.toInt ≤ 400 := hIF.at hf3730
  have hr_v3733 : 0 ≤ v3733.toInt ∧ v3733.toInt ≤ 400 := hIF.at hf3732
  have hr_v3735 : 0 ≤ v3735.toInt ∧ v3735.toInt ≤ 3 := hIF.at hf3734
  have hr_v3739 : 0 ≤ v3739.toInt ∧ v3739.toInt ≤ 1 := hIF.at hf3738
  have hr_v3741 : 0 ≤ v3741.toInt ∧ v3741.toInt ≤ 400 := hIF.at hf3740
  refine lv_aload_n hx hb dX13_readOrder_173 rfl (lv_at hl 1 rfl) ?_
  refine mz_getR hx hb htl hown hK hM 61 (Nat.le_of_ble_eq_true rfl) (Nat.le_of_ble_eq_true rfl) (htl _ mw_239) (fun _ h9 => h9) dX13_readOrder_174 ?_
  refine lv_iload_n hx hb dX13_readOrder_177 rfl (lv_at hl 0 rfl) ?_
  refine lv_bipush (v := 9) hx hb dX13_readOrder_178 (by decide) ?_
  refine lv_iadd hx hb dX13_readOrder_180 ?_
  refine tk_add rfl (show (9 : Int32).toInt = 9 by decide) (by omega) (by omega) (fun v3744 h_v3744 => ?_)
  refine lv_iconst (v := 1) hx hb dX13_readOrder_181 (by decide) ?_
  have hk_1 : (1 : Int32).toInt = 1 := by decide
  refine mz_iast (x := 1) hx hb hK hD hM hS 61 (Nat.le_of_ble_eq_true rfl) rfl (nn := 120) rfl rfl (by omega) (by omega) dX13_readOrder_182 (fun H locs R hM hS hw9 hj9 => ?_)
  have hIR := hIR.put hw9 hj9 trivial
  have hL22 : low (10 * gn.toInt.toNat) (Ra 61) (R 61) := fun j hj => by rw [hw9, pk_un (fun h9 => by have h8 := tk_nat (i := v3744) rfl (by omega); omega)]; exact hL22 j hj
  have h22_1 : R 61 (10 * gn.toInt.toNat + 1) = gc := by rw [hw9, pk_un (fun h9 => by have h8 := tk_nat (i := v3744) rfl (by omega); omega)]; exact h22_1
  have h22_2 : R 61 (10 * gn.toInt.toNat + 2) = v3523 := by rw [hw9, pk_un (fun h9 => by have h8 := tk_nat (i := v3744) rfl (by omega); omega)]; exact h22_2
  have h22_3 : R 61 (10 * gn.toInt.toNat + 3) = v3523 := by rw [hw9, pk_un (fun h9 => by have h8 := tk_nat (i := v3744) rfl (by omega); omega)]; exact h22_3
  have h22_4 : R 61 (10 * gn.toInt.toNat + 4) = v3716 := by rw [hw9, pk_un (fun h9 => by have h8 := tk_nat (i := v3744) rfl (by omega); omega)]; exact h22_4
  have h22_5 : R 61 (10 * gn.toInt.toNat + 5) = v3716 := by rw [hw9, pk_un (fun h9 => by have h8 := tk_nat (i := v3744) rfl (by omega); omega)]; exact h22_5
  have h22_6 : R 61 (10 * gn.toInt.toNat + 6) = v3741 := by rw [hw9, pk_un (fun h9 => by have h8 := tk_nat (i := v3744) rfl (by omega); omega)]; exact h22_6
  have h22_7 : R 61 (10 * gn.toInt.toNat + 7) = 0 := by rw [hw9, pk_un (fun h9 => by have h8 := tk_nat (i := v3744) rfl (by omega); omega)]; exact h22_7
  have h22_8 : R 61 (10 * gn.toInt.toNat + 8) = 0 := by rw [hw9, pk_un (fun h9 => by have h8 := tk_nat (i := v3744) rfl (by omega); omega)]; exact h22_8
  have h22_0 : R 61 (10 * gn.toInt.toNat + 0) = v38 := by rw [hw9, pk_un (fun h9 => by have h8 := tk_nat (i := v3744) rfl (by omega); omega)]; exact h22_0
  have hC9 := hC
  have hC : v3739.toInt = 0 → CLS 10 [1, 3, 5, 7] (R 24) (R 25) (Ra 61) gc.toInt gn.toInt := fun h9 => (hC9 (by omega)).to (hj9 24 (by decide)) (hj9 25 (by decide))
  have hX35249 := hX3524
  have hX3524 : v3739.toInt = 0 → WFX (R 24) (R 25) gc v3523 := fun h9 => by rw [hj9 24 (by decide), hj9 25 (by decide)]; exact hX35249 (by omega)
  have hX37179 := hX3717
  have hX3717 : v3739.toInt = 0 → WFX (R 24) (R 25) v3523 v3716 := fun h9 => by rw [hj9 24 (by decide), hj9 25 (by decide)]; exact hX37179 (by omega)
  have hX37429 := hX3742
  have hX3742 : v3739.toInt = 0 → WFX (R 24) (R 25) v3716 v3741 := fun h9 => by rw [hj9 24 (by decide), hj9 25 (by decide)]; exact hX37429 (by omega)
  have h22_9 : R 61 (10 * gn.toInt.toNat + 9) = 1 := by rw [hw9, show 10 * gn.toInt.toNat + 9 = (v3744 : Int32).toNatClampNeg by show _ = v3744.toInt.toNat; omega]; exact pk_us
  have hRR := mz_frp (K := [24, 25, 27, 28, 61]) (Fa := Ra) hj9 hRR (by decide)
  refine lv_aload_n hx hb dX13_readOrder_183 rfl (lv_at hl 1 rfl) ?_
  refine mz_getI hx hb htl hown hK hM 19 (Nat.le_of_ble_eq_true rfl) rfl (htl _ mw_668) (fun _ h9 => h9) dX13_readOrder_184 (fun v9 e9 => ?_)
  refine fx_ti (v := v3739) (e9.symm.trans hf3738) ?_
  refine lv_if_ne (tgt := 221) hx hb dX13_readOrder_187 (by decide) (fun c9 => ?_) (fun c9 => ?_)
  · have hc3746 : ¬ (v3739.toInt = 0) := fun h9 => c9 ((fi_eq rfl (show (0 : Int32).toInt = 0 by decide)).mpr h9)
    exact kz_X13_readOrder_c9 l D cy ld ad am hD Fa Ga Ra Sa gf gt gs gp gw gb gc gn hx hb hr hml hts htl hown hlocks hK hp_0 hp_1 hp_2 hp_3 hp_4 hp_5 hx_0 hx_1 v108 v109 v3523 v3716 v3731 v3733 v3735 v3739 v3741 v38 w3737 _ _ _ _ _ _ (by omega) (by omega) (by omega) (by omega) (by omega) (by omega) (by omega) (by omega) (by omega) (by omega) (by omega) (by omega) (by omega) (by omega) (by omega) (by omega) (by omega) (by omega) (by omega) (by omega) (by omega) hM hS hIF hIG hIR hFF hGG hRR hg_3 hf111 hf3730 hf3732 hf3734 hf3736 hf3738 hf3740 (by omega) (by omega) (by omega) (by omega) hL22 hC h22_1 h22_2 h22_3 h22_4 h22_5 h22_6 h22_7 h22_8 h22_0 h22_9 hX3524 hX3717 hX3742 _ (lv_sub hl [0, 1] rfl)
  · have hc3746 : v3739.toInt = 0 := (fi_eq rfl (show (0 : Int32).toInt = 0 by decide)).mp c9
    refine lv_aload_n hx hb dX13_readOrder_190 rfl (lv_at hl 1 rfl) ?_
    refine lv_ldc2 hx hb hown (htl _ mw_1021) dX13_readOrder_191 ?_
    have hk_21279923 : (21279923 : Int64).toInt = 21279923 := by decide
    refine mz_Vj (As := [.long 21279923]) (rest := []) ⟨hx, hb, hml, hown, hts⟩ hK hM hS (k_X13_isWord l D cy ld ad am hD _ _ _ _ 21279923 v3735 w3737 hIF hIG hIR hf3734 hf3736) ⟨callB_of 1 hts (wl_in mw_709) rfl rfl rfl (htl _ mw_5) (htl _ mw_706) hd_yX13_isWord ⟨(Nat.le_of_ble_eq_true rfl), (Nat.le_of_ble_eq_true rfl)⟩, htl _ mw_707, htl _ mw_708⟩ rfl hl.1 rfl (Nat.le_of_ble_eq_true rfl) dX13_readOrder_194 ⟨(Nat.le_of_ble_eq_true rfl), (Nat.le_of_ble_eq_true rfl)⟩ (fun v3752 H locs hpo hM hS => ?_)
    obtain ⟨hpo3753, hpo3754, hpo3755, hpo3756, hpo3757⟩ := hpo
    have hq_v3752 := tk_rng v3752
    refine lv_if_eq (tgt := 221) hx hb dX13_readOrder_197 (by decide) (fun c9 => ?_) (fun c9 => ?_)
    · have hc3759 : v3752.toInt = 0 := (fi_eq rfl (show (0 : Int32).toInt = 0 by decide)).mp c9
      exact kz_X13_readOrder_c10 l D cy ld ad am hD Fa Ga Ra Sa gf gt gs gp gw gb gc gn hx hb hr hml hts htl hown hlocks hK hp_0 hp_1 hp_2 hp_3 hp_4 hp_5 hx_0 hx_1 v108 v109 v3523 v3716 v3731 v3733 v3735 v3739 v3741 v38 w3737 _ _ _ _ _ _ (by omega) (by omega) (by omega) (by omega) (by omega) (by omega) (by omega) (by omega) (by omega) (by omega) (by omega) (by omega) (by omega) (by omega) (by omega) (by omega) (by omega) (by omega) (by omega) (by omega) (by omega) (by omega) hM hS hIF hIG hIR hFF hGG hRR hg_3 hf111 hf3730 hf3732 hf3734 hf3736 hf3738 hf3740 (by omega) (by omega) (by omega) (by omega) hL22 hC h22_1 h22_2 h22_3 h22_4 h22_5 h22_6 h22_7 h22_8 h22_0 h22_9 hX3524 hX3717 hX3742 _ (lv_sub hl [0, 1] rfl)
    · have hc3759 : ¬ (v3752.toInt = 0) := fun h9 => c9 ((fi_eq rfl (show (0 : Int32).toInt = 0 by decide)).mpr h9)
      have hwk_3814 : w3737.toInt + (-21279923) = 0 ∧ v3735.toInt + (-1) = 0 := by omega
      have hwk_3815 : 0 ≤ (-1) * v3731.toInt + v3733.toInt + (-1) := by omega
      have hwk_3816 : 0 ≤ (-1) * v3731.toInt + v3733.toInt + (-2) := by omega
      refine lv_aload_n hx hb dX13_readOrder_200 rfl (lv_at hl 1 rfl) ?_
      refine mz_Vv (As := []) (rest := []) ⟨hx, hb, hml, hown, hts⟩ hK hM hS (k_X13_next l D cy ld ad am hD _ _ _ _ v3733 gp hIF hIG hIR hf3732 hg_3 (by omega)) ⟨callB_of 0 hts (wl_in mw_685) rfl rfl rfl (htl _ mw_5) (htl _ mw_682) hd_yX13_next ⟨(Nat.le_of_ble_eq_true rfl), (Nat.le_of_ble_eq_true rfl)⟩, htl _ mw_683, htl _ mw_684⟩ rfl hl.1 rfl (Nat.le_of_ble_eq_true rfl) dX13_readOrder_201 ⟨(Nat.le_of_ble_eq_true rfl), (Nat.le_of_ble_eq_true rfl)⟩ (fun H locs F G R S hpo hM hS => ?_)
      obtain ⟨hIF, hIG, hIR, hfr9, hrr9, hgr9, hpo3817, hpo3818, hpo3819, hpo3820, hpo3821⟩ := hpo
      have hFF := mz_fr (K := [14, 15, 16, 18, 19, 21, 23, 26, 29, 30]) (Fa := Fa) hfr9 hFF (by decide)
      have hRR := mz_fr (K := [24, 25, 27, 28, 61]) (Fa := Ra) hrr9 hRR (by decide)
      have hGG := mz_fr (K := [17]) (Fa := Ga) hgr9 hGG (by decide)
      have hg_3 := (hfr9 13 (by decide)).trans hg_3
      have hf111 := (hfr9 21 (by decide)).trans hf111
      have hf3738 := (hfr9 19 (by decide)).trans hf3738
      have hf3740 := (hfr9 23 (by decide)).trans hf3740
      obtain ⟨v3824, hf3823⟩ : ∃ z : Int32, F 14 = z := ⟨_, rfl⟩
      have hq_v3824 := tk_rng v3824
      rw [hf3823] at hpo3817 hpo3818 hpo3820 hpo3821
      have hr_v3824 : 0 ≤ v3824.toInt ∧ v3824.toInt ≤ 400 := hIF.at hf3823
      obtain ⟨v3826, hf3825⟩ : ∃ z : Int32, F 15 = z := ⟨_, rfl⟩
      have hq_v3826 := tk_rng v3826
      rw [hf3825] at hpo3818 hpo3819 hpo3820 hpo3821
      have hr_v3826 : 0 ≤ v3826.toInt ∧ v3826.toInt ≤ 400 := hIF.at hf3825
      obtain ⟨v3828, hf3827⟩ : ∃ z : Int32, F 16 = z := ⟨_, rfl⟩
      have hq_v3828 := tk_rng v3828
      rw [hf3827] at hpo3820 hpo3821
      have hr_v3828 : 0 ≤ v3828.toInt ∧ v3828.toInt ≤ 3 := hIF.at hf3827
      obtain ⟨w3830, hf3829⟩ : ∃ z : Int64, G 17 = z := ⟨_, rfl⟩
      have hq_w3830 := tk_rngL w3830
      rw [hf3829] at hpo3821
      have hL22 := hL22.to (hrr9 61 (by decide))
      have h22_1 := (congrFun (hrr9 61 (by decide)) _).trans h22_1
      have h22_2 := (congrFun (hrr9 61 (by decide)) _).trans h22_2
      have h22_3 := (congrFun (hrr9 61 (by decide)) _).trans h22_3
      have h22_4 := (congrFun (hrr9 61 (by decide)) _).trans h22_4
      have h22_5 := (congrFun (hrr9 61 (by decide)) _).trans h22_5
      have h22_6 := (congrFun (hrr9 61 (by decide)) _).trans h22_6
      have h22_7 := (congrFun (hrr9 61 (by decide)) _).trans h22_7
      have h22_8 := (congrFun (hrr9 61 (by decide)) _).trans h22_8
      have h22_0 := (congrFun (hrr9 61 (by decide)) _).trans h22_0
      have h22_9 := (congrFun (hrr9 61 (by decide)) _).trans h22_9
      have hC9 := hC
      have hC : v3739.toInt = 0 → CLS 10 [1, 3, 5, 7] (R 24) (R 25) (Ra 61) gc.toInt gn.toInt := fun h9 => (hC9 (by omega)).to (hrr9 24 (by decide)) (hrr9 25 (by decide))
      have hX35249 := hX3524
      have hX3524 : v3739.toInt = 0 → WFX (R 24) (R 25) gc v3523 := fun h9 => by rw [hrr9 24 (by decide), hrr9 25 (by decide)]; exact hX35249 (by omega)
      have hX37179 := hX3717
      have hX3717 : v3739.toInt = 0 → WFX (R 24) (R 25) v3523 v3716 := fun h9 => by rw [hrr9 24 (by decide), hrr9 25 (by decide)]; exact hX37179 (by omega)
      have hX37429 := hX3742
      have hX3742 : v3739.toInt = 0 → WFX (R 24) (R 25) v3716 v3741 := fun h9 => by rw [hrr9 24 (by decide), hrr9 25 (by decide)]; exact hX37429 (by omega)
      refine lv_aload_n hx hb dX13_readOrder_204 rfl (lv_at hl 1 rfl) ?_
      refine mz_getR hx hb htl hown hK hM 61 (Nat.le_of_ble_eq_true rfl) (Nat.le_of_ble_eq_true rfl) (htl _ mw_239) (fun _ h9 => h9) dX13_readOrder_205 ?_
      refine lv_iload_n hx hb dX13_readOrder_208 rfl (lv_at hl 0 rfl) ?_
      refine lv_bipush (v := 9) hx hb dX13_readOrder_209 (by decide) ?_
      refine lv_iadd hx hb dX13_readOrder_211 ?_
      refine tk_add rfl (show (9 : Int32).toInt = 9 by decide) (by omega) (by omega) (fun v3831 h_v3831 => ?_)
      refine lv_aload_n hx hb dX13_readOrder_212 rfl (lv_at hl 1 rfl) ?_
      refine lv_lconst (v := 1) hx hb dX13_readOrder_213 (by decide) ?_
      refine lv_ldc2 hx hb hown (htl _ mw_782) dX13_readOrder_214 ?_
      have hk_1 : (1 : Int64).toInt = 1 := by decide
      have hk_20 : (20 : Int64).toInt = 20 := by decide
      refine mz_Vi (As := [.long 1, .long 20]) (rest := [.int v3831, .ref (ad 61)]) ⟨hx, hb, hml, hown, hts⟩ hK hM hS (k_X13_number l D cy ld ad am hD _ _ _ _ 1 20 v3824 v3826 v3828 gp w3830 v3739 hIF hIG hIR hf3823 hf3825 hf3827 hg_3 hf3829 hf3738 (by omega) (by omega) (by omega) (by omega) (by omega) (by omega) (by omega) (by omega)) ⟨callB_of 2 hts (wl_in mw_762) rfl rfl rfl (htl _ mw_5) (htl _ mw_759) hd_yX13_number ⟨(Nat.le_of_ble_eq_true rfl), (Nat.le_of_ble_eq_true rfl)⟩, htl _ mw_760, htl _ mw_761⟩ rfl hl.1 rfl (Nat.le_of_ble_eq_true rfl) dX13_readOrder_217 ⟨(Nat.le_of_ble_eq_true rfl), (Nat.le_of_ble_eq_true rfl)⟩ (fun v3832 H locs F G R S hpo hM hS => ?_)
      obtain ⟨hIF, hIG, hIR, hfr9, hrr9, hgr9, hpo3833, hpo3834, hpo3835, hpo3836, hpo3837, hpo3838, hpo3839⟩ := hpo
      have hq_v3832 := tk_rng v3832
      have hFF := mz_fr (K := [14, 15, 16, 18, 19, 21, 23, 26, 29, 30]) (Fa := Fa) hfr9 hFF (by decide)
      have hRR := mz_fr (K := [24, 25, 27, 28, 61]) (Fa := Ra) hrr9 hRR (by decide)
      have hGG := mz_fr (K := [17]) (Fa := Ga) hgr9 hGG (by decide)
      have hg_3 := (hfr9 13 (by decide)).trans hg_3
      have hf111 := (hfr9 21 (by decide)).trans hf111
      have hf3740 := (hfr9 23 (by decide)).trans hf3740
      obtain ⟨v3842, hf3841⟩ : ∃ z : Int32, F 14 = z := ⟨_, rfl⟩
      have hq_v3842 := tk_rng v3842
      rw [hf3841] at hpo3833 hpo3835 hpo3836 hpo3837 hpo3839
      have hr_v3842 : 0 ≤ v3842.toInt ∧ v3842.toInt ≤ 400 := hIF.at hf3841
      obtain ⟨v3844, hf3843⟩ : ∃ z : Int32, F 15 = z := ⟨_, rfl⟩
      have hq_v3844 := tk_rng v3844
      rw [hf3843] at hpo3833 hpo3834 hpo3835 hpo3836
      have hr_v3844 : 0 ≤ v3844.toInt ∧ v3844.toInt ≤ 400 := hIF.at hf3843
      obtain ⟨v3846, hf3845⟩ : ∃ z : Int32, F 16 = z := ⟨_, rfl⟩
      have hq_v3846 := tk_rng v3846
      rw [hf3845] at hpo3835 hpo3836
      have hr_v3846 : 0 ≤ v3846.toInt ∧ v3846.toInt ≤ 3 := hIF.at hf3845
      obtain ⟨w3848, hf3847⟩ : ∃ z : Int64, G 17 = z := ⟨_, rfl⟩
      have hq_w3848 := tk_rngL w3848
      rw [hf3847] at hpo3836
      obtain ⟨v3850, hf3849⟩ : ∃ z : Int32, F 19 = z := ⟨_, rfl⟩
      have hq_v3850 := tk_rng v3850
      rw [hf3849] at hpo3838 hpo3839
      have hr_v3850 : 0 ≤ v3850.toInt ∧ v3850.toInt ≤ 1 := hIF.at hf3849
      have hL22 := hL22.to (hrr9 61 (by decide))
      have h22_1 := (congrFun (hrr9 61 (by decide)) _).trans h22_1
      have h22_2 := (congrFun (hrr9 61 (by decide)) _).trans h22_2
      have h22_3 := (congrFun (hrr9 61 (by decide)) _).trans h22_3
      have h22_4 := (congrFun (hrr9 61 (by decide)) _).trans h22_4
      have h22_5 := (congrFun (hrr9 61 (by decide)) _).trans h22_5
      have h22_6 := (congrFun (hrr9 61 (by decide)) _).trans h22_6
      have h22_7 := (congrFun (hrr9 61 (by decide)) _).trans h22_7
      have h22_8 := (congrFun (hrr9 61 (by decide)) _).trans h22_8
      have h22_0 := (congrFun (hrr9 61 (by decide)) _).trans h22_0
      have h22_9 := (congrFun (hrr9 61 (by decide)) _).trans h22_9
      have hC9 := hC
      have hC : v3850.toInt = 0 → CLS 10 [1, 3, 5, 7] (R 24) (R 25) (Ra 61) gc.toInt gn.toInt := fun h9 => (hC9 (by omega)).to (hrr9 24 (by decide)) (hrr9 25 (by decide))
      have hX35249 := hX3524
      have hX3524 : v3850.toInt = 0 → WFX (R 24) (R 25) gc v3523 := fun h9 => by rw [hrr9 24 (by decide), hrr9 25 (by decide)]; exact hX35249 (by omega)
      have hX37179 := hX3717
      have hX3717 : v3850.toInt = 0 → WFX (R 24) (R 25) v3523 v3716 := fun h9 => by rw [hrr9 24 (by decide), hrr9 25 (by decide)]; exact hX37179 (by omega)
      have hX37429 := hX3742
      have hX3742 : v3850.toInt = 0 → WFX (R 24) (R 25) v3716 v3741 := fun h9 => by rw [hrr9 24 (by decide), hrr9 25 (by decide)]; exact hX37429 (by omega)
      refine mz_iast (x := v3832) hx hb hK hD hM hS 61 (Nat.le_of_ble_eq_true rfl) rfl (nn := 120) rfl rfl (by omega) (by omega) dX13_readOrder_220 (fun H locs R hM hS hw9 hj9 => ?_)
      have hIR := hIR.put hw9 hj9 trivial
      have hL22 : low (10 * gn.toInt.toNat) (Ra 61) (R 61) := fun j hj => by rw [hw9, pk_un (fun h9 => by have h8 := tk_nat (i := v3831) rfl (by omega); omega)]; exact hL22 j hj
      have h22_1 : R 61 (10 * gn.toInt.toNat + 1) = gc := by rw [hw9, pk_un (fun h9 => by have h8 := tk_nat (i := v3831) rfl (by omega); omega)]; exact h22_1
      have h22_2 : R 61 (10 * gn.toInt.toNat + 2) = v3523 := by rw [hw9, pk_un (fun h9 => by have h8 := tk_nat (i := v3831) rfl (by omega); omega)]; exact h22_2
      have h22_3 : R 61 (10 * gn.toInt.toNat + 3) = v3523 := by rw [hw9, pk_un (fun h9 => by have h8 := tk_nat (i := v3831) rfl (by omega); omega)]; exact h22_3
      have h22_4 : R 61 (10 * gn.toInt.toNat + 4) = v3716 := by rw [hw9, pk_un (fun h9 => by have h8 := tk_nat (i := v3831) rfl (by omega); omega)]; exact h22_4
      have h22_5 : R 61 (10 * gn.toInt.toNat + 5) = v3716 := by rw [hw9, pk_un (fun h9 => by have h8 := tk_nat (i := v3831) rfl (by omega); omega)]; exact h22_5
      have h22_6 : R 61 (10 * gn.toInt.toNat + 6) = v3741 := by rw [hw9, pk_un (fun h9 => by have h8 := tk_nat (i := v3831) rfl (by omega); omega)]; exact h22_6
      have h22_7 : R 61 (10 * gn.toInt.toNat + 7) = 0 := by rw [hw9, pk_un (fun h9 => by have h8 := tk_nat (i := v3831) rfl (by omega); omega)]; exact h22_7
      have h22_8 : R 61 (10 * gn.toInt.toNat + 8) = 0 := by rw [hw9, pk_un (fun h9 => by have h8 := tk_nat (i := v3831) rfl (by omega); omega)]; exact h22_8
      have h22_0 : R 61 (10 * gn.toInt.toNat + 0) = v38 := by rw [hw9, pk_un (fun h9 => by have h8 := tk_nat (i := v3831) rfl (by omega); omega)]; exact h22_0
      have hC9 := hC
      have hC : v3850.toInt = 0 → CLS 10 [1, 3, 5, 7] (R 24) (R 25) (Ra 61) gc.toInt gn.toInt := fun h9 => (hC9 (by omega)).to (hj9 24 (by decide)) (hj9 25 (by decide))
      have hX35249 := hX3524
      have hX3524 : v3850.toInt = 0 → WFX (R 24) (R 25) gc v3523 := fun h9 => by rw [hj9 24 (by decide), hj9 25 (by decide)]; exact hX35249 (by omega)
      have hX37179 := hX3717
      have hX3717 : v3850.toInt = 0 → WFX (R 24) (R 25) v3523 v3716 := fun h9 => by rw [hj9 24 (by decide), hj9 25 (by decide)]; exact hX37179 (by omega)
      have hX37429 := hX3742
      have hX3742 : v3850.toInt = 0 → WFX (R 24) (R 25) v3716 v3741 := fun h9 => by rw [hj9 24 (by decide), hj9 25 (by decide)]; exact hX37429 (by omega)
      have h22_9 : R 61 (10 * gn.toInt.toNat + 9) = v3832 := by rw [hw9, show 10 * gn.toInt.toNat + 9 = (v3831 : Int32).toNatClampNeg by show _ = v3831.toInt.toNat; omega]; exact pk_us
      have hRR := mz_frp (K := [24, 25, 27, 28, 61]) (Fa := Ra) hj9 hRR (by decide)
      exact kz_X13_readOrder_c11 l D cy ld ad am hD Fa Ga Ra Sa gf gt gs gp gw gb gc gn hx hb hr hml hts htl hown hlocks hK hp_0 hp_1 hp_2 hp_3 hp_4 hp_5 hx_0 hx_1 v108 v109 v3523 v3716 v3741 v38 v3832 v3842 v3844 v3846 v3850 w3848 _ _ _ _ _ _ (by omega) (by omega) (by omega) (by omega) (by omega) (by omega) (by omega) (by omega) (by omega) (by omega) (by omega) (by omega) (by omega) (by omega) (by omega) (by omega) (by omega) (by omega) (by omega) (by omega) (by omega) (by omega) hM hS hIF hIG hIR hFF hGG hRR hg_3 hf111 hf3740 hf3841 hf3843 hf3845 hf3847 hf3849 (by omega) (by omega) (by omega) (by omega) (by omega) hL22 hC h22_1 h22_2 h22_3 h22_4 h22_5 h22_6 h22_7 h22_8 h22_0 h22_9 hX3524 hX3717 hX3742 _ (lv_sub hl [0, 1] rfl)
set_option maxHeartbeats 4000000 in
set_option maxRecDepth 100000 in
theorem k_X13_readOrder (l : Launch) (D : va_G) (cy : Nat → ClassId) (ld ad : Nat → Nat) (am : Nat) (hD : mz_D ad am) (Fa : Nat → Int32) (Ga : Nat → Int64) (Ra : Nat → Nat → Int32) (Sa : Nat → Nat → Int64) (gf : Int32) (gt : Int32) (gs : Int32) (gp : Int32) (gw : Int64) (gb : Int32) (gc : Int32) (gn : Int32) (hIF : mz_IF false Fa) (hIG : mz_IG Ga) (hIR : mz_IR [] true Ra) (hg_0 : Fa 14 = gf) (hg_1 : Fa 15 = gt) (hg_2 : Fa 16 = gs) (hg_3 : Fa 13 = gp) (hg_4 : Ga 17 = gw) (hg_5 : Fa 19 = gb) (hg_6 : Fa 23 = gc) (hg_7 : Fa 21 = gn) (hp_0 : 0 ≤ (-1) * gf.toInt + gt.toInt) (hp_1 : 0 ≤ gp.toInt + (-1) * gt.toInt) (hp_2 : (1 ≤ gs.toInt → 0 ≤ (-1) * gf.toInt + gt.toInt + (-1))) (hp_3 : (27 ≤ gw.toInt → 1 ≤ gs.toInt → gs.toInt ≤ 1 → 0 ≤ (-1) * gf.toInt + gt.toInt + (-2))) (hp_4 : 0 ≤ (-1) * gc.toInt + gf.toInt) (hp_5 : gb.toInt ≤ 0) (hx_0 : CLS 10 [1, 3, 5, 7] (Ra 24) (Ra 25) (Ra 61) gc.toInt gn.toInt) (hx_1 : TMS (Ra 61) gn.toInt) : Met l yX13_readOrder (wl yX13_readOrder cX13_readOrder 4 none) ({ frames := 12, cells := 0, slots := 0, locals := 770 }) (mz_p D cy ld ad am Fa Ga Ra Sa [.ref am]) (mz_w D cy ad am (fun F G R S => mz_IF false F ∧ mz_IG G ∧ mz_IR [] true R ∧ (∀ k : Nat, k ∉ ([14, 15, 16, 18, 19, 21, 23, 26, 29, 30] : List Nat) → F k = Fa k) ∧ (∀ k : Nat, k ∉ ([24, 25, 27, 28, 61] : List Nat) → R k = Ra k) ∧ (∀ k : Nat, k ∉ ([17] : List Nat) → G k = Ga k) ∧ 0 ≤ (-1) * (F 14).toInt + (F 15).toInt ∧ 0 ≤ gp.toInt + (-1) * (F 15).toInt ∧ (1 ≤ (F 16).toInt → 0 ≤ (-1) * (F 14).toInt + (F 15).toInt + (-1)) ∧ (27 ≤ (G 17).toInt → 1 ≤ (F 16).toInt → (F 16).toInt ≤ 1 → 0 ≤ (-1) * (F 14).toInt + (F 15).toInt + (-2)) ∧ 0 ≤ (-1) * gf.toInt + (F 14).toInt ∧ 0 ≤ (-1) * gc.toInt + (F 23).toInt ∧ 0 ≤ (-1) * (F 23).toInt + (F 14).toInt ∧ 0 ≤ (-1) * gb.toInt + (F 19).toInt ∧ ((F 19).toInt ≤ 0 → 0 ≤ (-1) * gf.toInt + (F 14).toInt + (-1)) ∧ ((F 19).toInt = 0 → CLS 10 [1, 3, 5, 7] (R 24) (R 25) (R 61) (F 23).toInt (F 21).toInt) ∧ ((F 19).toInt = 0 → TMS (R 61) (F 21).toInt))) 0 0 (mz_W ad am) := by
  refine mz_met (y := yX13_readOrder) (cc := cX13_readOrder) (maxL := 4) (ret := none) (av := [.ref am]) _ (by decide) (Nat.le_of_ble_eq_true rfl) ?_
  intro p e s m args below meth c hx hb hr hml hts htl hown hlocks hK H locs hM hS ls hl
  have hown : s.vm.findClass RX13 = some m.cls := hown
  have hl : lv_has ls 4 [(0, .ref am)] := hl
  have hq_gf := tk_rng gf
  have hq_gt := tk_rng gt
  have hq_gs := tk_rng gs
  have hq_gp := tk_rng gp
  have hq_gw := tk_rngL gw
  have hq_gb := tk_rng gb
  have hq_gc := tk_rng gc
  have hq_gn := tk_rng gn
  have hr_gf : 0 ≤ gf.toInt ∧ gf.toInt ≤ 400 := hIF.at hg_0
  have hr_gt : 0 ≤ gt.toInt ∧ gt.toInt ≤ 400 := hIF.at hg_1
  have hr_gs : 0 ≤ gs.toInt ∧ gs.toInt ≤ 3 := hIF.at hg_2
  have hr_gp : 0 ≤ gp.toInt ∧ gp.toInt ≤ 400 := hIF.at hg_3
  have hr_gb : 0 ≤ gb.toInt ∧ gb.toInt ≤ 1 := hIF.at hg_5
  have hr_gc : 0 ≤ gc.toInt ∧ gc.toInt ≤ 400 := hIF.at hg_6
  have hr_gn : 0 ≤ gn.toInt ∧ gn.toInt ≤ 12 := hIF.at hg_7
  have hL22 := low.refl (10 * gn.toInt.toNat) (Ra 61)
  have hC : gb.toInt = 0 → CLS 10 [1, 3, 5, 7] (Ra 24) (Ra 25) (Ra 61) gc.toInt gn.toInt := fun _ => hx_0
  refine lv_aload_n hx hb dX13_readOrder_0 rfl (lv_at hl 0 rfl) ?_
  refine lv_ldc2 hx hb hown (htl _ mw_1015) dX13_readOrder_1 ?_
  have hk_2268462 : (2268462 : Int64).toInt = 2268462 := by decide
  refine mz_Vj (As := [.long 2268462]) (rest := []) ⟨hx, hb, hml, hown, hts⟩ hK hM hS (k_X13_isWord l D cy ld ad am hD _ _ _ _ 2268462 gs gw hIF hIG hIR hg_2 hg_4) ⟨callB_of 1 hts (wl_in mw_709) rfl rfl rfl (htl _ mw_5) (htl _ mw_706) hd_yX13_isWord ⟨(Nat.le_of_ble_eq_true rfl), (Nat.le_of_ble_eq_true rfl)⟩, htl _ mw_707, htl _ mw_708⟩ rfl hl.1 rfl (Nat.le_of_ble_eq_true rfl) dX13_readOrder_4 ⟨(Nat.le_of_ble_eq_true rfl), (Nat.le_of_ble_eq_true rfl)⟩ (fun v1 H locs hpo hM hS => ?_)
  obtain ⟨hpo2, hpo3, hpo4, hpo5, hpo6⟩ := hpo
  have hq_v1 := tk_rng v1
  have hj40 : ∀ (v38 : Int32) (H : Heap) (locs : List Loc), (v38.toInt ≤ 3) → (0 ≤ gt.toInt + (-1) * v38.toInt + 1) → (0 ≤ (-1) * gb.toInt + v38.toInt + 1) → (mz_S D cy ad am Fa Ga Ra Sa H) → (va_S (mz_W ad am) s.heap H locs) → ((0 ≤ v38.toInt → gs.toInt + (-1) = 0)) → ∀ ls : Array Slot, lv_has ls 4 [(0, .ref am)] → W p l e ({ frames := 12, cells := 0, slots := 0, locals := 770 }) s m args below meth c H locs 0 0 (MQ below (mz_w D cy ad am (fun F G R S => mz_IF false F ∧ mz_IG G ∧ mz_IR [] true R ∧ (∀ k : Nat, k ∉ ([14, 15, 16, 18, 19, 21, 23, 26, 29, 30] : List Nat) → F k = Fa k) ∧ (∀ k : Nat, k ∉ ([24, 25, 27, 28, 61] : List Nat) → R k = Ra k) ∧ (∀ k : Nat, k ∉ ([17] : List Nat) → G k = Ga k) ∧ 0 ≤ (-1) * (F 14).toInt + (F 15).toInt ∧ 0 ≤ gp.toInt + (-1) * (F 15).toInt ∧ (1 ≤ (F 16).toInt → 0 ≤ (-1) * (F 14).toInt + (F 15).toInt + (-1)) ∧ (27 ≤ (G 17).toInt → 1 ≤ (F 16).toInt → (F 16).toInt ≤ 1 → 0 ≤ (-1) * (F 14).toInt + (F 15).toInt + (-2)) ∧ 0 ≤ (-1) * gf.toInt + (F 14).toInt ∧ 0 ≤ (-1) * gc.toInt + (F 23).toInt ∧ 0 ≤ (-1) * (F 23).toInt + (F 14).toInt ∧ 0 ≤ (-1) * gb.toInt + (F 19).toInt ∧ ((F 19).toInt ≤ 0 → 0 ≤ (-1) * gf.toInt + (F 14).toInt + (-1)) ∧ ((F 19).toInt = 0 → CLS 10 [1, 3, 5, 7] (R 24) (R 25) (R 61) (F 23).toInt (F 21).toInt) ∧ ((F 19).toInt = 0 → TMS (R 61) (F 21).toInt))) args s 0 0 (mz_W ad am)) (F0 m 57 ls [.int v38]) := by
    intro v38 H locs hq0_j40 hq1_j40 hq2_j40 hM hS hc0_j40 ls hl
    refine lv_istore_n (lv' := [(1, .int v38), (0, .ref am)]) hx hb dX13_readOrder_57 rfl hl (by decide) rfl (fun ls hl => ?_)
    refine lv_aload_n hx hb dX13_readOrder_58 rfl (lv_at hl 1 rfl) ?_
    refine lv_iload_n hx hb dX13_readOrder_59 rfl (lv_at hl 0 rfl) ?_
    refine lv_iconst (v := (-1)) hx hb dX13_readOrder_60 (by decide) ?_
    refine lv_icmp_eq (tgt := 77) hx hb dX13_readOrder_61 (by decide) (fun c9 => ?_) (fun c9 => ?_)
    · have hc41 : v38.toInt = (-1) := (fi_eq rfl (show ((-1) : Int32).toInt = (-1) by decide)).mp c9
      refine lv_iconst (v := 0) hx hb dX13_readOrder_77 (by decide) ?_
      have hk_0 : (0 : Int32).toInt = 0 := by decide
      refine mz_Vv (As := [.int 0]) (rest := []) ⟨hx, hb, hml, hown, hts⟩ hK hM hS (k_X13_must l D cy ld ad am hD _ _ _ _ 0 gf gt gs gp gw gb hIF hIG hIR hg_0 hg_1 hg_2 hg_3 hg_4 hg_5 (by omega) (by omega) (by omega) (by omega) (by omega) (by omega)) ⟨callB_of 1 hts (wl_in mw_713) rfl rfl rfl (htl _ mw_5) (htl _ mw_710) hd_yX13_must ⟨(Nat.le_of_ble_eq_true rfl), (Nat.le_of_ble_eq_true rfl)⟩, htl _ mw_711, htl _ mw_712⟩ rfl hl.1 rfl (Nat.le_of_ble_eq_true rfl) dX13_readOrder_78 ⟨(Nat.le_of_ble_eq_true rfl), (Nat.le_of_ble_eq_true rfl)⟩ (fun H locs F G R S hpo hM hS => ?_)
      obtain ⟨hIF, hIG, hIR, hfr9, hrr9, hgr9, hpo42, hpo43, hpo44, hpo45, hpo46, hpo47, hpo48, hpo49⟩ := hpo
      have hFF := mz_fr (K := [14, 15, 16, 18, 19, 21, 23, 26, 29, 30]) (Fa := Fa) hfr9 (fun _ _ => rfl) (by decide)
      have hRR := mz_fr (K := [24, 25, 27, 28, 61]) (Fa := Ra) hrr9 (fun _ _ => rfl) (by decide)
      have hGG := mz_fr (K := [17]) (Fa := Ga) hgr9 (fun _ _ => rfl) (by decide)
      have hg_3 := (hfr9 13 (by decide)).trans hg_3
      have hg_6 := (hfr9 23 (by decide)).trans hg_6
      have hg_7 := (hfr9 21 (by decide)).trans hg_7
      obtain ⟨v52, hf51⟩ : ∃ z : Int32, F 14 = z := ⟨_, rfl⟩
      have hq_v52 := tk_rng v52
      rw [hf51] at hpo42 hpo44 hpo45 hpo46 hpo48
      have hr_v52 : 0 ≤ v52.toInt ∧ v52.toInt ≤ 400 := hIF.at hf51
      obtain ⟨v54, hf53⟩ : ∃ z : Int32, F 15 = z := ⟨_, rfl⟩
      have hq_v54 := tk_rng v54
      rw [hf53] at hpo42 hpo43 hpo44 hpo45
      have hr_v54 : 0 ≤ v54.toInt ∧ v54.toInt ≤ 400 := hIF.at hf53
      obtain ⟨v56, hf55⟩ : ∃ z : Int32, F 16 = z := ⟨_, rfl⟩
      have hq_v56 := tk_rng v56
      rw [hf55] at hpo44 hpo45
      have hr_v56 : 0 ≤ v56.toInt ∧ v56.toInt ≤ 3 := hIF.at hf55
      obtain ⟨w58, hf57⟩ : ∃ z : Int64, G 17 = z := ⟨_, rfl⟩
      have hq_w58 := tk_rngL w58
      rw [hf57] at hpo45
      obtain ⟨v60, hf59⟩ : ∃ z : Int32, F 19 = z := ⟨_, rfl⟩
      have hq_v60 := tk_rng v60
      rw [hf59] at hpo47 hpo48 hpo49
      have hr_v60 : 0 ≤ v60.toInt ∧ v60.toInt ≤ 1 := hIF.at hf59
      have hL22 := hL22.to (hrr9 61 (by decide))
      have hC9 := hC
      have hC : v60.toInt = 0 → CLS 10 [1, 3, 5, 7] (R 24) (R 25) (Ra 61) gc.toInt gn.toInt := fun h9 => (hC9 (by omega)).to (hrr9 24 (by decide)) (hrr9 25 (by decide))
      refine lv_aload_n hx hb dX13_readOrder_81 rfl (lv_at hl 1 rfl) ?_
      refine mz_getI hx hb htl hown hK hM 19 (Nat.le_of_ble_eq_true rfl) rfl (htl _ mw_668) (fun _ h9 => h9) dX13_readOrder_82 (fun v9 e9 => ?_)
      refine fx_ti (v := v60) (e9.symm.trans hf59) ?_
      refine lv_if_eq (tgt := 89) hx hb dX13_readOrder_85 (by decide) (fun c9 => ?_) (fun c9 => ?_)
      · have hc61 : v60.toInt = 0 := (fi_eq rfl (show (0 : Int32).toInt = 0 by decide)).mp c9
        have hwk_62 : 0 ≤ (-1) * gt.toInt + v52.toInt ∧ 0 ≤ (-1) := by omega
        exfalso
        omega
      · have hc61 : ¬ (v60.toInt = 0) := fun h9 => c9 ((fi_eq rfl (show (0 : Int32).toInt = 0 by decide)).mpr h9)
        exact mz_vret hx hb hr hlocks ⟨hIF, hIG, hIR, hFF, hRR, hGG, (by rw [hf51, hf53]; omega), (by rw [hf53]; omega), (by rw [hf51, hf53, hf55]; omega), (by rw [hf51, hf53, hf55, hf57]; omega), (by rw [hf51]; omega), (by rw [hg_6]; omega), (by rw [hf51, hg_6]; omega), (by rw [hf59]; omega), (by rw [hf51, hf59]; omega), (by rw [hf59]; exact fun h9 => absurd h9 (by omega)), (by rw [hf59]; exact fun h9 => absurd h9 (by omega))⟩ hM hS dX13_readOrder_88
    · have hc41 : ¬ (v38.toInt = (-1)) := fun h9 => c9 ((fi_eq rfl (show ((-1) : Int32).toInt = (-1) by decide)).mpr h9)
      have hwk_63 : gs.toInt + (-1) = 0 := by omega
      have hwk_64 : 0 ≤ (-1) * gf.toInt + gt.toInt + (-1) := by omega
      refine lv_aload_n hx hb dX13_readOrder_64 rfl (lv_at hl 1 rfl) ?_
      refine mz_getI hx hb htl hown hK hM 21 (Nat.le_of_ble_eq_true rfl) rfl (htl _ mw_669) (fun _ h9 => h9) dX13_readOrder_65 (fun v9 e9 => ?_)
      refine fx_ti (v := gn) (e9.symm.trans hg_7) ?_
      refine lv_bipush (v := 12) hx hb dX13_readOrder_68 (by decide) ?_
      refine lv_icmp_ge (tgt := 77) hx hb dX13_readOrder_70 (by decide) (fun c9 => ?_) (fun c9 => ?_)
      · have hc65 : 12 ≤ gn.toInt := (fi_le (show (12 : Int32).toInt = 12 by decide) rfl).mp c9
        refine lv_iconst (v := 0) hx hb dX13_readOrder_77 (by decide) ?_
        have hk_0 : (0 : Int32).toInt = 0 := by decide
        refine mz_Vv (As := [.int 0]) (rest := []) ⟨hx, hb, hml, hown, hts⟩ hK hM hS (k_X13_must l D cy ld ad am hD _ _ _ _ 0 gf gt gs gp gw gb hIF hIG hIR hg_0 hg_1 hg_2 hg_3 hg_4 hg_5 (by omega) (by omega) (by omega) (by omega) (by omega) (by omega)) ⟨callB_of 1 hts (wl_in mw_713) rfl rfl rfl (htl _ mw_5) (htl _ mw_710) hd_yX13_must ⟨(Nat.le_of_ble_eq_true rfl), (Nat.le_of_ble_eq_true rfl)⟩, htl _ mw_711, htl _ mw_712⟩ rfl hl.1 rfl (Nat.le_of_ble_eq_true rfl) dX13_readOrder_78 ⟨(Nat.le_of_ble_eq_true rfl), (Nat.le_of_ble_eq_true rfl)⟩ (fun H locs F G R S hpo hM hS => ?_)
        obtain ⟨hIF, hIG, hIR, hfr9, hrr9, hgr9, hpo66, hpo67, hpo68, hpo69, hpo70, hpo71, hpo72, hpo73⟩ := hpo
        have hFF := mz_fr (K := [14, 15, 16, 18, 19, 21, 23, 26, 29, 30]) (Fa := Fa) hfr9 (fun _ _ => rfl) (by decide)
        have hRR := mz_fr (K := [24, 25, 27, 28, 61]) (Fa := Ra) hrr9 (fun _ _ => rfl) (by decide)
        have hGG := mz_fr (K := [17]) (Fa := Ga) hgr9 (fun _ _ => rfl) (by decide)
        have hg_3 := (hfr9 13 (by decide)).trans hg_3
        have hg_6 := (hfr9 23 (by decide)).trans hg_6
        have hg_7 := (hfr9 21 (by decide)).trans hg_7
        obtain ⟨v76, hf75⟩ : ∃ z : Int32, F 14 = z := ⟨_, rfl⟩
        have hq_v76 := tk_rng v76
        rw [hf75] at hpo66 hpo68 hpo69 hpo70 hpo72
        have hr_v76 : 0 ≤ v76.toInt ∧ v76.toInt ≤ 400 := hIF.at hf75
        obtain ⟨v78, hf77⟩ : ∃ z : Int32, F 15 = z := ⟨_, rfl⟩
        have hq_v78 := tk_rng v78
        rw [hf77] at hpo66 hpo67 hpo68 hpo69
        have hr_v78 : 0 ≤ v78.toInt ∧ v78.toInt ≤ 400 := hIF.at hf77
        obtain ⟨v80, hf79⟩ : ∃ z : Int32, F 16 = z := ⟨_, rfl⟩
        have hq_v80 := tk_rng v80
        rw [hf79] at hpo68 hpo69
        have hr_v80 : 0 ≤ v80.toInt ∧ v80.toInt ≤ 3 := hIF.at hf79
        obtain ⟨w82, hf81⟩ : ∃ z : Int64, G 17 = z := ⟨_, rfl⟩
        have hq_w82 := tk_rngL w82
        rw [hf81] at hpo69
        obtain ⟨v84, hf83⟩ : ∃ z : Int32, F 19 = z := ⟨_, rfl⟩
        have hq_v84 := tk_rng v84
        rw [hf83] at hpo71 hpo72 hpo73
        have hr_v84 : 0 ≤ v84.toInt ∧ v84.toInt ≤ 1 := hIF.at hf83
        have hL22 := hL22.to (hrr9 61 (by decide))
        have hC9 := hC
        have hC : v84.toInt = 0 → CLS 10 [1, 3, 5, 7] (R 24) (R 25) (Ra 61) gc.toInt gn.toInt := fun h9 => (hC9 (by omega)).to (hrr9 24 (by decide)) (hrr9 25 (by decide))
        refine lv_aload_n hx hb dX13_readOrder_81 rfl (lv_at hl 1 rfl) ?_
        refine mz_getI hx hb htl hown hK hM 19 (Nat.le_of_ble_eq_true rfl) rfl (htl _ mw_668) (fun _ h9 => h9) dX13_readOrder_82 (fun v9 e9 => ?_)
        refine fx_ti (v := v84) (e9.symm.trans hf83) ?_
        refine lv_if_eq (tgt := 89) hx hb dX13_readOrder_85 (by decide) (fun c9 => ?_) (fun c9 => ?_)
        · have hc85 : v84.toInt = 0 := (fi_eq rfl (show (0 : Int32).toInt = 0 by decide)).mp c9
          have hwk_86 : 0 ≤ (-1) * gt.toInt + v76.toInt ∧ 0 ≤ (-1) := by omega
          exfalso
          omega
        · have hc85 : ¬ (v84.toInt = 0) := fun h9 => c9 ((fi_eq rfl (show (0 : Int32).toInt = 0 by decide)).mpr h9)
          exact mz_vret hx hb hr hlocks ⟨hIF, hIG, hIR, hFF, hRR, hGG, (by rw [hf75, hf77]; omega), (by rw [hf77]; omega), (by rw [hf75, hf77, hf79]; omega), (by rw [hf75, hf77, hf79, hf81]; omega), (by rw [hf75]; omega), (by rw [hg_6]; omega), (by rw [hf75, hg_6]; omega), (by rw [hf83]; omega), (by rw [hf75, hf83]; omega), (by rw [hf83]; exact fun h9 => absurd h9 (by omega)), (by rw [hf83]; exact fun h9 => absurd h9 (by omega))⟩ hM hS dX13_readOrder_88
      · have hc65 : ¬ (12 ≤ gn.toInt) := fun h9 => c9 ((fi_le (show (12 : Int32).toInt = 12 by decide) rfl).mpr h9)
        refine lv_iconst (v := 1) hx hb dX13_readOrder_73 (by decide) ?_
        refine lv_goto (tgt := 78) hx hb dX13_readOrder_74 (by decide) ?_
        have hk_1 : (1 : Int32).toInt = 1 := by decide
        refine mz_Vv (As := [.int 1]) (rest := []) ⟨hx, hb, hml, hown, hts⟩ hK hM hS (k_X13_must l D cy ld ad am hD _ _ _ _ 1 gf gt gs gp gw gb hIF hIG hIR hg_0 hg_1 hg_2 hg_3 hg_4 hg_5 (by omega) (by omega) (by omega) (by omega) (by omega) (by omega)) ⟨callB_of 1 hts (wl_in mw_713) rfl rfl rfl (htl _ mw_5) (htl _ mw_710) hd_yX13_must ⟨(Nat.le_of_ble_eq_true rfl), (Nat.le_of_ble_eq_true rfl)⟩, htl _ mw_711, htl _ mw_712⟩ rfl hl.1 rfl (Nat.le_of_ble_eq_true rfl) dX13_readOrder_78 ⟨(Nat.le_of_ble_eq_true rfl), (Nat.le_of_ble_eq_true rfl)⟩ (fun H locs F G R S hpo hM hS => ?_)
        obtain ⟨hIF, hIG, hIR, hfr9, hrr9, hgr9, hpo87, hpo88, hpo89, hpo90, hpo91, hpo92, hpo93, hpo94⟩ := hpo
        have hFF := mz_fr (K := [14, 15, 16, 18, 19, 21, 23, 26, 29, 30]) (Fa := Fa) hfr9 (fun _ _ => rfl) (by decide)
        have hRR := mz_fr (K := [24, 25, 27, 28, 61]) (Fa := Ra) hrr9 (fun _ _ => rfl) (by decide)
        have hGG := mz_fr (K := [17]) (Fa := Ga) hgr9 (fun _ _ => rfl) (by decide)
        have hg_3 := (hfr9 13 (by decide)).trans hg_3
        have hg_6 := (hfr9 23 (by decide)).trans hg_6
        have hg_7 := (hfr9 21 (by decide)).trans hg_7
        obtain ⟨v97, hf96⟩ : ∃ z : Int32, F 14 = z := ⟨_, rfl⟩
        have hq_v97 := tk_rng v97
        rw [hf96] at hpo87 hpo89 hpo90 hpo91 hpo93
        have hr_v97 : 0 ≤ v97.toInt ∧ v97.toInt ≤ 400 := hIF.at hf96
        obtain ⟨v99, hf98⟩ : ∃ z : Int32, F 15 = z := ⟨_, rfl⟩
        have hq_v99 := tk_rng v99
        rw [hf98] at hpo87 hpo88 hpo89 hpo90
        have hr_v99 : 0 ≤ v99.toInt ∧ v99.toInt ≤ 400 := hIF.at hf98
        obtain ⟨v101, hf100⟩ : ∃ z : Int32, F 16 = z := ⟨_, rfl⟩
        have hq_v101 := tk_rng v101
        rw [hf100] at hpo89 hpo90
        have hr_v101 : 0 ≤ v101.toInt ∧ v101.toInt ≤ 3 := hIF.at hf100
        obtain ⟨w103, hf102⟩ : ∃ z : Int64, G 17 = z := ⟨_, rfl⟩
        have hq_w103 := tk_rngL w103
        rw [hf102] at hpo90
        obtain ⟨v105, hf104⟩ : ∃ z : Int32, F 19 = z := ⟨_, rfl⟩
        have hq_v105 := tk_rng v105
        rw [hf104] at hpo92 hpo93 hpo94
        have hr_v105 : 0 ≤ v105.toInt ∧ v105.toInt ≤ 1 := hIF.at hf104
        have hwk_106 : v105.toInt ≤ 0 := by omega
        have hwk_107 : 0 ≤ (-1) * gt.toInt + v97.toInt := by omega
        have hL22 := hL22.to (hrr9 61 (by decide))
        have hC9 := hC
        have hC : v105.toInt = 0 → CLS 10 [1, 3, 5, 7] (R 24) (R 25) (Ra 61) gc.toInt gn.toInt := fun h9 => (hC9 (by omega)).to (hrr9 24 (by decide)) (hrr9 25 (by decide))
        refine lv_aload_n hx hb dX13_readOrder_81 rfl (lv_at hl 1 rfl) ?_
        refine mz_getI hx hb htl hown hK hM 19 (Nat.le_of_ble_eq_true rfl) rfl (htl _ mw_668) (fun _ h9 => h9) dX13_readOrder_82 (fun v9 e9 => ?_)
        refine fx_ti (v := v105) (e9.symm.trans hf104) ?_
        refine lv_if_eq (tgt := 89) hx hb dX13_readOrder_85 (by decide) (fun _ => ?_) (fun c9 => absurd ((fi_eq rfl (show (0 : Int32).toInt = 0 by decide)).mpr (show v105.toInt = 0 by omega)) c9)
        refine lv_bipush (v := 10) hx hb dX13_readOrder_89 (by decide) ?_
        refine lv_aload_n hx hb dX13_readOrder_91 rfl (lv_at hl 1 rfl) ?_
        refine mz_getI hx hb htl hown hK hM 21 (Nat.le_of_ble_eq_true rfl) rfl (htl _ mw_669) (fun _ h9 => h9) dX13_readOrder_92 (fun v9 e9 => ?_)
        refine fx_ti (v := gn) (e9.symm.trans hg_7) ?_
        refine lv_imul hx hb dX13_readOrder_95 ?_
        refine tk_mul (show (10 : Int32).toInt = 10 by decide) rfl (by omega) (by omega) (fun v108 h_v108 => ?_)
        refine lv_istore_n (lv' := [(2, .int v108), (1, .int v38), (0, .ref am)]) hx hb dX13_readOrder_96 rfl hl (by decide) rfl (fun ls hl => ?_)
        refine lv_aload_n hx hb dX13_readOrder_97 rfl (lv_at hl 2 rfl) ?_
        refine lv_dup hx hb dX13_readOrder_98 rfl ?_
        refine mz_getI hx hb htl hown hK hM 21 (Nat.le_of_ble_eq_true rfl) rfl (htl _ mw_669) (fun _ h9 => h9) dX13_readOrder_99 (fun v9 e9 => ?_)
        refine fx_ti (v := gn) (e9.symm.trans hg_7) ?_
        refine lv_iconst (v := 1) hx hb dX13_readOrder_102 (by decide) ?_
        refine lv_iadd hx hb dX13_readOrder_103 ?_
        refine tk_add rfl (show (1 : Int32).toInt = 1 by decide) (by omega) (by omega) (fun v109 h_v109 => ?_)
        refine mz_putI (ty := .int) (x := v109) hx hb htl hown hK hD hM hS 21 (Nat.le_of_ble_eq_true rfl) rfl (htl _ mw_669) (fun _ h9 => h9) rfl (tyX13_ok 21 (by decide)) rfl rfl dX13_readOrder_104 (fun H locs F hM hS hf9 hj9 => ?_)
        have hIF := hIF.put hf9 hj9 (show 0 ≤ (v109 : Int32).toInt by omega) (show (v109 : Int32).toInt ≤ 12 by omega) (by decide)
        have hFF := mz_frp (K := [14, 15, 16, 18, 19, 21, 23, 26, 29, 30]) (Fa := Fa) hj9 hFF (by decide)
        have hg_3 := (hj9 13 (by decide)).trans hg_3
        have hg_6 := (hj9 23 (by decide)).trans hg_6
        have hf96 := (hj9 14 (by decide)).trans hf96
        have hf98 := (hj9 15 (by decide)).trans hf98
        have hf100 := (hj9 16 (by decide)).trans hf100
        have hf104 := (hj9 19 (by decide)).trans hf104
        have hf111 := hf9
        refine lv_iconst (v := 0) hx hb dX13_readOrder_107 (by decide) ?_
        refine lv_istore_n (lv' := [(3, .int 0), (2, .int v108), (1, .int v38), (0, .ref am)]) hx hb dX13_readOrder_108 rfl hl (by decide) rfl (fun ls hl => ?_)
        have hZ : ∀ d : Nat, d < (0 : Int32).toInt.toNat → R 61 (10 * gn.toInt.toNat + d) = 0 := fun d hd => absurd hd (by rw [show (0 : Int32).toInt.toNat = 0 by decide]; exact Nat.not_lt_zero _)
        have hl3335 : ∀ (N_l3335 : Nat) (v650 : Int32) (H : Heap) (locs : List Loc) (R : Nat → Nat → Int32), (v650.toInt ≤ 10) → (0 ≤ v650.toInt) → (mz_S D cy ad am F G R S H) → (va_S (mz_W ad am) s.heap H locs) → (mz_IR [] true R) → (∀ k : Nat, k ∉ ([24, 25, 27, 28, 61] : List Nat) → R k = Ra k) → (low (10 * gn.toInt.toNat) (Ra 61) (R 61)) → (v105.toInt = 0 → CLS 10 [1, 3, 5, 7] (R 24) (R 25) (Ra 61) gc.toInt gn.toInt) → (∀ d : Nat, d < v650.toInt.toNat → R 61 (10 * gn.toInt.toNat + d) = 0) → ((-1) * v650.toInt + 10 < (N_l3335 : Int)) → ∀ ls : Array Slot, lv_has ls 4 [(3, .int v650), (2, .int v108), (1, .int v38), (0, .ref am)] → W p l e ({ frames := 12, cells := 0, slots := 0, locals := 770 }) s m args below meth c H locs 0 0 (MQ below (mz_w D cy ad am (fun F G R S => mz_IF false F ∧ mz_IG G ∧ mz_IR [] true R ∧ (∀ k : Nat, k ∉ ([14, 15, 16, 18, 19, 21, 23, 26, 29, 30] : List Nat) → F k = Fa k) ∧ (∀ k : Nat, k ∉ ([24, 25, 27, 28, 61] : List Nat) → R k = Ra k) ∧ (∀ k : Nat, k ∉ ([17] : List Nat) → G k = Ga k) ∧ 0 ≤ (-1) * (F 14).toInt + (F 15).toInt ∧ 0 ≤ gp.toInt + (-1) * (F 15).toInt ∧ (1 ≤ (F 16).toInt → 0 ≤ (-1) * (F 14).toInt + (F 15).toInt + (-1)) ∧ (27 ≤ (G 17).toInt → 1 ≤ (F 16).toInt → (F 16).toInt ≤ 1 → 0 ≤ (-1) * (F 14).toInt + (F 15).toInt + (-2)) ∧ 0 ≤ (-1) * gf.toInt + (F 14).toInt ∧ 0 ≤ (-1) * gc.toInt + (F 23).toInt ∧ 0 ≤ (-1) * (F 23).toInt + (F 14).toInt ∧ 0 ≤ (-1) * gb.toInt + (F 19).toInt ∧ ((F 19).toInt ≤ 0 → 0 ≤ (-1) * gf.toInt + (F 14).toInt + (-1)) ∧ ((F 19).toInt = 0 → CLS 10 [1, 3, 5, 7] (R 24) (R 25) (R 61) (F 23).toInt (F 21).toInt) ∧ ((F 19).toInt = 0 → TMS (R 61) (F 21).toInt))) args s 0 0 (mz_W ad am)) (F0 m 109 ls []) := by
          intro N_l3335
          induction N_l3335 with
          | zero => intro v650 H locs R hq0_l3335 hq1_l3335 hM hS hIR hRR hL22 hC hZ hm_l3335 ls hl; exfalso; omega
          | succ N_l3335 ih_l3335 =>
            intro v650 H locs R hq0_l3335 hq1_l3335 hM hS hIR hRR hL22 hC hZ hm_l3335 ls hl
            refine lv_iload_n hx hb dX13_readOrder_109 rfl (lv_at hl 0 rfl) ?_
            refine lv_bipush (v := 10) hx hb dX13_readOrder_110 (by decide) ?_
            refine lv_icmp_ge (tgt := 130) hx hb dX13_readOrder_112 (by decide) (fun c9 => ?_) (fun c9 => ?_)
            · have hc3336 : 10 ≤ v650.toInt := (fi_le (show (10 : Int32).toInt = 10 by decide) rfl).mp c9
              refine lv_aload_n hx hb dX13_readOrder_130 rfl (lv_at hl 3 rfl) ?_
              have h22_1 : R 61 (10 * gn.toInt.toNat + 1) = 0 := hZ 1 (by omega)
              have h22_2 : R 61 (10 * gn.toInt.toNat + 2) = 0 := hZ 2 (by omega)
              have h22_3 : R 61 (10 * gn.toInt.toNat + 3) = 0 := hZ 3 (by omega)
              have h22_4 : R 61 (10 * gn.toInt.toNat + 4) = 0 := hZ 4 (by omega)
              have h22_5 : R 61 (10 * gn.toInt.toNat + 5) = 0 := hZ 5 (by omega)
              have h22_6 : R 61 (10 * gn.toInt.toNat + 6) = 0 := hZ 6 (by omega)
              have h22_7 : R 61 (10 * gn.toInt.toNat + 7) = 0 := hZ 7 (by omega)
              have h22_8 : R 61 (10 * gn.toInt.toNat + 8) = 0 := hZ 8 (by omega)
              refine mz_getR hx hb htl hown hK hM 61 (Nat.le_of_ble_eq_true rfl) (Nat.le_of_ble_eq_true rfl) (htl _ mw_239) (fun _ h9 => h9) dX13_readOrder_131 ?_
              refine lv_iload_n hx hb dX13_readOrder_134 rfl (lv_at hl 1 rfl) ?_
              refine lv_iload_n hx hb dX13_readOrder_135 rfl (lv_at hl 2 rfl) ?_
              refine mz_iast (x := v38) hx hb hK hD hM hS 61 (Nat.le_of_ble_eq_true rfl) rfl (nn := 120) rfl rfl (by omega) (by omega) dX13_readOrder_136 (fun H locs R hM hS hw9 hj9 => ?_)
              have hIR := hIR.put hw9 hj9 trivial
              have hL22 : low (10 * gn.toInt.toNat) (Ra 61) (R 61) := fun j hj => by rw [hw9, pk_un (fun h9 => by have h8 := tk_nat (i := v108) rfl (by omega); omega)]; exact hL22 j hj
              have h22_1 : R 61 (10 * gn.toInt.toNat + 1) = 0 := by rw [hw9, pk_un (fun h9 => by have h8 := tk_nat (i := v108) rfl (by omega); omega)]; exact h22_1
              have h22_2 : R 61 (10 * gn.toInt.toNat + 2) = 0 := by rw [hw9, pk_un (fun h9 => by have h8 := tk_nat (i := v108) rfl (by omega); omega)]; exact h22_2
              have h22_3 : R 61 (10 * gn.toInt.toNat + 3) = 0 := by rw [hw9, pk_un (fun h9 => by have h8 := tk_nat (i := v108) rfl (by omega); omega)]; exact h22_3
              have h22_4 : R 61 (10 * gn.toInt.toNat + 4) = 0 := by rw [hw9, pk_un (fun h9 => by have h8 := tk_nat (i := v108) rfl (by omega); omega)]; exact h22_4
              have h22_5 : R 61 (10 * gn.toInt.toNat + 5) = 0 := by rw [hw9, pk_un (fun h9 => by have h8 := tk_nat (i := v108) rfl (by omega); omega)]; exact h22_5
              have h22_6 : R 61 (10 * gn.toInt.toNat + 6) = 0 := by rw [hw9, pk_un (fun h9 => by have h8 := tk_nat (i := v108) rfl (by omega); omega)]; exact h22_6
              have h22_7 : R 61 (10 * gn.toInt.toNat + 7) = 0 := by rw [hw9, pk_un (fun h9 => by have h8 := tk_nat (i := v108) rfl (by omega); omega)]; exact h22_7
              have h22_8 : R 61 (10 * gn.toInt.toNat + 8) = 0 := by rw [hw9, pk_un (fun h9 => by have h8 := tk_nat (i := v108) rfl (by omega); omega)]; exact h22_8
              have hC9 := hC
              have hC : v105.toInt = 0 → CLS 10 [1, 3, 5, 7] (R 24) (R 25) (Ra 61) gc.toInt gn.toInt := fun h9 => (hC9 (by omega)).to (hj9 24 (by decide)) (hj9 25 (by decide))
              have h22_0 : R 61 (10 * gn.toInt.toNat + 0) = v38 := by rw [hw9, show 10 * gn.toInt.toNat + 0 = (v108 : Int32).toNatClampNeg by show _ = v108.toInt.toNat; omega]; exact pk_us
              have hRR := mz_frp (K := [24, 25, 27, 28, 61]) (Fa := Ra) hj9 hRR (by decide)
              refine lv_iload_n hx hb dX13_readOrder_137 rfl (lv_at hl 2 rfl) ?_
              refine lv_iconst (v := 2) hx hb dX13_readOrder_138 (by decide) ?_
              refine lv_icmp_ge (tgt := 149) hx hb dX13_readOrder_139 (by decide) (fun c9 => ?_) (fun c9 => ?_)
              · have hc3338 : 2 ≤ v38.toInt := (fi_le (show (2 : Int32).toInt = 2 by decide) rfl).mp c9
                refine lv_iload_n hx hb dX13_readOrder_149 rfl (lv_at hl 2 rfl) ?_
                refine lv_if_ne (tgt := 173) hx hb dX13_readOrder_150 (by decide) (fun _ => ?_) (fun c9 => absurd (show v38.toInt = 0 from (fi_eq rfl (show (0 : Int32).toInt = 0 by decide)).mp c9) (by omega))
                exact kz_X13_readOrder_c1 l D cy ld ad am hD Fa Ga Ra Sa gf gt gs gp gw gb gc gn hx hb hr hml hts htl hown hlocks hK hp_0 hp_1 hp_2 hp_3 hp_4 hp_5 hx_0 hx_1 v101 v105 v108 v109 v38 v97 v99 w103 _ _ _ _ _ _ (by omega) (by omega) (by omega) (by omega) (by omega) (by omega) (by omega) (by omega) (by omega) (by omega) (by omega) (by omega) (by omega) (by omega) (by omega) (by omega) (by omega) (by omega) (by omega) hM hS hIF hIG hIR hFF hGG hRR hg_3 hg_6 hf96 hf98 hf100 hf102 hf104 hf111 (by omega) (by omega) (by omega) hL22 hC h22_1 h22_2 h22_3 h22_4 h22_5 h22_6 h22_7 h22_8 h22_0 _ (lv_sub hl [1, 3] rfl)
              · have hc3338 : ¬ (2 ≤ v38.toInt) := fun h9 => c9 ((fi_le (show (2 : Int32).toInt = 2 by decide) rfl).mpr h9)
                refine lv_aload_n hx hb dX13_readOrder_142 rfl (lv_at hl 3 rfl) ?_
                refine lv_iload_n hx hb dX13_readOrder_143 rfl (lv_at hl 1 rfl) ?_
                refine lv_iconst (v := 1) hx hb dX13_readOrder_144 (by decide) ?_
                refine lv_iadd hx hb dX13_readOrder_145 ?_
                refine tk_add rfl (show (1 : Int32).toInt = 1 by decide) (by omega) (by omega) (fun v3500 h_v3500 => ?_)
                refine mz_Vv (As := [.int v3500]) (rest := []) ⟨hx, hb, hml, hown, hts⟩ hK hM hS (k_X13_readSum l D cy ld ad am hD _ _ _ _ v3500 v97 v99 v101 gp w103 v105 gc hIF hIG hIR hf96 hf98 hf100 hg_3 hf102 hf104 hg_6 (by omega) (by omega) (by omega) (by omega) (by omega) (by omega) (by omega)) ⟨callB_of 1 hts (wl_in mw_1025) rfl rfl rfl (htl _ mw_5) (htl _ mw_1022) hd_yX13_readSum ⟨(Nat.le_of_ble_eq_true rfl), (Nat.le_of_ble_eq_true rfl)⟩, htl _ mw_1023, htl _ mw_1024⟩ rfl hl.1 rfl (Nat.le_of_ble_eq_true rfl) dX13_readOrder_146 ⟨(Nat.le_of_ble_eq_true rfl), (Nat.le_of_ble_eq_true rfl)⟩ (fun H locs F G R S hpo hM hS => ?_)
                obtain ⟨hIF, hIG, hIR, hfr9, hrr9, hgr9, hpo3501, hpo3502, hpo3503, hpo3504, hpo3505, hpo3506, hpo3507, hpo3508, hx3509, hx3510⟩ := hpo
                have hFF := mz_fr (K := [14, 15, 16, 18, 19, 21, 23, 26, 29, 30]) (Fa := Fa) hfr9 hFF (by decide)
                have hRR := mz_fr (K := [24, 25, 27, 28, 61]) (Fa := Ra) hrr9 hRR (by decide)
                have hGG := mz_fr (K := [17]) (Fa := Ga) hgr9 hGG (by decide)
                have hg_3 := (hfr9 13 (by decide)).trans hg_3
                have hf111 := (hfr9 21 (by decide)).trans hf111
                obtain ⟨v3513, hf3512⟩ : ∃ z : Int32, F 14 = z := ⟨_, rfl⟩
                have hq_v3513 := tk_rng v3513
                rw [hf3512] at hpo3501 hpo3503 hpo3504 hpo3505 hpo3507
                have hr_v3513 : 0 ≤ v3513.toInt ∧ v3513.toInt ≤ 400 := hIF.at hf3512
                obtain ⟨v3515, hf3514⟩ : ∃ z : Int32, F 15 = z := ⟨_, rfl⟩
                have hq_v3515 := tk_rng v3515
                rw [hf3514] at hpo3501 hpo3502 hpo3503 hpo3504
                have hr_v3515 : 0 ≤ v3515.toInt ∧ v3515.toInt ≤ 400 := hIF.at hf3514
                obtain ⟨v3517, hf3516⟩ : ∃ z : Int32, F 16 = z := ⟨_, rfl⟩
                have hq_v3517 := tk_rng v3517
                rw [hf3516] at hpo3503 hpo3504
                have hr_v3517 : 0 ≤ v3517.toInt ∧ v3517.toInt ≤ 3 := hIF.at hf3516
                obtain ⟨w3519, hf3518⟩ : ∃ z : Int64, G 17 = z := ⟨_, rfl⟩
                have hq_w3519 := tk_rngL w3519
                rw [hf3518] at hpo3504
                obtain ⟨v3521, hf3520⟩ : ∃ z : Int32, F 19 = z := ⟨_, rfl⟩
                have hq_v3521 := tk_rng v3521
                rw [hf3520] at hpo3508
                have hr_v3521 : 0 ≤ v3521.toInt ∧ v3521.toInt ≤ 1 := hIF.at hf3520
                obtain ⟨v3523, hf3522⟩ : ∃ z : Int32, F 23 = z := ⟨_, rfl⟩
                have hq_v3523 := tk_rng v3523
                rw [hf3522] at hpo3506 hpo3507
                have hr_v3523 : 0 ≤ v3523.toInt ∧ v3523.toInt ≤ 400 := hIF.at hf3522
                rw [show v3500.toInt.toNat = 10 * gn.toInt.toNat + 1 by omega, hf3522] at hx3509
                have hL22 : low (10 * gn.toInt.toNat) (Ra 61) (R 61) := fun j hj => by rw [hx3509, pk_un (by omega), pk_un (by omega)]; exact hL22 j hj
                have h22_3 : R 61 (10 * gn.toInt.toNat + 3) = 0 := by rw [hx3509, pk_un (by omega), pk_un (by omega)]; exact h22_3
                have h22_4 : R 61 (10 * gn.toInt.toNat + 4) = 0 := by rw [hx3509, pk_un (by omega), pk_un (by omega)]; exact h22_4
                have h22_5 : R 61 (10 * gn.toInt.toNat + 5) = 0 := by rw [hx3509, pk_un (by omega), pk_un (by omega)]; exact h22_5
                have h22_6 : R 61 (10 * gn.toInt.toNat + 6) = 0 := by rw [hx3509, pk_un (by omega), pk_un (by omega)]; exact h22_6
                have h22_7 : R 61 (10 * gn.toInt.toNat + 7) = 0 := by rw [hx3509, pk_un (by omega), pk_un (by omega)]; exact h22_7
                have h22_8 : R 61 (10 * gn.toInt.toNat + 8) = 0 := by rw [hx3509, pk_un (by omega), pk_un (by omega)]; exact h22_8
                have h22_0 : R 61 (10 * gn.toInt.toNat + 0) = v38 := by rw [hx3509, pk_un (by omega), pk_un (by omega)]; exact h22_0
                have h22_1 : R 61 (10 * gn.toInt.toNat + 1) = gc := by rw [hx3509, pk_un (by omega)]; exact pk_us
                have h22_2 : R 61 (10 * gn.toInt.toNat + 2) = v3523 := by rw [hx3509, show 10 * gn.toInt.toNat + 2 = 10 * gn.toInt.toNat + 1 + 1 from rfl]; exact pk_us
                have hE9 : v3521.toInt = 0 → WFC (R 24) (R 25) gc.toInt.toNat v3523.toInt.toNat ∧ low gc.toInt.toNat _ (R 24) ∧ low gc.toInt.toNat _ (R 25) := fun h9 => by have h8 := hx3510 (by rw [hf3520]; exact h9); rw [hf3522] at h8; exact h8
                have hC9 := hC
                have hC : v3521.toInt = 0 → CLS 10 [1, 3, 5, 7] (R 24) (R 25) (Ra 61) gc.toInt gn.toInt := fun h9 => (hC9 (by omega)).low (N := gc.toInt.toNat) (by omega) (hE9 h9).2.1 (hE9 h9).2.2
                have hX3524 : v3521.toInt = 0 → WFX (R 24) (R 25) gc v3523 := fun h9 => ⟨by omega, by omega, by omega, (hE9 h9).1⟩
                refine lv_iload_n hx hb dX13_readOrder_149 rfl (lv_at hl 2 rfl) ?_
                refine lv_if_ne (tgt := 173) hx hb dX13_readOrder_150 (by decide) (fun c9 => ?_) (fun c9 => ?_)
                · have hc3525 : ¬ (v38.toInt = 0) := fun h9 => c9 ((fi_eq rfl (show (0 : Int32).toInt = 0 by decide)).mpr h9)
                  exact kz_X13_readOrder_c4 l D cy ld ad am hD Fa Ga Ra Sa gf gt gs gp gw gb gc gn hx hb hr hml hts htl hown hlocks hK hp_0 hp_1 hp_2 hp_3 hp_4 hp_5 hx_0 hx_1 v108 v109 v3513 v3515 v3517 v3521 v3523 v38 w3519 _ _ _ _ _ _ (by omega) (by omega) (by omega) (by omega) (by omega) (by omega) (by omega) (by omega) (by omega) (by omega) (by omega) (by omega) (by omega) (by omega) (by omega) (by omega) (by omega) (by omega) (by omega) (by omega) hM hS hIF hIG hIR hFF hGG hRR hg_3 hf111 hf3512 hf3514 hf3516 hf3518 hf3520 hf3522 (by omega) (by omega) (by omega) hL22 hC h22_1 h22_2 h22_3 h22_4 h22_5 h22_6 h22_7 h22_8 h22_0 hX3524 _ (lv_sub hl [1, 3] rfl)
                · have hc3525 : v38.toInt = 0 := (fi_eq rfl (show (0 : Int32).toInt = 0 by decide)).mp c9
                  refine lv_aload_n hx hb dX13_readOrder_153 rfl (lv_at hl 3 rfl) ?_
                  refine lv_iload_n hx hb dX13_readOrder_154 rfl (lv_at hl 1 rfl) ?_
                  refine lv_iconst (v := 3) hx hb dX13_readOrder_155 (by decide) ?_
                  refine lv_iadd hx hb dX13_readOrder_156 ?_
                  refine tk_add rfl (show (3 : Int32).toInt = 3 by decide) (by omega) (by omega) (fun v3693 h_v3693 => ?_)
                  refine lv_ldc2 hx hb hown (htl _ mw_1019) dX13_readOrder_157 ?_
                  have hk_763528 : (763528 : Int64).toInt = 763528 := by decide
                  refine mz_Vv (As := [.int v3693, .long 763528]) (rest := []) ⟨hx, hb, hml, hown, hts⟩ hK hM hS (k_X13_readBehind l D cy ld ad am hD _ _ _ _ v3693 763528 v3513 v3515 v3517 gp w3519 v3521 v3523 hIF hIG hIR hf3512 hf3514 hf3516 hg_3 hf3518 hf3520 hf3522 (by omega) (by omega) (by omega) (by omega) (by omega) (by omega) (by omega)) ⟨callB_of 2 hts (wl_in mw_1029) rfl rfl rfl (htl _ mw_5) (htl _ mw_1026) hd_yX13_readBehind ⟨(Nat.le_of_ble_eq_true rfl), (Nat.le_of_ble_eq_true rfl)⟩, htl _ mw_1027, htl _ mw_1028⟩ rfl hl.1 rfl (Nat.le_of_ble_eq_true rfl) dX13_readOrder_160 ⟨(Nat.le_of_ble_eq_true rfl), (Nat.le_of_ble_eq_true rfl)⟩ (fun H locs F G R S hpo hM hS => ?_)
                  obtain ⟨hIF, hIG, hIR, hfr9, hrr9, hgr9, hpo3694, hpo3695, hpo3696, hpo3697, hpo3698, hpo3699, hpo3700, hpo3701, hx3702, hx3703⟩ := hpo
                  have hFF := mz_fr (K := [14, 15, 16, 18, 19, 21, 23, 26, 29, 30]) (Fa := Fa) hfr9 hFF (by decide)
                  have hRR := mz_fr (K := [24, 25, 27, 28, 61]) (Fa := Ra) hrr9 hRR (by decide)
                  have hGG := mz_fr (K := [17]) (Fa := Ga) hgr9 hGG (by decide)
                  have hg_3 := (hfr9 13 (by decide)).trans hg_3
                  have hf111 := (hfr9 21 (by decide)).trans hf111
                  obtain ⟨v3706, hf3705⟩ : ∃ z : Int32, F 14 = z := ⟨_, rfl⟩
                  have hq_v3706 := tk_rng v3706
                  rw [hf3705] at hpo3694 hpo3696 hpo3697 hpo3698 hpo3700
                  have hr_v3706 : 0 ≤ v3706.toInt ∧ v3706.toInt ≤ 400 := hIF.at hf3705
                  obtain ⟨v3708, hf3707⟩ : ∃ z : Int32, F 15 = z := ⟨_, rfl⟩
                  have hq_v3708 := tk_rng v3708
                  rw [hf3707] at hpo3694 hpo3695 hpo3696 hpo3697
                  have hr_v3708 : 0 ≤ v3708.toInt ∧ v3708.toInt ≤ 400 := hIF.at hf3707
                  obtain ⟨v3710, hf3709⟩ : ∃ z : Int32, F 16 = z := ⟨_, rfl⟩
                  have hq_v3710 := tk_rng v3710
                  rw [hf3709] at hpo3696 hpo3697
                  have hr_v3710 : 0 ≤ v3710.toInt ∧ v3710.toInt ≤ 3 := hIF.at hf3709
                  obtain ⟨w3712, hf3711⟩ : ∃ z : Int64, G 17 = z := ⟨_, rfl⟩
                  have hq_w3712 := tk_rngL w3712
                  rw [hf3711] at hpo3697
                  obtain ⟨v3714, hf3713⟩ : ∃ z : Int32, F 19 = z := ⟨_, rfl⟩
                  have hq_v3714 := tk_rng v3714
                  rw [hf3713] at hpo3701
                  have hr_v3714 : 0 ≤ v3714.toInt ∧ v3714.toInt ≤ 1 := hIF.at hf3713
                  obtain ⟨v3716, hf3715⟩ : ∃ z : Int32, F 23 = z := ⟨_, rfl⟩
                  have hq_v3716 := tk_rng v3716
                  rw [hf3715] at hpo3699 hpo3700
                  have hr_v3716 : 0 ≤ v3716.toInt ∧ v3716.toInt ≤ 400 := hIF.at hf3715
                  rw [show v3693.toInt.toNat = 10 * gn.toInt.toNat + 3 by omega, hf3715] at hx3702
                  have hL22 : low (10 * gn.toInt.toNat) (Ra 61) (R 61) := fun j hj => by rw [hx3702, pk_un (by omega), pk_un (by omega)]; exact hL22 j hj
                  have h22_1 : R 61 (10 * gn.toInt.toNat + 1) = gc := by rw [hx3702, pk_un (by omega), pk_un (by omega)]; exact h22_1
                  have h22_2 : R 61 (10 * gn.toInt.toNat + 2) = v3523 := by rw [hx3702, pk_un (by omega), pk_un (by omega)]; exact h22_2
                  have h22_5 : R 61 (10 * gn.toInt.toNat + 5) = 0 := by rw [hx3702, pk_un (by omega), pk_un (by omega)]; exact h22_5
                  have h22_6 : R 61 (10 * gn.toInt.toNat + 6) = 0 := by rw [hx3702, pk_un (by omega), pk_un (by omega)]; exact h22_6
                  have h22_7 : R 61 (10 * gn.toInt.toNat + 7) = 0 := by rw [hx3702, pk_un (by omega), pk_un (by omega)]; exact h22_7
                  have h22_8 : R 61 (10 * gn.toInt.toNat + 8) = 0 := by rw [hx3702, pk_un (by omega), pk_un (by omega)]; exact h22_8
                  have h22_0 : R 61 (10 * gn.toInt.toNat + 0) = v38 := by rw [hx3702, pk_un (by omega), pk_un (by omega)]; exact h22_0
                  have h22_3 : R 61 (10 * gn.toInt.toNat + 3) = v3523 := by rw [hx3702, pk_un (by omega)]; exact pk_us
                  have h22_4 : R 61 (10 * gn.toInt.toNat + 4) = v3716 := by rw [hx3702, show 10 * gn.toInt.toNat + 4 = 10 * gn.toInt.toNat + 3 + 1 from rfl]; exact pk_us
                  have hE9 : v3714.toInt = 0 → WFC (R 24) (R 25) v3523.toInt.toNat v3716.toInt.toNat ∧ low v3523.toInt.toNat _ (R 24) ∧ low v3523.toInt.toNat _ (R 25) := fun h9 => by have h8 := hx3703 (by rw [hf3713]; exact h9); rw [hf3715] at h8; exact h8
                  have hC9 := hC
                  have hC : v3714.toInt = 0 → CLS 10 [1, 3, 5, 7] (R 24) (R 25) (Ra 61) gc.toInt gn.toInt := fun h9 => (hC9 (by omega)).low (N := v3523.toInt.toNat) (by omega) (hE9 h9).2.1 (hE9 h9).2.2
                  have hX35249 := hX3524
                  have hX3524 : v3714.toInt = 0 → WFX (R 24) (R 25) gc v3523 := fun h9 => (hX35249 (by omega)).low (n := v3523.toInt.toNat) (by omega) (hE9 h9).2.1 (hE9 h9).2.2
                  have hX3717 : v3714.toInt = 0 → WFX (R 24) (R 25) v3523 v3716 := fun h9 => ⟨by omega, by omega, by omega, (hE9 h9).1⟩
                  refine lv_aload_n hx hb dX13_readOrder_163 rfl (lv_at hl 3 rfl) ?_
                  refine lv_iload_n hx hb dX13_readOrder_164 rfl (lv_at hl 1 rfl) ?_
                  refine lv_iconst (v := 5) hx hb dX13_readOrder_165 (by decide) ?_
                  refine lv_iadd hx hb dX13_readOrder_166 ?_
                  refine tk_add rfl (show (5 : Int32).toInt = 5 by decide) (by omega) (by omega) (fun v3718 h_v3718 => ?_)
                  refine lv_ldc2 hx hb hown (htl _ mw_1020) dX13_readOrder_167 ?_
                  have hk_6642 : (6642 : Int64).toInt = 6642 := by decide
                  refine mz_Vv (As := [.int v3718, .long 6642]) (rest := []) ⟨hx, hb, hml, hown, hts⟩ hK hM hS (k_X13_readBehind l D cy ld ad am hD _ _ _ _ v3718 6642 v3706 v3708 v3710 gp w3712 v3714 v3716 hIF hIG hIR hf3705 hf3707 hf3709 hg_3 hf3711 hf3713 hf3715 (by omega) (by omega) (by omega) (by omega) (by omega) (by omega) (by omega)) ⟨callB_of 2 hts (wl_in mw_1029) rfl rfl rfl (htl _ mw_5) (htl _ mw_1026) hd_yX13_readBehind ⟨(Nat.le_of_ble_eq_true rfl), (Nat.le_of_ble_eq_true rfl)⟩, htl _ mw_1027, htl _ mw_1028⟩ rfl hl.1 rfl (Nat.le_of_ble_eq_true rfl) dX13_readOrder_170 ⟨(Nat.le_of_ble_eq_true rfl), (Nat.le_of_ble_eq_true rfl)⟩ (fun H locs F G R S hpo hM hS => ?_)
                  obtain ⟨hIF, hIG, hIR, hfr9, hrr9, hgr9, hpo3719, hpo3720, hpo3721, hpo3722, hpo3723, hpo3724, hpo3725, hpo3726, hx3727, hx3728⟩ := hpo
                  have hFF := mz_fr (K := [14, 15, 16, 18, 19, 21, 23, 26, 29, 30]) (Fa := Fa) hfr9 hFF (by decide)
                  have hRR := mz_fr (K := [24, 25, 27, 28, 61]) (Fa := Ra) hrr9 hRR (by decide)
                  have hGG := mz_fr (K := [17]) (Fa := Ga) hgr9 hGG (by decide)
                  have hg_3 := (hfr9 13 (by decide)).trans hg_3
                  have hf111 := (hfr9 21 (by decide)).trans hf111
                  obtain ⟨v3731, hf3730⟩ : ∃ z : Int32, F 14 = z := ⟨_, rfl⟩
                  have hq_v3731 := tk_rng v3731
                  rw [hf3730] at hpo3719 hpo3721 hpo3722 hpo3723 hpo3725
                  have hr_v3731 : 0 ≤ v3731.toInt ∧ v3731.toInt ≤ 400 := hIF.at hf3730
                  obtain ⟨v3733, hf3732⟩ : ∃ z : Int32, F 15 = z := ⟨_, rfl⟩
                  have hq_v3733 := tk_rng v3733
                  rw [hf3732] at hpo3719 hpo3720 hpo3721 hpo3722
                  have hr_v3733 : 0 ≤ v3733.toInt ∧ v3733.toInt ≤ 400 := hIF.at hf3732
                  obtain ⟨v3735, hf3734⟩ : ∃ z : Int32, F 16 = z := ⟨_, rfl⟩
                  have hq_v3735 := tk_rng v3735
                  rw [hf3734] at hpo3721 hpo3722
                  have hr_v3735 : 0 ≤ v3735.toInt ∧ v3735.toInt ≤ 3 := hIF.at hf3734
                  obtain ⟨w3737, hf3736⟩ : ∃ z : Int64, G 17 = z := ⟨_, rfl⟩
                  have hq_w3737 := tk_rngL w3737
                  rw [hf3736] at hpo3722
                  obtain ⟨v3739, hf3738⟩ : ∃ z : Int32, F 19 = z := ⟨_, rfl⟩
                  have hq_v3739 := tk_rng v3739
                  rw [hf3738] at hpo3726
                  have hr_v3739 : 0 ≤ v3739.toInt ∧ v3739.toInt ≤ 1 := hIF.at hf3738
                  obtain ⟨v3741, hf3740⟩ : ∃ z : Int32, F 23 = z := ⟨_, rfl⟩
                  have hq_v3741 := tk_rng v3741
                  rw [hf3740] at hpo3724 hpo3725
                  have hr_v3741 : 0 ≤ v3741.toInt ∧ v3741.toInt ≤ 400 := hIF.at hf3740
                  rw [show v3718.toInt.toNat = 10 * gn.toInt.toNat + 5 by omega, hf3740] at hx3727
                  have hL22 : low (10 * gn.toInt.toNat) (Ra 61) (R 61) := fun j hj => by rw [hx3727, pk_un (by omega), pk_un (by omega)]; exact hL22 j hj
                  have h22_1 : R 61 (10 * gn.toInt.toNat + 1) = gc := by rw [hx3727, pk_un (by omega), pk_un (by omega)]; exact h22_1
                  have h22_2 : R 61 (10 * gn.toInt.toNat + 2) = v3523 := by rw [hx3727, pk_un (by omega), pk_un (by omega)]; exact h22_2
                  have h22_3 : R 61 (10 * gn.toInt.toNat + 3) = v3523 := by rw [hx3727, pk_un (by omega), pk_un (by omega)]; exact h22_3
                  have h22_4 : R 61 (10 * gn.toInt.toNat + 4) = v3716 := by rw [hx3727, pk_un (by omega), pk_un (by omega)]; exact h22_4
                  have h22_7 : R 61 (10 * gn.toInt.toNat + 7) = 0 := by rw [hx3727, pk_un (by omega), pk_un (by omega)]; exact h22_7
                  have h22_8 : R 61 (10 * gn.toInt.toNat + 8) = 0 := by rw [hx3727, pk_un (by omega), pk_un (by omega)]; exact h22_8
                  have h22_0 : R 61 (10 * gn.toInt.toNat + 0) = v38 := by rw [hx3727, pk_un (by omega), pk_un (by omega)]; exact h22_0
                  have h22_5 : R 61 (10 * gn.toInt.toNat + 5) = v3716 := by rw [hx3727, pk_un (by omega)]; exact pk_us
                  have h22_6 : R 61 (10 * gn.toInt.toNat + 6) = v3741 := by rw [hx3727, show 10 * gn.toInt.toNat + 6 = 10 * gn.toInt.toNat + 5 + 1 from rfl]; exact pk_us
                  have hE9 : v3739.toInt = 0 → WFC (R 24) (R 25) v3716.toInt.toNat v3741.toInt.toNat ∧ low v3716.toInt.toNat _ (R 24) ∧ low v3716.toInt.toNat _ (R 25) := fun h9 => by have h8 := hx3728 (by rw [hf3738]; exact h9); rw [hf3740] at h8; exact h8
                  have hC9 := hC
                  have hC : v3739.toInt = 0 → CLS 10 [1, 3, 5, 7] (R 24) (R 25) (Ra 61) gc.toInt gn.toInt := fun h9 => (hC9 (by omega)).low (N := v3716.toInt.toNat) (by omega) (hE9 h9).2.1 (hE9 h9).2.2
                  have hX35249 := hX3524
                  have hX3524 : v3739.toInt = 0 → WFX (R 24) (R 25) gc v3523 := fun h9 => (hX35249 (by omega)).low (n := v3716.toInt.toNat) (by omega) (hE9 h9).2.1 (hE9 h9).2.2
                  have hX37179 := hX3717
                  have hX3717 : v3739.toInt = 0 → WFX (R 24) (R 25) v3523 v3716 := fun h9 => (hX37179 (by omega)).low (n := v3716.toInt.toNat) (by omega) (hE9 h9).2.1 (hE9 h9).2.2
                  have hX3742 : v3739.toInt = 0 → WFX (R 24) (R 25) v3716 v3741 := fun h9 => ⟨by omega, by omega, by omega, (hE9 h9).1⟩
                  exact kz_X13_readOrder_c8 l D cy ld ad am hD Fa Ga Ra Sa gf gt gs gp gw gb gc gn hx hb hr hml hts htl hown hlocks hK hp_0 hp_1 hp_2 hp_3 hp_4 hp_5 hx_0 hx_1 v108 v109 v3523 v3716 v3731 v3733 v3735 v3739 v3741 v38 w3737 _ _ _ _ _ _ (by omega) (by omega) (by omega) (by omega) (by omega) (by omega) (by omega) (by omega) (by omega) (by omega) (by omega) (by omega) (by omega) (by omega) (by omega) (by omega) (by omega) (by omega) (by omega) (by omega) (by omega) (by omega) hM hS hIF hIG hIR hFF hGG hRR hg_3 hf111 hf3730 hf3732 hf3734 hf3736 hf3738 hf3740 (by omega) (by omega) (by omega) hL22 hC h22_1 h22_2 h22_3 h22_4 h22_5 h22_6 h22_7 h22_8 h22_0 hX3524 hX3717 hX3742 _ (lv_sub hl [1, 3] rfl)
            · have hc3336 : ¬ (10 ≤ v650.toInt) := fun h9 => c9 ((fi_le (show (10 : Int32).toInt = 10 by decide) rfl).mpr h9)
              refine lv_aload_n hx hb dX13_readOrder_115 rfl (lv_at hl 3 rfl) ?_
              refine mz_getR hx hb htl hown hK hM 61 (Nat.le_of_ble_eq_true rfl) (Nat.le_of_ble_eq_true rfl) (htl _ mw_239) (fun _ h9 => h9) dX13_readOrder_116 ?_
              refine lv_iload_n hx hb dX13_readOrder_119 rfl (lv_at hl 1 rfl) ?_
              refine lv_iload_n hx hb dX13_readOrder_120 rfl (lv_at hl 0 rfl) ?_
              refine lv_iadd hx hb dX13_readOrder_121 ?_
              refine tk_add rfl rfl (by omega) (by omega) (fun v3910 h_v3910 => ?_)
              refine lv_iconst (v := 0) hx hb dX13_readOrder_122 (by decide) ?_
              have hk_0 : (0 : Int32).toInt = 0 := by decide
              refine mz_iast (x := 0) hx hb hK hD hM hS 61 (Nat.le_of_ble_eq_true rfl) rfl (nn := 120) rfl rfl (by omega) (by omega) dX13_readOrder_123 (fun H locs R hM hS hw9 hj9 => ?_)
              have hIR := hIR.put hw9 hj9 trivial
              have hL22 : low (10 * gn.toInt.toNat) (Ra 61) (R 61) := fun j hj => by rw [hw9, pk_un (fun h9 => by have h8 := tk_nat (i := v3910) rfl (by omega); omega)]; exact hL22 j hj
              have hC9 := hC
              have hC : v105.toInt = 0 → CLS 10 [1, 3, 5, 7] (R 24) (R 25) (Ra 61) gc.toInt gn.toInt := fun h9 => (hC9 (by omega)).to (hj9 24 (by decide)) (hj9 25 (by decide))
              have hZ := zr_step (C := 10 * gn.toInt.toNat) (k := v650.toInt.toNat) hZ hw9 (by omega) rfl
              have hRR := mz_frp (K := [24, 25, 27, 28, 61]) (Fa := Ra) hj9 hRR (by decide)
              obtain ⟨v3912, h_v3912, e_v3912⟩ := tk_inc v650 1 (by decide) (by omega) (by omega)
              refine lv_iinc (v := v3912) (lv' := [(3, .int v3912), (2, .int v108), (1, .int v38), (0, .ref am)]) hx hb dX13_readOrder_124 hl (k := 0) rfl e_v3912 (by decide) rfl (fun ls hl => ?_)
              refine lv_goto (tgt := 109) hx hb dX13_readOrder_127 (by decide) ?_
              exact ih_l3335 v3912 _ _ _ (by omega) (by omega) hM hS hIR hRR hL22 hC (fun d hd => hZ d (by omega)) (by omega) _ (lv_sub hl [0, 1, 2, 3] rfl)
        have hk_0 : (0 : Int32).toInt = 0 := by decide
        exact hl3335 11 0 _ _ _ (by omega) (by omega) hM hS hIR hRR hL22 hC hZ (by omega) _ (lv_sub hl [0, 1, 2, 3] rfl)
  refine lv_if_eq (tgt := 14) hx hb dX13_readOrder_7 (by decide) (fun c9 => ?_) (fun c9 => ?_)
  · have hc11 : v1.toInt = 0 := (fi_eq rfl (show (0 : Int32).toInt = 0 by decide)).mp c9
    refine lv_aload_n hx hb dX13_readOrder_14 rfl (lv_at hl 0 rfl) ?_
    refine lv_ldc2 hx hb hown (htl _ mw_1016) dX13_readOrder_15 ?_
    have hk_632263 : (632263 : Int64).toInt = 632263 := by decide
    refine mz_Vj (As := [.long 632263]) (rest := []) ⟨hx, hb, hml, hown, hts⟩ hK hM hS (k_X13_isWord l D cy ld ad am hD _ _ _ _ 632263 gs gw hIF hIG hIR hg_2 hg_4) ⟨callB_of 1 hts (wl_in mw_709) rfl rfl rfl (htl _ mw_5) (htl _ mw_706) hd_yX13_isWord ⟨(Nat.le_of_ble_eq_true rfl), (Nat.le_of_ble_eq_true rfl)⟩, htl _ mw_707, htl _ mw_708⟩ rfl hl.1 rfl (Nat.le_of_ble_eq_true rfl) dX13_readOrder_18 ⟨(Nat.le_of_ble_eq_true rfl), (Nat.le_of_ble_eq_true rfl)⟩ (fun v3913 H locs hpo hM hS => ?_)
    obtain ⟨hpo3914, hpo3915, hpo3916, hpo3917, hpo3918⟩ := hpo
    have hq_v3913 := tk_rng v3913
    refine lv_if_eq (tgt := 28) hx hb dX13_readOrder_21 (by decide) (fun c9 => ?_) (fun c9 => ?_)
    · have hc3920 : v3913.toInt = 0 := (fi_eq rfl (show (0 : Int32).toInt = 0 by decide)).mp c9
      refine lv_aload_n hx hb dX13_readOrder_28 rfl (lv_at hl 0 rfl) ?_
      refine lv_ldc2 hx hb hown (htl _ mw_1017) dX13_readOrder_29 ?_
      have hk_525908 : (525908 : Int64).toInt = 525908 := by decide
      refine mz_Vj (As := [.long 525908]) (rest := []) ⟨hx, hb, hml, hown, hts⟩ hK hM hS (k_X13_isWord l D cy ld ad am hD _ _ _ _ 525908 gs gw hIF hIG hIR hg_2 hg_4) ⟨callB_of 1 hts (wl_in mw_709) rfl rfl rfl (htl _ mw_5) (htl _ mw_706) hd_yX13_isWord ⟨(Nat.le_of_ble_eq_true rfl), (Nat.le_of_ble_eq_true rfl)⟩, htl _ mw_707, htl _ mw_708⟩ rfl hl.1 rfl (Nat.le_of_ble_eq_true rfl) dX13_readOrder_32 ⟨(Nat.le_of_ble_eq_true rfl), (Nat.le_of_ble_eq_true rfl)⟩ (fun v3921 H locs hpo hM hS => ?_)
      obtain ⟨hpo3922, hpo3923, hpo3924, hpo3925, hpo3926⟩ := hpo
      have hq_v3921 := tk_rng v3921
      refine lv_if_eq (tgt := 42) hx hb dX13_readOrder_35 (by decide) (fun c9 => ?_) (fun c9 => ?_)
      · have hc3928 : v3921.toInt = 0 := (fi_eq rfl (show (0 : Int32).toInt = 0 by decide)).mp c9
        refine lv_aload_n hx hb dX13_readOrder_42 rfl (lv_at hl 0 rfl) ?_
        refine lv_ldc2 hx hb hown (htl _ mw_1018) dX13_readOrder_43 ?_
        have hk_132846 : (132846 : Int64).toInt = 132846 := by decide
        refine mz_Vj (As := [.long 132846]) (rest := []) ⟨hx, hb, hml, hown, hts⟩ hK hM hS (k_X13_isWord l D cy ld ad am hD _ _ _ _ 132846 gs gw hIF hIG hIR hg_2 hg_4) ⟨callB_of 1 hts (wl_in mw_709) rfl rfl rfl (htl _ mw_5) (htl _ mw_706) hd_yX13_isWord ⟨(Nat.le_of_ble_eq_true rfl), (Nat.le_of_ble_eq_true rfl)⟩, htl _ mw_707, htl _ mw_708⟩ rfl hl.1 rfl (Nat.le_of_ble_eq_true rfl) dX13_readOrder_46 ⟨(Nat.le_of_ble_eq_true rfl), (Nat.le_of_ble_eq_true rfl)⟩ (fun v3929 H locs hpo hM hS => ?_)
        obtain ⟨hpo3930, hpo3931, hpo3932, hpo3933, hpo3934⟩ := hpo
        have hq_v3929 := tk_rng v3929
        refine lv_if_eq (tgt := 56) hx hb dX13_readOrder_49 (by decide) (fun c9 => ?_) (fun c9 => ?_)
        · have hc3936 : v3929.toInt = 0 := (fi_eq rfl (show (0 : Int32).toInt = 0 by decide)).mp c9
          refine lv_iconst (v := (-1)) hx hb dX13_readOrder_56 (by decide) ?_
          have hk_m1 : ((-1) : Int32).toInt = (-1) := by decide
          exact hj40 (-1) _ _ (by omega) (by omega) (by omega) hM hS (by omega) _ (lv_sub hl [0] rfl)
        · have hc3936 : ¬ (v3929.toInt = 0) := fun h9 => c9 ((fi_eq rfl (show (0 : Int32).toInt = 0 by decide)).mpr h9)
          have hwk_3937 : gw.toInt + (-132846) = 0 ∧ gs.toInt + (-1) = 0 := by omega
          have hwk_3938 : 0 ≤ (-1) * gf.toInt + gt.toInt + (-1) := by omega
          have hwk_3939 : 0 ≤ (-1) * gf.toInt + gt.toInt + (-2) := by omega
          refine lv_iconst (v := 3) hx hb dX13_readOrder_52 (by decide) ?_
          refine lv_goto (tgt := 57) hx hb dX13_readOrder_53 (by decide) ?_
          have hk_3 : (3 : Int32).toInt = 3 := by decide
          exact hj40 3 _ _ (by omega) (by omega) (by omega) hM hS (by omega) _ (lv_sub hl [0] rfl)
      · have hc3928 : ¬ (v3921.toInt = 0) := fun h9 => c9 ((fi_eq rfl (show (0 : Int32).toInt = 0 by decide)).mpr h9)
        have hwk_3940 : gw.toInt + (-525908) = 0 ∧ gs.toInt + (-1) = 0 := by omega
        have hwk_3941 : 0 ≤ (-1) * gf.toInt + gt.toInt + (-1) := by omega
        have hwk_3942 : 0 ≤ (-1) * gf.toInt + gt.toInt + (-2) := by omega
        refine lv_iconst (v := 2) hx hb dX13_readOrder_38 (by decide) ?_
        refine lv_goto (tgt := 57) hx hb dX13_readOrder_39 (by decide) ?_
        have hk_2 : (2 : Int32).toInt = 2 := by decide
        exact hj40 2 _ _ (by omega) (by omega) (by omega) hM hS (by omega) _ (lv_sub hl [0] rfl)
    · have hc3920 : ¬ (v3913.toInt = 0) := fun h9 => c9 ((fi_eq rfl (show (0 : Int32).toInt = 0 by decide)).mpr h9)
      have hwk_3943 : gw.toInt + (-632263) = 0 ∧ gs.toInt + (-1) = 0 := by omega
      have hwk_3944 : 0 ≤ (-1) * gf.toInt + gt.toInt + (-1) := by omega
      have hwk_3945 : 0 ≤ (-1) * gf.toInt + gt.toInt + (-2) := by omega
      refine lv_iconst (v := 1) hx hb dX13_readOrder_24 (by decide) ?_
      refine lv_goto (tgt := 57) hx hb dX13_readOrder_25 (by decide) ?_
      have hk_1 : (1 : Int32).toInt = 1 := by decide
      exact hj40 1 _ _ (by omega) (by omega) (by omega) hM hS (by omega) _ (lv_sub hl [0] rfl)
  · have hc11 : ¬ (v1.toInt = 0) := fun h9 => c9 ((fi_eq rfl (show (0 : Int32).toInt = 0 by decide)).mpr h9)
    have hwk_3946 : gw.toInt + (-2268462) = 0 ∧ gs.toInt + (-1) = 0 := by omega
    have hwk_3947 : 0 ≤ (-1) * gf.toInt + gt.toInt + (-1) := by omega
    have hwk_3948 : 0 ≤ (-1) * gf.toInt + gt.toInt + (-2) := by omega
    refine lv_iconst (v := 0) hx hb dX13_readOrder_10 (by decide) ?_
    refine lv_goto (tgt := 57) hx hb dX13_readOrder_11 (by decide) ?_
    have hk_0 : (0 : Int32).toInt = 0 := by decide
    exact hj40 0 _ _ (by omega) (by omega) (by omega) hM hS (by omega) _ (lv_sub hl [0] rfl)
