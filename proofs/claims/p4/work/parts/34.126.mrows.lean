theorem hd_yX13_areFoes : yX13_areFoes.cls ≠ "java/lang/invoke/MethodHandle" ∧ yX13_areFoes.cls ≠ "java/lang/invoke/VarHandle" ∧ (parseMethodDescriptor yX13_areFoes.desc).map (fun d => d.parameters.length) = some 2 := by decide +kernel
theorem hd_yX13_resultOnPaper : yX13_resultOnPaper.cls ≠ "java/lang/invoke/MethodHandle" ∧ yX13_resultOnPaper.cls ≠ "java/lang/invoke/VarHandle" ∧ (parseMethodDescriptor yX13_resultOnPaper.desc).map (fun d => d.parameters.length) = some 4 := by decide +kernel
theorem dX13_saddle_0 : decode cX13_saddle 0 = .ok (.aload_n 0, 1) := by decide +kernel
theorem dX13_saddle_1 : decode cX13_saddle 1 = .ok (.iconst 0, 1) := by decide +kernel
theorem dX13_saddle_2 : decode cX13_saddle 2 = .ok (.putfield 170, 3) := by decide +kernel
theorem dX13_saddle_5 : decode cX13_saddle 5 = .ok (.aload_n 0, 1) := by decide +kernel
theorem dX13_saddle_6 : decode cX13_saddle 6 = .ok (.getfield 13, 3) := by decide +kernel
theorem dX13_saddle_9 : decode cX13_saddle 9 = .ok (.iconst 1, 1) := by decide +kernel
theorem dX13_saddle_10 : decode cX13_saddle 10 = .ok (.iaload, 1) := by decide +kernel
theorem dX13_saddle_11 : decode cX13_saddle 11 = .ok (.istore 4, 2) := by decide +kernel
theorem dX13_saddle_13 : decode cX13_saddle 13 = .ok (.aload_n 0, 1) := by decide +kernel
theorem dX13_saddle_14 : decode cX13_saddle 14 = .ok (.iload_n 1, 1) := by decide +kernel
theorem dX13_saddle_15 : decode cX13_saddle 15 = .ok (.iload_n 2, 1) := by decide +kernel
theorem dX13_saddle_16 : decode cX13_saddle 16 = .ok (.invokevirtual 529, 3) := by decide +kernel
theorem dX13_saddle_19 : decode cX13_saddle 19 = .ok (.ifCond .eq 20, 3) := by decide +kernel
theorem dX13_saddle_39 : decode cX13_saddle 39 = .ok (.sipush (-1000), 3) := by decide +kernel
theorem dX13_saddle_42 : decode cX13_saddle 42 = .ok (.ireturn, 1) := by decide +kernel
theorem dX13_saddle_22 : decode cX13_saddle 22 = .ok (.iload 4, 2) := by decide +kernel
theorem dX13_saddle_24 : decode cX13_saddle 24 = .ok (.ifCond .eq 15, 3) := by decide +kernel
theorem dX13_saddle_27 : decode cX13_saddle 27 = .ok (.iload_n 3, 1) := by decide +kernel
theorem dX13_saddle_28 : decode cX13_saddle 28 = .ok (.i2l, 1) := by decide +kernel
theorem dX13_saddle_29 : decode cX13_saddle 29 = .ok (.lconst 0, 1) := by decide +kernel
theorem dX13_saddle_30 : decode cX13_saddle 30 = .ok (.ldc2_w 533, 3) := by decide +kernel
theorem dX13_saddle_33 : decode cX13_saddle 33 = .ok (.invokestatic 190, 3) := by decide +kernel
theorem dX13_saddle_36 : decode cX13_saddle 36 = .ok (.ifCond .ne 7, 3) := by decide +kernel
theorem dX13_saddle_43 : decode cX13_saddle 43 = .ok (.iconst 0, 1) := by decide +kernel
theorem dX13_saddle_44 : decode cX13_saddle 44 = .ok (.istore 5, 2) := by decide +kernel
theorem dX13_saddle_46 : decode cX13_saddle 46 = .ok (.iload 5, 2) := by decide +kernel
theorem dX13_saddle_48 : decode cX13_saddle 48 = .ok (.iload 4, 2) := by decide +kernel
theorem dX13_saddle_50 : decode cX13_saddle 50 = .ok (.if_icmp .ge 48, 3) := by decide +kernel
theorem dX13_saddle_98 : decode cX13_saddle 98 = .ok (.bipush (-9), 2) := by decide +kernel
theorem dX13_saddle_100 : decode cX13_saddle 100 = .ok (.istore 5, 2) := by decide +kernel
theorem dX13_saddle_102 : decode cX13_saddle 102 = .ok (.iconst 0, 1) := by decide +kernel
theorem dX13_saddle_103 : decode cX13_saddle 103 = .ok (.istore 6, 2) := by decide +kernel
theorem dX13_saddle_105 : decode cX13_saddle 105 = .ok (.bipush 9, 2) := by decide +kernel
theorem dX13_saddle_107 : decode cX13_saddle 107 = .ok (.istore 7, 2) := by decide +kernel
theorem dX13_saddle_109 : decode cX13_saddle 109 = .ok (.iconst 0, 1) := by decide +kernel
theorem dX13_saddle_110 : decode cX13_saddle 110 = .ok (.istore 8, 2) := by decide +kernel
theorem dX13_saddle_112 : decode cX13_saddle 112 = .ok (.iconst 0, 1) := by decide +kernel
theorem dX13_saddle_113 : decode cX13_saddle 113 = .ok (.istore 9, 2) := by decide +kernel
theorem dX13_saddle_115 : decode cX13_saddle 115 = .ok (.iload 9, 2) := by decide +kernel
theorem dX13_saddle_117 : decode cX13_saddle 117 = .ok (.iload 4, 2) := by decide +kernel
theorem dX13_saddle_119 : decode cX13_saddle 119 = .ok (.if_icmp .ge 173, 3) := by decide +kernel
theorem dX13_saddle_292 : decode cX13_saddle 292 = .ok (.iload_n 3, 1) := by decide +kernel
theorem dX13_saddle_293 : decode cX13_saddle 293 = .ok (.ifCond .ne 8, 3) := by decide +kernel
theorem dX13_saddle_301 : decode cX13_saddle 301 = .ok (.iload_n 3, 1) := by decide +kernel
theorem dX13_saddle_302 : decode cX13_saddle 302 = .ok (.iconst 1, 1) := by decide +kernel
theorem dX13_saddle_303 : decode cX13_saddle 303 = .ok (.if_icmp .ne 8, 3) := by decide +kernel
theorem dX13_saddle_311 : decode cX13_saddle 311 = .ok (.iload_n 3, 1) := by decide +kernel
theorem dX13_saddle_312 : decode cX13_saddle 312 = .ok (.iconst 2, 1) := by decide +kernel
theorem dX13_saddle_313 : decode cX13_saddle 313 = .ok (.if_icmp .ne 8, 3) := by decide +kernel
theorem dX13_saddle_321 : decode cX13_saddle 321 = .ok (.iload 8, 2) := by decide +kernel
theorem dX13_saddle_323 : decode cX13_saddle 323 = .ok (.ireturn, 1) := by decide +kernel
theorem dX13_saddle_316 : decode cX13_saddle 316 = .ok (.iload 6, 2) := by decide +kernel
theorem dX13_saddle_318 : decode cX13_saddle 318 = .ok (.goto 5, 3) := by decide +kernel
theorem dX13_saddle_306 : decode cX13_saddle 306 = .ok (.iload 7, 2) := by decide +kernel
theorem dX13_saddle_308 : decode cX13_saddle 308 = .ok (.goto 15, 3) := by decide +kernel
theorem dX13_saddle_296 : decode cX13_saddle 296 = .ok (.iload 5, 2) := by decide +kernel
theorem dX13_saddle_298 : decode cX13_saddle 298 = .ok (.goto 25, 3) := by decide +kernel
theorem dX13_saddle_122 : decode cX13_saddle 122 = .ok (.bipush 9, 2) := by decide +kernel
theorem dX13_saddle_124 : decode cX13_saddle 124 = .ok (.istore 10, 2) := by decide +kernel
theorem dX13_saddle_126 : decode cX13_saddle 126 = .ok (.bipush (-9), 2) := by decide +kernel
theorem dX13_saddle_128 : decode cX13_saddle 128 = .ok (.istore 11, 2) := by decide +kernel
theorem dX13_saddle_130 : decode cX13_saddle 130 = .ok (.iconst 0, 1) := by decide +kernel
theorem dX13_saddle_131 : decode cX13_saddle 131 = .ok (.istore 12, 2) := by decide +kernel
theorem dX13_saddle_133 : decode cX13_saddle 133 = .ok (.iload 12, 2) := by decide +kernel
theorem dX13_saddle_135 : decode cX13_saddle 135 = .ok (.iload 4, 2) := by decide +kernel
theorem dX13_saddle_137 : decode cX13_saddle 137 = .ok (.if_icmp .ge 85, 3) := by decide +kernel
theorem dX13_saddle_222 : decode cX13_saddle 222 = .ok (.iload 10, 2) := by decide +kernel
theorem dX13_saddle_224 : decode cX13_saddle 224 = .ok (.iload 5, 2) := by decide +kernel
theorem dX13_saddle_236 : decode cX13_saddle 236 = .ok (.istore 6, 2) := by decide +kernel
theorem dX13_saddle_238 : decode cX13_saddle 238 = .ok (.iload 10, 2) := by decide +kernel
theorem dX13_saddle_240 : decode cX13_saddle 240 = .ok (.iload 5, 2) := by decide +kernel
theorem dX13_saddle_252 : decode cX13_saddle 252 = .ok (.istore 5, 2) := by decide +kernel
theorem dX13_saddle_254 : decode cX13_saddle 254 = .ok (.iload 11, 2) := by decide +kernel
theorem dX13_saddle_256 : decode cX13_saddle 256 = .ok (.iload 7, 2) := by decide +kernel
theorem dX13_saddle_268 : decode cX13_saddle 268 = .ok (.istore 8, 2) := by decide +kernel
theorem dX13_saddle_270 : decode cX13_saddle 270 = .ok (.iload 11, 2) := by decide +kernel
theorem dX13_saddle_272 : decode cX13_saddle 272 = .ok (.iload 7, 2) := by decide +kernel
theorem dX13_saddle_284 : decode cX13_saddle 284 = .ok (.istore 7, 2) := by decide +kernel
theorem dX13_saddle_286 : decode cX13_saddle 286 = .ok (.iinc 9 1, 3) := by decide +kernel
theorem dX13_saddle_289 : decode cX13_saddle 289 = .ok (.goto (-174), 3) := by decide +kernel
theorem dX13_saddle_274 : decode cX13_saddle 274 = .ok (.if_icmp .ge 8, 3) := by decide +kernel
theorem dX13_saddle_282 : decode cX13_saddle 282 = .ok (.iload 7, 2) := by decide +kernel
theorem dX13_saddle_277 : decode cX13_saddle 277 = .ok (.iload 11, 2) := by decide +kernel
theorem dX13_saddle_279 : decode cX13_saddle 279 = .ok (.goto 5, 3) := by decide +kernel
theorem dX13_saddle_258 : decode cX13_saddle 258 = .ok (.if_icmp .ge 8, 3) := by decide +kernel
theorem dX13_saddle_266 : decode cX13_saddle 266 = .ok (.iload 8, 2) := by decide +kernel
theorem dX13_saddle_261 : decode cX13_saddle 261 = .ok (.iload 9, 2) := by decide +kernel
theorem dX13_saddle_263 : decode cX13_saddle 263 = .ok (.goto 5, 3) := by decide +kernel
theorem dX13_saddle_242 : decode cX13_saddle 242 = .ok (.if_icmp .le 8, 3) := by decide +kernel
theorem dX13_saddle_250 : decode cX13_saddle 250 = .ok (.iload 5, 2) := by decide +kernel
theorem dX13_saddle_245 : decode cX13_saddle 245 = .ok (.iload 10, 2) := by decide +kernel
theorem dX13_saddle_247 : decode cX13_saddle 247 = .ok (.goto 5, 3) := by decide +kernel
theorem dX13_saddle_226 : decode cX13_saddle 226 = .ok (.if_icmp .le 8, 3) := by decide +kernel
theorem dX13_saddle_234 : decode cX13_saddle 234 = .ok (.iload 6, 2) := by decide +kernel
theorem dX13_saddle_229 : decode cX13_saddle 229 = .ok (.iload 9, 2) := by decide +kernel
theorem dX13_saddle_231 : decode cX13_saddle 231 = .ok (.goto 5, 3) := by decide +kernel
theorem dX13_saddle_140 : decode cX13_saddle 140 = .ok (.aload_n 0, 1) := by decide +kernel
theorem dX13_saddle_141 : decode cX13_saddle 141 = .ok (.getfield 125, 3) := by decide +kernel
theorem dX13_saddle_144 : decode cX13_saddle 144 = .ok (.bipush 10, 2) := by decide +kernel
theorem dX13_saddle_146 : decode cX13_saddle 146 = .ok (.iload 9, 2) := by decide +kernel
theorem dX13_saddle_148 : decode cX13_saddle 148 = .ok (.imul, 1) := by decide +kernel
theorem dX13_saddle_149 : decode cX13_saddle 149 = .ok (.iload 12, 2) := by decide +kernel
theorem dX13_saddle_151 : decode cX13_saddle 151 = .ok (.iadd, 1) := by decide +kernel
theorem dX13_saddle_152 : decode cX13_saddle 152 = .ok (.iaload, 1) := by decide +kernel
theorem dX13_saddle_153 : decode cX13_saddle 153 = .ok (.iload 10, 2) := by decide +kernel
theorem dX13_saddle_176 : decode cX13_saddle 176 = .ok (.istore 10, 2) := by decide +kernel
theorem dX13_saddle_178 : decode cX13_saddle 178 = .ok (.aload_n 0, 1) := by decide +kernel
theorem dX13_saddle_179 : decode cX13_saddle 179 = .ok (.getfield 125, 3) := by decide +kernel
theorem dX13_saddle_182 : decode cX13_saddle 182 = .ok (.bipush 10, 2) := by decide +kernel
theorem dX13_saddle_184 : decode cX13_saddle 184 = .ok (.iload 12, 2) := by decide +kernel
theorem dX13_saddle_186 : decode cX13_saddle 186 = .ok (.imul, 1) := by decide +kernel
theorem dX13_saddle_187 : decode cX13_saddle 187 = .ok (.iload 9, 2) := by decide +kernel
theorem dX13_saddle_189 : decode cX13_saddle 189 = .ok (.iadd, 1) := by decide +kernel
theorem dX13_saddle_190 : decode cX13_saddle 190 = .ok (.iaload, 1) := by decide +kernel
theorem dX13_saddle_191 : decode cX13_saddle 191 = .ok (.iload 11, 2) := by decide +kernel
theorem dX13_saddle_214 : decode cX13_saddle 214 = .ok (.istore 11, 2) := by decide +kernel
theorem dX13_saddle_216 : decode cX13_saddle 216 = .ok (.iinc 12 1, 3) := by decide +kernel
theorem dX13_saddle_219 : decode cX13_saddle 219 = .ok (.goto (-86), 3) := by decide +kernel
theorem dX13_saddle_193 : decode cX13_saddle 193 = .ok (.if_icmp .le 19, 3) := by decide +kernel
theorem dX13_saddle_212 : decode cX13_saddle 212 = .ok (.iload 11, 2) := by decide +kernel
theorem dX13_saddle_196 : decode cX13_saddle 196 = .ok (.aload_n 0, 1) := by decide +kernel
theorem dX13_saddle_197 : decode cX13_saddle 197 = .ok (.getfield 125, 3) := by decide +kernel
theorem dX13_saddle_200 : decode cX13_saddle 200 = .ok (.bipush 10, 2) := by decide +kernel
theorem dX13_saddle_202 : decode cX13_saddle 202 = .ok (.iload 12, 2) := by decide +kernel
theorem dX13_saddle_204 : decode cX13_saddle 204 = .ok (.imul, 1) := by decide +kernel
theorem dX13_saddle_205 : decode cX13_saddle 205 = .ok (.iload 9, 2) := by decide +kernel
theorem dX13_saddle_207 : decode cX13_saddle 207 = .ok (.iadd, 1) := by decide +kernel
theorem dX13_saddle_208 : decode cX13_saddle 208 = .ok (.iaload, 1) := by decide +kernel
theorem dX13_saddle_209 : decode cX13_saddle 209 = .ok (.goto 5, 3) := by decide +kernel
theorem dX13_saddle_155 : decode cX13_saddle 155 = .ok (.if_icmp .ge 19, 3) := by decide +kernel
theorem dX13_saddle_174 : decode cX13_saddle 174 = .ok (.iload 10, 2) := by decide +kernel
theorem dX13_saddle_158 : decode cX13_saddle 158 = .ok (.aload_n 0, 1) := by decide +kernel
theorem dX13_saddle_159 : decode cX13_saddle 159 = .ok (.getfield 125, 3) := by decide +kernel
theorem dX13_saddle_162 : decode cX13_saddle 162 = .ok (.bipush 10, 2) := by decide +kernel
theorem dX13_saddle_164 : decode cX13_saddle 164 = .ok (.iload 9, 2) := by decide +kernel
theorem dX13_saddle_166 : decode cX13_saddle 166 = .ok (.imul, 1) := by decide +kernel
theorem dX13_saddle_167 : decode cX13_saddle 167 = .ok (.iload 12, 2) := by decide +kernel
theorem dX13_saddle_169 : decode cX13_saddle 169 = .ok (.iadd, 1) := by decide +kernel
theorem dX13_saddle_170 : decode cX13_saddle 170 = .ok (.iaload, 1) := by decide +kernel
theorem dX13_saddle_171 : decode cX13_saddle 171 = .ok (.goto 5, 3) := by decide +kernel
theorem dX13_saddle_53 : decode cX13_saddle 53 = .ok (.iconst 0, 1) := by decide +kernel
theorem dX13_saddle_54 : decode cX13_saddle 54 = .ok (.istore 6, 2) := by decide +kernel
theorem dX13_saddle_56 : decode cX13_saddle 56 = .ok (.iload 6, 2) := by decide +kernel
theorem dX13_saddle_58 : decode cX13_saddle 58 = .ok (.iload 4, 2) := by decide +kernel
theorem dX13_saddle_60 : decode cX13_saddle 60 = .ok (.if_icmp .ge 32, 3) := by decide +kernel
theorem dX13_saddle_92 : decode cX13_saddle 92 = .ok (.iinc 5 1, 3) := by decide +kernel
theorem dX13_saddle_95 : decode cX13_saddle 95 = .ok (.goto (-49), 3) := by decide +kernel
theorem dX13_saddle_63 : decode cX13_saddle 63 = .ok (.aload_n 0, 1) := by decide +kernel
theorem dX13_saddle_64 : decode cX13_saddle 64 = .ok (.getfield 125, 3) := by decide +kernel
theorem dX13_saddle_67 : decode cX13_saddle 67 = .ok (.bipush 10, 2) := by decide +kernel
theorem dX13_saddle_69 : decode cX13_saddle 69 = .ok (.iload 5, 2) := by decide +kernel
theorem dX13_saddle_71 : decode cX13_saddle 71 = .ok (.imul, 1) := by decide +kernel
theorem dX13_saddle_72 : decode cX13_saddle 72 = .ok (.iload 6, 2) := by decide +kernel
theorem dX13_saddle_74 : decode cX13_saddle 74 = .ok (.iadd, 1) := by decide +kernel
theorem dX13_saddle_75 : decode cX13_saddle 75 = .ok (.aload_n 0, 1) := by decide +kernel
theorem dX13_saddle_76 : decode cX13_saddle 76 = .ok (.iload_n 1, 1) := by decide +kernel
theorem dX13_saddle_77 : decode cX13_saddle 77 = .ok (.iload_n 2, 1) := by decide +kernel
theorem dX13_saddle_78 : decode cX13_saddle 78 = .ok (.iload 5, 2) := by decide +kernel
theorem dX13_saddle_80 : decode cX13_saddle 80 = .ok (.iload 6, 2) := by decide +kernel
theorem dX13_saddle_82 : decode cX13_saddle 82 = .ok (.invokevirtual 535, 3) := by decide +kernel
theorem dX13_saddle_85 : decode cX13_saddle 85 = .ok (.iastore, 1) := by decide +kernel
theorem dX13_saddle_86 : decode cX13_saddle 86 = .ok (.iinc 6 1, 3) := by decide +kernel
theorem dX13_saddle_89 : decode cX13_saddle 89 = .ok (.goto (-33), 3) := by decide +kernel
set_option maxHeartbeats 4000000 in
set_option maxRecDepth 100000 in
theorem k_X13_saddle (l : Launch) (D : va_G) (cy : Nat → ClassId) (ld ad : Nat → Nat) (am : Nat) (hD : mz_D ad am) (Fa : Nat → Int32) (Ga : Nat → Int64) (Ra : Nat → Nat → Int32) (Sa : Nat → Nat → Int64) (p1 : Int32) (p2 : Int32) (p3 : Int32) (hIF : mz_IF true Fa) (hIG : mz_IG Ga) (hIR : mz_IR [] true Ra) : Met l yX13_saddle (wl yX13_saddle cX13_saddle 13 (some .int)) ({ frames := 13, cells := 0, slots := 0, locals := 840 }) (mz_p D cy ld ad am Fa Ga Ra Sa [.ref am, .int p1, .int p2, .int p3]) (mz_i D cy ad am (fun r F G R S => mz_IF true F ∧ mz_IG G ∧ mz_IR [] true R ∧ (∀ k : Nat, k ∉ ([0, 34, 38, 41] : List Nat) → F k = Fa k) ∧ (∀ k : Nat, k ∉ ([3, 6, 48] : List Nat) → R k = Ra k) ∧ (∀ k : Nat, k ∉ ([39, 40, 47] : List Nat) → G k = Ga k) ∧ rK1 (Ra 3) (R 3))) 0 0 (mz_W ad am) := by
  refine mz_met (y := yX13_saddle) (cc := cX13_saddle) (maxL := 13) (ret := (some .int)) (av := [.ref am, .int p1, .int p2, .int p3]) _ (by decide) (Nat.le_of_ble_eq_true rfl) ?_
  intro p e s m args below meth c hx hb hr hml hts htl hown hlocks hK H locs hM hS ls hl
  have hown : s.vm.findClass RX13 = some m.cls := hown
  have hl : lv_has ls 13 [(0, .ref am), (1, .int p1), (2, .int p2), (3, .int p3)] := hl
  have hr_p1 := tk_rng p1
  have hr_p2 := tk_rng p2
  have hr_p3 := tk_rng p3
  refine lv_aload_n hx hb dX13_saddle_0 rfl (lv_at hl 0 rfl) ?_
  refine lv_iconst (v := 0) hx hb dX13_saddle_1 (by decide) ?_
  have hk_0 : (0 : Int32).toInt = 0 := by decide
  refine mz_putI (ty := .int) (x := 0) hx hb htl hown hK hD hM hS 0 (Nat.le_of_ble_eq_true rfl) rfl (htl _ mw_286) (fun _ h9 => h9) rfl (tyX13_ok 0 (by decide)) rfl rfl dX13_saddle_2 (fun H locs F hM hS hf9 hj9 => ?_)
  have hIF := hIF.put hf9 hj9 (tk_rng _).1 (tk_rng _).2 (by decide)
  have hFF := mz_frp (K := [0, 34, 38, 41]) (Fa := Fa) hj9 (fun _ _ => rfl) (by decide)
  have hf2 := hf9
  refine lv_aload_n hx hb dX13_saddle_5 rfl (lv_at hl 0 rfl) ?_
  refine mz_getR hx hb htl hown hK hM 3 (Nat.le_of_ble_eq_true rfl) (Nat.le_of_ble_eq_true rfl) (htl _ mw_188) (fun _ h9 => h9) dX13_saddle_6 ?_
  refine lv_iconst (v := 1) hx hb dX13_saddle_9 (by decide) ?_
  refine mz_iald hx hb hK hM 3 (Nat.le_of_ble_eq_true rfl) rfl (nn := 5560) rfl (I := 1) (by decide) (by decide) (by decide) dX13_saddle_10 (fun v4 hf3 => ?_)
  have hf3 : Ra 3 1 = v4 := hf3
  have hq_v4 := tk_rng v4
  have hr_v4 : 0 ≤ v4.toInt ∧ v4.toInt ≤ 10 := by have h9 := mz_r3c 1 (hIR.at 3) hf3 (by decide); unfold mE at h9; omega
  refine lv_istore (lv' := [(4, .int v4), (0, .ref am), (1, .int p1), (2, .int p2), (3, .int p3)]) hx hb dX13_saddle_11 hl (by decide) rfl (fun ls hl => ?_)
  refine lv_aload_n hx hb dX13_saddle_13 rfl (lv_at hl 1 rfl) ?_
  refine lv_iload_n hx hb dX13_saddle_14 rfl (lv_at hl 2 rfl) ?_
  refine lv_iload_n hx hb dX13_saddle_15 rfl (lv_at hl 3 rfl) ?_
  refine mz_Vj (As := [.int p1, .int p2]) (rest := []) ⟨hx, hb, hml, hown, hts⟩ hK hM hS (k_X13_areFoes l D cy ld ad am hD _ _ _ _ p1 p2 (hIF.weak) hIG hIR) ⟨callB_of 2 hts (wl_in mw_1365) rfl rfl rfl (htl _ mw_5) (htl _ mw_1362) hd_yX13_areFoes ⟨(Nat.le_of_ble_eq_true rfl), (Nat.le_of_ble_eq_true rfl)⟩, htl _ mw_1363, htl _ mw_1364⟩ rfl hl.1 rfl (Nat.le_of_ble_eq_true rfl) dX13_saddle_16 ⟨(Nat.le_of_ble_eq_true rfl), (Nat.le_of_ble_eq_true rfl)⟩ (fun v5 H locs hpo hM hS => ?_)
  obtain ⟨hpo6, hpo10, hpo11, hpo12, hpo13⟩ := hpo
  have hq_v5 := tk_rng v5
  refine lv_if_eq (tgt := 39) hx hb dX13_saddle_19 (by decide) (fun c9 => ?_) (fun c9 => ?_)
  · have hc15 : v5.toInt = 0 := (fi_eq rfl (show (0 : Int32).toInt = 0 by decide)).mp c9
    refine lv_sipush (v := (-1000)) hx hb dX13_saddle_39 (by decide) ?_
    have hk_m1000 : ((-1000) : Int32).toInt = (-1000) := by decide
    exact mz_iret (v := (-1000)) hx hb hr rfl hlocks ⟨hIF, hIG, hIR, hFF, (fun _ _ => rfl), (fun _ _ => rfl), (rK1.refl rfl)⟩ hM hS dX13_saddle_42
  · have hc15 : ¬ (v5.toInt = 0) := fun h9 => c9 ((fi_eq rfl (show (0 : Int32).toInt = 0 by decide)).mpr h9)
    have hwk_16 : 0 ≤ p1.toInt ∧ p1.toInt ≤ 7 ∧ 0 ≤ p2.toInt ∧ p2.toInt ≤ 7 := by omega
    refine lv_iload hx hb dX13_saddle_22 (lv_at hl 0 rfl) ?_
    refine lv_if_eq (tgt := 39) hx hb dX13_saddle_24 (by decide) (fun c9 => ?_) (fun c9 => ?_)
    · have hc17 : v4.toInt = 0 := (fi_eq rfl (show (0 : Int32).toInt = 0 by decide)).mp c9
      refine lv_sipush (v := (-1000)) hx hb dX13_saddle_39 (by decide) ?_
      have hk_m1000 : ((-1000) : Int32).toInt = (-1000) := by decide
      exact mz_iret (v := (-1000)) hx hb hr rfl hlocks ⟨hIF, hIG, hIR, hFF, (fun _ _ => rfl), (fun _ _ => rfl), (rK1.refl rfl)⟩ hM hS dX13_saddle_42
    · have hc17 : ¬ (v4.toInt = 0) := fun h9 => c9 ((fi_eq rfl (show (0 : Int32).toInt = 0 by decide)).mpr h9)
      refine lv_iload_n hx hb dX13_saddle_27 rfl (lv_at hl 4 rfl) ?_
      obtain ⟨w18, e_w18, h_w18⟩ : ∃ z : Int64, p3.toInt64 = z ∧ z.toInt = p3.toInt := ⟨_, rfl, fl_w _⟩
      refine lv_i2l (v := w18) hx hb dX13_saddle_28 e_w18 ?_
      refine lv_lconst (v := 0) hx hb dX13_saddle_29 (by decide) ?_
      refine lv_ldc2 hx hb hown (htl _ mw_1361) dX13_saddle_30 ?_
      have hk_0 : (0 : Int64).toInt = 0 := by decide
      have hk_3 : (3 : Int64).toInt = 3 := by decide
      refine mz_Sj (As := [.long w18, .long 0, .long 3]) (rest := []) ⟨hx, hb, hml, hown, hts⟩ hK hM hS (k_X13_in l D cy ld ad am hD _ _ _ _ w18 0 3) ⟨callB_of 3 hts (wl_in mw_292) rfl rfl rfl (htl _ mw_5) (htl _ mw_290) hd_yX13_in ⟨(Nat.le_of_ble_eq_true rfl), (Nat.le_of_ble_eq_true rfl)⟩, htl _ mw_291⟩ rfl hl.1 rfl (Nat.le_of_ble_eq_true rfl) dX13_saddle_33 ⟨(Nat.le_of_ble_eq_true rfl), (Nat.le_of_ble_eq_true rfl)⟩ (fun v19 H locs hpo hM hS => ?_)
      obtain ⟨hpo20, hpo21, hpo22, hpo23, hpo24, hpo25⟩ := hpo
      have hq_v19 := tk_rng v19
      refine lv_if_ne (tgt := 43) hx hb dX13_saddle_36 (by decide) (fun c9 => ?_) (fun c9 => ?_)
      · have hc27 : ¬ (v19.toInt = 0) := fun h9 => c9 ((fi_eq rfl (show (0 : Int32).toInt = 0 by decide)).mpr h9)
        have hwk_28 : 0 ≤ w18.toInt ∧ w18.toInt ≤ 3 := by omega
        refine lv_iconst (v := 0) hx hb dX13_saddle_43 (by decide) ?_
        refine lv_istore (lv' := [(5, .int 0), (4, .int v4), (0, .ref am), (1, .int p1), (2, .int p2), (3, .int p3)]) hx hb dX13_saddle_44 hl (by decide) rfl (fun ls hl => ?_)
        have hl25788 : ∀ (N_l25788 : Nat) (v7337 : Int32) (H : Heap) (locs : List Loc) (F : Nat → Int32) (G : Nat → Int64) (R : Nat → Nat → Int32) (S : Nat → Nat → Int64), (0 ≤ v4.toInt + (-1) * v7337.toInt) → (0 ≤ v7337.toInt) → (mz_S D cy ad am F G R S H) → (va_S (mz_W ad am) s.heap H locs) → (mz_IF true F) → (mz_IG G) → (mz_IR [] true R) → (∀ k : Nat, k ∉ ([0, 34, 38, 41] : List Nat) → F k = Fa k) → (∀ k : Nat, k ∉ ([39, 40, 47] : List Nat) → G k = Ga k) → (∀ k : Nat, k ∉ ([3, 6, 48] : List Nat) → R k = Ra k) → (rK1 (Ra 3) (R 3)) → (F 0 = 0) → (R 3 1 = v4) → ((-1) * v7337.toInt + 10 < (N_l25788 : Int)) → ∀ ls : Array Slot, lv_has ls 13 [(5, .int v7337), (4, .int v4), (0, .ref am), (1, .int p1), (2, .int p2), (3, .int p3)] → W p l e ({ frames := 13, cells := 0, slots := 0, locals := 840 }) s m args below meth c H locs 0 0 (MQ below (mz_i D cy ad am (fun r F G R S => mz_IF true F ∧ mz_IG G ∧ mz_IR [] true R ∧ (∀ k : Nat, k ∉ ([0, 34, 38, 41] : List Nat) → F k = Fa k) ∧ (∀ k : Nat, k ∉ ([3, 6, 48] : List Nat) → R k = Ra k) ∧ (∀ k : Nat, k ∉ ([39, 40, 47] : List Nat) → G k = Ga k) ∧ rK1 (Ra 3) (R 3))) args s 0 0 (mz_W ad am)) (F0 m 46 ls []) := by
          intro N_l25788
          induction N_l25788 with
          | zero => intro v7337 H locs F G R S hq0_l25788 hq1_l25788 hM hS hIF hIG hIR hFF hGG hRR hrel hf2 hf3 hm_l25788 ls hl; exfalso; omega
          | succ N_l25788 ih_l25788 =>
            intro v7337 H locs F G R S hq0_l25788 hq1_l25788 hM hS hIF hIG hIR hFF hGG hRR hrel hf2 hf3 hm_l25788 ls hl
            refine lv_iload hx hb dX13_saddle_46 (lv_at hl 0 rfl) ?_
            refine lv_iload hx hb dX13_saddle_48 (lv_at hl 1 rfl) ?_
            refine lv_icmp_ge (tgt := 98) hx hb dX13_saddle_50 (by decide) (fun c9 => ?_) (fun c9 => ?_)
            · have hc25789 : v4.toInt ≤ v7337.toInt := (fi_le rfl rfl).mp c9
              refine lv_bipush (v := (-9)) hx hb dX13_saddle_98 (by decide) ?_
              refine lv_istore (lv' := [(5, .int (-9)), (4, .int v4), (0, .ref am), (1, .int p1), (2, .int p2), (3, .int p3)]) hx hb dX13_saddle_100 hl (by decide) rfl (fun ls hl => ?_)
              refine lv_iconst (v := 0) hx hb dX13_saddle_102 (by decide) ?_
              refine lv_istore (lv' := [(6, .int 0), (5, .int (-9)), (4, .int v4), (0, .ref am), (1, .int p1), (2, .int p2), (3, .int p3)]) hx hb dX13_saddle_103 hl (by decide) rfl (fun ls hl => ?_)
              refine lv_bipush (v := 9) hx hb dX13_saddle_105 (by decide) ?_
              refine lv_istore (lv' := [(7, .int 9), (6, .int 0), (5, .int (-9)), (4, .int v4), (0, .ref am), (1, .int p1), (2, .int p2), (3, .int p3)]) hx hb dX13_saddle_107 hl (by decide) rfl (fun ls hl => ?_)
              refine lv_iconst (v := 0) hx hb dX13_saddle_109 (by decide) ?_
              refine lv_istore (lv' := [(8, .int 0), (7, .int 9), (6, .int 0), (5, .int (-9)), (4, .int v4), (0, .ref am), (1, .int p1), (2, .int p2), (3, .int p3)]) hx hb dX13_saddle_110 hl (by decide) rfl (fun ls hl => ?_)
              refine lv_iconst (v := 0) hx hb dX13_saddle_112 (by decide) ?_
              refine lv_istore (lv' := [(9, .int 0), (8, .int 0), (7, .int 9), (6, .int 0), (5, .int (-9)), (4, .int v4), (0, .ref am), (1, .int p1), (2, .int p2), (3, .int p3)]) hx hb dX13_saddle_113 hl (by decide) rfl (fun ls hl => ?_)
              have hl30734 : ∀ (N_l30734 : Nat) (v25927 : Int32) (v25928 : Int32) (v25929 : Int32) (v25930 : Int32) (v25931 : Int32), (0 ≤ (-1) * v25927.toInt + v4.toInt) → (0 ≤ v25928.toInt) → (v25929.toInt ≤ 9) → (0 ≤ v25930.toInt) → ((-9) ≤ v25931.toInt) → (0 ≤ v25927.toInt + (-1) * v25928.toInt) → (0 ≤ v25927.toInt + (-1) * v25930.toInt) → (0 ≤ (-1) * v25928.toInt + v4.toInt + (-1)) → (0 ≤ (-1) * v25930.toInt + v4.toInt + (-1)) → ((-1) * v25927.toInt + 10 < (N_l30734 : Int)) → ∀ ls : Array Slot, lv_has ls 13 [(9, .int v25927), (8, .int v25928), (7, .int v25929), (6, .int v25930), (5, .int v25931), (4, .int v4), (0, .ref am), (3, .int p3)] → W p l e ({ frames := 13, cells := 0, slots := 0, locals := 840 }) s m args below meth c H locs 0 0 (MQ below (mz_i D cy ad am (fun r F G R S => mz_IF true F ∧ mz_IG G ∧ mz_IR [] true R ∧ (∀ k : Nat, k ∉ ([0, 34, 38, 41] : List Nat) → F k = Fa k) ∧ (∀ k : Nat, k ∉ ([3, 6, 48] : List Nat) → R k = Ra k) ∧ (∀ k : Nat, k ∉ ([39, 40, 47] : List Nat) → G k = Ga k) ∧ rK1 (Ra 3) (R 3))) args s 0 0 (mz_W ad am)) (F0 m 115 ls []) := by
                intro N_l30734
                induction N_l30734 with
                | zero => intro v25927 v25928 v25929 v25930 v25931 hq0_l30734 hq1_l30734 hq2_l30734 hq3_l30734 hq4_l30734 hq5_l30734 hq6_l30734 hq7_l30734 hq8_l30734 hm_l30734 ls hl; exfalso; omega
                | succ N_l30734 ih_l30734 =>
                  intro v25927 v25928 v25929 v25930 v25931 hq0_l30734 hq1_l30734 hq2_l30734 hq3_l30734 hq4_l30734 hq5_l30734 hq6_l30734 hq7_l30734 hq8_l30734 hm_l30734 ls hl
                  refine lv_iload hx hb dX13_saddle_115 (lv_at hl 0 rfl) ?_
                  refine lv_iload hx hb dX13_saddle_117 (lv_at hl 5 rfl) ?_
                  refine lv_icmp_ge (tgt := 292) hx hb dX13_saddle_119 (by decide) (fun c9 => ?_) (fun c9 => ?_)
                  · have hc30735 : v4.toInt ≤ v25927.toInt := (fi_le rfl rfl).mp c9
                    refine lv_iload_n hx hb dX13_saddle_292 rfl (lv_at hl 7 rfl) ?_
                    refine lv_if_ne (tgt := 301) hx hb dX13_saddle_293 (by decide) (fun c9 => ?_) (fun c9 => ?_)
                    · have hc31267 : ¬ (p3.toInt = 0) := fun h9 => c9 ((fi_eq rfl (show (0 : Int32).toInt = 0 by decide)).mpr h9)
                      refine lv_iload_n hx hb dX13_saddle_301 rfl (lv_at hl 7 rfl) ?_
                      refine lv_iconst (v := 1) hx hb dX13_saddle_302 (by decide) ?_
                      refine lv_icmp_ne (tgt := 311) hx hb dX13_saddle_303 (by decide) (fun c9 => ?_) (fun c9 => ?_)
                      · have hc31268 : ¬ (p3.toInt = 1) := fun h9 => c9 ((fi_eq rfl (show (1 : Int32).toInt = 1 by decide)).mpr h9)
                        refine lv_iload_n hx hb dX13_saddle_311 rfl (lv_at hl 7 rfl) ?_
                        refine lv_iconst (v := 2) hx hb dX13_saddle_312 (by decide) ?_
                        refine lv_icmp_ne (tgt := 321) hx hb dX13_saddle_313 (by decide) (fun c9 => ?_) (fun c9 => ?_)
                        · have hc31269 : ¬ (p3.toInt = 2) := fun h9 => c9 ((fi_eq rfl (show (2 : Int32).toInt = 2 by decide)).mpr h9)
                          refine lv_iload hx hb dX13_saddle_321 (lv_at hl 1 rfl) ?_
                          exact mz_iret (v := v25928) hx hb hr rfl hlocks ⟨hIF, hIG, hIR, hFF, hRR, hGG, hrel⟩ hM hS dX13_saddle_323
                        · have hc31269 : p3.toInt = 2 := (fi_eq rfl (show (2 : Int32).toInt = 2 by decide)).mp c9
                          refine lv_iload hx hb dX13_saddle_316 (lv_at hl 3 rfl) ?_
                          refine lv_goto (tgt := 323) hx hb dX13_saddle_318 (by decide) ?_
                          exact mz_iret (v := v25930) hx hb hr rfl hlocks ⟨hIF, hIG, hIR, hFF, hRR, hGG, hrel⟩ hM hS dX13_saddle_323
                      · have hc31268 : p3.toInt = 1 := (fi_eq rfl (show (1 : Int32).toInt = 1 by decide)).mp c9
                        refine lv_iload hx hb dX13_saddle_306 (lv_at hl 2 rfl) ?_
                        refine lv_goto (tgt := 323) hx hb dX13_saddle_308 (by decide) ?_
                        exact mz_iret (v := v25929) hx hb hr rfl hlocks ⟨hIF, hIG, hIR, hFF, hRR, hGG, hrel⟩ hM hS dX13_saddle_323
                    · have hc31267 : p3.toInt = 0 := (fi_eq rfl (show (0 : Int32).toInt = 0 by decide)).mp c9
                      refine lv_iload hx hb dX13_saddle_296 (lv_at hl 4 rfl) ?_
                      refine lv_goto (tgt := 323) hx hb dX13_saddle_298 (by decide) ?_
                      exact mz_iret (v := v25931) hx hb hr rfl hlocks ⟨hIF, hIG, hIR, hFF, hRR, hGG, hrel⟩ hM hS dX13_saddle_323
                  · have hc30735 : ¬ (v4.toInt ≤ v25927.toInt) := fun h9 => c9 ((fi_le rfl rfl).mpr h9)
                    refine lv_bipush (v := 9) hx hb dX13_saddle_122 (by decide) ?_
                    refine lv_istore (lv' := [(10, .int 9), (9, .int v25927), (8, .int v25928), (7, .int v25929), (6, .int v25930), (5, .int v25931), (4, .int v4), (0, .ref am), (3, .int p3)]) hx hb dX13_saddle_124 hl (by decide) rfl (fun ls hl => ?_)
                    refine lv_bipush (v := (-9)) hx hb dX13_saddle_126 (by decide) ?_
                    refine lv_istore (lv' := [(11, .int (-9)), (10, .int 9), (9, .int v25927), (8, .int v25928), (7, .int v25929), (6, .int v25930), (5, .int v25931), (4, .int v4), (0, .ref am), (3, .int p3)]) hx hb dX13_saddle_128 hl (by decide) rfl (fun ls hl => ?_)
                    refine lv_iconst (v := 0) hx hb dX13_saddle_130 (by decide) ?_
                    refine lv_istore (lv' := [(12, .int 0), (11, .int (-9)), (10, .int 9), (9, .int v25927), (8, .int v25928), (7, .int v25929), (6, .int v25930), (5, .int v25931), (4, .int v4), (0, .ref am), (3, .int p3)]) hx hb dX13_saddle_131 hl (by decide) rfl (fun ls hl => ?_)
                    have hl31728 : ∀ (N_l31728 : Nat) (v31270 : Int32) (v31271 : Int32) (v31272 : Int32), (0 ≤ (-1) * v31270.toInt + v4.toInt) → (0 ≤ v31270.toInt) → ((-1) * v31270.toInt + 10 < (N_l31728 : Int)) → ∀ ls : Array Slot, lv_has ls 13 [(12, .int v31270), (11, .int v31271), (10, .int v31272), (9, .int v25927), (8, .int v25928), (7, .int v25929), (6, .int v25930), (5, .int v25931), (4, .int v4), (0, .ref am), (3, .int p3)] → W p l e ({ frames := 13, cells := 0, slots := 0, locals := 840 }) s m args below meth c H locs 0 0 (MQ below (mz_i D cy ad am (fun r F G R S => mz_IF true F ∧ mz_IG G ∧ mz_IR [] true R ∧ (∀ k : Nat, k ∉ ([0, 34, 38, 41] : List Nat) → F k = Fa k) ∧ (∀ k : Nat, k ∉ ([3, 6, 48] : List Nat) → R k = Ra k) ∧ (∀ k : Nat, k ∉ ([39, 40, 47] : List Nat) → G k = Ga k) ∧ rK1 (Ra 3) (R 3))) args s 0 0 (mz_W ad am)) (F0 m 133 ls []) := by
                      intro N_l31728
                      induction N_l31728 with
                      | zero => intro v31270 v31271 v31272 hq0_l31728 hq1_l31728 hm_l31728 ls hl; exfalso; omega
                      | succ N_l31728 ih_l31728 =>
                        intro v31270 v31271 v31272 hq0_l31728 hq1_l31728 hm_l31728 ls hl
                        refine lv_iload hx hb dX13_saddle_133 (lv_at hl 0 rfl) ?_
                        refine lv_iload hx hb dX13_saddle_135 (lv_at hl 8 rfl) ?_
                        refine lv_icmp_ge (tgt := 222) hx hb dX13_saddle_137 (by decide) (fun c9 => ?_) (fun c9 => ?_)
                        · have hc31729 : v4.toInt ≤ v31270.toInt := (fi_le rfl rfl).mp c9
                          refine lv_iload hx hb dX13_saddle_222 (lv_at hl 2 rfl) ?_
                          refine lv_iload hx hb dX13_saddle_224 (lv_at hl 7 rfl) ?_
                          have hj31760 : ∀ (v31759 : Int32), (0 ≤ v25927.toInt + (-1) * v31759.toInt) → (0 ≤ (-1) * v25930.toInt + v31759.toInt) → ∀ ls : Array Slot, lv_has ls 13 [(11, .int v31271), (10, .int v31272), (9, .int v25927), (8, .int v25928), (7, .int v25929), (5, .int v25931), (4, .int v4), (0, .ref am), (3, .int p3)] → W p l e ({ frames := 13, cells := 0, slots := 0, locals := 840 }) s m args below meth c H locs 0 0 (MQ below (mz_i D cy ad am (fun r F G R S => mz_IF true F ∧ mz_IG G ∧ mz_IR [] true R ∧ (∀ k : Nat, k ∉ ([0, 34, 38, 41] : List Nat) → F k = Fa k) ∧ (∀ k : Nat, k ∉ ([3, 6, 48] : List Nat) → R k = Ra k) ∧ (∀ k : Nat, k ∉ ([39, 40, 47] : List Nat) → G k = Ga k) ∧ rK1 (Ra 3) (R 3))) args s 0 0 (mz_W ad am)) (F0 m 236 ls [.int v31759]) := by
                            intro v31759 hq0_j31760 hq1_j31760 ls hl
                            refine lv_istore (lv' := [(6, .int v31759), (11, .int v31271), (10, .int v31272), (9, .int v25927), (8, .int v25928), (7, .int v25929), (5, .int v25931), (4, .int v4), (0, .ref am), (3, .int p3)]) hx hb dX13_saddle_236 hl (by decide) rfl (fun ls hl => ?_)
                            refine lv_iload hx hb dX13_saddle_238 (lv_at hl 2 rfl) ?_
                            refine lv_iload hx hb dX13_saddle_240 (lv_at hl 6 rfl) ?_
                            have hj31764 : ∀ (v31763 : Int32), (0 ≤ (-1) * v31272.toInt + v31763.toInt) → (0 ≤ (-1) * v25931.toInt + v31763.toInt) → ∀ ls : Array Slot, lv_has ls 13 [(6, .int v31759), (11, .int v31271), (9, .int v25927), (8, .int v25928), (7, .int v25929), (4, .int v4), (0, .ref am), (3, .int p3)] → W p l e ({ frames := 13, cells := 0, slots := 0, locals := 840 }) s m args below meth c H locs 0 0 (MQ below (mz_i D cy ad am (fun r F G R S => mz_IF true F ∧ mz_IG G ∧ mz_IR [] true R ∧ (∀ k : Nat, k ∉ ([0, 34, 38, 41] : List Nat) → F k = Fa k) ∧ (∀ k : Nat, k ∉ ([3, 6, 48] : List Nat) → R k = Ra k) ∧ (∀ k : Nat, k ∉ ([39, 40, 47] : List Nat) → G k = Ga k) ∧ rK1 (Ra 3) (R 3))) args s 0 0 (mz_W ad am)) (F0 m 252 ls [.int v31763]) := by
                              intro v31763 hq0_j31764 hq1_j31764 ls hl
                              refine lv_istore (lv' := [(5, .int v31763), (6, .int v31759), (11, .int v31271), (9, .int v25927), (8, .int v25928), (7, .int v25929), (4, .int v4), (0, .ref am), (3, .int p3)]) hx hb dX13_saddle_252 hl (by decide) rfl (fun ls hl => ?_)
                              refine lv_iload hx hb dX13_saddle_254 (lv_at hl 2 rfl) ?_
                              refine lv_iload hx hb dX13_saddle_256 (lv_at hl 5 rfl) ?_
                              have hj31768 : ∀ (v31767 : Int32), (0 ≤ v25927.toInt + (-1) * v31767.toInt) → (0 ≤ (-1) * v25928.toInt + v31767.toInt) → ∀ ls : Array Slot, lv_has ls 13 [(5, .int v31763), (6, .int v31759), (11, .int v31271), (9, .int v25927), (7, .int v25929), (4, .int v4), (0, .ref am), (3, .int p3)] → W p l e ({ frames := 13, cells := 0, slots := 0, locals := 840 }) s m args below meth c H locs 0 0 (MQ below (mz_i D cy ad am (fun r F G R S => mz_IF true F ∧ mz_IG G ∧ mz_IR [] true R ∧ (∀ k : Nat, k ∉ ([0, 34, 38, 41] : List Nat) → F k = Fa k) ∧ (∀ k : Nat, k ∉ ([3, 6, 48] : List Nat) → R k = Ra k) ∧ (∀ k : Nat, k ∉ ([39, 40, 47] : List Nat) → G k = Ga k) ∧ rK1 (Ra 3) (R 3))) args s 0 0 (mz_W ad am)) (F0 m 268 ls [.int v31767]) := by
                                intro v31767 hq0_j31768 hq1_j31768 ls hl
                                refine lv_istore (lv' := [(8, .int v31767), (5, .int v31763), (6, .int v31759), (11, .int v31271), (9, .int v25927), (7, .int v25929), (4, .int v4), (0, .ref am), (3, .int p3)]) hx hb dX13_saddle_268 hl (by decide) rfl (fun ls hl => ?_)
                                refine lv_iload hx hb dX13_saddle_270 (lv_at hl 3 rfl) ?_
                                refine lv_iload hx hb dX13_saddle_272 (lv_at hl 5 rfl) ?_
                                have hj31772 : ∀ (v31771 : Int32), (0 ≤ v31271.toInt + (-1) * v31771.toInt) → (0 ≤ v25929.toInt + (-1) * v31771.toInt) → ∀ ls : Array Slot, lv_has ls 13 [(8, .int v31767), (5, .int v31763), (6, .int v31759), (9, .int v25927), (4, .int v4), (0, .ref am), (3, .int p3)] → W p l e ({ frames := 13, cells := 0, slots := 0, locals := 840 }) s m args below meth c H locs 0 0 (MQ below (mz_i D cy ad am (fun r F G R S => mz_IF true F ∧ mz_IG G ∧ mz_IR [] true R ∧ (∀ k : Nat, k ∉ ([0, 34, 38, 41] : List Nat) → F k = Fa k) ∧ (∀ k : Nat, k ∉ ([3, 6, 48] : List Nat) → R k = Ra k) ∧ (∀ k : Nat, k ∉ ([39, 40, 47] : List Nat) → G k = Ga k) ∧ rK1 (Ra 3) (R 3))) args s 0 0 (mz_W ad am)) (F0 m 284 ls [.int v31771]) := by
                                  intro v31771 hq0_j31772 hq1_j31772 ls hl
                                  refine lv_istore (lv' := [(7, .int v31771), (8, .int v31767), (5, .int v31763), (6, .int v31759), (9, .int v25927), (4, .int v4), (0, .ref am), (3, .int p3)]) hx hb dX13_saddle_284 hl (by decide) rfl (fun ls hl => ?_)
                                  obtain ⟨v31773, h_v31773, e_v31773⟩ := tk_inc v25927 1 (by decide) (by omega) (by omega)
                                  refine lv_iinc (v := v31773) (lv' := [(9, .int v31773), (7, .int v31771), (8, .int v31767), (5, .int v31763), (6, .int v31759), (4, .int v4), (0, .ref am), (3, .int p3)]) hx hb dX13_saddle_286 hl (k := 4) rfl e_v31773 (by decide) rfl (fun ls hl => ?_)
                                  refine lv_goto (tgt := 115) hx hb dX13_saddle_289 (by decide) ?_
                                  exact ih_l30734 v31773 v31767 v31771 v31759 v31763 (by omega) (by omega) (by omega) (by omega) (by omega) (by omega) (by omega) (by omega) (by omega) (by omega) _ (lv_sub hl [0, 2, 1, 4, 3, 5, 6, 7] rfl)
                                refine lv_icmp_ge (tgt := 282) hx hb dX13_saddle_274 (by decide) (fun c9 => ?_) (fun c9 => ?_)
                                · have hc31769 : v25929.toInt ≤ v31271.toInt := (fi_le rfl rfl).mp c9
                                  refine lv_iload hx hb dX13_saddle_282 (lv_at hl 5 rfl) ?_
                                  exact hj31772 v25929 (by omega) (by omega) _ (lv_sub hl [0, 1, 2, 4, 6, 7, 8] rfl)
                                · have hc31769 : ¬ (v25929.toInt ≤ v31271.toInt) := fun h9 => c9 ((fi_le rfl rfl).mpr h9)
                                  refine lv_iload hx hb dX13_saddle_277 (lv_at hl 3 rfl) ?_
                                  refine lv_goto (tgt := 284) hx hb dX13_saddle_279 (by decide) ?_
                                  exact hj31772 v31271 (by omega) (by omega) _ (lv_sub hl [0, 1, 2, 4, 6, 7, 8] rfl)
                              refine lv_icmp_ge (tgt := 266) hx hb dX13_saddle_258 (by decide) (fun c9 => ?_) (fun c9 => ?_)
                              · have hc31765 : v25929.toInt ≤ v31271.toInt := (fi_le rfl rfl).mp c9
                                refine lv_iload hx hb dX13_saddle_266 (lv_at hl 4 rfl) ?_
                                exact hj31768 v25928 (by omega) (by omega) _ (lv_sub hl [0, 1, 2, 3, 5, 6, 7, 8] rfl)
                              · have hc31765 : ¬ (v25929.toInt ≤ v31271.toInt) := fun h9 => c9 ((fi_le rfl rfl).mpr h9)
                                refine lv_iload hx hb dX13_saddle_261 (lv_at hl 3 rfl) ?_
                                refine lv_goto (tgt := 268) hx hb dX13_saddle_263 (by decide) ?_
                                exact hj31768 v25927 (by omega) (by omega) _ (lv_sub hl [0, 1, 2, 3, 5, 6, 7, 8] rfl)
                            refine lv_icmp_le (tgt := 250) hx hb dX13_saddle_242 (by decide) (fun c9 => ?_) (fun c9 => ?_)
                            · have hc31761 : v31272.toInt ≤ v25931.toInt := (fi_le rfl rfl).mp c9
                              refine lv_iload hx hb dX13_saddle_250 (lv_at hl 6 rfl) ?_
                              exact hj31764 v25931 (by omega) (by omega) _ (lv_sub hl [0, 1, 3, 4, 5, 7, 8, 9] rfl)
                            · have hc31761 : ¬ (v31272.toInt ≤ v25931.toInt) := fun h9 => c9 ((fi_le rfl rfl).mpr h9)
                              refine lv_iload hx hb dX13_saddle_245 (lv_at hl 2 rfl) ?_
                              refine lv_goto (tgt := 252) hx hb dX13_saddle_247 (by decide) ?_
                              exact hj31764 v31272 (by omega) (by omega) _ (lv_sub hl [0, 1, 3, 4, 5, 7, 8, 9] rfl)
                          refine lv_icmp_le (tgt := 234) hx hb dX13_saddle_226 (by decide) (fun c9 => ?_) (fun c9 => ?_)
                          · have hc31757 : v31272.toInt ≤ v25931.toInt := (fi_le rfl rfl).mp c9
                            refine lv_iload hx hb dX13_saddle_234 (lv_at hl 6 rfl) ?_
                            exact hj31760 v25930 (by omega) (by omega) _ (lv_sub hl [1, 2, 3, 4, 5, 7, 8, 9, 10] rfl)
                          · have hc31757 : ¬ (v31272.toInt ≤ v25931.toInt) := fun h9 => c9 ((fi_le rfl rfl).mpr h9)
                            refine lv_iload hx hb dX13_saddle_229 (lv_at hl 3 rfl) ?_
                            refine lv_goto (tgt := 236) hx hb dX13_saddle_231 (by decide) ?_
                            exact hj31760 v25927 (by omega) (by omega) _ (lv_sub hl [1, 2, 3, 4, 5, 7, 8, 9, 10] rfl)
                        · have hc31729 : ¬ (v4.toInt ≤ v31270.toInt) := fun h9 => c9 ((fi_le rfl rfl).mpr h9)
                          refine lv_aload_n hx hb dX13_saddle_140 rfl (lv_at hl 9 rfl) ?_
                          refine mz_getR hx hb htl hown hK hM 48 (Nat.le_of_ble_eq_true rfl) (Nat.le_of_ble_eq_true rfl) (htl _ mw_231) (fun _ h9 => h9) dX13_saddle_141 ?_
                          refine lv_bipush (v := 10) hx hb dX13_saddle_144 (by decide) ?_
                          refine lv_iload hx hb dX13_saddle_146 (lv_at hl 3 rfl) ?_
                          refine lv_imul hx hb dX13_saddle_148 ?_
                          refine tk_mul (show (10 : Int32).toInt = 10 by decide) rfl (by omega) (by omega) (fun v31774 h_v31774 => ?_)
                          refine lv_iload hx hb dX13_saddle_149 (lv_at hl 0 rfl) ?_
                          refine lv_iadd hx hb dX13_saddle_151 ?_
                          refine tk_add rfl rfl (by omega) (by omega) (fun v31775 h_v31775 => ?_)
                          refine mz_iald hx hb hK hM 48 (Nat.le_of_ble_eq_true rfl) rfl (nn := 100) rfl rfl (by omega) (by omega) dX13_saddle_152 (fun v31776 e_v31776 => ?_)
                          have hq_v31776 := tk_rng v31776
                          refine lv_iload hx hb dX13_saddle_153 (lv_at hl 2 rfl) ?_
                          have hj31783 : ∀ (v31782 : Int32), ∀ ls : Array Slot, lv_has ls 13 [(12, .int v31270), (11, .int v31271), (9, .int v25927), (8, .int v25928), (7, .int v25929), (6, .int v25930), (5, .int v25931), (4, .int v4), (0, .ref am), (3, .int p3)] → W p l e ({ frames := 13, cells := 0, slots := 0, locals := 840 }) s m args below meth c H locs 0 0 (MQ below (mz_i D cy ad am (fun r F G R S => mz_IF true F ∧ mz_IG G ∧ mz_IR [] true R ∧ (∀ k : Nat, k ∉ ([0, 34, 38, 41] : List Nat) → F k = Fa k) ∧ (∀ k : Nat, k ∉ ([3, 6, 48] : List Nat) → R k = Ra k) ∧ (∀ k : Nat, k ∉ ([39, 40, 47] : List Nat) → G k = Ga k) ∧ rK1 (Ra 3) (R 3))) args s 0 0 (mz_W ad am)) (F0 m 176 ls [.int v31782]) := by
                            intro v31782  ls hl
                            refine lv_istore (lv' := [(10, .int v31782), (12, .int v31270), (11, .int v31271), (9, .int v25927), (8, .int v25928), (7, .int v25929), (6, .int v25930), (5, .int v25931), (4, .int v4), (0, .ref am), (3, .int p3)]) hx hb dX13_saddle_176 hl (by decide) rfl (fun ls hl => ?_)
                            refine lv_aload_n hx hb dX13_saddle_178 rfl (lv_at hl 9 rfl) ?_
                            refine mz_getR hx hb htl hown hK hM 48 (Nat.le_of_ble_eq_true rfl) (Nat.le_of_ble_eq_true rfl) (htl _ mw_231) (fun _ h9 => h9) dX13_saddle_179 ?_
                            refine lv_bipush (v := 10) hx hb dX13_saddle_182 (by decide) ?_
                            refine lv_iload hx hb dX13_saddle_184 (lv_at hl 1 rfl) ?_
                            refine lv_imul hx hb dX13_saddle_186 ?_
                            refine tk_mul (show (10 : Int32).toInt = 10 by decide) rfl (by omega) (by omega) (fun v31784 h_v31784 => ?_)
                            refine lv_iload hx hb dX13_saddle_187 (lv_at hl 3 rfl) ?_
                            refine lv_iadd hx hb dX13_saddle_189 ?_
                            refine tk_add rfl rfl (by omega) (by omega) (fun v31785 h_v31785 => ?_)
                            refine mz_iald hx hb hK hM 48 (Nat.le_of_ble_eq_true rfl) rfl (nn := 100) rfl rfl (by omega) (by omega) dX13_saddle_190 (fun v31786 e_v31786 => ?_)
                            have hq_v31786 := tk_rng v31786
                            refine lv_iload hx hb dX13_saddle_191 (lv_at hl 2 rfl) ?_
                            have hj31793 : ∀ (v31792 : Int32), ∀ ls : Array Slot, lv_has ls 13 [(10, .int v31782), (12, .int v31270), (9, .int v25927), (8, .int v25928), (7, .int v25929), (6, .int v25930), (5, .int v25931), (4, .int v4), (0, .ref am), (3, .int p3)] → W p l e ({ frames := 13, cells := 0, slots := 0, locals := 840 }) s m args below meth c H locs 0 0 (MQ below (mz_i D cy ad am (fun r F G R S => mz_IF true F ∧ mz_IG G ∧ mz_IR [] true R ∧ (∀ k : Nat, k ∉ ([0, 34, 38, 41] : List Nat) → F k = Fa k) ∧ (∀ k : Nat, k ∉ ([3, 6, 48] : List Nat) → R k = Ra k) ∧ (∀ k : Nat, k ∉ ([39, 40, 47] : List Nat) → G k = Ga k) ∧ rK1 (Ra 3) (R 3))) args s 0 0 (mz_W ad am)) (F0 m 214 ls [.int v31792]) := by
                              intro v31792  ls hl
                              refine lv_istore (lv' := [(11, .int v31792), (10, .int v31782), (12, .int v31270), (9, .int v25927), (8, .int v25928), (7, .int v25929), (6, .int v25930), (5, .int v25931), (4, .int v4), (0, .ref am), (3, .int p3)]) hx hb dX13_saddle_214 hl (by decide) rfl (fun ls hl => ?_)
                              obtain ⟨v31794, h_v31794, e_v31794⟩ := tk_inc v31270 1 (by decide) (by omega) (by omega)
                              refine lv_iinc (v := v31794) (lv' := [(12, .int v31794), (11, .int v31792), (10, .int v31782), (9, .int v25927), (8, .int v25928), (7, .int v25929), (6, .int v25930), (5, .int v25931), (4, .int v4), (0, .ref am), (3, .int p3)]) hx hb dX13_saddle_216 hl (k := 2) rfl e_v31794 (by decide) rfl (fun ls hl => ?_)
                              refine lv_goto (tgt := 133) hx hb dX13_saddle_219 (by decide) ?_
                              exact ih_l31728 v31794 v31792 v31782 (by omega) (by omega) (by omega) _ (lv_sub hl [0, 1, 2, 3, 4, 5, 6, 7, 8, 9, 10] rfl)
                            refine lv_icmp_le (tgt := 212) hx hb dX13_saddle_193 (by decide) (fun c9 => ?_) (fun c9 => ?_)
                            · have hc31787 : v31786.toInt ≤ v31271.toInt := (fi_le rfl rfl).mp c9
                              refine lv_iload hx hb dX13_saddle_212 (lv_at hl 2 rfl) ?_
                              exact hj31793 v31271 _ (lv_sub hl [0, 1, 3, 4, 5, 6, 7, 8, 9, 10] rfl)
                            · have hc31787 : ¬ (v31786.toInt ≤ v31271.toInt) := fun h9 => c9 ((fi_le rfl rfl).mpr h9)
                              refine lv_aload_n hx hb dX13_saddle_196 rfl (lv_at hl 9 rfl) ?_
                              refine mz_getR hx hb htl hown hK hM 48 (Nat.le_of_ble_eq_true rfl) (Nat.le_of_ble_eq_true rfl) (htl _ mw_231) (fun _ h9 => h9) dX13_saddle_197 ?_
                              refine lv_bipush (v := 10) hx hb dX13_saddle_200 (by decide) ?_
                              refine lv_iload hx hb dX13_saddle_202 (lv_at hl 1 rfl) ?_
                              refine lv_imul hx hb dX13_saddle_204 ?_
                              refine tk_mul (show (10 : Int32).toInt = 10 by decide) rfl (by omega) (by omega) (fun v31795 h_v31795 => ?_)
                              refine lv_iload hx hb dX13_saddle_205 (lv_at hl 3 rfl) ?_
                              refine lv_iadd hx hb dX13_saddle_207 ?_
                              refine tk_add rfl rfl (by omega) (by omega) (fun v31796 h_v31796 => ?_)
                              refine mz_iald hx hb hK hM 48 (Nat.le_of_ble_eq_true rfl) rfl (nn := 100) rfl rfl (by omega) (by omega) dX13_saddle_208 (fun v31797 e_v31797 => ?_)
                              have hq_v31797 := tk_rng v31797
                              refine lv_goto (tgt := 214) hx hb dX13_saddle_209 (by decide) ?_
                              exact hj31793 v31797 _ (lv_sub hl [0, 1, 3, 4, 5, 6, 7, 8, 9, 10] rfl)
                          refine lv_icmp_ge (tgt := 174) hx hb dX13_saddle_155 (by decide) (fun c9 => ?_) (fun c9 => ?_)
                          · have hc31777 : v31272.toInt ≤ v31776.toInt := (fi_le rfl rfl).mp c9
                            refine lv_iload hx hb dX13_saddle_174 (lv_at hl 2 rfl) ?_
                            exact hj31783 v31272 _ (lv_sub hl [0, 1, 3, 4, 5, 6, 7, 8, 9, 10] rfl)
                          · have hc31777 : ¬ (v31272.toInt ≤ v31776.toInt) := fun h9 => c9 ((fi_le rfl rfl).mpr h9)
                            refine lv_aload_n hx hb dX13_saddle_158 rfl (lv_at hl 9 rfl) ?_
                            refine mz_getR hx hb htl hown hK hM 48 (Nat.le_of_ble_eq_true rfl) (Nat.le_of_ble_eq_true rfl) (htl _ mw_231) (fun _ h9 => h9) dX13_saddle_159 ?_
                            refine lv_bipush (v := 10) hx hb dX13_saddle_162 (by decide) ?_
                            refine lv_iload hx hb dX13_saddle_164 (lv_at hl 3 rfl) ?_
                            refine lv_imul hx hb dX13_saddle_166 ?_
                            refine tk_mul (show (10 : Int32).toInt = 10 by decide) rfl (by omega) (by omega) (fun v31798 h_v31798 => ?_)
                            refine lv_iload hx hb dX13_saddle_167 (lv_at hl 0 rfl) ?_
                            refine lv_iadd hx hb dX13_saddle_169 ?_
                            refine tk_add rfl rfl (by omega) (by omega) (fun v31799 h_v31799 => ?_)
                            refine mz_iald hx hb hK hM 48 (Nat.le_of_ble_eq_true rfl) rfl (nn := 100) rfl rfl (by omega) (by omega) dX13_saddle_170 (fun v31800 e_v31800 => ?_)
                            have hq_v31800 := tk_rng v31800
                            refine lv_goto (tgt := 176) hx hb dX13_saddle_171 (by decide) ?_
                            exact hj31783 v31800 _ (lv_sub hl [0, 1, 3, 4, 5, 6, 7, 8, 9, 10] rfl)
                    have hk_0 : (0 : Int32).toInt = 0 := by decide
                    have hk_m9 : ((-9) : Int32).toInt = (-9) := by decide
                    have hk_9 : (9 : Int32).toInt = 9 := by decide
                    exact hl31728 11 0 (-9) 9 (by omega) (by omega) (by omega) _ (lv_sub hl [0, 1, 2, 3, 4, 5, 6, 7, 8, 9, 10] rfl)
              have hk_0 : (0 : Int32).toInt = 0 := by decide
              have hk_0 : (0 : Int32).toInt = 0 := by decide
              have hk_9 : (9 : Int32).toInt = 9 := by decide
              have hk_0 : (0 : Int32).toInt = 0 := by decide
              have hk_m9 : ((-9) : Int32).toInt = (-9) := by decide
              exact hl30734 11 0 0 9 0 (-9) (by omega) (by omega) (by omega) (by omega) (by omega) (by omega) (by omega) (by omega) (by omega) (by omega) _ (lv_sub hl [0, 1, 2, 3, 4, 5, 6, 9] rfl)
            · have hc25789 : ¬ (v4.toInt ≤ v7337.toInt) := fun h9 => c9 ((fi_le rfl rfl).mpr h9)
              refine lv_iconst (v := 0) hx hb dX13_saddle_53 (by decide) ?_
              refine lv_istore (lv' := [(6, .int 0), (5, .int v7337), (4, .int v4), (0, .ref am), (1, .int p1), (2, .int p2), (3, .int p3)]) hx hb dX13_saddle_54 hl (by decide) rfl (fun ls hl => ?_)
              have hl31919 : ∀ (N_l31919 : Nat) (v31801 : Int32) (H : Heap) (locs : List Loc) (F : Nat → Int32) (G : Nat → Int64) (R : Nat → Nat → Int32) (S : Nat → Nat → Int64), (0 ≤ (-1) * v31801.toInt + v4.toInt) → (0 ≤ v31801.toInt) → (mz_S D cy ad am F G R S H) → (va_S (mz_W ad am) s.heap H locs) → (mz_IF true F) → (mz_IG G) → (mz_IR [] true R) → (∀ k : Nat, k ∉ ([0, 34, 38, 41] : List Nat) → F k = Fa k) → (∀ k : Nat, k ∉ ([39, 40, 47] : List Nat) → G k = Ga k) → (∀ k : Nat, k ∉ ([3, 6, 48] : List Nat) → R k = Ra k) → (rK1 (Ra 3) (R 3)) → (F 0 = 0) → (R 3 1 = v4) → ((-1) * v31801.toInt + 10 < (N_l31919 : Int)) → ∀ ls : Array Slot, lv_has ls 13 [(6, .int v31801), (5, .int v7337), (4, .int v4), (0, .ref am), (1, .int p1), (2, .int p2), (3, .int p3)] → W p l e ({ frames := 13, cells := 0, slots := 0, locals := 840 }) s m args below meth c H locs 0 0 (MQ below (mz_i D cy ad am (fun r F G R S => mz_IF true F ∧ mz_IG G ∧ mz_IR [] true R ∧ (∀ k : Nat, k ∉ ([0, 34, 38, 41] : List Nat) → F k = Fa k) ∧ (∀ k : Nat, k ∉ ([3, 6, 48] : List Nat) → R k = Ra k) ∧ (∀ k : Nat, k ∉ ([39, 40, 47] : List Nat) → G k = Ga k) ∧ rK1 (Ra 3) (R 3))) args s 0 0 (mz_W ad am)) (F0 m 56 ls []) := by
                intro N_l31919
                induction N_l31919 with
                | zero => intro v31801 H locs F G R S hq0_l31919 hq1_l31919 hM hS hIF hIG hIR hFF hGG hRR hrel hf2 hf3 hm_l31919 ls hl; exfalso; omega
                | succ N_l31919 ih_l31919 =>
                  intro v31801 H locs F G R S hq0_l31919 hq1_l31919 hM hS hIF hIG hIR hFF hGG hRR hrel hf2 hf3 hm_l31919 ls hl
                  refine lv_iload hx hb dX13_saddle_56 (lv_at hl 0 rfl) ?_
                  refine lv_iload hx hb dX13_saddle_58 (lv_at hl 2 rfl) ?_
                  refine lv_icmp_ge (tgt := 92) hx hb dX13_saddle_60 (by decide) (fun c9 => ?_) (fun c9 => ?_)
                  · have hc31920 : v4.toInt ≤ v31801.toInt := (fi_le rfl rfl).mp c9
                    obtain ⟨v31929, h_v31929, e_v31929⟩ := tk_inc v7337 1 (by decide) (by omega) (by omega)
                    refine lv_iinc (v := v31929) (lv' := [(5, .int v31929), (6, .int v31801), (4, .int v4), (0, .ref am), (1, .int p1), (2, .int p2), (3, .int p3)]) hx hb dX13_saddle_92 hl (k := 1) rfl e_v31929 (by decide) rfl (fun ls hl => ?_)
                    refine lv_goto (tgt := 46) hx hb dX13_saddle_95 (by decide) ?_
                    exact ih_l25788 v31929 _ _ _ _ _ _ (by omega) (by omega) hM hS hIF hIG hIR hFF hGG hRR hrel hf2 hf3 (by omega) _ (lv_sub hl [0, 2, 3, 4, 5, 6] rfl)
                  · have hc31920 : ¬ (v4.toInt ≤ v31801.toInt) := fun h9 => c9 ((fi_le rfl rfl).mpr h9)
                    refine lv_aload_n hx hb dX13_saddle_63 rfl (lv_at hl 3 rfl) ?_
                    refine mz_getR hx hb htl hown hK hM 48 (Nat.le_of_ble_eq_true rfl) (Nat.le_of_ble_eq_true rfl) (htl _ mw_231) (fun _ h9 => h9) dX13_saddle_64 ?_
                    refine lv_bipush (v := 10) hx hb dX13_saddle_67 (by decide) ?_
                    refine lv_iload hx hb dX13_saddle_69 (lv_at hl 1 rfl) ?_
                    refine lv_imul hx hb dX13_saddle_71 ?_
                    refine tk_mul (show (10 : Int32).toInt = 10 by decide) rfl (by omega) (by omega) (fun v31930 h_v31930 => ?_)
                    refine lv_iload hx hb dX13_saddle_72 (lv_at hl 0 rfl) ?_
                    refine lv_iadd hx hb dX13_saddle_74 ?_
                    refine tk_add rfl rfl (by omega) (by omega) (fun v31931 h_v31931 => ?_)
                    refine lv_aload_n hx hb dX13_saddle_75 rfl (lv_at hl 3 rfl) ?_
                    refine lv_iload_n hx hb dX13_saddle_76 rfl (lv_at hl 4 rfl) ?_
                    refine lv_iload_n hx hb dX13_saddle_77 rfl (lv_at hl 5 rfl) ?_
                    refine lv_iload hx hb dX13_saddle_78 (lv_at hl 1 rfl) ?_
                    refine lv_iload hx hb dX13_saddle_80 (lv_at hl 0 rfl) ?_
                    refine mz_Vi (As := [.int p1, .int p2, .int v7337, .int v31801]) (rest := [.int v31931, .ref (ad 48)]) ⟨hx, hb, hml, hown, hts⟩ hK hM hS (k_X13_resultOnPaper l D cy ld ad am hD _ _ _ _ p1 p2 v7337 v31801 hIF hIG hIR (by omega) (by omega) (by omega) (by omega) (by omega) (by omega) (by omega) (by omega)) ⟨callB_of 4 hts (wl_in mw_1369) rfl rfl rfl (htl _ mw_5) (htl _ mw_1366) hd_yX13_resultOnPaper ⟨(Nat.le_of_ble_eq_true rfl), (Nat.le_of_ble_eq_true rfl)⟩, htl _ mw_1367, htl _ mw_1368⟩ rfl hl.1 rfl (Nat.le_of_ble_eq_true rfl) dX13_saddle_82 ⟨(Nat.le_of_ble_eq_true rfl), (Nat.le_of_ble_eq_true rfl)⟩ (fun v31932 H locs F G R S hpo hM hS => ?_)
                    obtain ⟨hIF, hIG, hIR, hfr9, hrr9, hgr9, hrel9, hpo31933, hpo31934⟩ := hpo
                    have hq_v31932 := tk_rng v31932
                    have hFF := mz_fr (K := [0, 34, 38, 41]) (Fa := Fa) hfr9 hFF (by decide)
                    have hRR := mz_fr (K := [3, 6, 48]) (Fa := Ra) hrr9 hRR (by decide)
                    have hGG := mz_fr (K := [39, 40, 47]) (Fa := Ga) hgr9 hGG (by decide)
                    have hrel := hrel.trans hrel9
                    have hf2 := (hfr9 0 (by decide)).trans hf2
                    have hf3 : R 3 1 = _ := (hrel9 1 (by omega)).trans hf3
                    refine mz_iast (x := v31932) hx hb hK hD hM hS 48 (Nat.le_of_ble_eq_true rfl) rfl (nn := 100) rfl rfl (by omega) (by omega) dX13_saddle_85 (fun H locs R hM hS hw9 hj9 => ?_)
                    have hIR := hIR.put hw9 hj9 trivial
                    have hRR := mz_frp (K := [3, 6, 48]) (Fa := Ra) hj9 hRR (by decide)
                    have hrel : rK1 (Ra 3) (R 3) := (hj9 3 (by decide)) ▸ hrel
                    have hf3 : R 3 1 = _ := (congrFun (hj9 3 (by decide)) 1).trans hf3
                    obtain ⟨v31937, h_v31937, e_v31937⟩ := tk_inc v31801 1 (by decide) (by omega) (by omega)
                    refine lv_iinc (v := v31937) (lv' := [(6, .int v31937), (5, .int v7337), (4, .int v4), (0, .ref am), (1, .int p1), (2, .int p2), (3, .int p3)]) hx hb dX13_saddle_86 hl (k := 0) rfl e_v31937 (by decide) rfl (fun ls hl => ?_)
                    refine lv_goto (tgt := 56) hx hb dX13_saddle_89 (by decide) ?_
                    exact ih_l31919 v31937 _ _ _ _ _ _ (by omega) (by omega) hM hS hIF hIG hIR hFF hGG hRR hrel hf2 hf3 (by omega) _ (lv_sub hl [0, 1, 2, 3, 4, 5, 6] rfl)
              have hk_0 : (0 : Int32).toInt = 0 := by decide
              exact hl31919 11 0 _ _ _ _ _ _ (by omega) (by omega) hM hS hIF hIG hIR hFF hGG hRR hrel hf2 hf3 (by omega) _ (lv_sub hl [0, 1, 2, 3, 4, 5, 6] rfl)
        have hk_0 : (0 : Int32).toInt = 0 := by decide
        exact hl25788 11 0 _ _ _ _ _ _ (by omega) (by omega) hM hS hIF hIG hIR hFF (fun _ _ => rfl) (fun _ _ => rfl) (rK1.refl rfl) hf2 hf3 (by omega) _ (lv_sub hl [0, 1, 2, 3, 4, 5] rfl)
      · have hc27 : v19.toInt = 0 := (fi_eq rfl (show (0 : Int32).toInt = 0 by decide)).mp c9
        refine lv_sipush (v := (-1000)) hx hb dX13_saddle_39 (by decide) ?_
        have hk_m1000 : ((-1000) : Int32).toInt = (-1000) := by decide
        exact mz_iret (v := (-1000)) hx hb hr rfl hlocks ⟨hIF, hIG, hIR, hFF, (fun _ _ => rfl), (fun _ _ => rfl), (rK1.refl rfl)⟩ hM hS dX13_saddle_42
