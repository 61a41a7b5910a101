theorem hd_yX13_isSmall : yX13_isSmall.cls ≠ "java/lang/invoke/MethodHandle" ∧ yX13_isSmall.cls ≠ "java/lang/invoke/VarHandle" ∧ (parseMethodDescriptor yX13_isSmall.desc).map (fun d => d.parameters.length) = some 1 := by decide +kernel
theorem hd_yX13_isDigit : yX13_isDigit.cls ≠ "java/lang/invoke/MethodHandle" ∧ yX13_isDigit.cls ≠ "java/lang/invoke/VarHandle" ∧ (parseMethodDescriptor yX13_isDigit.desc).map (fun d => d.parameters.length) = some 1 := by decide +kernel
theorem dX13_next_0 : decode cX13_next 0 = .ok (.aload_n 0, 1) := by decide +kernel
theorem dX13_next_1 : decode cX13_next 1 = .ok (.aload_n 0, 1) := by decide +kernel
theorem dX13_next_2 : decode cX13_next 2 = .ok (.getfield 233, 3) := by decide +kernel
theorem dX13_next_5 : decode cX13_next 5 = .ok (.putfield 243, 3) := by decide +kernel
theorem dX13_next_8 : decode cX13_next 8 = .ok (.aload_n 0, 1) := by decide +kernel
theorem dX13_next_9 : decode cX13_next 9 = .ok (.getfield 243, 3) := by decide +kernel
theorem dX13_next_12 : decode cX13_next 12 = .ok (.aload_n 0, 1) := by decide +kernel
theorem dX13_next_13 : decode cX13_next 13 = .ok (.getfield 224, 3) := by decide +kernel
theorem dX13_next_46 : decode cX13_next 46 = .ok (.aload_n 0, 1) := by decide +kernel
theorem dX13_next_47 : decode cX13_next 47 = .ok (.aload_n 0, 1) := by decide +kernel
theorem dX13_next_48 : decode cX13_next 48 = .ok (.getfield 243, 3) := by decide +kernel
theorem dX13_next_51 : decode cX13_next 51 = .ok (.putfield 233, 3) := by decide +kernel
theorem dX13_next_54 : decode cX13_next 54 = .ok (.aload_n 0, 1) := by decide +kernel
theorem dX13_next_55 : decode cX13_next 55 = .ok (.lconst 0, 1) := by decide +kernel
theorem dX13_next_56 : decode cX13_next 56 = .ok (.putfield 246, 3) := by decide +kernel
theorem dX13_next_59 : decode cX13_next 59 = .ok (.aload_n 0, 1) := by decide +kernel
theorem dX13_next_60 : decode cX13_next 60 = .ok (.aload_n 0, 1) := by decide +kernel
theorem dX13_next_61 : decode cX13_next 61 = .ok (.getfield 243, 3) := by decide +kernel
theorem dX13_next_64 : decode cX13_next 64 = .ok (.aload_n 0, 1) := by decide +kernel
theorem dX13_next_65 : decode cX13_next 65 = .ok (.getfield 224, 3) := by decide +kernel
theorem dX13_next_68 : decode cX13_next 68 = .ok (.if_icmp .ne 7, 3) := by decide +kernel
theorem dX13_next_75 : decode cX13_next 75 = .ok (.aload_n 0, 1) := by decide +kernel
theorem dX13_next_76 : decode cX13_next 76 = .ok (.getfield 35, 3) := by decide +kernel
theorem dX13_next_79 : decode cX13_next 79 = .ok (.aload_n 0, 1) := by decide +kernel
theorem dX13_next_80 : decode cX13_next 80 = .ok (.getfield 243, 3) := by decide +kernel
theorem dX13_next_83 : decode cX13_next 83 = .ok (.iaload, 1) := by decide +kernel
theorem dX13_next_84 : decode cX13_next 84 = .ok (.invokestatic 250, 3) := by decide +kernel
theorem dX13_next_87 : decode cX13_next 87 = .ok (.ifCond .eq 7, 3) := by decide +kernel
theorem dX13_next_94 : decode cX13_next 94 = .ok (.aload_n 0, 1) := by decide +kernel
theorem dX13_next_95 : decode cX13_next 95 = .ok (.getfield 35, 3) := by decide +kernel
theorem dX13_next_98 : decode cX13_next 98 = .ok (.aload_n 0, 1) := by decide +kernel
theorem dX13_next_99 : decode cX13_next 99 = .ok (.getfield 243, 3) := by decide +kernel
theorem dX13_next_102 : decode cX13_next 102 = .ok (.iaload, 1) := by decide +kernel
theorem dX13_next_103 : decode cX13_next 103 = .ok (.invokestatic 253, 3) := by decide +kernel
theorem dX13_next_106 : decode cX13_next 106 = .ok (.ifCond .eq 7, 3) := by decide +kernel
theorem dX13_next_113 : decode cX13_next 113 = .ok (.iconst 3, 1) := by decide +kernel
theorem dX13_next_114 : decode cX13_next 114 = .ok (.putfield 256, 3) := by decide +kernel
theorem dX13_next_117 : decode cX13_next 117 = .ok (.aload_n 0, 1) := by decide +kernel
theorem dX13_next_118 : decode cX13_next 118 = .ok (.getfield 256, 3) := by decide +kernel
theorem dX13_next_121 : decode cX13_next 121 = .ok (.iconst 3, 1) := by decide +kernel
theorem dX13_next_122 : decode cX13_next 122 = .ok (.if_icmp .ne 27, 3) := by decide +kernel
theorem dX13_next_125 : decode cX13_next 125 = .ok (.aload_n 0, 1) := by decide +kernel
theorem dX13_next_126 : decode cX13_next 126 = .ok (.aload_n 0, 1) := by decide +kernel
theorem dX13_next_127 : decode cX13_next 127 = .ok (.getfield 35, 3) := by decide +kernel
theorem dX13_next_130 : decode cX13_next 130 = .ok (.aload_n 0, 1) := by decide +kernel
theorem dX13_next_131 : decode cX13_next 131 = .ok (.getfield 243, 3) := by decide +kernel
theorem dX13_next_134 : decode cX13_next 134 = .ok (.iaload, 1) := by decide +kernel
theorem dX13_next_135 : decode cX13_next 135 = .ok (.i2l, 1) := by decide +kernel
theorem dX13_next_136 : decode cX13_next 136 = .ok (.putfield 246, 3) := by decide +kernel
theorem dX13_next_139 : decode cX13_next 139 = .ok (.aload_n 0, 1) := by decide +kernel
theorem dX13_next_140 : decode cX13_next 140 = .ok (.dup, 1) := by decide +kernel
theorem dX13_next_141 : decode cX13_next 141 = .ok (.getfield 233, 3) := by decide +kernel
theorem dX13_next_144 : decode cX13_next 144 = .ok (.iconst 1, 1) := by decide +kernel
theorem dX13_next_145 : decode cX13_next 145 = .ok (.iadd, 1) := by decide +kernel
theorem dX13_next_146 : decode cX13_next 146 = .ok (.putfield 233, 3) := by decide +kernel
theorem dX13_next_149 : decode cX13_next 149 = .ok (.aload_n 0, 1) := by decide +kernel
theorem dX13_next_150 : decode cX13_next 150 = .ok (.getfield 256, 3) := by decide +kernel
theorem dX13_next_153 : decode cX13_next 153 = .ok (.iconst 1, 1) := by decide +kernel
theorem dX13_next_154 : decode cX13_next 154 = .ok (.if_icmp .ne 89, 3) := by decide +kernel
theorem dX13_next_243 : decode cX13_next 243 = .ok (.aload_n 0, 1) := by decide +kernel
theorem dX13_next_244 : decode cX13_next 244 = .ok (.getfield 256, 3) := by decide +kernel
theorem dX13_next_247 : decode cX13_next 247 = .ok (.iconst 2, 1) := by decide +kernel
theorem dX13_next_248 : decode cX13_next 248 = .ok (.if_icmp .ne 87, 3) := by decide +kernel
theorem dX13_next_335 : decode cX13_next 335 = .ok (.return_, 1) := by decide +kernel
theorem dX13_next_109 : decode cX13_next 109 = .ok (.iconst 2, 1) := by decide +kernel
theorem dX13_next_110 : decode cX13_next 110 = .ok (.goto 4, 3) := by decide +kernel
theorem dX13_next_251 : decode cX13_next 251 = .ok (.aload_n 0, 1) := by decide +kernel
theorem dX13_next_252 : decode cX13_next 252 = .ok (.getfield 233, 3) := by decide +kernel
theorem dX13_next_255 : decode cX13_next 255 = .ok (.aload_n 0, 1) := by decide +kernel
theorem dX13_next_256 : decode cX13_next 256 = .ok (.getfield 224, 3) := by decide +kernel
theorem dX13_next_259 : decode cX13_next 259 = .ok (.if_icmp .ge 76, 3) := by decide +kernel
theorem dX13_next_262 : decode cX13_next 262 = .ok (.aload_n 0, 1) := by decide +kernel
theorem dX13_next_263 : decode cX13_next 263 = .ok (.getfield 35, 3) := by decide +kernel
theorem dX13_next_266 : decode cX13_next 266 = .ok (.aload_n 0, 1) := by decide +kernel
theorem dX13_next_267 : decode cX13_next 267 = .ok (.getfield 233, 3) := by decide +kernel
theorem dX13_next_270 : decode cX13_next 270 = .ok (.iaload, 1) := by decide +kernel
theorem dX13_next_271 : decode cX13_next 271 = .ok (.invokestatic 253, 3) := by decide +kernel
theorem dX13_next_274 : decode cX13_next 274 = .ok (.ifCond .eq 61, 3) := by decide +kernel
theorem dX13_next_277 : decode cX13_next 277 = .ok (.aload_n 0, 1) := by decide +kernel
theorem dX13_next_278 : decode cX13_next 278 = .ok (.aload_n 0, 1) := by decide +kernel
theorem dX13_next_279 : decode cX13_next 279 = .ok (.getfield 246, 3) := by decide +kernel
theorem dX13_next_282 : decode cX13_next 282 = .ok (.ldc2_w 265, 3) := by decide +kernel
theorem dX13_next_285 : decode cX13_next 285 = .ok (.lcmp, 1) := by decide +kernel
theorem dX13_next_286 : decode cX13_next 286 = .ok (.ifCond .le 10, 3) := by decide +kernel
theorem dX13_next_296 : decode cX13_next 296 = .ok (.aload_n 0, 1) := by decide +kernel
theorem dX13_next_297 : decode cX13_next 297 = .ok (.getfield 246, 3) := by decide +kernel
theorem dX13_next_300 : decode cX13_next 300 = .ok (.ldc2_w 267, 3) := by decide +kernel
theorem dX13_next_303 : decode cX13_next 303 = .ok (.lmul, 1) := by decide +kernel
theorem dX13_next_304 : decode cX13_next 304 = .ok (.aload_n 0, 1) := by decide +kernel
theorem dX13_next_305 : decode cX13_next 305 = .ok (.getfield 35, 3) := by decide +kernel
theorem dX13_next_308 : decode cX13_next 308 = .ok (.aload_n 0, 1) := by decide +kernel
theorem dX13_next_309 : decode cX13_next 309 = .ok (.getfield 233, 3) := by decide +kernel
theorem dX13_next_312 : decode cX13_next 312 = .ok (.iaload, 1) := by decide +kernel
theorem dX13_next_313 : decode cX13_next 313 = .ok (.i2l, 1) := by decide +kernel
theorem dX13_next_314 : decode cX13_next 314 = .ok (.ladd, 1) := by decide +kernel
theorem dX13_next_315 : decode cX13_next 315 = .ok (.ldc2_w 269, 3) := by decide +kernel
theorem dX13_next_318 : decode cX13_next 318 = .ok (.lsub, 1) := by decide +kernel
theorem dX13_next_319 : decode cX13_next 319 = .ok (.putfield 246, 3) := by decide +kernel
theorem dX13_next_322 : decode cX13_next 322 = .ok (.aload_n 0, 1) := by decide +kernel
theorem dX13_next_323 : decode cX13_next 323 = .ok (.dup, 1) := by decide +kernel
theorem dX13_next_324 : decode cX13_next 324 = .ok (.getfield 233, 3) := by decide +kernel
theorem dX13_next_327 : decode cX13_next 327 = .ok (.iconst 1, 1) := by decide +kernel
theorem dX13_next_328 : decode cX13_next 328 = .ok (.iadd, 1) := by decide +kernel
theorem dX13_next_329 : decode cX13_next 329 = .ok (.putfield 233, 3) := by decide +kernel
theorem dX13_next_332 : decode cX13_next 332 = .ok (.goto (-89), 3) := by decide +kernel
theorem dX13_next_289 : decode cX13_next 289 = .ok (.aload_n 0, 1) := by decide +kernel
theorem dX13_next_290 : decode cX13_next 290 = .ok (.getfield 246, 3) := by decide +kernel
theorem dX13_next_293 : decode cX13_next 293 = .ok (.goto 26, 3) := by decide +kernel
theorem dX13_next_90 : decode cX13_next 90 = .ok (.iconst 1, 1) := by decide +kernel
theorem dX13_next_91 : decode cX13_next 91 = .ok (.goto 23, 3) := by decide +kernel
theorem dX13_next_157 : decode cX13_next 157 = .ok (.aload_n 0, 1) := by decide +kernel
theorem dX13_next_158 : decode cX13_next 158 = .ok (.getfield 233, 3) := by decide +kernel
theorem dX13_next_161 : decode cX13_next 161 = .ok (.aload_n 0, 1) := by decide +kernel
theorem dX13_next_162 : decode cX13_next 162 = .ok (.getfield 224, 3) := by decide +kernel
theorem dX13_next_165 : decode cX13_next 165 = .ok (.if_icmp .ge 78, 3) := by decide +kernel
theorem dX13_next_168 : decode cX13_next 168 = .ok (.aload_n 0, 1) := by decide +kernel
theorem dX13_next_169 : decode cX13_next 169 = .ok (.getfield 35, 3) := by decide +kernel
theorem dX13_next_172 : decode cX13_next 172 = .ok (.aload_n 0, 1) := by decide +kernel
theorem dX13_next_173 : decode cX13_next 173 = .ok (.getfield 233, 3) := by decide +kernel
theorem dX13_next_176 : decode cX13_next 176 = .ok (.iaload, 1) := by decide +kernel
theorem dX13_next_177 : decode cX13_next 177 = .ok (.invokestatic 250, 3) := by decide +kernel
theorem dX13_next_180 : decode cX13_next 180 = .ok (.ifCond .eq 63, 3) := by decide +kernel
theorem dX13_next_183 : decode cX13_next 183 = .ok (.aload_n 0, 1) := by decide +kernel
theorem dX13_next_184 : decode cX13_next 184 = .ok (.aload_n 0, 1) := by decide +kernel
theorem dX13_next_185 : decode cX13_next 185 = .ok (.getfield 233, 3) := by decide +kernel
theorem dX13_next_188 : decode cX13_next 188 = .ok (.aload_n 0, 1) := by decide +kernel
theorem dX13_next_189 : decode cX13_next 189 = .ok (.getfield 243, 3) := by decide +kernel
theorem dX13_next_192 : decode cX13_next 192 = .ok (.isub, 1) := by decide +kernel
theorem dX13_next_193 : decode cX13_next 193 = .ok (.bipush 10, 2) := by decide +kernel
theorem dX13_next_195 : decode cX13_next 195 = .ok (.if_icmp .ge 29, 3) := by decide +kernel
theorem dX13_next_198 : decode cX13_next 198 = .ok (.aload_n 0, 1) := by decide +kernel
theorem dX13_next_199 : decode cX13_next 199 = .ok (.getfield 246, 3) := by decide +kernel
theorem dX13_next_202 : decode cX13_next 202 = .ok (.ldc2_w 259, 3) := by decide +kernel
theorem dX13_next_205 : decode cX13_next 205 = .ok (.lmul, 1) := by decide +kernel
theorem dX13_next_206 : decode cX13_next 206 = .ok (.aload_n 0, 1) := by decide +kernel
theorem dX13_next_207 : decode cX13_next 207 = .ok (.getfield 35, 3) := by decide +kernel
theorem dX13_next_210 : decode cX13_next 210 = .ok (.aload_n 0, 1) := by decide +kernel
theorem dX13_next_211 : decode cX13_next 211 = .ok (.getfield 233, 3) := by decide +kernel
theorem dX13_next_214 : decode cX13_next 214 = .ok (.iaload, 1) := by decide +kernel
theorem dX13_next_215 : decode cX13_next 215 = .ok (.i2l, 1) := by decide +kernel
theorem dX13_next_216 : decode cX13_next 216 = .ok (.ladd, 1) := by decide +kernel
theorem dX13_next_217 : decode cX13_next 217 = .ok (.ldc2_w 261, 3) := by decide +kernel
theorem dX13_next_220 : decode cX13_next 220 = .ok (.lsub, 1) := by decide +kernel
theorem dX13_next_221 : decode cX13_next 221 = .ok (.goto 6, 3) := by decide +kernel
theorem dX13_next_227 : decode cX13_next 227 = .ok (.putfield 246, 3) := by decide +kernel
theorem dX13_next_230 : decode cX13_next 230 = .ok (.aload_n 0, 1) := by decide +kernel
theorem dX13_next_231 : decode cX13_next 231 = .ok (.dup, 1) := by decide +kernel
theorem dX13_next_232 : decode cX13_next 232 = .ok (.getfield 233, 3) := by decide +kernel
theorem dX13_next_235 : decode cX13_next 235 = .ok (.iconst 1, 1) := by decide +kernel
theorem dX13_next_236 : decode cX13_next 236 = .ok (.iadd, 1) := by decide +kernel
theorem dX13_next_237 : decode cX13_next 237 = .ok (.putfield 233, 3) := by decide +kernel
theorem dX13_next_240 : decode cX13_next 240 = .ok (.goto (-91), 3) := by decide +kernel
theorem dX13_next_224 : decode cX13_next 224 = .ok (.ldc2_w 263, 3) := by decide +kernel
theorem dX13_next_71 : decode cX13_next 71 = .ok (.iconst 0, 1) := by decide +kernel
theorem dX13_next_72 : decode cX13_next 72 = .ok (.goto 42, 3) := by decide +kernel
theorem dX13_next_16 : decode cX13_next 16 = .ok (.if_icmp .ge 30, 3) := by decide +kernel
theorem dX13_next_19 : decode cX13_next 19 = .ok (.aload_n 0, 1) := by decide +kernel
theorem dX13_next_20 : decode cX13_next 20 = .ok (.getfield 35, 3) := by decide +kernel
theorem dX13_next_23 : decode cX13_next 23 = .ok (.aload_n 0, 1) := by decide +kernel
theorem dX13_next_24 : decode cX13_next 24 = .ok (.getfield 243, 3) := by decide +kernel
theorem dX13_next_27 : decode cX13_next 27 = .ok (.iaload, 1) := by decide +kernel
theorem dX13_next_28 : decode cX13_next 28 = .ok (.bipush 32, 2) := by decide +kernel
theorem dX13_next_30 : decode cX13_next 30 = .ok (.if_icmp .ne 16, 3) := by decide +kernel
theorem dX13_next_33 : decode cX13_next 33 = .ok (.aload_n 0, 1) := by decide +kernel
theorem dX13_next_34 : decode cX13_next 34 = .ok (.dup, 1) := by decide +kernel
theorem dX13_next_35 : decode cX13_next 35 = .ok (.getfield 243, 3) := by decide +kernel
theorem dX13_next_38 : decode cX13_next 38 = .ok (.iconst 1, 1) := by decide +kernel
theorem dX13_next_39 : decode cX13_next 39 = .ok (.iadd, 1) := by decide +kernel
theorem dX13_next_40 : decode cX13_next 40 = .ok (.putfield 243, 3) := by decide +kernel
theorem dX13_next_43 : decode cX13_next 43 = .ok (.goto (-35), 3) := by decide +kernel
set_option maxHeartbeats 4000000 in
set_option maxRecDepth 100000 in
theorem k_X13_next (l : Launch) (D : va_G) (cy : Nat → ClassId) (ld ad : Nat → Nat) (am : Nat) (hD : mz_D ad am) (Fa : Nat → Int32) (Ga : Nat → Int64) (Ra : Nat → Nat → Int32) (Sa : Nat → Nat → Int64) (gt : Int32) (gp : Int32) (hIF : mz_IF false Fa) (hIG : mz_IG Ga) (hIR : mz_IR [] true Ra) (hg_0 : Fa 15 = gt) (hg_1 : Fa 13 = gp) (hp_0 : 0 ≤ gp.toInt + (-1) * gt.toInt) : Met l yX13_next (wl yX13_next cX13_next 1 none) ({ frames := 4, cells := 0, slots := 0, locals := 210 }) (mz_p D cy ld ad am Fa Ga Ra Sa [.ref am]) (mz_w D cy ad am (fun F G R S => mz_IF false F ∧ mz_IG G ∧ mz_IR [] true R ∧ (∀ k : Nat, k ∉ ([14, 15, 16] : List Nat) → F k = Fa k) ∧ (∀ k : Nat, k ∉ ([] : List Nat) → R k = Ra k) ∧ (∀ k : Nat, k ∉ ([17] : List Nat) → G k = Ga k) ∧ 0 ≤ (-1) * gt.toInt + (F 14).toInt ∧ 0 ≤ (-1) * (F 14).toInt + (F 15).toInt ∧ 0 ≤ gp.toInt + (-1) * (F 15).toInt ∧ (1 ≤ (F 16).toInt → 0 ≤ (-1) * (F 14).toInt + (F 15).toInt + (-1)) ∧ (27 ≤ (G 17).toInt → 1 ≤ (F 16).toInt → (F 16).toInt ≤ 1 → 0 ≤ (-1) * (F 14).toInt + (F 15).toInt + (-2)))) 0 0 (mz_W ad am) := by
  refine mz_met (y := yX13_next) (cc := cX13_next) (maxL := 1) (ret := none) (av := [.ref am]) _ (by decide) (Nat.le_of_ble_eq_true rfl) ?_
  intro p e s m args below meth c hx hb hr hml hts htl hown hlocks hK H locs hM hS ls hl
  have hown : s.vm.findClass RX13 = some m.cls := hown
  have hl : lv_has ls 1 [(0, .ref am)] := hl
  have hq_gt := tk_rng gt
  have hq_gp := tk_rng gp
  have hr_gt : 0 ≤ gt.toInt ∧ gt.toInt ≤ 400 := hIF.at hg_0
  have hr_gp : 0 ≤ gp.toInt ∧ gp.toInt ≤ 400 := hIF.at hg_1
  refine lv_aload_n hx hb dX13_next_0 rfl (lv_at hl 0 rfl) ?_
  refine lv_aload_n hx hb dX13_next_1 rfl (lv_at hl 0 rfl) ?_
  refine mz_getI hx hb htl hown hK hM 15 (Nat.le_of_ble_eq_true rfl) rfl (htl _ mw_681) (fun _ h9 => h9) dX13_next_2 (fun v9 e9 => ?_)
  refine fx_ti (v := gt) (e9.symm.trans hg_0) ?_
  refine mz_putI (ty := .int) (x := gt) hx hb htl hown hK hD hM hS 14 (Nat.le_of_ble_eq_true rfl) rfl (htl _ mw_686) (fun _ h9 => h9) rfl (tyX13_ok 14 (by decide)) rfl rfl dX13_next_5 (fun H locs F hM hS hf9 hj9 => ?_)
  have hIF := hIF.put hf9 hj9 (show 0 ≤ (gt : Int32).toInt by omega) (show (gt : Int32).toInt ≤ 400 by omega) (by decide)
  have hFF := mz_frp (K := [14, 15, 16]) (Fa := Fa) hj9 (fun _ _ => rfl) (by decide)
  have hg_0 := (hj9 15 (by decide)).trans hg_0
  have hg_1 := (hj9 13 (by decide)).trans hg_1
  have hf2 := hf9
  have hl6265 : ∀ (N_l6265 : Nat) (v1718 : Int32) (H : Heap) (locs : List Loc) (F : Nat → Int32), (0 ≤ (-1) * gt.toInt + v1718.toInt) → (0 ≤ gp.toInt + (-1) * v1718.toInt) → (mz_S D cy ad am F Ga Ra Sa H) → (va_S (mz_W ad am) s.heap H locs) → (mz_IF false F) → (∀ k : Nat, k ∉ ([14, 15, 16] : List Nat) → F k = Fa k) → (F 15 = gt) → (F 13 = gp) → (F 14 = v1718) → ((-1) * v1718.toInt + 400 < (N_l6265 : Int)) → ∀ ls : Array Slot, lv_has ls 1 [(0, .ref am)] → W p l e ({ frames := 4, cells := 0, slots := 0, locals := 210 }) s m args below meth c H locs 0 0 (MQ below (mz_w D cy ad am (fun F G R S => mz_IF false F ∧ mz_IG G ∧ mz_IR [] true R ∧ (∀ k : Nat, k ∉ ([14, 15, 16] : List Nat) → F k = Fa k) ∧ (∀ k : Nat, k ∉ ([] : List Nat) → R k = Ra k) ∧ (∀ k : Nat, k ∉ ([17] : List Nat) → G k = Ga k) ∧ 0 ≤ (-1) * gt.toInt + (F 14).toInt ∧ 0 ≤ (-1) * (F 14).toInt + (F 15).toInt ∧ 0 ≤ gp.toInt + (-1) * (F 15).toInt ∧ (1 ≤ (F 16).toInt → 0 ≤ (-1) * (F 14).toInt + (F 15).toInt + (-1)) ∧ (27 ≤ (G 17).toInt → 1 ≤ (F 16).toInt → (F 16).toInt ≤ 1 → 0 ≤ (-1) * (F 14).toInt + (F 15).toInt + (-2)))) args s 0 0 (mz_W ad am)) (F0 m 8 ls []) := by
    intro N_l6265
    induction N_l6265 with
    | zero => intro v1718 H locs F hq0_l6265 hq1_l6265 hM hS hIF hFF hg_0 hg_1 hf2 hm_l6265 ls hl; exfalso; omega
    | succ N_l6265 ih_l6265 =>
      intro v1718 H locs F hq0_l6265 hq1_l6265 hM hS hIF hFF hg_0 hg_1 hf2 hm_l6265 ls hl
      refine lv_aload_n hx hb dX13_next_8 rfl (lv_at hl 0 rfl) ?_
      refine mz_getI hx hb htl hown hK hM 14 (Nat.le_of_ble_eq_true rfl) rfl (htl _ mw_686) (fun _ h9 => h9) dX13_next_9 (fun v9 e9 => ?_)
      refine fx_ti (v := v1718) (e9.symm.trans hf2) ?_
      refine lv_aload_n hx hb dX13_next_12 rfl (lv_at hl 0 rfl) ?_
      refine mz_getI hx hb htl hown hK hM 13 (Nat.le_of_ble_eq_true rfl) rfl (htl _ mw_431) (fun _ h9 => h9) dX13_next_13 (fun v9 e9 => ?_)
      refine fx_ti (v := gp) (e9.symm.trans hg_1) ?_
      have hj6272 : ∀ (_ : Unit), ∀ ls : Array Slot, lv_has ls 1 [(0, .ref am)] → W p l e ({ frames := 4, cells := 0, slots := 0, locals := 210 }) s m args below meth c H locs 0 0 (MQ below (mz_w D cy ad am (fun F G R S => mz_IF false F ∧ mz_IG G ∧ mz_IR [] true R ∧ (∀ k : Nat, k ∉ ([14, 15, 16] : List Nat) → F k = Fa k) ∧ (∀ k : Nat, k ∉ ([] : List Nat) → R k = Ra k) ∧ (∀ k : Nat, k ∉ ([17] : List Nat) → G k = Ga k) ∧ 0 ≤ (-1) * gt.toInt + (F 14).toInt ∧ 0 ≤ (-1) * (F 14).toInt + (F 15).toInt ∧ 0 ≤ gp.toInt + (-1) * (F 15).toInt ∧ (1 ≤ (F 16).toInt → 0 ≤ (-1) * (F 14).toInt + (F 15).toInt + (-1)) ∧ (27 ≤ (G 17).toInt → 1 ≤ (F 16).toInt → (F 16).toInt ≤ 1 → 0 ≤ (-1) * (F 14).toInt + (F 15).toInt + (-2)))) args s 0 0 (mz_W ad am)) (F0 m 46 ls []) := by
        intro _  ls hl
        refine lv_aload_n hx hb dX13_next_46 rfl (lv_at hl 0 rfl) ?_
        refine lv_aload_n hx hb dX13_next_47 rfl (lv_at hl 0 rfl) ?_
        refine mz_getI hx hb htl hown hK hM 14 (Nat.le_of_ble_eq_true rfl) rfl (htl _ mw_686) (fun _ h9 => h9) dX13_next_48 (fun v9 e9 => ?_)
        refine fx_ti (v := v1718) (e9.symm.trans hf2) ?_
        refine mz_putI (ty := .int) (x := v1718) hx hb htl hown hK hD hM hS 15 (Nat.le_of_ble_eq_true rfl) rfl (htl _ mw_681) (fun _ h9 => h9) rfl (tyX13_ok 15 (by decide)) rfl rfl dX13_next_51 (fun H locs F hM hS hf9 hj9 => ?_)
        have hIF := hIF.put hf9 hj9 (show 0 ≤ (v1718 : Int32).toInt by omega) (show (v1718 : Int32).toInt ≤ 400 by omega) (by decide)
        have hFF := mz_frp (K := [14, 15, 16]) (Fa := Fa) hj9 hFF (by decide)
        have hg_1 := (hj9 13 (by decide)).trans hg_1
        have hf2 := (hj9 14 (by decide)).trans hf2
        have hf6274 := hf9
        refine lv_aload_n hx hb dX13_next_54 rfl (lv_at hl 0 rfl) ?_
        refine lv_lconst (v := 0) hx hb dX13_next_55 (by decide) ?_
        refine mz_putJ (ty := .long) (x := 0) hx hb htl hown hK hD hM hS 17 (Nat.le_of_ble_eq_true rfl) rfl (htl _ mw_687) (fun _ h9 => h9) rfl (tyX13_ok 17 (by decide)) rfl rfl dX13_next_56 (fun H locs G hM hS hf9 hj9 => ?_)
        have hIG := hIG.put hj9 (by decide)
        have hGG := mz_frp (K := [17]) (Fa := Ga) hj9 (fun _ _ => rfl) (by decide)
        have hf6276 := hf9
        refine lv_aload_n hx hb dX13_next_59 rfl (lv_at hl 0 rfl) ?_
        refine lv_aload_n hx hb dX13_next_60 rfl (lv_at hl 0 rfl) ?_
        refine mz_getI hx hb htl hown hK hM 14 (Nat.le_of_ble_eq_true rfl) rfl (htl _ mw_686) (fun _ h9 => h9) dX13_next_61 (fun v9 e9 => ?_)
        refine fx_ti (v := v1718) (e9.symm.trans hf2) ?_
        refine lv_aload_n hx hb dX13_next_64 rfl (lv_at hl 0 rfl) ?_
        refine mz_getI hx hb htl hown hK hM 13 (Nat.le_of_ble_eq_true rfl) rfl (htl _ mw_431) (fun _ h9 => h9) dX13_next_65 (fun v9 e9 => ?_)
        refine fx_ti (v := gp) (e9.symm.trans hg_1) ?_
        refine lv_icmp_ne (tgt := 75) hx hb dX13_next_68 (by decide) (fun c9 => ?_) (fun c9 => ?_)
        · have hc6277 : ¬ (v1718.toInt = gp.toInt) := fun h9 => c9 ((fi_eq rfl rfl).mpr h9)
          refine lv_aload_n hx hb dX13_next_75 rfl (lv_at hl 0 rfl) ?_
          refine mz_getR hx hb htl hown hK hM 12 (Nat.le_of_ble_eq_true rfl) (Nat.le_of_ble_eq_true rfl) (htl _ mw_195) (fun _ h9 => h9) dX13_next_76 ?_
          refine lv_aload_n hx hb dX13_next_79 rfl (lv_at hl 0 rfl) ?_
          refine mz_getI hx hb htl hown hK hM 14 (Nat.le_of_ble_eq_true rfl) rfl (htl _ mw_686) (fun _ h9 => h9) dX13_next_80 (fun v9 e9 => ?_)
          refine fx_ti (v := v1718) (e9.symm.trans hf2) ?_
          refine mz_iald hx hb hK hM 12 (Nat.le_of_ble_eq_true rfl) rfl (nn := 400) rfl rfl (by omega) (by omega) dX13_next_83 (fun v6278 e_v6278 => ?_)
          have hq_v6278 := tk_rng v6278
          refine mz_Sj (As := [.int v6278]) (rest := [.ref am]) ⟨hx, hb, hml, hown, hts⟩ hK hM hS (k_X13_isSmall l D cy ld ad am hD _ _ _ _ v6278) ⟨callB_of 1 hts (wl_in mw_697) rfl rfl rfl (htl _ mw_5) (htl _ mw_695) hd_yX13_isSmall ⟨(Nat.le_of_ble_eq_true rfl), (Nat.le_of_ble_eq_true rfl)⟩, htl _ mw_696⟩ rfl hl.1 rfl (Nat.le_of_ble_eq_true rfl) dX13_next_84 ⟨(Nat.le_of_ble_eq_true rfl), (Nat.le_of_ble_eq_true rfl)⟩ (fun v6279 H locs hpo hM hS => ?_)
          obtain ⟨hpo6280, hpo6281, hpo6282, hpo6283, hpo6284, hpo6285⟩ := hpo
          have hq_v6279 := tk_rng v6279
          refine lv_if_eq (tgt := 94) hx hb dX13_next_87 (by decide) (fun c9 => ?_) (fun c9 => ?_)
          · have hc6287 : v6279.toInt = 0 := (fi_eq rfl (show (0 : Int32).toInt = 0 by decide)).mp c9
            refine lv_aload_n hx hb dX13_next_94 rfl (lv_at hl 0 rfl) ?_
            refine mz_getR hx hb htl hown hK hM 12 (Nat.le_of_ble_eq_true rfl) (Nat.le_of_ble_eq_true rfl) (htl _ mw_195) (fun _ h9 => h9) dX13_next_95 ?_
            refine lv_aload_n hx hb dX13_next_98 rfl (lv_at hl 0 rfl) ?_
            refine mz_getI hx hb htl hown hK hM 14 (Nat.le_of_ble_eq_true rfl) rfl (htl _ mw_686) (fun _ h9 => h9) dX13_next_99 (fun v9 e9 => ?_)
            refine fx_ti (v := v1718) (e9.symm.trans hf2) ?_
            refine mz_iald hx hb hK hM 12 (Nat.le_of_ble_eq_true rfl) rfl (nn := 400) rfl rfl (by omega) (by omega) dX13_next_102 (fun v9 e9 => ?_)
            refine fx_ti (v := v6278) (e9.symm.trans e_v6278) ?_
            refine mz_Sj (As := [.int v6278]) (rest := [.ref am]) ⟨hx, hb, hml, hown, hts⟩ hK hM hS (k_X13_isDigit l D cy ld ad am hD _ _ _ _ v6278) ⟨callB_of 1 hts (wl_in mw_700) rfl rfl rfl (htl _ mw_5) (htl _ mw_698) hd_yX13_isDigit ⟨(Nat.le_of_ble_eq_true rfl), (Nat.le_of_ble_eq_true rfl)⟩, htl _ mw_699⟩ rfl hl.1 rfl (Nat.le_of_ble_eq_true rfl) dX13_next_103 ⟨(Nat.le_of_ble_eq_true rfl), (Nat.le_of_ble_eq_true rfl)⟩ (fun v6288 H locs hpo hM hS => ?_)
            obtain ⟨hpo6289, hpo6290, hpo6291, hpo6292, hpo6293, hpo6294⟩ := hpo
            have hq_v6288 := tk_rng v6288
            refine lv_if_eq (tgt := 113) hx hb dX13_next_106 (by decide) (fun c9 => ?_) (fun c9 => ?_)
            · have hc6296 : v6288.toInt = 0 := (fi_eq rfl (show (0 : Int32).toInt = 0 by decide)).mp c9
              refine lv_iconst (v := 3) hx hb dX13_next_113 (by decide) ?_
              have hk_3 : (3 : Int32).toInt = 3 := by decide
              have hk_3 : (3 : Int32).toInt = 3 := by decide
              refine mz_putI (ty := .int) (x := 3) hx hb htl hown hK hD hM hS 16 (Nat.le_of_ble_eq_true rfl) rfl (htl _ mw_688) (fun _ h9 => h9) rfl (tyX13_ok 16 (by decide)) rfl rfl dX13_next_114 (fun H locs F hM hS hf9 hj9 => ?_)
              have hIF := hIF.put hf9 hj9 (show 0 ≤ (3 : Int32).toInt by omega) (show (3 : Int32).toInt ≤ 3 by omega) (by decide)
              have hFF := mz_frp (K := [14, 15, 16]) (Fa := Fa) hj9 hFF (by decide)
              have hg_1 := (hj9 13 (by decide)).trans hg_1
              have hf2 := (hj9 14 (by decide)).trans hf2
              have hf6274 := (hj9 15 (by decide)).trans hf6274
              have hf6298 := hf9
              refine lv_aload_n hx hb dX13_next_117 rfl (lv_at hl 0 rfl) ?_
              refine mz_getI hx hb htl hown hK hM 16 (Nat.le_of_ble_eq_true rfl) rfl (htl _ mw_688) (fun _ h9 => h9) dX13_next_118 (fun v9 e9 => ?_)
              refine fx_ti (v := 3) (e9.symm.trans hf6298) ?_
              refine lv_iconst (v := 3) hx hb dX13_next_121 (by decide) ?_
              refine lv_icmp_ne (tgt := 149) hx hb dX13_next_122 (by decide) (fun c9 => absurd (by decide) c9) (fun _ => ?_)
              refine lv_aload_n hx hb dX13_next_125 rfl (lv_at hl 0 rfl) ?_
              refine lv_aload_n hx hb dX13_next_126 rfl (lv_at hl 0 rfl) ?_
              refine mz_getR hx hb htl hown hK hM 12 (Nat.le_of_ble_eq_true rfl) (Nat.le_of_ble_eq_true rfl) (htl _ mw_195) (fun _ h9 => h9) dX13_next_127 ?_
              refine lv_aload_n hx hb dX13_next_130 rfl (lv_at hl 0 rfl) ?_
              refine mz_getI hx hb htl hown hK hM 14 (Nat.le_of_ble_eq_true rfl) rfl (htl _ mw_686) (fun _ h9 => h9) dX13_next_131 (fun v9 e9 => ?_)
              refine fx_ti (v := v1718) (e9.symm.trans hf2) ?_
              refine mz_iald hx hb hK hM 12 (Nat.le_of_ble_eq_true rfl) rfl (nn := 400) rfl rfl (by omega) (by omega) dX13_next_134 (fun v9 e9 => ?_)
              refine fx_ti (v := v6278) (e9.symm.trans e_v6278) ?_
              obtain ⟨w6299, e_w6299, h_w6299⟩ : ∃ z : Int64, v6278.toInt64 = z ∧ z.toInt = v6278.toInt := ⟨_, rfl, fl_w _⟩
              refine lv_i2l (v := w6299) hx hb dX13_next_135 e_w6299 ?_
              refine mz_putJ (ty := .long) (x := w6299) hx hb htl hown hK hD hM hS 17 (Nat.le_of_ble_eq_true rfl) rfl (htl _ mw_687) (fun _ h9 => h9) rfl (tyX13_ok 17 (by decide)) rfl rfl dX13_next_136 (fun H locs G hM hS hf9 hj9 => ?_)
              have hIG := hIG.put hj9 (by decide)
              have hGG := mz_frp (K := [17]) (Fa := Ga) hj9 hGG (by decide)
              have hf6301 := hf9
              refine lv_aload_n hx hb dX13_next_139 rfl (lv_at hl 0 rfl) ?_
              refine lv_dup hx hb dX13_next_140 rfl ?_
              refine mz_getI hx hb htl hown hK hM 15 (Nat.le_of_ble_eq_true rfl) rfl (htl _ mw_681) (fun _ h9 => h9) dX13_next_141 (fun v9 e9 => ?_)
              refine fx_ti (v := v1718) (e9.symm.trans hf6274) ?_
              refine lv_iconst (v := 1) hx hb dX13_next_144 (by decide) ?_
              refine lv_iadd hx hb dX13_next_145 ?_
              refine tk_add rfl (show (1 : Int32).toInt = 1 by decide) (by omega) (by omega) (fun v6302 h_v6302 => ?_)
              refine mz_putI (ty := .int) (x := v6302) hx hb htl hown hK hD hM hS 15 (Nat.le_of_ble_eq_true rfl) rfl (htl _ mw_681) (fun _ h9 => h9) rfl (tyX13_ok 15 (by decide)) rfl rfl dX13_next_146 (fun H locs F hM hS hf9 hj9 => ?_)
              have hIF := hIF.put hf9 hj9 (show 0 ≤ (v6302 : Int32).toInt by omega) (show (v6302 : Int32).toInt ≤ 400 by omega) (by decide)
              have hFF := mz_frp (K := [14, 15, 16]) (Fa := Fa) hj9 hFF (by decide)
              have hg_1 := (hj9 13 (by decide)).trans hg_1
              have hf2 := (hj9 14 (by decide)).trans hf2
              have hf6298 := (hj9 16 (by decide)).trans hf6298
              have hf6304 := hf9
              refine lv_aload_n hx hb dX13_next_149 rfl (lv_at hl 0 rfl) ?_
              refine mz_getI hx hb htl hown hK hM 16 (Nat.le_of_ble_eq_true rfl) rfl (htl _ mw_688) (fun _ h9 => h9) dX13_next_150 (fun v9 e9 => ?_)
              refine fx_ti (v := 3) (e9.symm.trans hf6298) ?_
              refine lv_iconst (v := 1) hx hb dX13_next_153 (by decide) ?_
              refine lv_icmp_ne (tgt := 243) hx hb dX13_next_154 (by decide) (fun _ => ?_) (fun c9 => absurd c9 (by decide))
              refine lv_aload_n hx hb dX13_next_243 rfl (lv_at hl 0 rfl) ?_
              refine mz_getI hx hb htl hown hK hM 16 (Nat.le_of_ble_eq_true rfl) rfl (htl _ mw_688) (fun _ h9 => h9) dX13_next_244 (fun v9 e9 => ?_)
              refine fx_ti (v := 3) (e9.symm.trans hf6298) ?_
              refine lv_iconst (v := 2) hx hb dX13_next_247 (by decide) ?_
              refine lv_icmp_ne (tgt := 335) hx hb dX13_next_248 (by decide) (fun _ => ?_) (fun c9 => absurd c9 (by decide))
              have hk_3 : (3 : Int32).toInt = 3 := by decide
              exact mz_vret hx hb hr hlocks ⟨hIF, hIG, hIR, hFF, (fun _ _ => rfl), hGG, (by rw [hf2]; omega), (by rw [hf2, hf6304]; omega), (by rw [hf6304]; omega), (by rw [hf2, hf6304, hf6298]; omega), (by rw [hf2, hf6304, hf6298, hf6301]; omega)⟩ hM hS dX13_next_335
            · have hc6296 : ¬ (v6288.toInt = 0) := fun h9 => c9 ((fi_eq rfl (show (0 : Int32).toInt = 0 by decide)).mpr h9)
              have hwk_6305 : 48 ≤ v6278.toInt ∧ v6278.toInt ≤ 57 := by omega
              refine lv_iconst (v := 2) hx hb dX13_next_109 (by decide) ?_
              refine lv_goto (tgt := 114) hx hb dX13_next_110 (by decide) ?_
              have hk_2 : (2 : Int32).toInt = 2 := by decide
              have hk_2 : (2 : Int32).toInt = 2 := by decide
              refine mz_putI (ty := .int) (x := 2) hx hb htl hown hK hD hM hS 16 (Nat.le_of_ble_eq_true rfl) rfl (htl _ mw_688) (fun _ h9 => h9) rfl (tyX13_ok 16 (by decide)) rfl rfl dX13_next_114 (fun H locs F hM hS hf9 hj9 => ?_)
              have hIF := hIF.put hf9 hj9 (show 0 ≤ (2 : Int32).toInt by omega) (show (2 : Int32).toInt ≤ 3 by omega) (by decide)
              have hFF := mz_frp (K := [14, 15, 16]) (Fa := Fa) hj9 hFF (by decide)
              have hg_1 := (hj9 13 (by decide)).trans hg_1
              have hf2 := (hj9 14 (by decide)).trans hf2
              have hf6274 := (hj9 15 (by decide)).trans hf6274
              have hf6307 := hf9
              refine lv_aload_n hx hb dX13_next_117 rfl (lv_at hl 0 rfl) ?_
              refine mz_getI hx hb htl hown hK hM 16 (Nat.le_of_ble_eq_true rfl) rfl (htl _ mw_688) (fun _ h9 => h9) dX13_next_118 (fun v9 e9 => ?_)
              refine fx_ti (v := 2) (e9.symm.trans hf6307) ?_
              refine lv_iconst (v := 3) hx hb dX13_next_121 (by decide) ?_
              refine lv_icmp_ne (tgt := 149) hx hb dX13_next_122 (by decide) (fun _ => ?_) (fun c9 => absurd c9 (by decide))
              refine lv_aload_n hx hb dX13_next_149 rfl (lv_at hl 0 rfl) ?_
              refine mz_getI hx hb htl hown hK hM 16 (Nat.le_of_ble_eq_true rfl) rfl (htl _ mw_688) (fun _ h9 => h9) dX13_next_150 (fun v9 e9 => ?_)
              refine fx_ti (v := 2) (e9.symm.trans hf6307) ?_
              refine lv_iconst (v := 1) hx hb dX13_next_153 (by decide) ?_
              refine lv_icmp_ne (tgt := 243) hx hb dX13_next_154 (by decide) (fun _ => ?_) (fun c9 => absurd c9 (by decide))
              refine lv_aload_n hx hb dX13_next_243 rfl (lv_at hl 0 rfl) ?_
              refine mz_getI hx hb htl hown hK hM 16 (Nat.le_of_ble_eq_true rfl) rfl (htl _ mw_688) (fun _ h9 => h9) dX13_next_244 (fun v9 e9 => ?_)
              refine fx_ti (v := 2) (e9.symm.trans hf6307) ?_
              refine lv_iconst (v := 2) hx hb dX13_next_247 (by decide) ?_
              refine lv_icmp_ne (tgt := 335) hx hb dX13_next_248 (by decide) (fun c9 => absurd (by decide) c9) (fun _ => ?_)
              refine lv_aload_n hx hb dX13_next_251 rfl (lv_at hl 0 rfl) ?_
              refine mz_getI hx hb htl hown hK hM 15 (Nat.le_of_ble_eq_true rfl) rfl (htl _ mw_681) (fun _ h9 => h9) dX13_next_252 (fun v9 e9 => ?_)
              refine fx_ti (v := v1718) (e9.symm.trans hf6274) ?_
              refine lv_aload_n hx hb dX13_next_255 rfl (lv_at hl 0 rfl) ?_
              refine mz_getI hx hb htl hown hK hM 13 (Nat.le_of_ble_eq_true rfl) rfl (htl _ mw_431) (fun _ h9 => h9) dX13_next_256 (fun v9 e9 => ?_)
              refine fx_ti (v := gp) (e9.symm.trans hg_1) ?_
              refine lv_icmp_ge (tgt := 335) hx hb dX13_next_259 (by decide) (fun c9 => absurd (show gp.toInt ≤ v1718.toInt from (fi_le rfl rfl).mp c9) (by omega)) (fun _ => ?_)
              refine lv_aload_n hx hb dX13_next_262 rfl (lv_at hl 0 rfl) ?_
              refine mz_getR hx hb htl hown hK hM 12 (Nat.le_of_ble_eq_true rfl) (Nat.le_of_ble_eq_true rfl) (htl _ mw_195) (fun _ h9 => h9) dX13_next_263 ?_
              refine lv_aload_n hx hb dX13_next_266 rfl (lv_at hl 0 rfl) ?_
              refine mz_getI hx hb htl hown hK hM 15 (Nat.le_of_ble_eq_true rfl) rfl (htl _ mw_681) (fun _ h9 => h9) dX13_next_267 (fun v9 e9 => ?_)
              refine fx_ti (v := v1718) (e9.symm.trans hf6274) ?_
              refine mz_iald hx hb hK hM 12 (Nat.le_of_ble_eq_true rfl) rfl (nn := 400) rfl rfl (by omega) (by omega) dX13_next_270 (fun v9 e9 => ?_)
              refine fx_ti (v := v6278) (e9.symm.trans e_v6278) ?_
              refine mz_Sj (As := [.int v6278]) (rest := []) ⟨hx, hb, hml, hown, hts⟩ hK hM hS (k_X13_isDigit l D cy ld ad am hD _ _ _ _ v6278) ⟨callB_of 1 hts (wl_in mw_700) rfl rfl rfl (htl _ mw_5) (htl _ mw_698) hd_yX13_isDigit ⟨(Nat.le_of_ble_eq_true rfl), (Nat.le_of_ble_eq_true rfl)⟩, htl _ mw_699⟩ rfl hl.1 rfl (Nat.le_of_ble_eq_true rfl) dX13_next_271 ⟨(Nat.le_of_ble_eq_true rfl), (Nat.le_of_ble_eq_true rfl)⟩ (fun v6308 H locs hpo hM hS => ?_)
              obtain ⟨hpo6309, hpo6310, hpo6311, hpo6312, hpo6313, hpo6314⟩ := hpo
              have hq_v6308 := tk_rng v6308
              refine lv_if_eq (tgt := 335) hx hb dX13_next_274 (by decide) (fun c9 => ?_) (fun c9 => ?_)
              · have hc6316 : v6308.toInt = 0 := (fi_eq rfl (show (0 : Int32).toInt = 0 by decide)).mp c9
                have hwk_6317 : 58 ≤ v6278.toInt := by omega
                exfalso
                omega
              · have hc6316 : ¬ (v6308.toInt = 0) := fun h9 => c9 ((fi_eq rfl (show (0 : Int32).toInt = 0 by decide)).mpr h9)
                refine lv_aload_n hx hb dX13_next_277 rfl (lv_at hl 0 rfl) ?_
                refine lv_aload_n hx hb dX13_next_278 rfl (lv_at hl 0 rfl) ?_
                refine mz_getJ hx hb htl hown hK hM 17 (Nat.le_of_ble_eq_true rfl) rfl (htl _ mw_687) (fun _ h9 => h9) dX13_next_279 (fun v9 e9 => ?_)
                refine fx_tl (v := 0) (e9.symm.trans hf6276) ?_
                refine lv_ldc2 hx hb hown (htl _ mw_692) dX13_next_282 ?_
                refine W.lcmp hx hb dX13_next_285 ?_
                refine fx_ti (v := (-1)) (by decide) ?_
                refine lv_if_le (tgt := 296) hx hb dX13_next_286 (by decide) (fun _ => ?_) (fun c9 => absurd (by decide) c9)
                refine lv_aload_n hx hb dX13_next_296 rfl (lv_at hl 0 rfl) ?_
                refine mz_getJ hx hb htl hown hK hM 17 (Nat.le_of_ble_eq_true rfl) rfl (htl _ mw_687) (fun _ h9 => h9) dX13_next_297 (fun v9 e9 => ?_)
                refine fx_tl (v := 0) (e9.symm.trans hf6276) ?_
                refine lv_ldc2 hx hb hown (htl _ mw_693) dX13_next_300 ?_
                refine lv_lmul hx hb dX13_next_303 ?_
                refine fx_tl (v := 0) (by decide) ?_
                refine lv_aload_n hx hb dX13_next_304 rfl (lv_at hl 0 rfl) ?_
                refine mz_getR hx hb htl hown hK hM 12 (Nat.le_of_ble_eq_true rfl) (Nat.le_of_ble_eq_true rfl) (htl _ mw_195) (fun _ h9 => h9) dX13_next_305 ?_
                refine lv_aload_n hx hb dX13_next_308 rfl (lv_at hl 0 rfl) ?_
                refine mz_getI hx hb htl hown hK hM 15 (Nat.le_of_ble_eq_true rfl) rfl (htl _ mw_681) (fun _ h9 => h9) dX13_next_309 (fun v9 e9 => ?_)
                refine fx_ti (v := v1718) (e9.symm.trans hf6274) ?_
                refine mz_iald hx hb hK hM 12 (Nat.le_of_ble_eq_true rfl) rfl (nn := 400) rfl rfl (by omega) (by omega) dX13_next_312 (fun v9 e9 => ?_)
                refine fx_ti (v := v6278) (e9.symm.trans e_v6278) ?_
                obtain ⟨w6318, e_w6318, h_w6318⟩ : ∃ z : Int64, v6278.toInt64 = z ∧ z.toInt = v6278.toInt := ⟨_, rfl, fl_w _⟩
                refine lv_i2l (v := w6318) hx hb dX13_next_313 e_w6318 ?_
                refine lv_ladd hx hb dX13_next_314 ?_
                refine tk_ladd (show (0 : Int64).toInt = 0 by decide) rfl (by omega) (by omega) (fun w6319 h_w6319 => ?_)
                refine lv_ldc2 hx hb hown (htl _ mw_694) dX13_next_315 ?_
                refine lv_lsub hx hb dX13_next_318 ?_
                refine tk_lsub rfl (show (48 : Int64).toInt = 48 by decide) (by omega) (by omega) (fun w6320 h_w6320 => ?_)
                refine mz_putJ (ty := .long) (x := w6320) hx hb htl hown hK hD hM hS 17 (Nat.le_of_ble_eq_true rfl) rfl (htl _ mw_687) (fun _ h9 => h9) rfl (tyX13_ok 17 (by decide)) rfl rfl dX13_next_319 (fun H locs G hM hS hf9 hj9 => ?_)
                have hIG := hIG.put hj9 (by decide)
                have hGG := mz_frp (K := [17]) (Fa := Ga) hj9 hGG (by decide)
                have hf6322 := hf9
                refine lv_aload_n hx hb dX13_next_322 rfl (lv_at hl 0 rfl) ?_
                refine lv_dup hx hb dX13_next_323 rfl ?_
                refine mz_getI hx hb htl hown hK hM 15 (Nat.le_of_ble_eq_true rfl) rfl (htl _ mw_681) (fun _ h9 => h9) dX13_next_324 (fun v9 e9 => ?_)
                refine fx_ti (v := v1718) (e9.symm.trans hf6274) ?_
                refine lv_iconst (v := 1) hx hb dX13_next_327 (by decide) ?_
                refine lv_iadd hx hb dX13_next_328 ?_
                refine tk_add rfl (show (1 : Int32).toInt = 1 by decide) (by omega) (by omega) (fun v6323 h_v6323 => ?_)
                refine mz_putI (ty := .int) (x := v6323) hx hb htl hown hK hD hM hS 15 (Nat.le_of_ble_eq_true rfl) rfl (htl _ mw_681) (fun _ h9 => h9) rfl (tyX13_ok 15 (by decide)) rfl rfl dX13_next_329 (fun H locs F hM hS hf9 hj9 => ?_)
                have hIF := hIF.put hf9 hj9 (show 0 ≤ (v6323 : Int32).toInt by omega) (show (v6323 : Int32).toInt ≤ 400 by omega) (by decide)
                have hFF := mz_frp (K := [14, 15, 16]) (Fa := Fa) hj9 hFF (by decide)
                have hg_1 := (hj9 13 (by decide)).trans hg_1
                have hf2 := (hj9 14 (by decide)).trans hf2
                have hf6307 := (hj9 16 (by decide)).trans hf6307
                have hf6325 := hf9
                refine lv_goto (tgt := 243) hx hb dX13_next_332 (by decide) ?_
                have hl6489 : ∀ (N_l6489 : Nat) (v6326 : Int64) (v6327 : Int32) (H : Heap) (locs : List Loc) (F : Nat → Int32) (G : Nat → Int64), (0 ≤ v6326.toInt) → (0 ≤ gp.toInt + (-1) * v6327.toInt) → (0 ≤ (-1) * v6323.toInt + v6327.toInt) → (mz_S D cy ad am F G Ra Sa H) → (va_S (mz_W ad am) s.heap H locs) → (mz_IF false F) → (mz_IG G) → (∀ k : Nat, k ∉ ([14, 15, 16] : List Nat) → F k = Fa k) → (∀ k : Nat, k ∉ ([17] : List Nat) → G k = Ga k) → (F 13 = gp) → (F 14 = v1718) → (F 16 = 2) → (G 17 = v6326) → (F 15 = v6327) → ((-1) * v6327.toInt + 400 < (N_l6489 : Int)) → ∀ ls : Array Slot, lv_has ls 1 [(0, .ref am)] → W p l e ({ frames := 4, cells := 0, slots := 0, locals := 210 }) s m args below meth c H locs 0 0 (MQ below (mz_w D cy ad am (fun F G R S => mz_IF false F ∧ mz_IG G ∧ mz_IR [] true R ∧ (∀ k : Nat, k ∉ ([14, 15, 16] : List Nat) → F k = Fa k) ∧ (∀ k : Nat, k ∉ ([] : List Nat) → R k = Ra k) ∧ (∀ k : Nat, k ∉ ([17] : List Nat) → G k = Ga k) ∧ 0 ≤ (-1) * gt.toInt + (F 14).toInt ∧ 0 ≤ (-1) * (F 14).toInt + (F 15).toInt ∧ 0 ≤ gp.toInt + (-1) * (F 15).toInt ∧ (1 ≤ (F 16).toInt → 0 ≤ (-1) * (F 14).toInt + (F 15).toInt + (-1)) ∧ (27 ≤ (G 17).toInt → 1 ≤ (F 16).toInt → (F 16).toInt ≤ 1 → 0 ≤ (-1) * (F 14).toInt + (F 15).toInt + (-2)))) args s 0 0 (mz_W ad am)) (F0 m 243 ls []) := by
                  intro N_l6489
                  induction N_l6489 with
                  | zero => intro v6326 v6327 H locs F G hq0_l6489 hq1_l6489 hq2_l6489 hM hS hIF hIG hFF hGG hg_1 hf2 hf6307 hf6322 hf6325 hm_l6489 ls hl; exfalso; omega
                  | succ N_l6489 ih_l6489 =>
                    intro v6326 v6327 H locs F G hq0_l6489 hq1_l6489 hq2_l6489 hM hS hIF hIG hFF hGG hg_1 hf2 hf6307 hf6322 hf6325 hm_l6489 ls hl
                    refine lv_aload_n hx hb dX13_next_243 rfl (lv_at hl 0 rfl) ?_
                    refine mz_getI hx hb htl hown hK hM 16 (Nat.le_of_ble_eq_true rfl) rfl (htl _ mw_688) (fun _ h9 => h9) dX13_next_244 (fun v9 e9 => ?_)
                    refine fx_ti (v := 2) (e9.symm.trans hf6307) ?_
                    refine lv_iconst (v := 2) hx hb dX13_next_247 (by decide) ?_
                    refine lv_icmp_ne (tgt := 335) hx hb dX13_next_248 (by decide) (fun c9 => absurd (by decide) c9) (fun _ => ?_)
                    refine lv_aload_n hx hb dX13_next_251 rfl (lv_at hl 0 rfl) ?_
                    refine mz_getI hx hb htl hown hK hM 15 (Nat.le_of_ble_eq_true rfl) rfl (htl _ mw_681) (fun _ h9 => h9) dX13_next_252 (fun v9 e9 => ?_)
                    refine fx_ti (v := v6327) (e9.symm.trans hf6325) ?_
                    refine lv_aload_n hx hb dX13_next_255 rfl (lv_at hl 0 rfl) ?_
                    refine mz_getI hx hb htl hown hK hM 13 (Nat.le_of_ble_eq_true rfl) rfl (htl _ mw_431) (fun _ h9 => h9) dX13_next_256 (fun v9 e9 => ?_)
                    refine fx_ti (v := gp) (e9.symm.trans hg_1) ?_
                    refine lv_icmp_ge (tgt := 335) hx hb dX13_next_259 (by decide) (fun c9 => ?_) (fun c9 => ?_)
                    · have hc6490 : gp.toInt ≤ v6327.toInt := (fi_le rfl rfl).mp c9
                      have hk_2 : (2 : Int32).toInt = 2 := by decide
                      exact mz_vret hx hb hr hlocks ⟨hIF, hIG, hIR, hFF, (fun _ _ => rfl), hGG, (by rw [hf2]; omega), (by rw [hf2, hf6325]; omega), (by rw [hf6325]; omega), (by rw [hf2, hf6325, hf6307]; omega), (by rw [hf2, hf6325, hf6307, hf6322]; omega)⟩ hM hS dX13_next_335
                    · have hc6490 : ¬ (gp.toInt ≤ v6327.toInt) := fun h9 => c9 ((fi_le rfl rfl).mpr h9)
                      refine lv_aload_n hx hb dX13_next_262 rfl (lv_at hl 0 rfl) ?_
                      refine mz_getR hx hb htl hown hK hM 12 (Nat.le_of_ble_eq_true rfl) (Nat.le_of_ble_eq_true rfl) (htl _ mw_195) (fun _ h9 => h9) dX13_next_263 ?_
                      refine lv_aload_n hx hb dX13_next_266 rfl (lv_at hl 0 rfl) ?_
                      refine mz_getI hx hb htl hown hK hM 15 (Nat.le_of_ble_eq_true rfl) rfl (htl _ mw_681) (fun _ h9 => h9) dX13_next_267 (fun v9 e9 => ?_)
                      refine fx_ti (v := v6327) (e9.symm.trans hf6325) ?_
                      refine mz_iald hx hb hK hM 12 (Nat.le_of_ble_eq_true rfl) rfl (nn := 400) rfl rfl (by omega) (by omega) dX13_next_270 (fun v6491 e_v6491 => ?_)
                      have hq_v6491 := tk_rng v6491
                      refine mz_Sj (As := [.int v6491]) (rest := []) ⟨hx, hb, hml, hown, hts⟩ hK hM hS (k_X13_isDigit l D cy ld ad am hD _ _ _ _ v6491) ⟨callB_of 1 hts (wl_in mw_700) rfl rfl rfl (htl _ mw_5) (htl _ mw_698) hd_yX13_isDigit ⟨(Nat.le_of_ble_eq_true rfl), (Nat.le_of_ble_eq_true rfl)⟩, htl _ mw_699⟩ rfl hl.1 rfl (Nat.le_of_ble_eq_true rfl) dX13_next_271 ⟨(Nat.le_of_ble_eq_true rfl), (Nat.le_of_ble_eq_true rfl)⟩ (fun v6492 H locs hpo hM hS => ?_)
                      obtain ⟨hpo6493, hpo6494, hpo6495, hpo6496, hpo6497, hpo6498⟩ := hpo
                      have hq_v6492 := tk_rng v6492
                      refine lv_if_eq (tgt := 335) hx hb dX13_next_274 (by decide) (fun c9 => ?_) (fun c9 => ?_)
                      · have hc6500 : v6492.toInt = 0 := (fi_eq rfl (show (0 : Int32).toInt = 0 by decide)).mp c9
                        have hk_2 : (2 : Int32).toInt = 2 := by decide
                        exact mz_vret hx hb hr hlocks ⟨hIF, hIG, hIR, hFF, (fun _ _ => rfl), hGG, (by rw [hf2]; omega), (by rw [hf2, hf6325]; omega), (by rw [hf6325]; omega), (by rw [hf2, hf6325, hf6307]; omega), (by rw [hf2, hf6325, hf6307, hf6322]; omega)⟩ hM hS dX13_next_335
                      · have hc6500 : ¬ (v6492.toInt = 0) := fun h9 => c9 ((fi_eq rfl (show (0 : Int32).toInt = 0 by decide)).mpr h9)
                        have hwk_6501 : 48 ≤ v6491.toInt ∧ v6491.toInt ≤ 57 := by omega
                        refine lv_aload_n hx hb dX13_next_277 rfl (lv_at hl 0 rfl) ?_
                        refine lv_aload_n hx hb dX13_next_278 rfl (lv_at hl 0 rfl) ?_
                        refine mz_getJ hx hb htl hown hK hM 17 (Nat.le_of_ble_eq_true rfl) rfl (htl _ mw_687) (fun _ h9 => h9) dX13_next_279 (fun v9 e9 => ?_)
                        refine fx_tl (v := v6326) (e9.symm.trans hf6322) ?_
                        refine lv_ldc2 hx hb hown (htl _ mw_692) dX13_next_282 ?_
                        refine W.lcmp hx hb dX13_next_285 ?_
                        have hj6509 : ∀ (v6508 : Int64), (0 ≤ v6508.toInt) → ∀ ls : Array Slot, lv_has ls 1 [(0, .ref am)] → W p l e ({ frames := 4, cells := 0, slots := 0, locals := 210 }) s m args below meth c H locs 0 0 (MQ below (mz_w D cy ad am (fun F G R S => mz_IF false F ∧ mz_IG G ∧ mz_IR [] true R ∧ (∀ k : Nat, k ∉ ([14, 15, 16] : List Nat) → F k = Fa k) ∧ (∀ k : Nat, k ∉ ([] : List Nat) → R k = Ra k) ∧ (∀ k : Nat, k ∉ ([17] : List Nat) → G k = Ga k) ∧ 0 ≤ (-1) * gt.toInt + (F 14).toInt ∧ 0 ≤ (-1) * (F 14).toInt + (F 15).toInt ∧ 0 ≤ gp.toInt + (-1) * (F 15).toInt ∧ (1 ≤ (F 16).toInt → 0 ≤ (-1) * (F 14).toInt + (F 15).toInt + (-1)) ∧ (27 ≤ (G 17).toInt → 1 ≤ (F 16).toInt → (F 16).toInt ≤ 1 → 0 ≤ (-1) * (F 14).toInt + (F 15).toInt + (-2)))) args s 0 0 (mz_W ad am)) (F0 m 319 ls [.long v6508, .ref am]) := by
                          intro v6508 hq0_j6509 ls hl
                          refine mz_putJ (ty := .long) (x := v6508) hx hb htl hown hK hD hM hS 17 (Nat.le_of_ble_eq_true rfl) rfl (htl _ mw_687) (fun _ h9 => h9) rfl (tyX13_ok 17 (by decide)) rfl rfl dX13_next_319 (fun H locs G hM hS hf9 hj9 => ?_)
                          have hIG := hIG.put hj9 (by decide)
                          have hGG := mz_frp (K := [17]) (Fa := Ga) hj9 hGG (by decide)
                          have hf6511 := hf9
                          refine lv_aload_n hx hb dX13_next_322 rfl (lv_at hl 0 rfl) ?_
                          refine lv_dup hx hb dX13_next_323 rfl ?_
                          refine mz_getI hx hb htl hown hK hM 15 (Nat.le_of_ble_eq_true rfl) rfl (htl _ mw_681) (fun _ h9 => h9) dX13_next_324 (fun v9 e9 => ?_)
                          refine fx_ti (v := v6327) (e9.symm.trans hf6325) ?_
                          refine lv_iconst (v := 1) hx hb dX13_next_327 (by decide) ?_
                          refine lv_iadd hx hb dX13_next_328 ?_
                          refine tk_add rfl (show (1 : Int32).toInt = 1 by decide) (by omega) (by omega) (fun v6512 h_v6512 => ?_)
                          refine mz_putI (ty := .int) (x := v6512) hx hb htl hown hK hD hM hS 15 (Nat.le_of_ble_eq_true rfl) rfl (htl _ mw_681) (fun _ h9 => h9) rfl (tyX13_ok 15 (by decide)) rfl rfl dX13_next_329 (fun H locs F hM hS hf9 hj9 => ?_)
                          have hIF := hIF.put hf9 hj9 (show 0 ≤ (v6512 : Int32).toInt by omega) (show (v6512 : Int32).toInt ≤ 400 by omega) (by decide)
                          have hFF := mz_frp (K := [14, 15, 16]) (Fa := Fa) hj9 hFF (by decide)
                          have hg_1 := (hj9 13 (by decide)).trans hg_1
                          have hf2 := (hj9 14 (by decide)).trans hf2
                          have hf6307 := (hj9 16 (by decide)).trans hf6307
                          have hf6514 := hf9
                          refine lv_goto (tgt := 243) hx hb dX13_next_332 (by decide) ?_
                          exact ih_l6489 v6508 v6512 _ _ _ _ (by omega) (by omega) (by omega) hM hS hIF hIG hFF hGG hg_1 hf2 hf6307 hf6511 hf6514 (by omega) _ (lv_sub hl [0] rfl)
                        refine lv_if_le (tgt := 296) hx hb dX13_next_286 (by decide) (fun c9 => ?_) (fun c9 => ?_)
                        · have hc6502 : v6326.toInt ≤ 1000000 := ((lg_cmp_le _ _).trans (fl_le rfl (show (1000000 : Int64).toInt = 1000000 by decide))).mp c9
                          refine lv_aload_n hx hb dX13_next_296 rfl (lv_at hl 0 rfl) ?_
                          refine mz_getJ hx hb htl hown hK hM 17 (Nat.le_of_ble_eq_true rfl) rfl (htl _ mw_687) (fun _ h9 => h9) dX13_next_297 (fun v9 e9 => ?_)
                          refine fx_tl (v := v6326) (e9.symm.trans hf6322) ?_
                          refine lv_ldc2 hx hb hown (htl _ mw_693) dX13_next_300 ?_
                          refine lv_lmul hx hb dX13_next_303 ?_
                          refine tk_lmul rfl (show (10 : Int64).toInt = 10 by decide) (by omega) (by omega) (fun w6515 h_w6515 => ?_)
                          refine lv_aload_n hx hb dX13_next_304 rfl (lv_at hl 0 rfl) ?_
                          refine mz_getR hx hb htl hown hK hM 12 (Nat.le_of_ble_eq_true rfl) (Nat.le_of_ble_eq_true rfl) (htl _ mw_195) (fun _ h9 => h9) dX13_next_305 ?_
                          refine lv_aload_n hx hb dX13_next_308 rfl (lv_at hl 0 rfl) ?_
                          refine mz_getI hx hb htl hown hK hM 15 (Nat.le_of_ble_eq_true rfl) rfl (htl _ mw_681) (fun _ h9 => h9) dX13_next_309 (fun v9 e9 => ?_)
                          refine fx_ti (v := v6327) (e9.symm.trans hf6325) ?_
                          refine mz_iald hx hb hK hM 12 (Nat.le_of_ble_eq_true rfl) rfl (nn := 400) rfl rfl (by omega) (by omega) dX13_next_312 (fun v9 e9 => ?_)
                          refine fx_ti (v := v6491) (e9.symm.trans e_v6491) ?_
                          obtain ⟨w6516, e_w6516, h_w6516⟩ : ∃ z : Int64, v6491.toInt64 = z ∧ z.toInt = v6491.toInt := ⟨_, rfl, fl_w _⟩
                          refine lv_i2l (v := w6516) hx hb dX13_next_313 e_w6516 ?_
                          refine lv_ladd hx hb dX13_next_314 ?_
                          refine tk_ladd rfl rfl (by omega) (by omega) (fun w6517 h_w6517 => ?_)
                          refine lv_ldc2 hx hb hown (htl _ mw_694) dX13_next_315 ?_
                          refine lv_lsub hx hb dX13_next_318 ?_
                          refine tk_lsub rfl (show (48 : Int64).toInt = 48 by decide) (by omega) (by omega) (fun w6518 h_w6518 => ?_)
                          exact hj6509 w6518 (by omega) _ (lv_sub hl [0] rfl)
                        · have hc6502 : ¬ (v6326.toInt ≤ 1000000) := fun h9 => c9 (((lg_cmp_le _ _).trans (fl_le rfl (show (1000000 : Int64).toInt = 1000000 by decide))).mpr h9)
                          refine lv_aload_n hx hb dX13_next_289 rfl (lv_at hl 0 rfl) ?_
                          refine mz_getJ hx hb htl hown hK hM 17 (Nat.le_of_ble_eq_true rfl) rfl (htl _ mw_687) (fun _ h9 => h9) dX13_next_290 (fun v9 e9 => ?_)
                          refine fx_tl (v := v6326) (e9.symm.trans hf6322) ?_
                          refine lv_goto (tgt := 319) hx hb dX13_next_293 (by decide) ?_
                          exact hj6509 v6326 (by omega) _ (lv_sub hl [0] rfl)
                exact hl6489 400 w6320 v6323 _ _ _ _ (by omega) (by omega) (by omega) hM hS hIF hIG hFF hGG hg_1 hf2 hf6307 hf6322 hf6325 (by omega) _ (lv_sub hl [0] rfl)
          · have hc6287 : ¬ (v6279.toInt = 0) := fun h9 => c9 ((fi_eq rfl (show (0 : Int32).toInt = 0 by decide)).mpr h9)
            have hwk_6519 : 97 ≤ v6278.toInt ∧ v6278.toInt ≤ 122 := by omega
            refine lv_iconst (v := 1) hx hb dX13_next_90 (by decide) ?_
            refine lv_goto (tgt := 114) hx hb dX13_next_91 (by decide) ?_
            have hk_1 : (1 : Int32).toInt = 1 := by decide
            have hk_1 : (1 : Int32).toInt = 1 := by decide
            refine mz_putI (ty := .int) (x := 1) hx hb htl hown hK hD hM hS 16 (Nat.le_of_ble_eq_true rfl) rfl (htl _ mw_688) (fun _ h9 => h9) rfl (tyX13_ok 16 (by decide)) rfl rfl dX13_next_114 (fun H locs F hM hS hf9 hj9 => ?_)
            have hIF := hIF.put hf9 hj9 (show 0 ≤ (1 : Int32).toInt by omega) (show (1 : Int32).toInt ≤ 3 by omega) (by decide)
            have hFF := mz_frp (K := [14, 15, 16]) (Fa := Fa) hj9 hFF (by decide)
            have hg_1 := (hj9 13 (by decide)).trans hg_1
            have hf2 := (hj9 14 (by decide)).trans hf2
            have hf6274 := (hj9 15 (by decide)).trans hf6274
            have hf6521 := hf9
            refine lv_aload_n hx hb dX13_next_117 rfl (lv_at hl 0 rfl) ?_
            refine mz_getI hx hb htl hown hK hM 16 (Nat.le_of_ble_eq_true rfl) rfl (htl _ mw_688) (fun _ h9 => h9) dX13_next_118 (fun v9 e9 => ?_)
            refine fx_ti (v := 1) (e9.symm.trans hf6521) ?_
            refine lv_iconst (v := 3) hx hb dX13_next_121 (by decide) ?_
            refine lv_icmp_ne (tgt := 149) hx hb dX13_next_122 (by decide) (fun _ => ?_) (fun c9 => absurd c9 (by decide))
            refine lv_aload_n hx hb dX13_next_149 rfl (lv_at hl 0 rfl) ?_
            refine mz_getI hx hb htl hown hK hM 16 (Nat.le_of_ble_eq_true rfl) rfl (htl _ mw_688) (fun _ h9 => h9) dX13_next_150 (fun v9 e9 => ?_)
            refine fx_ti (v := 1) (e9.symm.trans hf6521) ?_
            refine lv_iconst (v := 1) hx hb dX13_next_153 (by decide) ?_
            refine lv_icmp_ne (tgt := 243) hx hb dX13_next_154 (by decide) (fun c9 => absurd (by decide) c9) (fun _ => ?_)
            refine lv_aload_n hx hb dX13_next_157 rfl (lv_at hl 0 rfl) ?_
            refine mz_getI hx hb htl hown hK hM 15 (Nat.le_of_ble_eq_true rfl) rfl (htl _ mw_681) (fun _ h9 => h9) dX13_next_158 (fun v9 e9 => ?_)
            refine fx_ti (v := v1718) (e9.symm.trans hf6274) ?_
            refine lv_aload_n hx hb dX13_next_161 rfl (lv_at hl 0 rfl) ?_
            refine mz_getI hx hb htl hown hK hM 13 (Nat.le_of_ble_eq_true rfl) rfl (htl _ mw_431) (fun _ h9 => h9) dX13_next_162 (fun v9 e9 => ?_)
            refine fx_ti (v := gp) (e9.symm.trans hg_1) ?_
            refine lv_icmp_ge (tgt := 243) hx hb dX13_next_165 (by decide) (fun c9 => absurd (show gp.toInt ≤ v1718.toInt from (fi_le rfl rfl).mp c9) (by omega)) (fun _ => ?_)
            refine lv_aload_n hx hb dX13_next_168 rfl (lv_at hl 0 rfl) ?_
            refine mz_getR hx hb htl hown hK hM 12 (Nat.le_of_ble_eq_true rfl) (Nat.le_of_ble_eq_true rfl) (htl _ mw_195) (fun _ h9 => h9) dX13_next_169 ?_
            refine lv_aload_n hx hb dX13_next_172 rfl (lv_at hl 0 rfl) ?_
            refine mz_getI hx hb htl hown hK hM 15 (Nat.le_of_ble_eq_true rfl) rfl (htl _ mw_681) (fun _ h9 => h9) dX13_next_173 (fun v9 e9 => ?_)
            refine fx_ti (v := v1718) (e9.symm.trans hf6274) ?_
            refine mz_iald hx hb hK hM 12 (Nat.le_of_ble_eq_true rfl) rfl (nn := 400) rfl rfl (by omega) (by omega) dX13_next_176 (fun v9 e9 => ?_)
            refine fx_ti (v := v6278) (e9.symm.trans e_v6278) ?_
            refine mz_Sj (As := [.int v6278]) (rest := []) ⟨hx, hb, hml, hown, hts⟩ hK hM hS (k_X13_isSmall l D cy ld ad am hD _ _ _ _ v6278) ⟨callB_of 1 hts (wl_in mw_697) rfl rfl rfl (htl _ mw_5) (htl _ mw_695) hd_yX13_isSmall ⟨(Nat.le_of_ble_eq_true rfl), (Nat.le_of_ble_eq_true rfl)⟩, htl _ mw_696⟩ rfl hl.1 rfl (Nat.le_of_ble_eq_true rfl) dX13_next_177 ⟨(Nat.le_of_ble_eq_true rfl), (Nat.le_of_ble_eq_true rfl)⟩ (fun v6522 H locs hpo hM hS => ?_)
            obtain ⟨hpo6523, hpo6524, hpo6525, hpo6526, hpo6527, hpo6528⟩ := hpo
            have hq_v6522 := tk_rng v6522
            refine lv_if_eq (tgt := 243) hx hb dX13_next_180 (by decide) (fun c9 => ?_) (fun c9 => ?_)
            · have hc6530 : v6522.toInt = 0 := (fi_eq rfl (show (0 : Int32).toInt = 0 by decide)).mp c9
              have hwk_6531 : 123 ≤ v6278.toInt := by omega
              exfalso
              omega
            · have hc6530 : ¬ (v6522.toInt = 0) := fun h9 => c9 ((fi_eq rfl (show (0 : Int32).toInt = 0 by decide)).mpr h9)
              refine lv_aload_n hx hb dX13_next_183 rfl (lv_at hl 0 rfl) ?_
              refine lv_aload_n hx hb dX13_next_184 rfl (lv_at hl 0 rfl) ?_
              refine mz_getI hx hb htl hown hK hM 15 (Nat.le_of_ble_eq_true rfl) rfl (htl _ mw_681) (fun _ h9 => h9) dX13_next_185 (fun v9 e9 => ?_)
              refine fx_ti (v := v1718) (e9.symm.trans hf6274) ?_
              refine lv_aload_n hx hb dX13_next_188 rfl (lv_at hl 0 rfl) ?_
              refine mz_getI hx hb htl hown hK hM 14 (Nat.le_of_ble_eq_true rfl) rfl (htl _ mw_686) (fun _ h9 => h9) dX13_next_189 (fun v9 e9 => ?_)
              refine fx_ti (v := v1718) (e9.symm.trans hf2) ?_
              refine lv_isub hx hb dX13_next_192 ?_
              refine tk_sub rfl rfl (by omega) (by omega) (fun v6532 h_v6532 => ?_)
              refine lv_bipush (v := 10) hx hb dX13_next_193 (by decide) ?_
              refine lv_icmp_ge (tgt := 224) hx hb dX13_next_195 (by decide) (fun c9 => absurd (show 10 ≤ v6532.toInt from (fi_le (show (10 : Int32).toInt = 10 by decide) rfl).mp c9) (by omega)) (fun _ => ?_)
              refine lv_aload_n hx hb dX13_next_198 rfl (lv_at hl 0 rfl) ?_
              refine mz_getJ hx hb htl hown hK hM 17 (Nat.le_of_ble_eq_true rfl) rfl (htl _ mw_687) (fun _ h9 => h9) dX13_next_199 (fun v9 e9 => ?_)
              refine fx_tl (v := 0) (e9.symm.trans hf6276) ?_
              refine lv_ldc2 hx hb hown (htl _ mw_689) dX13_next_202 ?_
              refine lv_lmul hx hb dX13_next_205 ?_
              refine fx_tl (v := 0) (by decide) ?_
              refine lv_aload_n hx hb dX13_next_206 rfl (lv_at hl 0 rfl) ?_
              refine mz_getR hx hb htl hown hK hM 12 (Nat.le_of_ble_eq_true rfl) (Nat.le_of_ble_eq_true rfl) (htl _ mw_195) (fun _ h9 => h9) dX13_next_207 ?_
              refine lv_aload_n hx hb dX13_next_210 rfl (lv_at hl 0 rfl) ?_
              refine mz_getI hx hb htl hown hK hM 15 (Nat.le_of_ble_eq_true rfl) rfl (htl _ mw_681) (fun _ h9 => h9) dX13_next_211 (fun v9 e9 => ?_)
              refine fx_ti (v := v1718) (e9.symm.trans hf6274) ?_
              refine mz_iald hx hb hK hM 12 (Nat.le_of_ble_eq_true rfl) rfl (nn := 400) rfl rfl (by omega) (by omega) dX13_next_214 (fun v9 e9 => ?_)
              refine fx_ti (v := v6278) (e9.symm.trans e_v6278) ?_
              obtain ⟨w6533, e_w6533, h_w6533⟩ : ∃ z : Int64, v6278.toInt64 = z ∧ z.toInt = v6278.toInt := ⟨_, rfl, fl_w _⟩
              refine lv_i2l (v := w6533) hx hb dX13_next_215 e_w6533 ?_
              refine lv_ladd hx hb dX13_next_216 ?_
              refine tk_ladd (show (0 : Int64).toInt = 0 by decide) rfl (by omega) (by omega) (fun w6534 h_w6534 => ?_)
              refine lv_ldc2 hx hb hown (htl _ mw_690) dX13_next_217 ?_
              refine lv_lsub hx hb dX13_next_220 ?_
              refine tk_lsub rfl (show (96 : Int64).toInt = 96 by decide) (by omega) (by omega) (fun w6535 h_w6535 => ?_)
              refine lv_goto (tgt := 227) hx hb dX13_next_221 (by decide) ?_
              refine mz_putJ (ty := .long) (x := w6535) hx hb htl hown hK hD hM hS 17 (Nat.le_of_ble_eq_true rfl) rfl (htl _ mw_687) (fun _ h9 => h9) rfl (tyX13_ok 17 (by decide)) rfl rfl dX13_next_227 (fun H locs G hM hS hf9 hj9 => ?_)
              have hIG := hIG.put hj9 (by decide)
              have hGG := mz_frp (K := [17]) (Fa := Ga) hj9 hGG (by decide)
              have hf6537 := hf9
              refine lv_aload_n hx hb dX13_next_230 rfl (lv_at hl 0 rfl) ?_
              refine lv_dup hx hb dX13_next_231 rfl ?_
              refine mz_getI hx hb htl hown hK hM 15 (Nat.le_of_ble_eq_true rfl) rfl (htl _ mw_681) (fun _ h9 => h9) dX13_next_232 (fun v9 e9 => ?_)
              refine fx_ti (v := v1718) (e9.symm.trans hf6274) ?_
              refine lv_iconst (v := 1) hx hb dX13_next_235 (by decide) ?_
              refine lv_iadd hx hb dX13_next_236 ?_
              refine tk_add rfl (show (1 : Int32).toInt = 1 by decide) (by omega) (by omega) (fun v6538 h_v6538 => ?_)
              refine mz_putI (ty := .int) (x := v6538) hx hb htl hown hK hD hM hS 15 (Nat.le_of_ble_eq_true rfl) rfl (htl _ mw_681) (fun _ h9 => h9) rfl (tyX13_ok 15 (by decide)) rfl rfl dX13_next_237 (fun H locs F hM hS hf9 hj9 => ?_)
              have hIF := hIF.put hf9 hj9 (show 0 ≤ (v6538 : Int32).toInt by omega) (show (v6538 : Int32).toInt ≤ 400 by omega) (by decide)
              have hFF := mz_frp (K := [14, 15, 16]) (Fa := Fa) hj9 hFF (by decide)
              have hg_1 := (hj9 13 (by decide)).trans hg_1
              have hf2 := (hj9 14 (by decide)).trans hf2
              have hf6521 := (hj9 16 (by decide)).trans hf6521
              have hf6540 := hf9
              refine lv_goto (tgt := 149) hx hb dX13_next_240 (by decide) ?_
              have hl6948 : ∀ (N_l6948 : Nat) (v6541 : Int64) (v6542 : Int32) (H : Heap) (locs : List Loc) (F : Nat → Int32) (G : Nat → Int64), (0 ≤ gp.toInt + (-1) * v6542.toInt) → (0 ≤ (-1) * v6538.toInt + v6542.toInt) → (mz_S D cy ad am F G Ra Sa H) → (va_S (mz_W ad am) s.heap H locs) → (mz_IF false F) → (mz_IG G) → (∀ k : Nat, k ∉ ([14, 15, 16] : List Nat) → F k = Fa k) → (∀ k : Nat, k ∉ ([17] : List Nat) → G k = Ga k) → (F 13 = gp) → (F 14 = v1718) → (F 16 = 1) → (G 17 = v6541) → (F 15 = v6542) → ((27 ≤ v6541.toInt → 0 ≤ (-1) * v1718.toInt + v6542.toInt + (-2))) → ((-1) * v6542.toInt + 400 < (N_l6948 : Int)) → ∀ ls : Array Slot, lv_has ls 1 [(0, .ref am)] → W p l e ({ frames := 4, cells := 0, slots := 0, locals := 210 }) s m args below meth c H locs 0 0 (MQ below (mz_w D cy ad am (fun F G R S => mz_IF false F ∧ mz_IG G ∧ mz_IR [] true R ∧ (∀ k : Nat, k ∉ ([14, 15, 16] : List Nat) → F k = Fa k) ∧ (∀ k : Nat, k ∉ ([] : List Nat) → R k = Ra k) ∧ (∀ k : Nat, k ∉ ([17] : List Nat) → G k = Ga k) ∧ 0 ≤ (-1) * gt.toInt + (F 14).toInt ∧ 0 ≤ (-1) * (F 14).toInt + (F 15).toInt ∧ 0 ≤ gp.toInt + (-1) * (F 15).toInt ∧ (1 ≤ (F 16).toInt → 0 ≤ (-1) * (F 14).toInt + (F 15).toInt + (-1)) ∧ (27 ≤ (G 17).toInt → 1 ≤ (F 16).toInt → (F 16).toInt ≤ 1 → 0 ≤ (-1) * (F 14).toInt + (F 15).toInt + (-2)))) args s 0 0 (mz_W ad am)) (F0 m 149 ls []) := by
                intro N_l6948
                induction N_l6948 with
                | zero => intro v6541 v6542 H locs F G hq0_l6948 hq1_l6948 hM hS hIF hIG hFF hGG hg_1 hf2 hf6521 hf6537 hf6540 hc0_l6948 hm_l6948 ls hl; exfalso; omega
                | succ N_l6948 ih_l6948 =>
                  intro v6541 v6542 H locs F G hq0_l6948 hq1_l6948 hM hS hIF hIG hFF hGG hg_1 hf2 hf6521 hf6537 hf6540 hc0_l6948 hm_l6948 ls hl
                  refine lv_aload_n hx hb dX13_next_149 rfl (lv_at hl 0 rfl) ?_
                  refine mz_getI hx hb htl hown hK hM 16 (Nat.le_of_ble_eq_true rfl) rfl (htl _ mw_688) (fun _ h9 => h9) dX13_next_150 (fun v9 e9 => ?_)
                  refine fx_ti (v := 1) (e9.symm.trans hf6521) ?_
                  refine lv_iconst (v := 1) hx hb dX13_next_153 (by decide) ?_
                  refine lv_icmp_ne (tgt := 243) hx hb dX13_next_154 (by decide) (fun c9 => absurd (by decide) c9) (fun _ => ?_)
                  refine lv_aload_n hx hb dX13_next_157 rfl (lv_at hl 0 rfl) ?_
                  refine mz_getI hx hb htl hown hK hM 15 (Nat.le_of_ble_eq_true rfl) rfl (htl _ mw_681) (fun _ h9 => h9) dX13_next_158 (fun v9 e9 => ?_)
                  refine fx_ti (v := v6542) (e9.symm.trans hf6540) ?_
                  refine lv_aload_n hx hb dX13_next_161 rfl (lv_at hl 0 rfl) ?_
                  refine mz_getI hx hb htl hown hK hM 13 (Nat.le_of_ble_eq_true rfl) rfl (htl _ mw_431) (fun _ h9 => h9) dX13_next_162 (fun v9 e9 => ?_)
                  refine fx_ti (v := gp) (e9.symm.trans hg_1) ?_
                  have hj6980 : ∀ (H : Heap) (locs : List Loc), (mz_S D cy ad am F G Ra Sa H) → (va_S (mz_W ad am) s.heap H locs) → ∀ ls : Array Slot, lv_has ls 1 [(0, .ref am)] → W p l e ({ frames := 4, cells := 0, slots := 0, locals := 210 }) s m args below meth c H locs 0 0 (MQ below (mz_w D cy ad am (fun F G R S => mz_IF false F ∧ mz_IG G ∧ mz_IR [] true R ∧ (∀ k : Nat, k ∉ ([14, 15, 16] : List Nat) → F k = Fa k) ∧ (∀ k : Nat, k ∉ ([] : List Nat) → R k = Ra k) ∧ (∀ k : Nat, k ∉ ([17] : List Nat) → G k = Ga k) ∧ 0 ≤ (-1) * gt.toInt + (F 14).toInt ∧ 0 ≤ (-1) * (F 14).toInt + (F 15).toInt ∧ 0 ≤ gp.toInt + (-1) * (F 15).toInt ∧ (1 ≤ (F 16).toInt → 0 ≤ (-1) * (F 14).toInt + (F 15).toInt + (-1)) ∧ (27 ≤ (G 17).toInt → 1 ≤ (F 16).toInt → (F 16).toInt ≤ 1 → 0 ≤ (-1) * (F 14).toInt + (F 15).toInt + (-2)))) args s 0 0 (mz_W ad am)) (F0 m 243 ls []) := by
                    intro H locs hM hS ls hl
                    refine lv_aload_n hx hb dX13_next_243 rfl (lv_at hl 0 rfl) ?_
                    refine mz_getI hx hb htl hown hK hM 16 (Nat.le_of_ble_eq_true rfl) rfl (htl _ mw_688) (fun _ h9 => h9) dX13_next_244 (fun v9 e9 => ?_)
                    refine fx_ti (v := 1) (e9.symm.trans hf6521) ?_
                    refine lv_iconst (v := 2) hx hb dX13_next_247 (by decide) ?_
                    refine lv_icmp_ne (tgt := 335) hx hb dX13_next_248 (by decide) (fun _ => ?_) (fun c9 => absurd c9 (by decide))
                    have hk_1 : (1 : Int32).toInt = 1 := by decide
                    exact mz_vret hx hb hr hlocks ⟨hIF, hIG, hIR, hFF, (fun _ _ => rfl), hGG, (by rw [hf2]; omega), (by rw [hf2, hf6540]; omega), (by rw [hf6540]; omega), (by rw [hf2, hf6540, hf6521]; omega), (by rw [hf2, hf6540, hf6521, hf6537]; omega)⟩ hM hS dX13_next_335
                  refine lv_icmp_ge (tgt := 243) hx hb dX13_next_165 (by decide) (fun c9 => ?_) (fun c9 => ?_)
                  · have hc6949 : gp.toInt ≤ v6542.toInt := (fi_le rfl rfl).mp c9
                    exact hj6980 _ _ hM hS _ (lv_sub hl [0] rfl)
                  · have hc6949 : ¬ (gp.toInt ≤ v6542.toInt) := fun h9 => c9 ((fi_le rfl rfl).mpr h9)
                    refine lv_aload_n hx hb dX13_next_168 rfl (lv_at hl 0 rfl) ?_
                    refine mz_getR hx hb htl hown hK hM 12 (Nat.le_of_ble_eq_true rfl) (Nat.le_of_ble_eq_true rfl) (htl _ mw_195) (fun _ h9 => h9) dX13_next_169 ?_
                    refine lv_aload_n hx hb dX13_next_172 rfl (lv_at hl 0 rfl) ?_
                    refine mz_getI hx hb htl hown hK hM 15 (Nat.le_of_ble_eq_true rfl) rfl (htl _ mw_681) (fun _ h9 => h9) dX13_next_173 (fun v9 e9 => ?_)
                    refine fx_ti (v := v6542) (e9.symm.trans hf6540) ?_
                    refine mz_iald hx hb hK hM 12 (Nat.le_of_ble_eq_true rfl) rfl (nn := 400) rfl rfl (by omega) (by omega) dX13_next_176 (fun v6981 e_v6981 => ?_)
                    have hq_v6981 := tk_rng v6981
                    refine mz_Sj (As := [.int v6981]) (rest := []) ⟨hx, hb, hml, hown, hts⟩ hK hM hS (k_X13_isSmall l D cy ld ad am hD _ _ _ _ v6981) ⟨callB_of 1 hts (wl_in mw_697) rfl rfl rfl (htl _ mw_5) (htl _ mw_695) hd_yX13_isSmall ⟨(Nat.le_of_ble_eq_true rfl), (Nat.le_of_ble_eq_true rfl)⟩, htl _ mw_696⟩ rfl hl.1 rfl (Nat.le_of_ble_eq_true rfl) dX13_next_177 ⟨(Nat.le_of_ble_eq_true rfl), (Nat.le_of_ble_eq_true rfl)⟩ (fun v6982 H locs hpo hM hS => ?_)
                    obtain ⟨hpo6983, hpo6984, hpo6985, hpo6986, hpo6987, hpo6988⟩ := hpo
                    have hq_v6982 := tk_rng v6982
                    refine lv_if_eq (tgt := 243) hx hb dX13_next_180 (by decide) (fun c9 => ?_) (fun c9 => ?_)
                    · have hc6990 : v6982.toInt = 0 := (fi_eq rfl (show (0 : Int32).toInt = 0 by decide)).mp c9
                      exact hj6980 _ _ hM hS _ (lv_sub hl [0] rfl)
                    · have hc6990 : ¬ (v6982.toInt = 0) := fun h9 => c9 ((fi_eq rfl (show (0 : Int32).toInt = 0 by decide)).mpr h9)
                      have hwk_6991 : 97 ≤ v6981.toInt ∧ v6981.toInt ≤ 122 := by omega
                      refine lv_aload_n hx hb dX13_next_183 rfl (lv_at hl 0 rfl) ?_
                      refine lv_aload_n hx hb dX13_next_184 rfl (lv_at hl 0 rfl) ?_
                      refine mz_getI hx hb htl hown hK hM 15 (Nat.le_of_ble_eq_true rfl) rfl (htl _ mw_681) (fun _ h9 => h9) dX13_next_185 (fun v9 e9 => ?_)
                      refine fx_ti (v := v6542) (e9.symm.trans hf6540) ?_
                      refine lv_aload_n hx hb dX13_next_188 rfl (lv_at hl 0 rfl) ?_
                      refine mz_getI hx hb htl hown hK hM 14 (Nat.le_of_ble_eq_true rfl) rfl (htl _ mw_686) (fun _ h9 => h9) dX13_next_189 (fun v9 e9 => ?_)
                      refine fx_ti (v := v1718) (e9.symm.trans hf2) ?_
                      refine lv_isub hx hb dX13_next_192 ?_
                      refine tk_sub rfl rfl (by omega) (by omega) (fun v6992 h_v6992 => ?_)
                      refine lv_bipush (v := 10) hx hb dX13_next_193 (by decide) ?_
                      have hj7000 : ∀ (v6999 : Int64), ∀ ls : Array Slot, lv_has ls 1 [(0, .ref am)] → W p l e ({ frames := 4, cells := 0, slots := 0, locals := 210 }) s m args below meth c H locs 0 0 (MQ below (mz_w D cy ad am (fun F G R S => mz_IF false F ∧ mz_IG G ∧ mz_IR [] true R ∧ (∀ k : Nat, k ∉ ([14, 15, 16] : List Nat) → F k = Fa k) ∧ (∀ k : Nat, k ∉ ([] : List Nat) → R k = Ra k) ∧ (∀ k : Nat, k ∉ ([17] : List Nat) → G k = Ga k) ∧ 0 ≤ (-1) * gt.toInt + (F 14).toInt ∧ 0 ≤ (-1) * (F 14).toInt + (F 15).toInt ∧ 0 ≤ gp.toInt + (-1) * (F 15).toInt ∧ (1 ≤ (F 16).toInt → 0 ≤ (-1) * (F 14).toInt + (F 15).toInt + (-1)) ∧ (27 ≤ (G 17).toInt → 1 ≤ (F 16).toInt → (F 16).toInt ≤ 1 → 0 ≤ (-1) * (F 14).toInt + (F 15).toInt + (-2)))) args s 0 0 (mz_W ad am)) (F0 m 227 ls [.long v6999, .ref am]) := by
                        intro v6999  ls hl
                        refine mz_putJ (ty := .long) (x := v6999) hx hb htl hown hK hD hM hS 17 (Nat.le_of_ble_eq_true rfl) rfl (htl _ mw_687) (fun _ h9 => h9) rfl (tyX13_ok 17 (by decide)) rfl rfl dX13_next_227 (fun H locs G hM hS hf9 hj9 => ?_)
                        have hIG := hIG.put hj9 (by decide)
                        have hGG := mz_frp (K := [17]) (Fa := Ga) hj9 hGG (by decide)
                        have hf7002 := hf9
                        refine lv_aload_n hx hb dX13_next_230 rfl (lv_at hl 0 rfl) ?_
                        refine lv_dup hx hb dX13_next_231 rfl ?_
                        refine mz_getI hx hb htl hown hK hM 15 (Nat.le_of_ble_eq_true rfl) rfl (htl _ mw_681) (fun _ h9 => h9) dX13_next_232 (fun v9 e9 => ?_)
                        refine fx_ti (v := v6542) (e9.symm.trans hf6540) ?_
                        refine lv_iconst (v := 1) hx hb dX13_next_235 (by decide) ?_
                        refine lv_iadd hx hb dX13_next_236 ?_
                        refine tk_add rfl (show (1 : Int32).toInt = 1 by decide) (by omega) (by omega) (fun v7003 h_v7003 => ?_)
                        refine mz_putI (ty := .int) (x := v7003) hx hb htl hown hK hD hM hS 15 (Nat.le_of_ble_eq_true rfl) rfl (htl _ mw_681) (fun _ h9 => h9) rfl (tyX13_ok 15 (by decide)) rfl rfl dX13_next_237 (fun H locs F hM hS hf9 hj9 => ?_)
                        have hIF := hIF.put hf9 hj9 (show 0 ≤ (v7003 : Int32).toInt by omega) (show (v7003 : Int32).toInt ≤ 400 by omega) (by decide)
                        have hFF := mz_frp (K := [14, 15, 16]) (Fa := Fa) hj9 hFF (by decide)
                        have hg_1 := (hj9 13 (by decide)).trans hg_1
                        have hf2 := (hj9 14 (by decide)).trans hf2
                        have hf6521 := (hj9 16 (by decide)).trans hf6521
                        have hf7005 := hf9
                        refine lv_goto (tgt := 149) hx hb dX13_next_240 (by decide) ?_
                        exact ih_l6948 v6999 v7003 _ _ _ _ (by omega) (by omega) hM hS hIF hIG hFF hGG hg_1 hf2 hf6521 hf7002 hf7005 (by omega) (by omega) _ (lv_sub hl [0] rfl)
                      refine lv_icmp_ge (tgt := 224) hx hb dX13_next_195 (by decide) (fun c9 => ?_) (fun c9 => ?_)
                      · have hc6993 : 10 ≤ v6992.toInt := (fi_le (show (10 : Int32).toInt = 10 by decide) rfl).mp c9
                        refine lv_ldc2 hx hb hown (htl _ mw_691) dX13_next_224 ?_
                        have hk_m1 : ((-1) : Int64).toInt = (-1) := by decide
                        exact hj7000 (-1) _ (lv_sub hl [0] rfl)
                      · have hc6993 : ¬ (10 ≤ v6992.toInt) := fun h9 => c9 ((fi_le (show (10 : Int32).toInt = 10 by decide) rfl).mpr h9)
                        refine lv_aload_n hx hb dX13_next_198 rfl (lv_at hl 0 rfl) ?_
                        refine mz_getJ hx hb htl hown hK hM 17 (Nat.le_of_ble_eq_true rfl) rfl (htl _ mw_687) (fun _ h9 => h9) dX13_next_199 (fun v9 e9 => ?_)
                        refine fx_tl (v := v6541) (e9.symm.trans hf6537) ?_
                        refine lv_ldc2 hx hb hown (htl _ mw_689) dX13_next_202 ?_
                        refine lv_lmul hx hb dX13_next_205 ?_
                        refine tk_anyl (fun w7006 => ?_)
                        refine lv_aload_n hx hb dX13_next_206 rfl (lv_at hl 0 rfl) ?_
                        refine mz_getR hx hb htl hown hK hM 12 (Nat.le_of_ble_eq_true rfl) (Nat.le_of_ble_eq_true rfl) (htl _ mw_195) (fun _ h9 => h9) dX13_next_207 ?_
                        refine lv_aload_n hx hb dX13_next_210 rfl (lv_at hl 0 rfl) ?_
                        refine mz_getI hx hb htl hown hK hM 15 (Nat.le_of_ble_eq_true rfl) rfl (htl _ mw_681) (fun _ h9 => h9) dX13_next_211 (fun v9 e9 => ?_)
                        refine fx_ti (v := v6542) (e9.symm.trans hf6540) ?_
                        refine mz_iald hx hb hK hM 12 (Nat.le_of_ble_eq_true rfl) rfl (nn := 400) rfl rfl (by omega) (by omega) dX13_next_214 (fun v9 e9 => ?_)
                        refine fx_ti (v := v6981) (e9.symm.trans e_v6981) ?_
                        obtain ⟨w7007, e_w7007, h_w7007⟩ : ∃ z : Int64, v6981.toInt64 = z ∧ z.toInt = v6981.toInt := ⟨_, rfl, fl_w _⟩
                        refine lv_i2l (v := w7007) hx hb dX13_next_215 e_w7007 ?_
                        refine lv_ladd hx hb dX13_next_216 ?_
                        refine tk_anyl (fun w7008 => ?_)
                        refine lv_ldc2 hx hb hown (htl _ mw_690) dX13_next_217 ?_
                        refine lv_lsub hx hb dX13_next_220 ?_
                        refine tk_anyl (fun w7009 => ?_)
                        refine lv_goto (tgt := 227) hx hb dX13_next_221 (by decide) ?_
                        exact hj7000 w7009 _ (lv_sub hl [0] rfl)
              exact hl6948 400 w6535 v6538 _ _ _ _ (by omega) (by omega) hM hS hIF hIG hFF hGG hg_1 hf2 hf6521 hf6537 hf6540 (by omega) (by omega) _ (lv_sub hl [0] rfl)
        · have hc6277 : v1718.toInt = gp.toInt := (fi_eq rfl rfl).mp c9
          refine lv_iconst (v := 0) hx hb dX13_next_71 (by decide) ?_
          refine lv_goto (tgt := 114) hx hb dX13_next_72 (by decide) ?_
          have hk_0 : (0 : Int32).toInt = 0 := by decide
          have hk_0 : (0 : Int32).toInt = 0 := by decide
          refine mz_putI (ty := .int) (x := 0) hx hb htl hown hK hD hM hS 16 (Nat.le_of_ble_eq_true rfl) rfl (htl _ mw_688) (fun _ h9 => h9) rfl (tyX13_ok 16 (by decide)) rfl rfl dX13_next_114 (fun H locs F hM hS hf9 hj9 => ?_)
          have hIF := hIF.put hf9 hj9 (show 0 ≤ (0 : Int32).toInt by omega) (show (0 : Int32).toInt ≤ 3 by omega) (by decide)
          have hFF := mz_frp (K := [14, 15, 16]) (Fa := Fa) hj9 hFF (by decide)
          have hg_1 := (hj9 13 (by decide)).trans hg_1
          have hf2 := (hj9 14 (by decide)).trans hf2
          have hf6274 := (hj9 15 (by decide)).trans hf6274
          have hf7011 := hf9
          refine lv_aload_n hx hb dX13_next_117 rfl (lv_at hl 0 rfl) ?_
          refine mz_getI hx hb htl hown hK hM 16 (Nat.le_of_ble_eq_true rfl) rfl (htl _ mw_688) (fun _ h9 => h9) dX13_next_118 (fun v9 e9 => ?_)
          refine fx_ti (v := 0) (e9.symm.trans hf7011) ?_
          refine lv_iconst (v := 3) hx hb dX13_next_121 (by decide) ?_
          refine lv_icmp_ne (tgt := 149) hx hb dX13_next_122 (by decide) (fun _ => ?_) (fun c9 => absurd c9 (by decide))
          refine lv_aload_n hx hb dX13_next_149 rfl (lv_at hl 0 rfl) ?_
          refine mz_getI hx hb htl hown hK hM 16 (Nat.le_of_ble_eq_true rfl) rfl (htl _ mw_688) (fun _ h9 => h9) dX13_next_150 (fun v9 e9 => ?_)
          refine fx_ti (v := 0) (e9.symm.trans hf7011) ?_
          refine lv_iconst (v := 1) hx hb dX13_next_153 (by decide) ?_
          refine lv_icmp_ne (tgt := 243) hx hb dX13_next_154 (by decide) (fun _ => ?_) (fun c9 => absurd c9 (by decide))
          refine lv_aload_n hx hb dX13_next_243 rfl (lv_at hl 0 rfl) ?_
          refine mz_getI hx hb htl hown hK hM 16 (Nat.le_of_ble_eq_true rfl) rfl (htl _ mw_688) (fun _ h9 => h9) dX13_next_244 (fun v9 e9 => ?_)
          refine fx_ti (v := 0) (e9.symm.trans hf7011) ?_
          refine lv_iconst (v := 2) hx hb dX13_next_247 (by decide) ?_
          refine lv_icmp_ne (tgt := 335) hx hb dX13_next_248 (by decide) (fun _ => ?_) (fun c9 => absurd c9 (by decide))
          have hk_0 : (0 : Int32).toInt = 0 := by decide
          have hk_0 : (0 : Int64).toInt = 0 := by decide
          exact mz_vret hx hb hr hlocks ⟨hIF, hIG, hIR, hFF, (fun _ _ => rfl), hGG, (by rw [hf2]; omega), (by rw [hf2, hf6274]; omega), (by rw [hf6274]; omega), (by rw [hf2, hf6274, hf7011]; omega), (by rw [hf2, hf6274, hf7011, hf6276]; omega)⟩ hM hS dX13_next_335
      refine lv_icmp_ge (tgt := 46) hx hb dX13_next_16 (by decide) (fun c9 => ?_) (fun c9 => ?_)
      · have hc6266 : gp.toInt ≤ v1718.toInt := (fi_le rfl rfl).mp c9
        exact hj6272 () _ (lv_sub hl [0] rfl)
      · have hc6266 : ¬ (gp.toInt ≤ v1718.toInt) := fun h9 => c9 ((fi_le rfl rfl).mpr h9)
        refine lv_aload_n hx hb dX13_next_19 rfl (lv_at hl 0 rfl) ?_
        refine mz_getR hx hb htl hown hK hM 12 (Nat.le_of_ble_eq_true rfl) (Nat.le_of_ble_eq_true rfl) (htl _ mw_195) (fun _ h9 => h9) dX13_next_20 ?_
        refine lv_aload_n hx hb dX13_next_23 rfl (lv_at hl 0 rfl) ?_
        refine mz_getI hx hb htl hown hK hM 14 (Nat.le_of_ble_eq_true rfl) rfl (htl _ mw_686) (fun _ h9 => h9) dX13_next_24 (fun v9 e9 => ?_)
        refine fx_ti (v := v1718) (e9.symm.trans hf2) ?_
        refine mz_iald hx hb hK hM 12 (Nat.le_of_ble_eq_true rfl) rfl (nn := 400) rfl rfl (by omega) (by omega) dX13_next_27 (fun v7012 e_v7012 => ?_)
        have hq_v7012 := tk_rng v7012
        refine lv_bipush (v := 32) hx hb dX13_next_28 (by decide) ?_
        refine lv_icmp_ne (tgt := 46) hx hb dX13_next_30 (by decide) (fun c9 => ?_) (fun c9 => ?_)
        · have hc7013 : ¬ (v7012.toInt = 32) := fun h9 => c9 ((fi_eq rfl (show (32 : Int32).toInt = 32 by decide)).mpr h9)
          exact hj6272 () _ (lv_sub hl [0] rfl)
        · have hc7013 : v7012.toInt = 32 := (fi_eq rfl (show (32 : Int32).toInt = 32 by decide)).mp c9
          refine lv_aload_n hx hb dX13_next_33 rfl (lv_at hl 0 rfl) ?_
          refine lv_dup hx hb dX13_next_34 rfl ?_
          refine mz_getI hx hb htl hown hK hM 14 (Nat.le_of_ble_eq_true rfl) rfl (htl _ mw_686) (fun _ h9 => h9) dX13_next_35 (fun v9 e9 => ?_)
          refine fx_ti (v := v1718) (e9.symm.trans hf2) ?_
          refine lv_iconst (v := 1) hx hb dX13_next_38 (by decide) ?_
          refine lv_iadd hx hb dX13_next_39 ?_
          refine tk_add rfl (show (1 : Int32).toInt = 1 by decide) (by omega) (by omega) (fun v7014 h_v7014 => ?_)
          refine mz_putI (ty := .int) (x := v7014) hx hb htl hown hK hD hM hS 14 (Nat.le_of_ble_eq_true rfl) rfl (htl _ mw_686) (fun _ h9 => h9) rfl (tyX13_ok 14 (by decide)) rfl rfl dX13_next_40 (fun H locs F hM hS hf9 hj9 => ?_)
          have hIF := hIF.put hf9 hj9 (show 0 ≤ (v7014 : Int32).toInt by omega) (show (v7014 : Int32).toInt ≤ 400 by omega) (by decide)
          have hFF := mz_frp (K := [14, 15, 16]) (Fa := Fa) hj9 hFF (by decide)
          have hg_0 := (hj9 15 (by decide)).trans hg_0
          have hg_1 := (hj9 13 (by decide)).trans hg_1
          have hf7016 := hf9
          refine lv_goto (tgt := 8) hx hb dX13_next_43 (by decide) ?_
          exact ih_l6265 v7014 _ _ _ (by omega) (by omega) hM hS hIF hFF hg_0 hg_1 hf7016 (by omega) _ (lv_sub hl [0] rfl)
  exact hl6265 401 gt _ _ _ (by omega) (by omega) hM hS hIF hFF hg_0 hg_1 hf2 (by omega) _ (lv_sub hl [0] rfl)
