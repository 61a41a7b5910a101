theorem hd_yX13_readBehind : yX13_readBehind.cls ≠ "java/lang/invoke/MethodHandle" ∧ yX13_readBehind.cls ≠ "java/lang/invoke/VarHandle" ∧ (parseMethodDescriptor yX13_readBehind.desc).map (fun d => d.parameters.length) = some 2 := by decide +kernel
theorem dX13_readOrder_0 : decode cX13_readOrder 0 = .ok (.aload_n 0, 1) := by decide +kernel
theorem dX13_readOrder_1 : decode cX13_readOrder 1 = .ok (.ldc2_w 596, 3) := by decide +kernel
theorem dX13_readOrder_4 : decode cX13_readOrder 4 = .ok (.invokevirtual 296, 3) := by decide +kernel
theorem dX13_readOrder_57 : decode cX13_readOrder 57 = .ok (.istore_n 1, 1) := by decide +kernel
theorem dX13_readOrder_58 : decode cX13_readOrder 58 = .ok (.aload_n 0, 1) := by decide +kernel
theorem dX13_readOrder_59 : decode cX13_readOrder 59 = .ok (.iload_n 1, 1) := by decide +kernel
theorem dX13_readOrder_60 : decode cX13_readOrder 60 = .ok (.iconst (-1), 1) := by decide +kernel
theorem dX13_readOrder_61 : decode cX13_readOrder 61 = .ok (.if_icmp .eq 16, 3) := by decide +kernel
theorem dX13_readOrder_77 : decode cX13_readOrder 77 = .ok (.iconst 0, 1) := by decide +kernel
theorem dX13_readOrder_78 : decode cX13_readOrder 78 = .ok (.invokevirtual 271, 3) := by decide +kernel
theorem dX13_readOrder_81 : decode cX13_readOrder 81 = .ok (.aload_n 0, 1) := by decide +kernel
theorem dX13_readOrder_82 : decode cX13_readOrder 82 = .ok (.getfield 236, 3) := by decide +kernel
theorem dX13_readOrder_85 : decode cX13_readOrder 85 = .ok (.ifCond .eq 4, 3) := by decide +kernel
theorem dX13_readOrder_88 : decode cX13_readOrder 88 = .ok (.return_, 1) := by decide +kernel
theorem dX13_readOrder_64 : decode cX13_readOrder 64 = .ok (.aload_n 0, 1) := by decide +kernel
theorem dX13_readOrder_65 : decode cX13_readOrder 65 = .ok (.getfield 369, 3) := by decide +kernel
theorem dX13_readOrder_68 : decode cX13_readOrder 68 = .ok (.bipush 12, 2) := by decide +kernel
theorem dX13_readOrder_70 : decode cX13_readOrder 70 = .ok (.if_icmp .ge 7, 3) := by decide +kernel
theorem dX13_readOrder_73 : decode cX13_readOrder 73 = .ok (.iconst 1, 1) := by decide +kernel
theorem dX13_readOrder_74 : decode cX13_readOrder 74 = .ok (.goto 4, 3) := by decide +kernel
theorem dX13_readOrder_89 : decode cX13_readOrder 89 = .ok (.bipush 10, 2) := by decide +kernel
theorem dX13_readOrder_91 : decode cX13_readOrder 91 = .ok (.aload_n 0, 1) := by decide +kernel
theorem dX13_readOrder_92 : decode cX13_readOrder 92 = .ok (.getfield 369, 3) := by decide +kernel
theorem dX13_readOrder_95 : decode cX13_readOrder 95 = .ok (.imul, 1) := by decide +kernel
theorem dX13_readOrder_96 : decode cX13_readOrder 96 = .ok (.istore_n 2, 1) := by decide +kernel
theorem dX13_readOrder_97 : decode cX13_readOrder 97 = .ok (.aload_n 0, 1) := by decide +kernel
theorem dX13_readOrder_98 : decode cX13_readOrder 98 = .ok (.dup, 1) := by decide +kernel
theorem dX13_readOrder_99 : decode cX13_readOrder 99 = .ok (.getfield 369, 3) := by decide +kernel
theorem dX13_readOrder_102 : decode cX13_readOrder 102 = .ok (.iconst 1, 1) := by decide +kernel
theorem dX13_readOrder_103 : decode cX13_readOrder 103 = .ok (.iadd, 1) := by decide +kernel
theorem dX13_readOrder_104 : decode cX13_readOrder 104 = .ok (.putfield 369, 3) := by decide +kernel
theorem dX13_readOrder_107 : decode cX13_readOrder 107 = .ok (.iconst 0, 1) := by decide +kernel
theorem dX13_readOrder_108 : decode cX13_readOrder 108 = .ok (.istore_n 3, 1) := by decide +kernel
theorem dX13_readOrder_109 : decode cX13_readOrder 109 = .ok (.iload_n 3, 1) := by decide +kernel
theorem dX13_readOrder_110 : decode cX13_readOrder 110 = .ok (.bipush 10, 2) := by decide +kernel
theorem dX13_readOrder_112 : decode cX13_readOrder 112 = .ok (.if_icmp .ge 18, 3) := by decide +kernel
theorem dX13_readOrder_130 : decode cX13_readOrder 130 = .ok (.aload_n 0, 1) := by decide +kernel
theorem dX13_readOrder_131 : decode cX13_readOrder 131 = .ok (.getfield 149, 3) := by decide +kernel
theorem dX13_readOrder_134 : decode cX13_readOrder 134 = .ok (.iload_n 2, 1) := by decide +kernel
theorem dX13_readOrder_135 : decode cX13_readOrder 135 = .ok (.iload_n 1, 1) := by decide +kernel
theorem dX13_readOrder_136 : decode cX13_readOrder 136 = .ok (.iastore, 1) := by decide +kernel
theorem dX13_readOrder_137 : decode cX13_readOrder 137 = .ok (.iload_n 1, 1) := by decide +kernel
theorem dX13_readOrder_138 : decode cX13_readOrder 138 = .ok (.iconst 2, 1) := by decide +kernel
theorem dX13_readOrder_139 : decode cX13_readOrder 139 = .ok (.if_icmp .ge 10, 3) := by decide +kernel
theorem dX13_readOrder_149 : decode cX13_readOrder 149 = .ok (.iload_n 1, 1) := by decide +kernel
theorem dX13_readOrder_150 : decode cX13_readOrder 150 = .ok (.ifCond .ne 23, 3) := by decide +kernel
theorem dX13_readOrder_173 : decode cX13_readOrder 173 = .ok (.aload_n 0, 1) := by decide +kernel
theorem dX13_readOrder_174 : decode cX13_readOrder 174 = .ok (.getfield 149, 3) := by decide +kernel
theorem dX13_readOrder_177 : decode cX13_readOrder 177 = .ok (.iload_n 2, 1) := by decide +kernel
theorem dX13_readOrder_178 : decode cX13_readOrder 178 = .ok (.bipush 9, 2) := by decide +kernel
theorem dX13_readOrder_180 : decode cX13_readOrder 180 = .ok (.iadd, 1) := by decide +kernel
theorem dX13_readOrder_181 : decode cX13_readOrder 181 = .ok (.iconst 1, 1) := by decide +kernel
theorem dX13_readOrder_182 : decode cX13_readOrder 182 = .ok (.iastore, 1) := by decide +kernel
theorem dX13_readOrder_183 : decode cX13_readOrder 183 = .ok (.aload_n 0, 1) := by decide +kernel
theorem dX13_readOrder_184 : decode cX13_readOrder 184 = .ok (.getfield 236, 3) := by decide +kernel
theorem dX13_readOrder_187 : decode cX13_readOrder 187 = .ok (.ifCond .ne 34, 3) := by decide +kernel
theorem dX13_readOrder_190 : decode cX13_readOrder 190 = .ok (.aload_n 0, 1) := by decide +kernel
theorem dX13_readOrder_191 : decode cX13_readOrder 191 = .ok (.ldc2_w 612, 3) := by decide +kernel
theorem dX13_readOrder_194 : decode cX13_readOrder 194 = .ok (.invokevirtual 296, 3) := by decide +kernel
theorem dX13_readOrder_197 : decode cX13_readOrder 197 = .ok (.ifCond .eq 24, 3) := by decide +kernel
theorem dX13_readOrder_221 : decode cX13_readOrder 221 = .ok (.aload_n 0, 1) := by decide +kernel
theorem dX13_readOrder_222 : decode cX13_readOrder 222 = .ok (.getfield 149, 3) := by decide +kernel
theorem dX13_readOrder_225 : decode cX13_readOrder 225 = .ok (.iload_n 2, 1) := by decide +kernel
theorem dX13_readOrder_226 : decode cX13_readOrder 226 = .ok (.bipush 7, 2) := by decide +kernel
theorem dX13_readOrder_228 : decode cX13_readOrder 228 = .ok (.iadd, 1) := by decide +kernel
theorem dX13_readOrder_229 : decode cX13_readOrder 229 = .ok (.aload_n 0, 1) := by decide +kernel
theorem dX13_readOrder_230 : decode cX13_readOrder 230 = .ok (.getfield 275, 3) := by decide +kernel
theorem dX13_readOrder_233 : decode cX13_readOrder 233 = .ok (.iastore, 1) := by decide +kernel
theorem dX13_readOrder_234 : decode cX13_readOrder 234 = .ok (.aload_n 0, 1) := by decide +kernel
theorem dX13_readOrder_235 : decode cX13_readOrder 235 = .ok (.getfield 236, 3) := by decide +kernel
theorem dX13_readOrder_238 : decode cX13_readOrder 238 = .ok (.ifCond .ne 22, 3) := by decide +kernel
theorem dX13_readOrder_241 : decode cX13_readOrder 241 = .ok (.aload_n 0, 1) := by decide +kernel
theorem dX13_readOrder_242 : decode cX13_readOrder 242 = .ok (.ldc2_w 375, 3) := by decide +kernel
theorem dX13_readOrder_245 : decode cX13_readOrder 245 = .ok (.invokevirtual 296, 3) := by decide +kernel
theorem dX13_readOrder_248 : decode cX13_readOrder 248 = .ok (.ifCond .eq 12, 3) := by decide +kernel
theorem dX13_readOrder_260 : decode cX13_readOrder 260 = .ok (.aload_n 0, 1) := by decide +kernel
theorem dX13_readOrder_261 : decode cX13_readOrder 261 = .ok (.getfield 149, 3) := by decide +kernel
theorem dX13_readOrder_264 : decode cX13_readOrder 264 = .ok (.iload_n 2, 1) := by decide +kernel
theorem dX13_readOrder_265 : decode cX13_readOrder 265 = .ok (.bipush 8, 2) := by decide +kernel
theorem dX13_readOrder_267 : decode cX13_readOrder 267 = .ok (.iadd, 1) := by decide +kernel
theorem dX13_readOrder_268 : decode cX13_readOrder 268 = .ok (.aload_n 0, 1) := by decide +kernel
theorem dX13_readOrder_269 : decode cX13_readOrder 269 = .ok (.getfield 275, 3) := by decide +kernel
theorem dX13_readOrder_272 : decode cX13_readOrder 272 = .ok (.iastore, 1) := by decide +kernel
theorem dX13_readOrder_273 : decode cX13_readOrder 273 = .ok (.return_, 1) := by decide +kernel
theorem dX13_readOrder_251 : decode cX13_readOrder 251 = .ok (.aload_n 0, 1) := by decide +kernel
theorem dX13_readOrder_252 : decode cX13_readOrder 252 = .ok (.invokevirtual 240, 3) := by decide +kernel
theorem dX13_readOrder_255 : decode cX13_readOrder 255 = .ok (.aload_n 0, 1) := by decide +kernel
theorem dX13_readOrder_256 : decode cX13_readOrder 256 = .ok (.iconst 1, 1) := by decide +kernel
theorem dX13_readOrder_257 : decode cX13_readOrder 257 = .ok (.invokevirtual 372, 3) := by decide +kernel
theorem dX13_readOrder_200 : decode cX13_readOrder 200 = .ok (.aload_n 0, 1) := by decide +kernel
theorem dX13_readOrder_201 : decode cX13_readOrder 201 = .ok (.invokevirtual 240, 3) := by decide +kernel
theorem dX13_readOrder_204 : decode cX13_readOrder 204 = .ok (.aload_n 0, 1) := by decide +kernel
theorem dX13_readOrder_205 : decode cX13_readOrder 205 = .ok (.getfield 149, 3) := by decide +kernel
theorem dX13_readOrder_208 : decode cX13_readOrder 208 = .ok (.iload_n 2, 1) := by decide +kernel
theorem dX13_readOrder_209 : decode cX13_readOrder 209 = .ok (.bipush 9, 2) := by decide +kernel
theorem dX13_readOrder_211 : decode cX13_readOrder 211 = .ok (.iadd, 1) := by decide +kernel
theorem dX13_readOrder_212 : decode cX13_readOrder 212 = .ok (.aload_n 0, 1) := by decide +kernel
theorem dX13_readOrder_213 : decode cX13_readOrder 213 = .ok (.lconst 1, 1) := by decide +kernel
theorem dX13_readOrder_214 : decode cX13_readOrder 214 = .ok (.ldc2_w 288, 3) := by decide +kernel
theorem dX13_readOrder_217 : decode cX13_readOrder 217 = .ok (.invokevirtual 333, 3) := by decide +kernel
theorem dX13_readOrder_220 : decode cX13_readOrder 220 = .ok (.iastore, 1) := by decide +kernel
theorem dX13_readOrder_142 : decode cX13_readOrder 142 = .ok (.aload_n 0, 1) := by decide +kernel
theorem dX13_readOrder_143 : decode cX13_readOrder 143 = .ok (.iload_n 2, 1) := by decide +kernel
theorem dX13_readOrder_144 : decode cX13_readOrder 144 = .ok (.iconst 1, 1) := by decide +kernel
theorem dX13_readOrder_145 : decode cX13_readOrder 145 = .ok (.iadd, 1) := by decide +kernel
theorem dX13_readOrder_146 : decode cX13_readOrder 146 = .ok (.invokevirtual 593, 3) := by decide +kernel
theorem dX13_readOrder_153 : decode cX13_readOrder 153 = .ok (.aload_n 0, 1) := by decide +kernel
theorem dX13_readOrder_154 : decode cX13_readOrder 154 = .ok (.iload_n 2, 1) := by decide +kernel
theorem dX13_readOrder_155 : decode cX13_readOrder 155 = .ok (.iconst 3, 1) := by decide +kernel
theorem dX13_readOrder_156 : decode cX13_readOrder 156 = .ok (.iadd, 1) := by decide +kernel
theorem dX13_readOrder_157 : decode cX13_readOrder 157 = .ok (.ldc2_w 604, 3) := by decide +kernel
theorem dX13_readOrder_160 : decode cX13_readOrder 160 = .ok (.invokevirtual 606, 3) := by decide +kernel
theorem dX13_readOrder_163 : decode cX13_readOrder 163 = .ok (.aload_n 0, 1) := by decide +kernel
theorem dX13_readOrder_164 : decode cX13_readOrder 164 = .ok (.iload_n 2, 1) := by decide +kernel
theorem dX13_readOrder_165 : decode cX13_readOrder 165 = .ok (.iconst 5, 1) := by decide +kernel
theorem dX13_readOrder_166 : decode cX13_readOrder 166 = .ok (.iadd, 1) := by decide +kernel
theorem dX13_readOrder_167 : decode cX13_readOrder 167 = .ok (.ldc2_w 610, 3) := by decide +kernel
theorem dX13_readOrder_170 : decode cX13_readOrder 170 = .ok (.invokevirtual 606, 3) := by decide +kernel
theorem dX13_readOrder_115 : decode cX13_readOrder 115 = .ok (.aload_n 0, 1) := by decide +kernel
theorem dX13_readOrder_116 : decode cX13_readOrder 116 = .ok (.getfield 149, 3) := by decide +kernel
theorem dX13_readOrder_119 : decode cX13_readOrder 119 = .ok (.iload_n 2, 1) := by decide +kernel
theorem dX13_readOrder_120 : decode cX13_readOrder 120 = .ok (.iload_n 3, 1) := by decide +kernel
theorem dX13_readOrder_121 : decode cX13_readOrder 121 = .ok (.iadd, 1) := by decide +kernel
theorem dX13_readOrder_122 : decode cX13_readOrder 122 = .ok (.iconst 0, 1) := by decide +kernel
theorem dX13_readOrder_123 : decode cX13_readOrder 123 = .ok (.iastore, 1) := by decide +kernel
theorem dX13_readOrder_124 : decode cX13_readOrder 124 = .ok (.iinc 3 1, 3) := by decide +kernel
theorem dX13_readOrder_127 : decode cX13_readOrder 127 = .ok (.goto (-18), 3) := by decide +kernel
theorem dX13_readOrder_7 : decode cX13_readOrder 7 = .ok (.ifCond .eq 7, 3) := by decide +kernel
theorem dX13_readOrder_14 : decode cX13_readOrder 14 = .ok (.aload_n 0, 1) := by decide +kernel
theorem dX13_readOrder_15 : decode cX13_readOrder 15 = .ok (.ldc2_w 598, 3) := by decide +kernel
theorem dX13_readOrder_18 : decode cX13_readOrder 18 = .ok (.invokevirtual 296, 3) := by decide +kernel
theorem dX13_readOrder_21 : decode cX13_readOrder 21 = .ok (.ifCond .eq 7, 3) := by decide +kernel
theorem dX13_readOrder_28 : decode cX13_readOrder 28 = .ok (.aload_n 0, 1) := by decide +kernel
theorem dX13_readOrder_29 : decode cX13_readOrder 29 = .ok (.ldc2_w 600, 3) := by decide +kernel
theorem dX13_readOrder_32 : decode cX13_readOrder 32 = .ok (.invokevirtual 296, 3) := by decide +kernel
theorem dX13_readOrder_35 : decode cX13_readOrder 35 = .ok (.ifCond .eq 7, 3) := by decide +kernel
theorem dX13_readOrder_42 : decode cX13_readOrder 42 = .ok (.aload_n 0, 1) := by decide +kernel
theorem dX13_readOrder_43 : decode cX13_readOrder 43 = .ok (.ldc2_w 602, 3) := by decide +kernel
theorem dX13_readOrder_46 : decode cX13_readOrder 46 = .ok (.invokevirtual 296, 3) := by decide +kernel
theorem dX13_readOrder_49 : decode cX13_readOrder 49 = .ok (.ifCond .eq 7, 3) := by decide +kernel
theorem dX13_readOrder_56 : decode cX13_readOrder 56 = .ok (.iconst (-1), 1) := by decide +kernel
theorem dX13_readOrder_52 : decode cX13_readOrder 52 = .ok (.iconst 3, 1) := by decide +kernel
theorem dX13_readOrder_53 : decode cX13_readOrder 53 = .ok (.goto 4, 3) := by decide +kernel
theorem dX13_readOrder_38 : decode cX13_readOrder 38 = .ok (.iconst 2, 1) := by decide +kernel
theorem dX13_readOrder_39 : decode cX13_readOrder 39 = .ok (.goto 18, 3) := by decide +kernel
theorem dX13_readOrder_24 : decode cX13_readOrder 24 = .ok (.iconst 1, 1) := by decide +kernel
theorem dX13_readOrder_25 : decode cX13_readOrder 25 = .ok (.goto 32, 3) := by decide +kernel
theorem dX13_readOrder_10 : decode cX13_readOrder 10 = .ok (.iconst 0, 1) := by decide +kernel
theorem dX13_readOrder_11 : decode cX13_readOrder 11 = .ok (.goto 46, 3) := by decide +kernel
set_option maxHeartbeats 16000000 in
set_option maxRecDepth 100000 in
theorem k_X13_readOrder (l : Launch) (D : va_G) (cy : Nat → ClassId) (ld ad : Nat → Nat) (am : Nat) (hD : mz_D ad am) (Fa : Nat → Int32) (Ga : Nat → Int64) (Ra : Nat → Nat → Int32) (Sa : Nat → Nat → Int64) (gf : Int32) (gt : Int32) (gs : Int32) (gp : Int32) (gw : Int64) (gb : Int32) (gc : Int32) (gn : Int32) (hIF : mz_IF false Fa) (hIG : mz_IG Ga) (hIR : mz_IR [] true Ra) (hg_0 : Fa 14 = gf) (hg_1 : Fa 15 = gt) (hg_2 : Fa 16 = gs) (hg_3 : Fa 13 = gp) (hg_4 : Ga 17 = gw) (hg_5 : Fa 19 = gb) (hg_6 : Fa 23 = gc) (hg_7 : Fa 21 = gn) (hp_0 : 0 ≤ (-1) * gf.toInt + gt.toInt) (hp_1 : 0 ≤ gp.toInt + (-1) * gt.toInt) (hp_2 : (1 ≤ gs.toInt → 0 ≤ (-1) * gf.toInt + gt.toInt + (-1))) (hp_3 : (27 ≤ gw.toInt → 1 ≤ gs.toInt → gs.toInt ≤ 1 → 0 ≤ (-1) * gf.toInt + gt.toInt + (-2))) (hp_4 : 0 ≤ (-1) * gc.toInt + gf.toInt) (hp_5 : gb.toInt ≤ 0) (hx_0 : CLS 10 [1, 3, 5, 7] (Ra 24) (Ra 25) (Ra 61) gc.toInt gn.toInt) (hx_1 : TMS (Ra 61) gn.toInt) : Met l yX13_readOrder (wl yX13_readOrder cX13_readOrder 4 none) ({ frames := 12, cells := 0, slots := 0, locals := 770 }) (mz_p D cy ld ad am Fa Ga Ra Sa [.ref am]) (mz_w D cy ad am (fun F G R S => mz_IF false F ∧ mz_IG G ∧ mz_IR [] true R ∧ (∀ k : Nat, k ∉ ([14, 15, 16, 18, 19, 21, 23, 26, 29, 30] : List Nat) → F k = Fa k) ∧ (∀ k : Nat, k ∉ ([24, 25, 27, 28, 61] : List Nat) → R k = Ra k) ∧ (∀ k : Nat, k ∉ ([17] : List Nat) → G k = Ga k) ∧ 0 ≤ (-1) * (F 14).toInt + (F 15).toInt ∧ 0 ≤ gp.toInt + (-1) * (F 15).toInt ∧ (1 ≤ (F 16).toInt → 0 ≤ (-1) * (F 14).toInt + (F 15).toInt + (-1)) ∧ (27 ≤ (G 17).toInt → 1 ≤ (F 16).toInt → (F 16).toInt ≤ 1 → 0 ≤ (-1) * (F 14).toInt + (F 15).toInt + (-2)) ∧ 0 ≤ (-1) * gf.toInt + (F 14).toInt ∧ 0 ≤ (-1) * gc.toInt + (F 23).toInt ∧ 0 ≤ (-1) * (F 23).toInt + (F 14).toInt ∧ 0 ≤ (-1) * gb.toInt + (F 19).toInt ∧ ((F 19).toInt ≤ 0 → 0 ≤ (-1) * gf.toInt + (F 14).toInt + (-1)) ∧ ((F 19).toInt = 0 → CLS 10 [1, 3, 5, 7] (R 24) (R 25) (R 61) (F 23).toInt (F 21).toInt) ∧ ((F 19).toInt = 0 → TMS (R 61) (F 21).toInt))) 0 0 (mz_W ad am) := by
  refine mz_met (y := yX13_readOrder) (cc := cX13_readOrder) (maxL := 4) (ret := none) (av := [.ref am]) _ (by decide) (Nat.le_of_ble_eq_true rfl) ?_
  intro p e s m args below meth c hx hb hr hml hts htl hown hlocks hK H locs hM hS ls hl
  have hown : s.vm.findClass RX13 = some m.cls := hown
  have hl : lv_has ls 4 [(0, .ref am)] := hl
  have hq_gf := tk_rng gf
  have hq_gt := tk_rng gt
  have hq_gs := tk_rng gs
  have hq_gp := tk_rng gp
  have hq_gw := tk_rngL gw
  have hq_gb := tk_rng gb
  have hq_gc := tk_rng gc
  have hq_gn := tk_rng gn
  have hr_gf : 0 ≤ gf.toInt ∧ gf.toInt ≤ 400 := hIF.at hg_0
  have hr_gt : 0 ≤ gt.toInt ∧ gt.toInt ≤ 400 := hIF.at hg_1
  have hr_gs : 0 ≤ gs.toInt ∧ gs.toInt ≤ 3 := hIF.at hg_2
  have hr_gp : 0 ≤ gp.toInt ∧ gp.toInt ≤ 400 := hIF.at hg_3
  have hr_gb : 0 ≤ gb.toInt ∧ gb.toInt ≤ 1 := hIF.at hg_5
  have hr_gc : 0 ≤ gc.toInt ∧ gc.toInt ≤ 400 := hIF.at hg_6
  have hr_gn : 0 ≤ gn.toInt ∧ gn.toInt ≤ 12 := hIF.at hg_7
  have hL22 := low.refl (10 * gn.toInt.toNat) (Ra 61)
  have hC : gb.toInt = 0 → CLS 10 [1, 3, 5, 7] (Ra 24) (Ra 25) (Ra 61) gc.toInt gn.toInt := fun _ => hx_0
  refine lv_aload_n hx hb dX13_readOrder_0 rfl (lv_at hl 0 rfl) ?_
  refine lv_ldc2 hx hb hown (htl _ mw_1015) dX13_readOrder_1 ?_
  have hk_2268462 : (2268462 : Int64).toInt = 2268462 := by decide
  refine mz_Vj (As := [.long 2268462]) (rest := []) ⟨hx, hb, hml, hown, hts⟩ hK hM hS (k_X13_isWord l D cy ld ad am hD _ _ _ _ 2268462 gs gw hIF hIG hIR hg_2 hg_4) ⟨callB_of 1 hts (wl_in mw_709) rfl rfl rfl (htl _ mw_5) (htl _ mw_706) hd_yX13_isWord ⟨(Nat.le_of_ble_eq_true rfl), (Nat.le_of_ble_eq_true rfl)⟩, htl _ mw_707, htl _ mw_708⟩ rfl hl.1 rfl (Nat.le_of_ble_eq_true rfl) dX13_readOrder_4 ⟨(Nat.le_of_ble_eq_true rfl), (Nat.le_of_ble_eq_true rfl)⟩ (fun v1 H locs hpo hM hS => ?_)
  obtain ⟨hpo2, hpo3, hpo4, hpo5, hpo6⟩ := hpo
  have hq_v1 := tk_rng v1
  have hj40 : ∀ (v38 : Int32) (H : Heap) (locs : List Loc), (v38.toInt ≤ 3) → (0 ≤ gt.toInt + (-1) * v38.toInt + 1) → (0 ≤ (-1) * gb.toInt + v38.toInt + 1) → (mz_S D cy ad am Fa Ga Ra Sa H) → (va_S (mz_W ad am) s.heap H locs) → ((0 ≤ v38.toInt → gs.toInt + (-1) = 0)) → ∀ ls : Array Slot, lv_has ls 4 [(0, .ref am)] → W p l e ({ frames := 12, cells := 0, slots := 0, locals := 770 }) s m args below meth c H locs 0 0 (MQ below (mz_w D cy ad am (fun F G R S => mz_IF false F ∧ mz_IG G ∧ mz_IR [] true R ∧ (∀ k : Nat, k ∉ ([14, 15, 16, 18, 19, 21, 23, 26, 29, 30] : List Nat) → F k = Fa k) ∧ (∀ k : Nat, k ∉ ([24, 25, 27, 28, 61] : List Nat) → R k = Ra k) ∧ (∀ k : Nat, k ∉ ([17] : List Nat) → G k = Ga k) ∧ 0 ≤ (-1) * (F 14).toInt + (F 15).toInt ∧ 0 ≤ gp.toInt + (-1) * (F 15).toInt ∧ (1 ≤ (F 16).toInt → 0 ≤ (-1) * (F 14).toInt + (F 15).toInt + (-1)) ∧ (27 ≤ (G 17).toInt → 1 ≤ (F 16).toInt → (F 16).toInt ≤ 1 → 0 ≤ (-1) * (F 14).toInt + (F 15).toInt + (-2)) ∧ 0 ≤ (-1) * gf.toInt + (F 14).toInt ∧ 0 ≤ (-1) * gc.toInt + (F 23).toInt ∧ 0 ≤ (-1) * (F 23).toInt + (F 14).toInt ∧ 0 ≤ (-1) * gb.toInt + (F 19).toInt ∧ ((F 19).toInt ≤ 0 → 0 ≤ (-1) * gf.toInt + (F 14).toInt + (-1)) ∧ ((F 19).toInt = 0 → CLS 10 [1, 3, 5, 7] (R 24) (R 25) (R 61) (F 23).toInt (F 21).toInt) ∧ ((F 19).toInt = 0 → TMS (R 61) (F 21).toInt))) args s 0 0 (mz_W ad am)) (F0 m 57 ls [.int v38]) := by
    intro v38 H locs hq0_j40 hq1_j40 hq2_j40 hM hS hc0_j40 ls hl
    refine lv_istore_n (lv' := [(1, .int v38), (0, .ref am)]) hx hb dX13_readOrder_57 rfl hl (by decide) rfl (fun ls hl => ?_)
    refine lv_aload_n hx hb dX13_readOrder_58 rfl (lv_at hl 1 rfl) ?_
    refine lv_iload_n hx hb dX13_readOrder_59 rfl (lv_at hl 0 rfl) ?_
    refine lv_iconst (v := (-1)) hx hb dX13_readOrder_60 (by decide) ?_
    refine lv_icmp_eq (tgt := 77) hx hb dX13_readOrder_61 (by decide) (fun c9 => ?_) (fun c9 => ?_)
    · have hc41 : v38.toInt = (-1) := (fi_eq rfl (show ((-1) : Int32).toInt = (-1) by decide)).mp c9
      refine lv_iconst (v := 0) hx hb dX13_readOrder_77 (by decide) ?_
      have hk_0 : (0 : Int32).toInt = 0 := by decide
      refine mz_Vv (As := [.int 0]) (rest := []) ⟨hx, hb, hml, hown, hts⟩ hK hM hS (k_X13_must l D cy ld ad am hD _ _ _ _ 0 gf gt gs gp gw gb hIF hIG hIR hg_0 hg_1 hg_2 hg_3 hg_4 hg_5 (by omega) (by omega) (by omega) (by omega) (by omega) (by omega)) ⟨callB_of 1 hts (wl_in mw_713) rfl rfl rfl (htl _ mw_5) (htl _ mw_710) hd_yX13_must ⟨(Nat.le_of_ble_eq_true rfl), (Nat.le_of_ble_eq_true rfl)⟩, htl _ mw_711, htl _ mw_712⟩ rfl hl.1 rfl (Nat.le_of_ble_eq_true rfl) dX13_readOrder_78 ⟨(Nat.le_of_ble_eq_true rfl), (Nat.le_of_ble_eq_true rfl)⟩ (fun H locs F G R S hpo hM hS => ?_)
      obtain ⟨hIF, hIG, hIR, hfr9, hrr9, hgr9, hpo42, hpo43, hpo44, hpo45, hpo46, hpo47, hpo48, hpo49⟩ := hpo
      have hFF := mz_fr (K := [14, 15, 16, 18, 19, 21, 23, 26, 29, 30]) (Fa := Fa) hfr9 (fun _ _ => rfl) (by decide)
      have hRR := mz_fr (K := [24, 25, 27, 28, 61]) (Fa := Ra) hrr9 (fun _ _ => rfl) (by decide)
      have hGG := mz_fr (K := [17]) (Fa := Ga) hgr9 (fun _ _ => rfl) (by decide)
      have hg_3 := (hfr9 13 (by decide)).trans hg_3
      have hg_6 := (hfr9 23 (by decide)).trans hg_6
      have hg_7 := (hfr9 21 (by decide)).trans hg_7
      obtain ⟨v52, hf51⟩ : ∃ z : Int32, F 14 = z := ⟨_, rfl⟩
      have hq_v52 := tk_rng v52
      rw [hf51] at hpo42 hpo44 hpo45 hpo46 hpo48
      have hr_v52 : 0 ≤ v52.toInt ∧ v52.toInt ≤ 400 := hIF.at hf51
      obtain ⟨v54, hf53⟩ : ∃ z : Int32, F 15 = z := ⟨_, rfl⟩
      have hq_v54 := tk_rng v54
      rw [hf53] at hpo42 hpo43 hpo44 hpo45
      have hr_v54 : 0 ≤ v54.toInt ∧ v54.toInt ≤ 400 := hIF.at hf53
      obtain ⟨v56, hf55⟩ : ∃ z : Int32, F 16 = z := ⟨_, rfl⟩
      have hq_v56 := tk_rng v56
      rw [hf55] at hpo44 hpo45
      have hr_v56 : 0 ≤ v56.toInt ∧ v56.toInt ≤ 3 := hIF.at hf55
      obtain ⟨w58, hf57⟩ : ∃ z : Int64, G 17 = z := ⟨_, rfl⟩
      have hq_w58 := tk_rngL w58
      rw [hf57] at hpo45
      obtain ⟨v60, hf59⟩ : ∃ z : Int32, F 19 = z := ⟨_, rfl⟩
      have hq_v60 := tk_rng v60
      rw [hf59] at hpo47 hpo48 hpo49
      have hr_v60 : 0 ≤ v60.toInt ∧ v60.toInt ≤ 1 := hIF.at hf59
      have hL22 := hL22.to (hrr9 61 (by decide))
      have hC9 := hC
      have hC : v60.toInt = 0 → CLS 10 [1, 3, 5, 7] (R 24) (R 25) (Ra 61) gc.toInt gn.toInt := fun h9 => (hC9 (by omega)).to (hrr9 24 (by decide)) (hrr9 25 (by decide))
      refine lv_aload_n hx hb dX13_readOrder_81 rfl (lv_at hl 1 rfl) ?_
      refine mz_getI hx hb htl hown hK hM 19 (Nat.le_of_ble_eq_true rfl) rfl (htl _ mw_668) (fun _ h9 => h9) dX13_readOrder_82 (fun v9 e9 => ?_)
      refine fx_ti (v := v60) (e9.symm.trans hf59) ?_
      refine lv_if_eq (tgt := 89) hx hb dX13_readOrder_85 (by decide) (fun c9 => ?_) (fun c9 => ?_)
      · have hc61 : v60.toInt = 0 := (fi_eq rfl (show (0 : Int32).toInt = 0 by decide)).mp c9
        have hwk_62 : 0 ≤ (-1) * gt.toInt + v52.toInt ∧ 0 ≤ (-1) := by omega
        exfalso
        omega
      · have hc61 : ¬ (v60.toInt = 0) := fun h9 => c9 ((fi_eq rfl (show (0 : Int32).toInt = 0 by decide)).mpr h9)
        exact mz_vret hx hb hr hlocks ⟨hIF, hIG, hIR, hFF, hRR, hGG, (by rw [hf51, hf53]; omega), (by rw [hf53]; omega), (by rw [hf51, hf53, hf55]; omega), (by rw [hf51, hf53, hf55, hf57]; omega), (by rw [hf51]; omega), (by rw [hg_6]; omega), (by rw [hf51, hg_6]; omega), (by rw [hf59]; omega), (by rw [hf51, hf59]; omega), (by rw [hf59]; exact fun h9 => absurd h9 (by omega)), (by rw [hf59]; exact fun h9 => absurd h9 (by omega))⟩ hM hS dX13_readOrder_88
    · have hc41 : ¬ (v38.toInt = (-1)) := fun h9 => c9 ((fi_eq rfl (show ((-1) : Int32).toInt = (-1) by decide)).mpr h9)
      have hwk_63 : gs.toInt + (-1) = 0 := by omega
      have hwk_64 : 0 ≤ (-1) * gf.toInt + gt.toInt + (-1) := by omega
      refine lv_aload_n hx hb dX13_readOrder_64 rfl (lv_at hl 1 rfl) ?_
      refine mz_getI hx hb htl hown hK hM 21 (Nat.le_of_ble_eq_true rfl) rfl (htl _ mw_669) (fun _ h9 => h9) dX13_readOrder_65 (fun v9 e9 => ?_)
      refine fx_ti (v := gn) (e9.symm.trans hg_7) ?_
      refine lv_bipush (v := 12) hx hb dX13_readOrder_68 (by decide) ?_
      refine lv_icmp_ge (tgt := 77) hx hb dX13_readOrder_70 (by decide) (fun c9 => ?_) (fun c9 => ?_)
      · have hc65 : 12 ≤ gn.toInt := (fi_le (show (12 : Int32).toInt = 12 by decide) rfl).mp c9
        refine lv_iconst (v := 0) hx hb dX13_readOrder_77 (by decide) ?_
        have hk_0 : (0 : Int32).toInt = 0 := by decide
        refine mz_Vv (As := [.int 0]) (rest := []) ⟨hx, hb, hml, hown, hts⟩ hK hM hS (k_X13_must l D cy ld ad am hD _ _ _ _ 0 gf gt gs gp gw gb hIF hIG hIR hg_0 hg_1 hg_2 hg_3 hg_4 hg_5 (by omega) (by omega) (by omega) (by omega) (by omega) (by omega)) ⟨callB_of 1 hts (wl_in mw_713) rfl rfl rfl (htl _ mw_5) (htl _ mw_710) hd_yX13_must ⟨(Nat.le_of_ble_eq_true rfl), (Nat.le_of_ble_eq_true rfl)⟩, htl _ mw_711, htl _ mw_712⟩ rfl hl.1 rfl (Nat.le_of_ble_eq_true rfl) dX13_readOrder_78 ⟨(Nat.le_of_ble_eq_true rfl), (Nat.le_of_ble_eq_true rfl)⟩ (fun H locs F G R S hpo hM hS => ?_)
        obtain ⟨hIF, hIG, hIR, hfr9, hrr9, hgr9, hpo66, hpo67, hpo68, hpo69, hpo70, hpo71, hpo72, hpo73⟩ := hpo
        have hFF := mz_fr (K := [14, 15, 16, 18, 19, 21, 23, 26, 29, 30]) (Fa := Fa) hfr9 (fun _ _ => rfl) (by decide)
        have hRR := mz_fr (K := [24, 25, 27, 28, 61]) (Fa := Ra) hrr9 (fun _ _ => rfl) (by decide)
        have hGG := mz_fr (K := [17]) (Fa := Ga) hgr9 (fun _ _ => rfl) (by decide)
        have hg_3 := (hfr9 13 (by decide)).trans hg_3
        have hg_6 := (hfr9 23 (by decide)).trans hg_6
        have hg_7 := (hfr9 21 (by decide)).trans hg_7
        obtain ⟨v76, hf75⟩ : ∃ z : Int32, F 14 = z := ⟨_, rfl⟩
        have hq_v76 := tk_rng v76
        rw [hf75] at hpo66 hpo68 hpo69 hpo70 hpo72
        have hr_v76 : 0 ≤ v76.toInt ∧ v76.toInt ≤ 400 := hIF.at hf75
        obtain ⟨v78, hf77⟩ : ∃ z : Int32, F 15 = z := ⟨_, rfl⟩
        have hq_v78 := tk_rng v78
        rw [hf77] at hpo66 hpo67 hpo68 hpo69
        have hr_v78 : 0 ≤ v78.toInt ∧ v78.toInt ≤ 400 := hIF.at hf77
        obtain ⟨v80, hf79⟩ : ∃ z : Int32, F 16 = z := ⟨_, rfl⟩
        have hq_v80 := tk_rng v80
        rw [hf79] at hpo68 hpo69
        have hr_v80 : 0 ≤ v80.toInt ∧ v80.toInt ≤ 3 := hIF.at hf79
        obtain ⟨w82, hf81⟩ : ∃ z : Int64, G 17 = z := ⟨_, rfl⟩
        have hq_w82 := tk_rngL w82
        rw [hf81] at hpo69
        obtain ⟨v84, hf83⟩ : ∃ z : Int32, F 19 = z := ⟨_, rfl⟩
        have hq_v84 := tk_rng v84
        rw [hf83] at hpo71 hpo72 hpo73
        have hr_v84 : 0 ≤ v84.toInt ∧ v84.toInt ≤ 1 := hIF.at hf83
        have hL22 := hL22.to (hrr9 61 (by decide))
        have hC9 := hC
        have hC : v84.toInt = 0 → CLS 10 [1, 3, 5, 7] (R 24) (R 25) (Ra 61) gc.toInt gn.toInt := fun h9 => (hC9 (by omega)).to (hrr9 24 (by decide)) (hrr9 25 (by decide))
        refine lv_aload_n hx hb dX13_readOrder_81 rfl (lv_at hl 1 rfl) ?_
        refine mz_getI hx hb htl hown hK hM 19 (Nat.le_of_ble_eq_true rfl) rfl (htl _ mw_668) (fun _ h9 => h9) dX13_readOrder_82 (fun v9 e9 => ?_)
        refine fx_ti (v := v84) (e9.symm.trans hf83) ?_
        refine lv_if_eq (tgt := 89) hx hb dX13_readOrder_85 (by decide) (fun c9 => ?_) (fun c9 => ?_)
        · have hc85 : v84.toInt = 0 := (fi_eq rfl (show (0 : Int32).toInt = 0 by decide)).mp c9
          have hwk_86 : 0 ≤ (-1) * gt.toInt + v76.toInt ∧ 0 ≤ (-1) := by omega
          exfalso
          omega
        · have hc85 : ¬ (v84.toInt = 0) := fun h9 => c9 ((fi_eq rfl (show (0 : Int32).toInt = 0 by decide)).mpr h9)
          exact mz_vret hx hb hr hlocks ⟨hIF, hIG, hIR, hFF, hRR, hGG, (by rw [hf75, hf77]; omega), (by rw [hf77]; omega), (by rw [hf75, hf77, hf79]; omega), (by rw [hf75, hf77, hf79, hf81]; omega), (by rw [hf75]; omega), (by rw [hg_6]; omega), (by rw [hf75, hg_6]; omega), (by rw [hf83]; omega), (by rw [hf75, hf83]; omega), (by rw [hf83]; exact fun h9 => absurd h9 (by omega)), (by rw [hf83]; exact fun h9 => absurd h9 (by omega))⟩ hM hS dX13_readOrder_88
      · have hc65 : ¬ (12 ≤ gn.toInt) := fun h9 => c9 ((fi_le (show (12 : Int32).toInt = 12 by decide) rfl).mpr h9)
        refine lv_iconst (v := 1) hx hb dX13_readOrder_73 (by decide) ?_
        refine lv_goto (tgt := 78) hx hb dX13_readOrder_74 (by decide) ?_
        have hk_1 : (1 : Int32).toInt = 1 := by decide
        refine mz_Vv (As := [.int 1]) (rest := []) ⟨hx, hb, hml, hown, hts⟩ hK hM hS (k_X13_must l D cy ld ad am hD _ _ _ _ 1 gf gt gs gp gw gb hIF hIG hIR hg_0 hg_1 hg_2 hg_3 hg_4 hg_5 (by omega) (by omega) (by omega) (by omega) (by omega) (by omega)) ⟨callB_of 1 hts (wl_in mw_713) rfl rfl rfl (htl _ mw_5) (htl _ mw_710) hd_yX13_must ⟨(Nat.le_of_ble_eq_true rfl), (Nat.le_of_ble_eq_true rfl)⟩, htl _ mw_711, htl _ mw_712⟩ rfl hl.1 rfl (Nat.le_of_ble_eq_true rfl) dX13_readOrder_78 ⟨(Nat.le_of_ble_eq_true rfl), (Nat.le_of_ble_eq_true rfl)⟩ (fun H locs F G R S hpo hM hS => ?_)
        obtain ⟨hIF, hIG, hIR, hfr9, hrr9, hgr9, hpo87, hpo88, hpo89, hpo90, hpo91, hpo92, hpo93, hpo94⟩ := hpo
        have hFF := mz_fr (K := [14, 15, 16, 18, 19, 21, 23, 26, 29, 30]) (Fa := Fa) hfr9 (fun _ _ => rfl) (by decide)
        have hRR := mz_fr (K := [24, 25, 27, 28, 61]) (Fa := Ra) hrr9 (fun _ _ => rfl) (by decide)
        have hGG := mz_fr (K := [17]) (Fa := Ga) hgr9 (fun _ _ => rfl) (by decide)
        have hg_3 := (hfr9 13 (by decide)).trans hg_3
        have hg_6 := (hfr9 23 (by decide)).trans hg_6
        have hg_7 := (hfr9 21 (by decide)).trans hg_7
        obtain ⟨v97, hf96⟩ : ∃ z : Int32, F 14 = z := ⟨_, rfl⟩
        have hq_v97 := tk_rng v97
        rw [hf96] at hpo87 hpo89 hpo90 hpo91 hpo93
        have hr_v97 : 0 ≤ v97.toInt ∧ v97.toInt ≤ 400 := hIF.at hf96
        obtain ⟨v99, hf98⟩ : ∃ z : Int32, F 15 = z := ⟨_, rfl⟩
        have hq_v99 := tk_rng v99
        rw [hf98] at hpo87 hpo88 hpo89 hpo90
        have hr_v99 : 0 ≤ v99.toInt ∧ v99.toInt ≤ 400 := hIF.at hf98
        obtain ⟨v101, hf100⟩ : ∃ z : Int32, F 16 = z := ⟨_, rfl⟩
        have hq_v101 := tk_rng v101
        rw [hf100] at hpo89 hpo90
        have hr_v101 : 0 ≤ v101.toInt ∧ v101.toInt ≤ 3 := hIF.at hf100
        obtain ⟨w103, hf102⟩ : ∃ z : Int64, G 17 = z := ⟨_, rfl⟩
        have hq_w103 := tk_rngL w103
        rw [hf102] at hpo90
        obtain ⟨v105, hf104⟩ : ∃ z : Int32, F 19 = z := ⟨_, rfl⟩
        have hq_v105 := tk_rng v105
        rw [hf104] at hpo92 hpo93 hpo94
        have hr_v105 : 0 ≤ v105.toInt ∧ v105.toInt ≤ 1 := hIF.at hf104
        have hwk_106 : v105.toInt ≤ 0 := by omega
        have hwk_107 : 0 ≤ (-1) * gt.toInt + v97.toInt := by omega
        have hL22 := hL22.to (hrr9 61 (by decide))
        have hC9 := hC
        have hC : v105.toInt = 0 → CLS 10 [1, 3, 5, 7] (R 24) (R 25) (Ra 61) gc.toInt gn.toInt := fun h9 => (hC9 (by omega)).to (hrr9 24 (by decide)) (hrr9 25 (by decide))
        refine lv_aload_n hx hb dX13_readOrder_81 rfl (lv_at hl 1 rfl) ?_
        refine mz_getI hx hb htl hown hK hM 19 (Nat.le_of_ble_eq_true rfl) rfl (htl _ mw_668) (fun _ h9 => h9) dX13_readOrder_82 (fun v9 e9 => ?_)
        refine fx_ti (v := v105) (e9.symm.trans hf104) ?_
        refine lv_if_eq (tgt := 89) hx hb dX13_readOrder_85 (by decide) (fun _ => ?_) (fun c9 => absurd ((fi_eq rfl (show (0 : Int32).toInt = 0 by decide)).mpr (show v105.toInt = 0 by omega)) c9)
        refine lv_bipush (v := 10) hx hb dX13_readOrder_89 (by decide) ?_
        refine lv_aload_n hx hb dX13_readOrder_91 rfl (lv_at hl 1 rfl) ?_
        refine mz_getI hx hb htl hown hK hM 21 (Nat.le_of_ble_eq_true rfl) rfl (htl _ mw_669) (fun _ h9 => h9) dX13_readOrder_92 (fun v9 e9 => ?_)
        refine fx_ti (v := gn) (e9.symm.trans hg_7) ?_
        refine lv_imul hx hb dX13_readOrder_95 ?_
        refine tk_mul (show (10 : Int32).toInt = 10 by decide) rfl (by omega) (by omega) (fun v108 h_v108 => ?_)
        refine lv_istore_n (lv' := [(2, .int v108), (1, .int v38), (0, .ref am)]) hx hb dX13_readOrder_96 rfl hl (by decide) rfl (fun ls hl => ?_)
        refine lv_aload_n hx hb dX13_readOrder_97 rfl (lv_at hl 2 rfl) ?_
        refine lv_dup hx hb dX13_readOrder_98 rfl ?_
        refine mz_getI hx hb htl hown hK hM 21 (Nat.le_of_ble_eq_true rfl) rfl (htl _ mw_669) (fun _ h9 => h9) dX13_readOrder_99 (fun v9 e9 => ?_)
        refine fx_ti (v := gn) (e9.symm.trans hg_7) ?_
        refine lv_iconst (v := 1) hx hb dX13_readOrder_102 (by decide) ?_
        refine lv_iadd hx hb dX13_readOrder_103 ?_
        refine tk_add rfl (show (1 : Int32).toInt = 1 by decide) (by omega) (by omega) (fun v109 h_v109 => ?_)
        refine mz_putI (ty := .int) (x := v109) hx hb htl hown hK hD hM hS 21 (Nat.le_of_ble_eq_true rfl) rfl (htl _ mw_669) (fun _ h9 => h9) rfl (tyX13_ok 21 (by decide)) rfl rfl dX13_readOrder_104 (fun H locs F hM hS hf9 hj9 => ?_)
        have hIF := hIF.put hf9 hj9 (show 0 ≤ (v109 : Int32).toInt by omega) (show (v109 : Int32).toInt ≤ 12 by omega) (by decide)
        have hFF := mz_frp (K := [14, 15, 16, 18, 19, 21, 23, 26, 29, 30]) (Fa := Fa) hj9 hFF (by decide)
        have hg_3 := (hj9 13 (by decide)).trans hg_3
        have hg_6 := (hj9 23 (by decide)).trans hg_6
        have hf96 := (hj9 14 (by decide)).trans hf96
        have hf98 := (hj9 15 (by decide)).trans hf98
        have hf100 := (hj9 16 (by decide)).trans hf100
        have hf104 := (hj9 19 (by decide)).trans hf104
        have hf111 := hf9
        refine lv_iconst (v := 0) hx hb dX13_readOrder_107 (by decide) ?_
        refine lv_istore_n (lv' := [(3, .int 0), (2, .int v108), (1, .int v38), (0, .ref am)]) hx hb dX13_readOrder_108 rfl hl (by decide) rfl (fun ls hl => ?_)
        have hZ : ∀ d : Nat, d < (0 : Int32).toInt.toNat → R 61 (10 * gn.toInt.toNat + d) = 0 := fun d hd => absurd hd (by rw [show (0 : Int32).toInt.toNat = 0 by decide]; exact Nat.not_lt_zero _)
        have hl3335 : ∀ (N_l3335 : Nat) (v650 : Int32) (H : Heap) (locs : List Loc) (R : Nat → Nat → Int32), (v650.toInt ≤ 10) → (0 ≤ v650.toInt) → (mz_S D cy ad am F G R S H) → (va_S (mz_W ad am) s.heap H locs) → (mz_IR [] true R) → (∀ k : Nat, k ∉ ([24, 25, 27, 28, 61] : List Nat) → R k = Ra k) → (low (10 * gn.toInt.toNat) (Ra 61) (R 61)) → (v105.toInt = 0 → CLS 10 [1, 3, 5, 7] (R 24) (R 25) (Ra 61) gc.toInt gn.toInt) → (∀ d : Nat, d < v650.toInt.toNat → R 61 (10 * gn.toInt.toNat + d) = 0) → ((-1) * v650.toInt + 10 < (N_l3335 : Int)) → ∀ ls : Array Slot, lv_has ls 4 [(3, .int v650), (2, .int v108), (1, .int v38), (0, .ref am)] → W p l e ({ frames := 12, cells := 0, slots := 0, locals := 770 }) s m args below meth c H locs 0 0 (MQ below (mz_w D cy ad am (fun F G R S => mz_IF false F ∧ mz_IG G ∧ mz_IR [] true R ∧ (∀ k : Nat, k ∉ ([14, 15, 16, 18, 19, 21, 23, 26, 29, 30] : List Nat) → F k = Fa k) ∧ (∀ k : Nat, k ∉ ([24, 25, 27, 28, 61] : List Nat) → R k = Ra k) ∧ (∀ k : Nat, k ∉ ([17] : List Nat) → G k = Ga k) ∧ 0 ≤ (-1) * (F 14).toInt + (F 15).toInt ∧ 0 ≤ gp.toInt + (-1) * (F 15).toInt ∧ (1 ≤ (F 16).toInt → 0 ≤ (-1) * (F 14).toInt + (F 15).toInt + (-1)) ∧ (27 ≤ (G 17).toInt → 1 ≤ (F 16).toInt → (F 16).toInt ≤ 1 → 0 ≤ (-1) * (F 14).toInt + (F 15).toInt + (-2)) ∧ 0 ≤ (-1) * gf.toInt + (F 14).toInt ∧ 0 ≤ (-1) * gc.toInt + (F 23).toInt ∧ 0 ≤ (-1) * (F 23).toInt + (F 14).toInt ∧ 0 ≤ (-1) * gb.toInt + (F 19).toInt ∧ ((F 19).toInt ≤ 0 → 0 ≤ (-1) * gf.toInt + (F 14).toInt + (-1)) ∧ ((F 19).toInt = 0 → CLS 10 [1, 3, 5, 7] (R 24) (R 25) (R 61) (F 23).toInt (F 21).toInt) ∧ ((F 19).toInt = 0 → TMS (R 61) (F 21).toInt))) args s 0 0 (mz_W ad am)) (F0 m 109 ls []) := by
          intro N_l3335
          induction N_l3335 with
          | zero => intro v650 H locs R hq0_l3335 hq1_l3335 hM hS hIR hRR hL22 hC hZ hm_l3335 ls hl; exfalso; omega
          | succ N_l3335 ih_l3335 =>
            intro v650 H locs R hq0_l3335 hq1_l3335 hM hS hIR hRR hL22 hC hZ hm_l3335 ls hl
            refine lv_iload_n hx hb dX13_readOrder_109 rfl (lv_at hl 0 rfl) ?_
            refine lv_bipush (v := 10) hx hb dX13_readOrder_110 (by decide) ?_
            refine lv_icmp_ge (tgt := 130) hx hb dX13_readOrder_112 (by decide) (fun c9 => ?_) (fun c9 => ?_)
            · have hc3336 : 10 ≤ v650.toInt := (fi_le (show (10 : Int32).toInt = 10 by decide) rfl).mp c9
              refine lv_aload_n hx hb dX13_readOrder_130 rfl (lv_at hl 3 rfl) ?_
              have h22_1 : R 61 (10 * gn.toInt.toNat + 1) = 0 := hZ 1 (by omega)
              have h22_2 : R 61 (10 * gn.toInt.toNat + 2) = 0 := hZ 2 (by omega)
              have h22_3 : R 61 (10 * gn.toInt.toNat + 3) = 0 := hZ 3 (by omega)
              have h22_4 : R 61 (10 * gn.toInt.toNat + 4) = 0 := hZ 4 (by omega)
              have h22_5 : R 61 (10 * gn.toInt.toNat + 5) = 0 := hZ 5 (by omega)
              have h22_6 : R 61 (10 * gn.toInt.toNat + 6) = 0 := hZ 6 (by omega)
              have h22_7 : R 61 (10 * gn.toInt.toNat + 7) = 0 := hZ 7 (by omega)
              have h22_8 : R 61 (10 * gn.toInt.toNat + 8) = 0 := hZ 8 (by omega)
              refine mz_getR hx hb htl hown hK hM 61 (Nat.le_of_ble_eq_true rfl) (Nat.le_of_ble_eq_true rfl) (htl _ mw_239) (fun _ h9 => h9) dX13_readOrder_131 ?_
              refine lv_iload_n hx hb dX13_readOrder_134 rfl (lv_at hl 1 rfl) ?_
              refine lv_iload_n hx hb dX13_readOrder_135 rfl (lv_at hl 2 rfl) ?_
              refine mz_iast (x := v38) hx hb hK hD hM hS 61 (Nat.le_of_ble_eq_true rfl) rfl (nn := 120) rfl rfl (by omega) (by omega) dX13_readOrder_136 (fun H locs R hM hS hw9 hj9 => ?_)
              have hIR := hIR.put hw9 hj9 trivial
              have hL22 : low (10 * gn.toInt.toNat) (Ra 61) (R 61) := fun j hj => by rw [hw9, pk_un (fun h9 => by have h8 := tk_nat (i := v108) rfl (by omega); omega)]; exact hL22 j hj
              have h22_1 : R 61 (10 * gn.toInt.toNat + 1) = 0 := by rw [hw9, pk_un (fun h9 => by have h8 := tk_nat (i := v108) rfl (by omega); omega)]; exact h22_1
              have h22_2 : R 61 (10 * gn.toInt.toNat + 2) = 0 := by rw [hw9, pk_un (fun h9 => by have h8 := tk_nat (i := v108) rfl (by omega); omega)]; exact h22_2
              have h22_3 : R 61 (10 * gn.toInt.toNat + 3) = 0 := by rw [hw9, pk_un (fun h9 => by have h8 := tk_nat (i := v108) rfl (by omega); omega)]; exact h22_3
              have h22_4 : R 61 (10 * gn.toInt.toNat + 4) = 0 := by rw [hw9, pk_un (fun h9 => by have h8 := tk_nat (i := v108) rfl (by omega); omega)]; exact h22_4
              have h22_5 : R 61 (10 * gn.toInt.toNat + 5) = 0 := by rw [hw9, pk_un (fun h9 => by have h8 := tk_nat (i := v108) rfl (by omega); omega)]; exact h22_5
              have h22_6 : R 61 (10 * gn.toInt.toNat + 6) = 0 := by rw [hw9, pk_un (fun h9 => by have h8 := tk_nat (i := v108) rfl (by omega); omega)]; exact h22_6
              have h22_7 : R 61 (10 * gn.toInt.toNat + 7) = 0 := by rw [hw9, pk_un (fun h9 => by have h8 := tk_nat (i := v108) rfl (by omega); omega)]; exact h22_7
              have h22_8 : R 61 (10 * gn.toInt.toNat + 8) = 0 := by rw [hw9, pk_un (fun h9 => by have h8 := tk_nat (i := v108) rfl (by omega); omega)]; exact h22_8
              have hC9 := hC
              have hC : v105.toInt = 0 → CLS 10 [1, 3, 5, 7] (R 24) (R 25) (Ra 61) gc.toInt gn.toInt := fun h9 => (hC9 (by omega)).to (hj9 24 (by decide)) (hj9 25 (by decide))
              have h22_0 : R 61 (10 * gn.toInt.toNat + 0) = v38 := by rw [hw9, show 10 * gn.toInt.toNat + 0 = (v108 : Int32).toNatClampNeg by show _ = v108.toInt.toNat; omega]; exact pk_us
              have hRR := mz_frp (K := [24, 25, 27, 28, 61]) (Fa := Ra) hj9 hRR (by decide)
              refine lv_iload_n hx hb dX13_readOrder_137 rfl (lv_at hl 2 rfl) ?_
              refine lv_iconst (v := 2) hx hb dX13_readOrder_138 (by decide) ?_
              refine lv_icmp_ge (tgt := 149) hx hb dX13_readOrder_139 (by decide) (fun c9 => ?_) (fun c9 => ?_)
              · have hc3338 : 2 ≤ v38.toInt := (fi_le (show (2 : Int32).toInt = 2 by decide) rfl).mp c9
                refine lv_iload_n hx hb dX13_readOrder_149 rfl (lv_at hl 2 rfl) ?_
                refine lv_if_ne (tgt := 173) hx hb dX13_readOrder_150 (by decide) (fun _ => ?_) (fun c9 => absurd (show v38.toInt = 0 from (fi_eq rfl (show (0 : Int32).toInt = 0 by decide)).mp c9) (by omega))
                refine lv_aload_n hx hb dX13_readOrder_173 rfl (lv_at hl 3 rfl) ?_
                refine mz_getR hx hb htl hown hK hM 61 (Nat.le_of_ble_eq_true rfl) (Nat.le_of_ble_eq_true rfl) (htl _ mw_239) (fun _ h9 => h9) dX13_readOrder_174 ?_
                refine lv_iload_n hx hb dX13_readOrder_177 rfl (lv_at hl 1 rfl) ?_
                refine lv_bipush (v := 9) hx hb dX13_readOrder_178 (by decide) ?_
                refine lv_iadd hx hb dX13_readOrder_180 ?_
                refine tk_add rfl (show (9 : Int32).toInt = 9 by decide) (by omega) (by omega) (fun v3339 h_v3339 => ?_)
                refine lv_iconst (v := 1) hx hb dX13_readOrder_181 (by decide) ?_
                have hk_1 : (1 : Int32).toInt = 1 := by decide
                refine mz_iast (x := 1) hx hb hK hD hM hS 61 (Nat.le_of_ble_eq_true rfl) rfl (nn := 120) rfl rfl (by omega) (by omega) dX13_readOrder_182 (fun H locs R hM hS hw9 hj9 => ?_)
                have hIR := hIR.put hw9 hj9 trivial
                have hL22 : low (10 * gn.toInt.toNat) (Ra 61) (R 61) := fun j hj => by rw [hw9, pk_un (fun h9 => by have h8 := tk_nat (i := v3339) rfl (by omega); omega)]; exact hL22 j hj
                have h22_1 : R 61 (10 * gn.toInt.toNat + 1) = 0 := by rw [hw9, pk_un (fun h9 => by have h8 := tk_nat (i := v3339) rfl (by omega); omega)]; exact h22_1
                have h22_2 : R 61 (10 * gn.toInt.toNat + 2) = 0 := by rw [hw9, pk_un (fun h9 => by have h8 := tk_nat (i := v3339) rfl (by omega); omega)]; exact h22_2
                have h22_3 : R 61 (10 * gn.toInt.toNat + 3) = 0 := by rw [hw9, pk_un (fun h9 => by have h8 := tk_nat (i := v3339) rfl (by omega); omega)]; exact h22_3
                have h22_4 : R 61 (10 * gn.toInt.toNat + 4) = 0 := by rw [hw9, pk_un (fun h9 => by have h8 := tk_nat (i := v3339) rfl (by omega); omega)]; exact h22_4
                have h22_5 : R 61 (10 * gn.toInt.toNat + 5) = 0 := by rw [hw9, pk_un (fun h9 => by have h8 := tk_nat (i := v3339) rfl (by omega); omega)]; exact h22_5
                have h22_6 : R 61 (10 * gn.toInt.toNat + 6) = 0 := by rw [hw9, pk_un (fun h9 => by have h8 := tk_nat (i := v3339) rfl (by omega); omega)]; exact h22_6
                have h22_7 : R 61 (10 * gn.toInt.toNat + 7) = 0 := by rw [hw9, pk_un (fun h9 => by have h8 := tk_nat (i := v3339) rfl (by omega); omega)]; exact h22_7
                have h22_8 : R 61 (10 * gn.toInt.toNat + 8) = 0 := by rw [hw9, pk_un (fun h9 => by have h8 := tk_nat (i := v3339) rfl (by omega); omega)]; exact h22_8
                have h22_0 : R 61 (10 * gn.toInt.toNat + 0) = v38 := by rw [hw9, pk_un (fun h9 => by have h8 := tk_nat (i := v3339) rfl (by omega); omega)]; exact h22_0
                have hC9 := hC
                have hC : v105.toInt = 0 → CLS 10 [1, 3, 5, 7] (R 24) (R 25) (Ra 61) gc.toInt gn.toInt := fun h9 => (hC9 (by omega)).to (hj9 24 (by decide)) (hj9 25 (by decide))
                have h22_9 : R 61 (10 * gn.toInt.toNat + 9) = 1 := by rw [hw9, show 10 * gn.toInt.toNat + 9 = (v3339 : Int32).toNatClampNeg by show _ = v3339.toInt.toNat; omega]; exact pk_us
                have hRR := mz_frp (K := [24, 25, 27, 28, 61]) (Fa := Ra) hj9 hRR (by decide)
                refine lv_aload_n hx hb dX13_readOrder_183 rfl (lv_at hl 3 rfl) ?_
                refine mz_getI hx hb htl hown hK hM 19 (Nat.le_of_ble_eq_true rfl) rfl (htl _ mw_668) (fun _ h9 => h9) dX13_readOrder_184 (fun v9 e9 => ?_)
                refine fx_ti (v := v105) (e9.symm.trans hf104) ?_
                refine lv_if_ne (tgt := 221) hx hb dX13_readOrder_187 (by decide) (fun c9 => absurd ((fi_eq rfl (show (0 : Int32).toInt = 0 by decide)).mpr (show v105.toInt = 0 by omega)) c9) (fun _ => ?_)
                refine lv_aload_n hx hb dX13_readOrder_190 rfl (lv_at hl 3 rfl) ?_
                refine lv_ldc2 hx hb hown (htl _ mw_1021) dX13_readOrder_191 ?_
                have hk_21279923 : (21279923 : Int64).toInt = 21279923 := by decide
                refine mz_Vj (As := [.long 21279923]) (rest := []) ⟨hx, hb, hml, hown, hts⟩ hK hM hS (k_X13_isWord l D cy ld ad am hD _ _ _ _ 21279923 v101 w103 hIF hIG hIR hf100 hf102) ⟨callB_of 1 hts (wl_in mw_709) rfl rfl rfl (htl _ mw_5) (htl _ mw_706) hd_yX13_isWord ⟨(Nat.le_of_ble_eq_true rfl), (Nat.le_of_ble_eq_true rfl)⟩, htl _ mw_707, htl _ mw_708⟩ rfl hl.1 rfl (Nat.le_of_ble_eq_true rfl) dX13_readOrder_194 ⟨(Nat.le_of_ble_eq_true rfl), (Nat.le_of_ble_eq_true rfl)⟩ (fun v3341 H locs hpo hM hS => ?_)
                obtain ⟨hpo3342, hpo3343, hpo3344, hpo3345, hpo3346⟩ := hpo
                have hq_v3341 := tk_rng v3341
                refine lv_if_eq (tgt := 221) hx hb dX13_readOrder_197 (by decide) (fun c9 => ?_) (fun c9 => ?_)
                · have hc3348 : v3341.toInt = 0 := (fi_eq rfl (show (0 : Int32).toInt = 0 by decide)).mp c9
                  refine lv_aload_n hx hb dX13_readOrder_221 rfl (lv_at hl 3 rfl) ?_
                  refine mz_getR hx hb htl hown hK hM 61 (Nat.le_of_ble_eq_true rfl) (Nat.le_of_ble_eq_true rfl) (htl _ mw_239) (fun _ h9 => h9) dX13_readOrder_222 ?_
                  refine lv_iload_n hx hb dX13_readOrder_225 rfl (lv_at hl 1 rfl) ?_
                  refine lv_bipush (v := 7) hx hb dX13_readOrder_226 (by decide) ?_
                  refine lv_iadd hx hb dX13_readOrder_228 ?_
                  refine tk_add rfl (show (7 : Int32).toInt = 7 by decide) (by omega) (by omega) (fun v3349 h_v3349 => ?_)
                  refine lv_aload_n hx hb dX13_readOrder_229 rfl (lv_at hl 3 rfl) ?_
                  refine mz_getI hx hb htl hown hK hM 23 (Nat.le_of_ble_eq_true rfl) rfl (htl _ mw_670) (fun _ h9 => h9) dX13_readOrder_230 (fun v9 e9 => ?_)
                  refine fx_ti (v := gc) (e9.symm.trans hg_6) ?_
                  refine mz_iast (x := gc) hx hb hK hD hM hS 61 (Nat.le_of_ble_eq_true rfl) rfl (nn := 120) rfl rfl (by omega) (by omega) dX13_readOrder_233 (fun H locs R hM hS hw9 hj9 => ?_)
                  have hIR := hIR.put hw9 hj9 trivial
                  have hL22 : low (10 * gn.toInt.toNat) (Ra 61) (R 61) := fun j hj => by rw [hw9, pk_un (fun h9 => by have h8 := tk_nat (i := v3349) rfl (by omega); omega)]; exact hL22 j hj
                  have h22_1 : R 61 (10 * gn.toInt.toNat + 1) = 0 := by rw [hw9, pk_un (fun h9 => by have h8 := tk_nat (i := v3349) rfl (by omega); omega)]; exact h22_1
                  have h22_2 : R 61 (10 * gn.toInt.toNat + 2) = 0 := by rw [hw9, pk_un (fun h9 => by have h8 := tk_nat (i := v3349) rfl (by omega); omega)]; exact h22_2
                  have h22_3 : R 61 (10 * gn.toInt.toNat + 3) = 0 := by rw [hw9, pk_un (fun h9 => by have h8 := tk_nat (i := v3349) rfl (by omega); omega)]; exact h22_3
                  have h22_4 : R 61 (10 * gn.toInt.toNat + 4) = 0 := by rw [hw9, pk_un (fun h9 => by have h8 := tk_nat (i := v3349) rfl (by omega); omega)]; exact h22_4
                  have h22_5 : R 61 (10 * gn.toInt.toNat + 5) = 0 := by rw [hw9, pk_un (fun h9 => by have h8 := tk_nat (i := v3349) rfl (by omega); omega)]; exact h22_5
                  have h22_6 : R 61 (10 * gn.toInt.toNat + 6) = 0 := by rw [hw9, pk_un (fun h9 => by have h8 := tk_nat (i := v3349) rfl (by omega); omega)]; exact h22_6
                  have h22_8 : R 61 (10 * gn.toInt.toNat + 8) = 0 := by rw [hw9, pk_un (fun h9 => by have h8 := tk_nat (i := v3349) rfl (by omega); omega)]; exact h22_8
                  have h22_0 : R 61 (10 * gn.toInt.toNat + 0) = v38 := by rw [hw9, pk_un (fun h9 => by have h8 := tk_nat (i := v3349) rfl (by omega); omega)]; exact h22_0
                  have h22_9 : R 61 (10 * gn.toInt.toNat + 9) = 1 := by rw [hw9, pk_un (fun h9 => by have h8 := tk_nat (i := v3349) rfl (by omega); omega)]; exact h22_9
                  have hC9 := hC
                  have hC : v105.toInt = 0 → CLS 10 [1, 3, 5, 7] (R 24) (R 25) (Ra 61) gc.toInt gn.toInt := fun h9 => (hC9 (by omega)).to (hj9 24 (by decide)) (hj9 25 (by decide))
                  have h22_7 : R 61 (10 * gn.toInt.toNat + 7) = gc := by rw [hw9, show 10 * gn.toInt.toNat + 7 = (v3349 : Int32).toNatClampNeg by show _ = v3349.toInt.toNat; omega]; exact pk_us
                  have hRR := mz_frp (K := [24, 25, 27, 28, 61]) (Fa := Ra) hj9 hRR (by decide)
                  refine lv_aload_n hx hb dX13_readOrder_234 rfl (lv_at hl 3 rfl) ?_
                  refine mz_getI hx hb htl hown hK hM 19 (Nat.le_of_ble_eq_true rfl) rfl (htl _ mw_668) (fun _ h9 => h9) dX13_readOrder_235 (fun v9 e9 => ?_)
                  refine fx_ti (v := v105) (e9.symm.trans hf104) ?_
                  refine lv_if_ne (tgt := 260) hx hb dX13_readOrder_238 (by decide) (fun c9 => absurd ((fi_eq rfl (show (0 : Int32).toInt = 0 by decide)).mpr (show v105.toInt = 0 by omega)) c9) (fun _ => ?_)
                  refine lv_aload_n hx hb dX13_readOrder_241 rfl (lv_at hl 3 rfl) ?_
                  refine lv_ldc2 hx hb hown (htl _ mw_705) dX13_readOrder_242 ?_
                  have hk_294 : (294 : Int64).toInt = 294 := by decide
                  refine mz_Vj (As := [.long 294]) (rest := []) ⟨hx, hb, hml, hown, hts⟩ hK hM hS (k_X13_isWord l D cy ld ad am hD _ _ _ _ 294 v101 w103 hIF hIG hIR hf100 hf102) ⟨callB_of 1 hts (wl_in mw_709) rfl rfl rfl (htl _ mw_5) (htl _ mw_706) hd_yX13_isWord ⟨(Nat.le_of_ble_eq_true rfl), (Nat.le_of_ble_eq_true rfl)⟩, htl _ mw_707, htl _ mw_708⟩ rfl hl.1 rfl (Nat.le_of_ble_eq_true rfl) dX13_readOrder_245 ⟨(Nat.le_of_ble_eq_true rfl), (Nat.le_of_ble_eq_true rfl)⟩ (fun v3351 H locs hpo hM hS => ?_)
                  obtain ⟨hpo3352, hpo3353, hpo3354, hpo3355, hpo3356⟩ := hpo
                  have hq_v3351 := tk_rng v3351
                  refine lv_if_eq (tgt := 260) hx hb dX13_readOrder_248 (by decide) (fun c9 => ?_) (fun c9 => ?_)
                  · have hc3358 : v3351.toInt = 0 := (fi_eq rfl (show (0 : Int32).toInt = 0 by decide)).mp c9
                    refine lv_aload_n hx hb dX13_readOrder_260 rfl (lv_at hl 3 rfl) ?_
                    refine mz_getR hx hb htl hown hK hM 61 (Nat.le_of_ble_eq_true rfl) (Nat.le_of_ble_eq_true rfl) (htl _ mw_239) (fun _ h9 => h9) dX13_readOrder_261 ?_
                    refine lv_iload_n hx hb dX13_readOrder_264 rfl (lv_at hl 1 rfl) ?_
                    refine lv_bipush (v := 8) hx hb dX13_readOrder_265 (by decide) ?_
                    refine lv_iadd hx hb dX13_readOrder_267 ?_
                    refine tk_add rfl (show (8 : Int32).toInt = 8 by decide) (by omega) (by omega) (fun v3359 h_v3359 => ?_)
                    refine lv_aload_n hx hb dX13_readOrder_268 rfl (lv_at hl 3 rfl) ?_
                    refine mz_getI hx hb htl hown hK hM 23 (Nat.le_of_ble_eq_true rfl) rfl (htl _ mw_670) (fun _ h9 => h9) dX13_readOrder_269 (fun v9 e9 => ?_)
                    refine fx_ti (v := gc) (e9.symm.trans hg_6) ?_
                    refine mz_iast (x := gc) hx hb hK hD hM hS 61 (Nat.le_of_ble_eq_true rfl) rfl (nn := 120) rfl rfl (by omega) (by omega) dX13_readOrder_272 (fun H locs R hM hS hw9 hj9 => ?_)
                    have hIR := hIR.put hw9 hj9 trivial
                    have hL22 : low (10 * gn.toInt.toNat) (Ra 61) (R 61) := fun j hj => by rw [hw9, pk_un (fun h9 => by have h8 := tk_nat (i := v3359) rfl (by omega); omega)]; exact hL22 j hj
                    have h22_1 : R 61 (10 * gn.toInt.toNat + 1) = 0 := by rw [hw9, pk_un (fun h9 => by have h8 := tk_nat (i := v3359) rfl (by omega); omega)]; exact h22_1
                    have h22_2 : R 61 (10 * gn.toInt.toNat + 2) = 0 := by rw [hw9, pk_un (fun h9 => by have h8 := tk_nat (i := v3359) rfl (by omega); omega)]; exact h22_2
                    have h22_3 : R 61 (10 * gn.toInt.toNat + 3) = 0 := by rw [hw9, pk_un (fun h9 => by have h8 := tk_nat (i := v3359) rfl (by omega); omega)]; exact h22_3
                    have h22_4 : R 61 (10 * gn.toInt.toNat + 4) = 0 := by rw [hw9, pk_un (fun h9 => by have h8 := tk_nat (i := v3359) rfl (by omega); omega)]; exact h22_4
                    have h22_5 : R 61 (10 * gn.toInt.toNat + 5) = 0 := by rw [hw9, pk_un (fun h9 => by have h8 := tk_nat (i := v3359) rfl (by omega); omega)]; exact h22_5
                    have h22_6 : R 61 (10 * gn.toInt.toNat + 6) = 0 := by rw [hw9, pk_un (fun h9 => by have h8 := tk_nat (i := v3359) rfl (by omega); omega)]; exact h22_6
                    have h22_7 : R 61 (10 * gn.toInt.toNat + 7) = gc := by rw [hw9, pk_un (fun h9 => by have h8 := tk_nat (i := v3359) rfl (by omega); omega)]; exact h22_7
                    have h22_0 : R 61 (10 * gn.toInt.toNat + 0) = v38 := by rw [hw9, pk_un (fun h9 => by have h8 := tk_nat (i := v3359) rfl (by omega); omega)]; exact h22_0
                    have h22_9 : R 61 (10 * gn.toInt.toNat + 9) = 1 := by rw [hw9, pk_un (fun h9 => by have h8 := tk_nat (i := v3359) rfl (by omega); omega)]; exact h22_9
                    have hC9 := hC
                    have hC : v105.toInt = 0 → CLS 10 [1, 3, 5, 7] (R 24) (R 25) (Ra 61) gc.toInt gn.toInt := fun h9 => (hC9 (by omega)).to (hj9 24 (by decide)) (hj9 25 (by decide))
                    have h22_8 : R 61 (10 * gn.toInt.toNat + 8) = gc := by rw [hw9, show 10 * gn.toInt.toNat + 8 = (v3359 : Int32).toNatClampNeg by show _ = v3359.toInt.toNat; omega]; exact pk_us
                    have hRR := mz_frp (K := [24, 25, 27, 28, 61]) (Fa := Ra) hj9 hRR (by decide)
                    have hk_0 : (0 : Int32).toInt = 0 := by decide
                    have hk_0 : (0 : Int32).toInt = 0 := by decide
                    have hk_0 : (0 : Int32).toInt = 0 := by decide
                    have hk_0 : (0 : Int32).toInt = 0 := by decide
                    have hk_0 : (0 : Int32).toInt = 0 := by decide
                    have hk_0 : (0 : Int32).toInt = 0 := by decide
                    have hk_1 : (1 : Int32).toInt = 1 := by decide
                    exact mz_vret hx hb hr hlocks ⟨hIF, hIG, hIR, hFF, hRR, hGG, (by rw [hf96, hf98]; omega), (by rw [hf98]; omega), (by rw [hf96, hf98, hf100]; omega), (by rw [hf96, hf98, hf100, hf102]; omega), (by rw [hf96]; omega), (by rw [hg_6]; omega), (by rw [hf96, hg_6]; omega), (by rw [hf104]; omega), (by rw [hf96, hf104]; omega), (by rw [hf104, hg_6, hf111]; exact fun h9 => mz_snoc (N := gn.toInt.toNat) (hC h9) (by omega) (by omega) hL22 (by decide) (by omega) (by intro d hd; simp only [List.mem_cons, List.not_mem_nil, or_false] at hd; rcases hd with rfl | rfl | rfl | rfl <;> first | (rw [show 10 * gn.toInt.toNat + 1 + 1 = 10 * gn.toInt.toNat + 2 from rfl, h22_1, h22_2]; exact ⟨WFX.nil (by omega) (by omega), by omega⟩) | (rw [show 10 * gn.toInt.toNat + 3 + 1 = 10 * gn.toInt.toNat + 4 from rfl, h22_3, h22_4]; exact ⟨WFX.nil (by omega) (by omega), by omega⟩) | (rw [show 10 * gn.toInt.toNat + 5 + 1 = 10 * gn.toInt.toNat + 6 from rfl, h22_5, h22_6]; exact ⟨WFX.nil (by omega) (by omega), by omega⟩) | (rw [show 10 * gn.toInt.toNat + 7 + 1 = 10 * gn.toInt.toNat + 8 from rfl, h22_7, h22_8]; exact ⟨WFX.nil (by omega) (by omega), by omega⟩))), (by rw [hf104, hf111]; exact fun h9 => TMS.snoc (N := gn.toInt.toNat) hx_1 (by omega) (by omega) hL22 h22_9 (by omega) (by omega))⟩ hM hS dX13_readOrder_273
                  · have hc3358 : ¬ (v3351.toInt = 0) := fun h9 => c9 ((fi_eq rfl (show (0 : Int32).toInt = 0 by decide)).mpr h9)
                    have hwk_3361 : w103.toInt + (-294) = 0 ∧ v101.toInt + (-1) = 0 := by omega
                    have hwk_3362 : 0 ≤ (-1) * v97.toInt + v99.toInt + (-1) := by omega
                    have hwk_3363 : 0 ≤ (-1) * v97.toInt + v99.toInt + (-2) := by omega
                    refine lv_aload_n hx hb dX13_readOrder_251 rfl (lv_at hl 3 rfl) ?_
                    refine mz_Vv (As := []) (rest := []) ⟨hx, hb, hml, hown, hts⟩ hK hM hS (k_X13_next l D cy ld ad am hD _ _ _ _ v99 gp hIF hIG hIR hf98 hg_3 (by omega)) ⟨callB_of 0 hts (wl_in mw_685) rfl rfl rfl (htl _ mw_5) (htl _ mw_682) hd_yX13_next ⟨(Nat.le_of_ble_eq_true rfl), (Nat.le_of_ble_eq_true rfl)⟩, htl _ mw_683, htl _ mw_684⟩ rfl hl.1 rfl (Nat.le_of_ble_eq_true rfl) dX13_readOrder_252 ⟨(Nat.le_of_ble_eq_true rfl), (Nat.le_of_ble_eq_true rfl)⟩ (fun H locs F G R S hpo hM hS => ?_)
                    obtain ⟨hIF, hIG, hIR, hfr9, hrr9, hgr9, hpo3364, hpo3365, hpo3366, hpo3367, hpo3368⟩ := hpo
                    have hFF := mz_fr (K := [14, 15, 16, 18, 19, 21, 23, 26, 29, 30]) (Fa := Fa) hfr9 hFF (by decide)
                    have hRR := mz_fr (K := [24, 25, 27, 28, 61]) (Fa := Ra) hrr9 hRR (by decide)
                    have hGG := mz_fr (K := [17]) (Fa := Ga) hgr9 hGG (by decide)
                    have hg_3 := (hfr9 13 (by decide)).trans hg_3
                    have hg_6 := (hfr9 23 (by decide)).trans hg_6
                    have hf104 := (hfr9 19 (by decide)).trans hf104
                    have hf111 := (hfr9 21 (by decide)).trans hf111
                    obtain ⟨v3371, hf3370⟩ : ∃ z : Int32, F 14 = z := ⟨_, rfl⟩
                    have hq_v3371 := tk_rng v3371
                    rw [hf3370] at hpo3364 hpo3365 hpo3367 hpo3368
                    have hr_v3371 : 0 ≤ v3371.toInt ∧ v3371.toInt ≤ 400 := hIF.at hf3370
                    obtain ⟨v3373, hf3372⟩ : ∃ z : Int32, F 15 = z := ⟨_, rfl⟩
                    have hq_v3373 := tk_rng v3373
                    rw [hf3372] at hpo3365 hpo3366 hpo3367 hpo3368
                    have hr_v3373 : 0 ≤ v3373.toInt ∧ v3373.toInt ≤ 400 := hIF.at hf3372
                    obtain ⟨v3375, hf3374⟩ : ∃ z : Int32, F 16 = z := ⟨_, rfl⟩
                    have hq_v3375 := tk_rng v3375
                    rw [hf3374] at hpo3367 hpo3368
                    have hr_v3375 : 0 ≤ v3375.toInt ∧ v3375.toInt ≤ 3 := hIF.at hf3374
                    obtain ⟨w3377, hf3376⟩ : ∃ z : Int64, G 17 = z := ⟨_, rfl⟩
                    have hq_w3377 := tk_rngL w3377
                    rw [hf3376] at hpo3368
                    have hL22 := hL22.to (hrr9 61 (by decide))
                    have h22_1 := (congrFun (hrr9 61 (by decide)) _).trans h22_1
                    have h22_2 := (congrFun (hrr9 61 (by decide)) _).trans h22_2
                    have h22_3 := (congrFun (hrr9 61 (by decide)) _).trans h22_3
                    have h22_4 := (congrFun (hrr9 61 (by decide)) _).trans h22_4
                    have h22_5 := (congrFun (hrr9 61 (by decide)) _).trans h22_5
                    have h22_6 := (congrFun (hrr9 61 (by decide)) _).trans h22_6
                    have h22_7 := (congrFun (hrr9 61 (by decide)) _).trans h22_7
                    have h22_8 := (congrFun (hrr9 61 (by decide)) _).trans h22_8
                    have h22_0 := (congrFun (hrr9 61 (by decide)) _).trans h22_0
                    have h22_9 := (congrFun (hrr9 61 (by decide)) _).trans h22_9
                    have hC9 := hC
                    have hC : v105.toInt = 0 → CLS 10 [1, 3, 5, 7] (R 24) (R 25) (Ra 61) gc.toInt gn.toInt := fun h9 => (hC9 (by omega)).to (hrr9 24 (by decide)) (hrr9 25 (by decide))
                    refine lv_aload_n hx hb dX13_readOrder_255 rfl (lv_at hl 3 rfl) ?_
                    refine lv_iconst (v := 1) hx hb dX13_readOrder_256 (by decide) ?_
                    have hk_1 : (1 : Int32).toInt = 1 := by decide
                    refine mz_Vv (As := [.int 1]) (rest := []) ⟨hx, hb, hml, hown, hts⟩ hK hM hS (k_X13_readExpression l D cy ld ad am hD _ _ _ _ 1 v3371 v3373 v3375 gp w3377 v105 gc hIF hIG hIR hf3370 hf3372 hf3374 hg_3 hf3376 hf104 hg_6 (by omega) (by omega) (by omega) (by omega) (by omega) (by omega) (by omega) (by omega)) ⟨callB_of 1 hts (wl_in mw_717) rfl rfl rfl (htl _ mw_5) (htl _ mw_714) hd_yX13_readExpression ⟨(Nat.le_of_ble_eq_true rfl), (Nat.le_of_ble_eq_true rfl)⟩, htl _ mw_715, htl _ mw_716⟩ rfl hl.1 rfl (Nat.le_of_ble_eq_true rfl) dX13_readOrder_257 ⟨(Nat.le_of_ble_eq_true rfl), (Nat.le_of_ble_eq_true rfl)⟩ (fun H locs F G R S hpo hM hS => ?_)
                    obtain ⟨hIF, hIG, hIR, hfr9, hrr9, hgr9, hpo3378, hpo3379, hpo3380, hpo3381, hpo3382, hpo3383, hpo3384, hx3385⟩ := hpo
                    have hFF := mz_fr (K := [14, 15, 16, 18, 19, 21, 23, 26, 29, 30]) (Fa := Fa) hfr9 hFF (by decide)
                    have hRR := mz_fr (K := [24, 25, 27, 28, 61]) (Fa := Ra) hrr9 hRR (by decide)
                    have hGG := mz_fr (K := [17]) (Fa := Ga) hgr9 hGG (by decide)
                    have hg_3 := (hfr9 13 (by decide)).trans hg_3
                    have hf111 := (hfr9 21 (by decide)).trans hf111
                    obtain ⟨v3388, hf3387⟩ : ∃ z : Int32, F 14 = z := ⟨_, rfl⟩
                    have hq_v3388 := tk_rng v3388
                    rw [hf3387] at hpo3378 hpo3380 hpo3381 hpo3382 hpo3383
                    have hr_v3388 : 0 ≤ v3388.toInt ∧ v3388.toInt ≤ 400 := hIF.at hf3387
                    obtain ⟨v3390, hf3389⟩ : ∃ z : Int32, F 15 = z := ⟨_, rfl⟩
                    have hq_v3390 := tk_rng v3390
                    rw [hf3389] at hpo3378 hpo3379 hpo3380 hpo3381
                    have hr_v3390 : 0 ≤ v3390.toInt ∧ v3390.toInt ≤ 400 := hIF.at hf3389
                    obtain ⟨v3392, hf3391⟩ : ∃ z : Int32, F 16 = z := ⟨_, rfl⟩
                    have hq_v3392 := tk_rng v3392
                    rw [hf3391] at hpo3380 hpo3381
                    have hr_v3392 : 0 ≤ v3392.toInt ∧ v3392.toInt ≤ 3 := hIF.at hf3391
                    obtain ⟨w3394, hf3393⟩ : ∃ z : Int64, G 17 = z := ⟨_, rfl⟩
                    have hq_w3394 := tk_rngL w3394
                    rw [hf3393] at hpo3381
                    obtain ⟨v3396, hf3395⟩ : ∃ z : Int32, F 19 = z := ⟨_, rfl⟩
                    have hq_v3396 := tk_rng v3396
                    have hr_v3396 : 0 ≤ v3396.toInt ∧ v3396.toInt ≤ 1 := hIF.at hf3395
                    obtain ⟨v3398, hf3397⟩ : ∃ z : Int32, F 23 = z := ⟨_, rfl⟩
                    have hq_v3398 := tk_rng v3398
                    rw [hf3397] at hpo3383 hpo3384
                    have hr_v3398 : 0 ≤ v3398.toInt ∧ v3398.toInt ≤ 400 := hIF.at hf3397
                    have hL22 := hL22.to (hrr9 61 (by decide))
                    have h22_1 := (congrFun (hrr9 61 (by decide)) _).trans h22_1
                    have h22_2 := (congrFun (hrr9 61 (by decide)) _).trans h22_2
                    have h22_3 := (congrFun (hrr9 61 (by decide)) _).trans h22_3
                    have h22_4 := (congrFun (hrr9 61 (by decide)) _).trans h22_4
                    have h22_5 := (congrFun (hrr9 61 (by decide)) _).trans h22_5
                    have h22_6 := (congrFun (hrr9 61 (by decide)) _).trans h22_6
                    have h22_7 := (congrFun (hrr9 61 (by decide)) _).trans h22_7
                    have h22_8 := (congrFun (hrr9 61 (by decide)) _).trans h22_8
                    have h22_0 := (congrFun (hrr9 61 (by decide)) _).trans h22_0
                    have h22_9 := (congrFun (hrr9 61 (by decide)) _).trans h22_9
                    have hE9 : v3396.toInt = 0 → WFC (R 24) (R 25) gc.toInt.toNat v3398.toInt.toNat ∧ low gc.toInt.toNat _ (R 24) ∧ low gc.toInt.toNat _ (R 25) := fun h9 => by have h8 := hx3385 (by rw [hf3395]; exact h9); rw [hf3397] at h8; exact h8
                    have hC9 := hC (by omega)
                    have hC : v3396.toInt = 0 → CLS 10 [1, 3, 5, 7] (R 24) (R 25) (Ra 61) gc.toInt gn.toInt := fun h9 => hC9.low (N := gc.toInt.toNat) (by omega) (hE9 h9).2.1 (hE9 h9).2.2
                    have hX3399 : v3396.toInt = 0 → WFX (R 24) (R 25) gc v3398 := fun h9 => ⟨by omega, by omega, by omega, (hE9 h9).1⟩
                    refine lv_aload_n hx hb dX13_readOrder_260 rfl (lv_at hl 3 rfl) ?_
                    refine mz_getR hx hb htl hown hK hM 61 (Nat.le_of_ble_eq_true rfl) (Nat.le_of_ble_eq_true rfl) (htl _ mw_239) (fun _ h9 => h9) dX13_readOrder_261 ?_
                    refine lv_iload_n hx hb dX13_readOrder_264 rfl (lv_at hl 1 rfl) ?_
                    refine lv_bipush (v := 8) hx hb dX13_readOrder_265 (by decide) ?_
                    refine lv_iadd hx hb dX13_readOrder_267 ?_
                    refine tk_add rfl (show (8 : Int32).toInt = 8 by decide) (by omega) (by omega) (fun v3400 h_v3400 => ?_)
                    refine lv_aload_n hx hb dX13_readOrder_268 rfl (lv_at hl 3 rfl) ?_
                    refine mz_getI hx hb htl hown hK hM 23 (Nat.le_of_ble_eq_true rfl) rfl (htl _ mw_670) (fun _ h9 => h9) dX13_readOrder_269 (fun v9 e9 => ?_)
                    refine fx_ti (v := v3398) (e9.symm.trans hf3397) ?_
                    refine mz_iast (x := v3398) hx hb hK hD hM hS 61 (Nat.le_of_ble_eq_true rfl) rfl (nn := 120) rfl rfl (by omega) (by omega) dX13_readOrder_272 (fun H locs R hM hS hw9 hj9 => ?_)
                    have hIR := hIR.put hw9 hj9 trivial
                    have hL22 : low (10 * gn.toInt.toNat) (Ra 61) (R 61) := fun j hj => by rw [hw9, pk_un (fun h9 => by have h8 := tk_nat (i := v3400) rfl (by omega); omega)]; exact hL22 j hj
                    have h22_1 : R 61 (10 * gn.toInt.toNat + 1) = 0 := by rw [hw9, pk_un (fun h9 => by have h8 := tk_nat (i := v3400) rfl (by omega); omega)]; exact h22_1
                    have h22_2 : R 61 (10 * gn.toInt.toNat + 2) = 0 := by rw [hw9, pk_un (fun h9 => by have h8 := tk_nat (i := v3400) rfl (by omega); omega)]; exact h22_2
                    have h22_3 : R 61 (10 * gn.toInt.toNat + 3) = 0 := by rw [hw9, pk_un (fun h9 => by have h8 := tk_nat (i := v3400) rfl (by omega); omega)]; exact h22_3
                    have h22_4 : R 61 (10 * gn.toInt.toNat + 4) = 0 := by rw [hw9, pk_un (fun h9 => by have h8 := tk_nat (i := v3400) rfl (by omega); omega)]; exact h22_4
                    have h22_5 : R 61 (10 * gn.toInt.toNat + 5) = 0 := by rw [hw9, pk_un (fun h9 => by have h8 := tk_nat (i := v3400) rfl (by omega); omega)]; exact h22_5
                    have h22_6 : R 61 (10 * gn.toInt.toNat + 6) = 0 := by rw [hw9, pk_un (fun h9 => by have h8 := tk_nat (i := v3400) rfl (by omega); omega)]; exact h22_6
                    have h22_7 : R 61 (10 * gn.toInt.toNat + 7) = gc := by rw [hw9, pk_un (fun h9 => by have h8 := tk_nat (i := v3400) rfl (by omega); omega)]; exact h22_7
                    have h22_0 : R 61 (10 * gn.toInt.toNat + 0) = v38 := by rw [hw9, pk_un (fun h9 => by have h8 := tk_nat (i := v3400) rfl (by omega); omega)]; exact h22_0
                    have h22_9 : R 61 (10 * gn.toInt.toNat + 9) = 1 := by rw [hw9, pk_un (fun h9 => by have h8 := tk_nat (i := v3400) rfl (by omega); omega)]; exact h22_9
                    have hC9 := hC
                    have hC : v3396.toInt = 0 → CLS 10 [1, 3, 5, 7] (R 24) (R 25) (Ra 61) gc.toInt gn.toInt := fun h9 => (hC9 (by omega)).to (hj9 24 (by decide)) (hj9 25 (by decide))
                    have hX33999 := hX3399
                    have hX3399 : v3396.toInt = 0 → WFX (R 24) (R 25) gc v3398 := fun h9 => by rw [hj9 24 (by decide), hj9 25 (by decide)]; exact hX33999 (by omega)
                    have h22_8 : R 61 (10 * gn.toInt.toNat + 8) = v3398 := by rw [hw9, show 10 * gn.toInt.toNat + 8 = (v3400 : Int32).toNatClampNeg by show _ = v3400.toInt.toNat; omega]; exact pk_us
                    have hRR := mz_frp (K := [24, 25, 27, 28, 61]) (Fa := Ra) hj9 hRR (by decide)
                    have hk_0 : (0 : Int32).toInt = 0 := by decide
                    have hk_0 : (0 : Int32).toInt = 0 := by decide
                    have hk_0 : (0 : Int32).toInt = 0 := by decide
                    have hk_0 : (0 : Int32).toInt = 0 := by decide
                    have hk_0 : (0 : Int32).toInt = 0 := by decide
                    have hk_0 : (0 : Int32).toInt = 0 := by decide
                    have hk_1 : (1 : Int32).toInt = 1 := by decide
                    exact mz_vret hx hb hr hlocks ⟨hIF, hIG, hIR, hFF, hRR, hGG, (by rw [hf3387, hf3389]; omega), (by rw [hf3389]; omega), (by rw [hf3387, hf3389, hf3391]; omega), (by rw [hf3387, hf3389, hf3391, hf3393]; omega), (by rw [hf3387]; omega), (by rw [hf3397]; omega), (by rw [hf3387, hf3397]; omega), (by rw [hf3395]; omega), (by rw [hf3387, hf3395]; omega), (by rw [hf3395, hf3397, hf111]; exact fun h9 => mz_snoc (N := gn.toInt.toNat) (hC h9) (by omega) (by omega) hL22 (by decide) (by omega) (by intro d hd; simp only [List.mem_cons, List.not_mem_nil, or_false] at hd; rcases hd with rfl | rfl | rfl | rfl <;> first | (rw [show 10 * gn.toInt.toNat + 1 + 1 = 10 * gn.toInt.toNat + 2 from rfl, h22_1, h22_2]; exact ⟨WFX.nil (by omega) (by omega), by omega⟩) | (rw [show 10 * gn.toInt.toNat + 3 + 1 = 10 * gn.toInt.toNat + 4 from rfl, h22_3, h22_4]; exact ⟨WFX.nil (by omega) (by omega), by omega⟩) | (rw [show 10 * gn.toInt.toNat + 5 + 1 = 10 * gn.toInt.toNat + 6 from rfl, h22_5, h22_6]; exact ⟨WFX.nil (by omega) (by omega), by omega⟩) | (rw [show 10 * gn.toInt.toNat + 7 + 1 = 10 * gn.toInt.toNat + 8 from rfl, h22_7, h22_8]; exact ⟨hX3399 h9, by omega⟩))), (by rw [hf3395, hf111]; exact fun h9 => TMS.snoc (N := gn.toInt.toNat) hx_1 (by omega) (by omega) hL22 h22_9 (by omega) (by omega))⟩ hM hS dX13_readOrder_273
                · have hc3348 : ¬ (v3341.toInt = 0) := fun h9 => c9 ((fi_eq rfl (show (0 : Int32).toInt = 0 by decide)).mpr h9)
                  have hwk_3402 : w103.toInt + (-21279923) = 0 ∧ v101.toInt + (-1) = 0 := by omega
                  have hwk_3403 : 0 ≤ (-1) * v97.toInt + v99.toInt + (-1) := by omega
                  have hwk_3404 : 0 ≤ (-1) * v97.toInt + v99.toInt + (-2) := by omega
                  refine lv_aload_n hx hb dX13_readOrder_200 rfl (lv_at hl 3 rfl) ?_
                  refine mz_Vv (As := []) (rest := []) ⟨hx, hb, hml, hown, hts⟩ hK hM hS (k_X13_next l D cy ld ad am hD _ _ _ _ v99 gp hIF hIG hIR hf98 hg_3 (by omega)) ⟨callB_of 0 hts (wl_in mw_685) rfl rfl rfl (htl _ mw_5) (htl _ mw_682) hd_yX13_next ⟨(Nat.le_of_ble_eq_true rfl), (Nat.le_of_ble_eq_true rfl)⟩, htl _ mw_683, htl _ mw_684⟩ rfl hl.1 rfl (Nat.le_of_ble_eq_true rfl) dX13_readOrder_201 ⟨(Nat.le_of_ble_eq_true rfl), (Nat.le_of_ble_eq_true rfl)⟩ (fun H locs F G R S hpo hM hS => ?_)
                  obtain ⟨hIF, hIG, hIR, hfr9, hrr9, hgr9, hpo3405, hpo3406, hpo3407, hpo3408, hpo3409⟩ := hpo
                  have hFF := mz_fr (K := [14, 15, 16, 18, 19, 21, 23, 26, 29, 30]) (Fa := Fa) hfr9 hFF (by decide)
                  have hRR := mz_fr (K := [24, 25, 27, 28, 61]) (Fa := Ra) hrr9 hRR (by decide)
                  have hGG := mz_fr (K := [17]) (Fa := Ga) hgr9 hGG (by decide)
                  have hg_3 := (hfr9 13 (by decide)).trans hg_3
                  have hg_6 := (hfr9 23 (by decide)).trans hg_6
                  have hf104 := (hfr9 19 (by decide)).trans hf104
                  have hf111 := (hfr9 21 (by decide)).trans hf111
                  obtain ⟨v3412, hf3411⟩ : ∃ z : Int32, F 14 = z := ⟨_, rfl⟩
                  have hq_v3412 := tk_rng v3412
                  rw [hf3411] at hpo3405 hpo3406 hpo3408 hpo3409
                  have hr_v3412 : 0 ≤ v3412.toInt ∧ v3412.toInt ≤ 400 := hIF.at hf3411
                  obtain ⟨v3414, hf3413⟩ : ∃ z : Int32, F 15 = z := ⟨_, rfl⟩
                  have hq_v3414 := tk_rng v3414
                  rw [hf3413] at hpo3406 hpo3407 hpo3408 hpo3409
                  have hr_v3414 : 0 ≤ v3414.toInt ∧ v3414.toInt ≤ 400 := hIF.at hf3413
                  obtain ⟨v3416, hf3415⟩ : ∃ z : Int32, F 16 = z := ⟨_, rfl⟩
                  have hq_v3416 := tk_rng v3416
                  rw [hf3415] at hpo3408 hpo3409
                  have hr_v3416 : 0 ≤ v3416.toInt ∧ v3416.toInt ≤ 3 := hIF.at hf3415
                  obtain ⟨w3418, hf3417⟩ : ∃ z : Int64, G 17 = z := ⟨_, rfl⟩
                  have hq_w3418 := tk_rngL w3418
                  rw [hf3417] at hpo3409
                  have hL22 := hL22.to (hrr9 61 (by decide))
                  have h22_1 := (congrFun (hrr9 61 (by decide)) _).trans h22_1
                  have h22_2 := (congrFun (hrr9 61 (by decide)) _).trans h22_2
                  have h22_3 := (congrFun (hrr9 61 (by decide)) _).trans h22_3
                  have h22_4 := (congrFun (hrr9 61 (by decide)) _).trans h22_4
                  have h22_5 := (congrFun (hrr9 61 (by decide)) _).trans h22_5
                  have h22_6 := (congrFun (hrr9 61 (by decide)) _).trans h22_6
                  have h22_7 := (congrFun (hrr9 61 (by decide)) _).trans h22_7
                  have h22_8 := (congrFun (hrr9 61 (by decide)) _).trans h22_8
                  have h22_0 := (congrFun (hrr9 61 (by decide)) _).trans h22_0
                  have h22_9 := (congrFun (hrr9 61 (by decide)) _).trans h22_9
                  have hC9 := hC
                  have hC : v105.toInt = 0 → CLS 10 [1, 3, 5, 7] (R 24) (R 25) (Ra 61) gc.toInt gn.toInt := fun h9 => (hC9 (by omega)).to (hrr9 24 (by decide)) (hrr9 25 (by decide))
                  refine lv_aload_n hx hb dX13_readOrder_204 rfl (lv_at hl 3 rfl) ?_
                  refine mz_getR hx hb htl hown hK hM 61 (Nat.le_of_ble_eq_true rfl) (Nat.le_of_ble_eq_true rfl) (htl _ mw_239) (fun _ h9 => h9) dX13_readOrder_205 ?_
                  refine lv_iload_n hx hb dX13_readOrder_208 rfl (lv_at hl 1 rfl) ?_
                  refine lv_bipush (v := 9) hx hb dX13_readOrder_209 (by decide) ?_
                  refine lv_iadd hx hb dX13_readOrder_211 ?_
                  refine tk_add rfl (show (9 : Int32).toInt = 9 by decide) (by omega) (by omega) (fun v3419 h_v3419 => ?_)
                  refine lv_aload_n hx hb dX13_readOrder_212 rfl (lv_at hl 3 rfl) ?_
                  refine lv_lconst (v := 1) hx hb dX13_readOrder_213 (by decide) ?_
                  refine lv_ldc2 hx hb hown (htl _ mw_782) dX13_readOrder_214 ?_
                  have hk_1 : (1 : Int64).toInt = 1 := by decide
                  have hk_20 : (20 : Int64).toInt = 20 := by decide
                  refine mz_Vi (As := [.long 1, .long 20]) (rest := [.int v3419, .ref (ad 61)]) ⟨hx, hb, hml, hown, hts⟩ hK hM hS (k_X13_number l D cy ld ad am hD _ _ _ _ 1 20 v3412 v3414 v3416 gp w3418 v105 hIF hIG hIR hf3411 hf3413 hf3415 hg_3 hf3417 hf104 (by omega) (by omega) (by omega) (by omega) (by omega) (by omega) (by omega) (by omega)) ⟨callB_of 2 hts (wl_in mw_762) rfl rfl rfl (htl _ mw_5) (htl _ mw_759) hd_yX13_number ⟨(Nat.le_of_ble_eq_true rfl), (Nat.le_of_ble_eq_true rfl)⟩, htl _ mw_760, htl _ mw_761⟩ rfl hl.1 rfl (Nat.le_of_ble_eq_true rfl) dX13_readOrder_217 ⟨(Nat.le_of_ble_eq_true rfl), (Nat.le_of_ble_eq_true rfl)⟩ (fun v3420 H locs F G R S hpo hM hS => ?_)
                  obtain ⟨hIF, hIG, hIR, hfr9, hrr9, hgr9, hpo3421, hpo3422, hpo3423, hpo3424, hpo3425, hpo3426, hpo3427⟩ := hpo
                  have hq_v3420 := tk_rng v3420
                  have hFF := mz_fr (K := [14, 15, 16, 18, 19, 21, 23, 26, 29, 30]) (Fa := Fa) hfr9 hFF (by decide)
                  have hRR := mz_fr (K := [24, 25, 27, 28, 61]) (Fa := Ra) hrr9 hRR (by decide)
                  have hGG := mz_fr (K := [17]) (Fa := Ga) hgr9 hGG (by decide)
                  have hg_3 := (hfr9 13 (by decide)).trans hg_3
                  have hg_6 := (hfr9 23 (by decide)).trans hg_6
                  have hf111 := (hfr9 21 (by decide)).trans hf111
                  obtain ⟨v3430, hf3429⟩ : ∃ z : Int32, F 14 = z := ⟨_, rfl⟩
                  have hq_v3430 := tk_rng v3430
                  rw [hf3429] at hpo3421 hpo3423 hpo3424 hpo3425 hpo3427
                  have hr_v3430 : 0 ≤ v3430.toInt ∧ v3430.toInt ≤ 400 := hIF.at hf3429
                  obtain ⟨v3432, hf3431⟩ : ∃ z : Int32, F 15 = z := ⟨_, rfl⟩
                  have hq_v3432 := tk_rng v3432
                  rw [hf3431] at hpo3421 hpo3422 hpo3423 hpo3424
                  have hr_v3432 : 0 ≤ v3432.toInt ∧ v3432.toInt ≤ 400 := hIF.at hf3431
                  obtain ⟨v3434, hf3433⟩ : ∃ z : Int32, F 16 = z := ⟨_, rfl⟩
                  have hq_v3434 := tk_rng v3434
                  rw [hf3433] at hpo3423 hpo3424
                  have hr_v3434 : 0 ≤ v3434.toInt ∧ v3434.toInt ≤ 3 := hIF.at hf3433
                  obtain ⟨w3436, hf3435⟩ : ∃ z : Int64, G 17 = z := ⟨_, rfl⟩
                  have hq_w3436 := tk_rngL w3436
                  rw [hf3435] at hpo3424
                  obtain ⟨v3438, hf3437⟩ : ∃ z : Int32, F 19 = z := ⟨_, rfl⟩
                  have hq_v3438 := tk_rng v3438
                  rw [hf3437] at hpo3426 hpo3427
                  have hr_v3438 : 0 ≤ v3438.toInt ∧ v3438.toInt ≤ 1 := hIF.at hf3437
                  have hL22 := hL22.to (hrr9 61 (by decide))
                  have h22_1 := (congrFun (hrr9 61 (by decide)) _).trans h22_1
                  have h22_2 := (congrFun (hrr9 61 (by decide)) _).trans h22_2
                  have h22_3 := (congrFun (hrr9 61 (by decide)) _).trans h22_3
                  have h22_4 := (congrFun (hrr9 61 (by decide)) _).trans h22_4
                  have h22_5 := (congrFun (hrr9 61 (by decide)) _).trans h22_5
                  have h22_6 := (congrFun (hrr9 61 (by decide)) _).trans h22_6
                  have h22_7 := (congrFun (hrr9 61 (by decide)) _).trans h22_7
                  have h22_8 := (congrFun (hrr9 61 (by decide)) _).trans h22_8
                  have h22_0 := (congrFun (hrr9 61 (by decide)) _).trans h22_0
                  have h22_9 := (congrFun (hrr9 61 (by decide)) _).trans h22_9
                  have hC9 := hC
                  have hC : v3438.toInt = 0 → CLS 10 [1, 3, 5, 7] (R 24) (R 25) (Ra 61) gc.toInt gn.toInt := fun h9 => (hC9 (by omega)).to (hrr9 24 (by decide)) (hrr9 25 (by decide))
                  refine mz_iast (x := v3420) hx hb hK hD hM hS 61 (Nat.le_of_ble_eq_true rfl) rfl (nn := 120) rfl rfl (by omega) (by omega) dX13_readOrder_220 (fun H locs R hM hS hw9 hj9 => ?_)
                  have hIR := hIR.put hw9 hj9 trivial
                  have hL22 : low (10 * gn.toInt.toNat) (Ra 61) (R 61) := fun j hj => by rw [hw9, pk_un (fun h9 => by have h8 := tk_nat (i := v3419) rfl (by omega); omega)]; exact hL22 j hj
                  have h22_1 : R 61 (10 * gn.toInt.toNat + 1) = 0 := by rw [hw9, pk_un (fun h9 => by have h8 := tk_nat (i := v3419) rfl (by omega); omega)]; exact h22_1
                  have h22_2 : R 61 (10 * gn.toInt.toNat + 2) = 0 := by rw [hw9, pk_un (fun h9 => by have h8 := tk_nat (i := v3419) rfl (by omega); omega)]; exact h22_2
                  have h22_3 : R 61 (10 * gn.toInt.toNat + 3) = 0 := by rw [hw9, pk_un (fun h9 => by have h8 := tk_nat (i := v3419) rfl (by omega); omega)]; exact h22_3
                  have h22_4 : R 61 (10 * gn.toInt.toNat + 4) = 0 := by rw [hw9, pk_un (fun h9 => by have h8 := tk_nat (i := v3419) rfl (by omega); omega)]; exact h22_4
                  have h22_5 : R 61 (10 * gn.toInt.toNat + 5) = 0 := by rw [hw9, pk_un (fun h9 => by have h8 := tk_nat (i := v3419) rfl (by omega); omega)]; exact h22_5
                  have h22_6 : R 61 (10 * gn.toInt.toNat + 6) = 0 := by rw [hw9, pk_un (fun h9 => by have h8 := tk_nat (i := v3419) rfl (by omega); omega)]; exact h22_6
                  have h22_7 : R 61 (10 * gn.toInt.toNat + 7) = 0 := by rw [hw9, pk_un (fun h9 => by have h8 := tk_nat (i := v3419) rfl (by omega); omega)]; exact h22_7
                  have h22_8 : R 61 (10 * gn.toInt.toNat + 8) = 0 := by rw [hw9, pk_un (fun h9 => by have h8 := tk_nat (i := v3419) rfl (by omega); omega)]; exact h22_8
                  have h22_0 : R 61 (10 * gn.toInt.toNat + 0) = v38 := by rw [hw9, pk_un (fun h9 => by have h8 := tk_nat (i := v3419) rfl (by omega); omega)]; exact h22_0
                  have hC9 := hC
                  have hC : v3438.toInt = 0 → CLS 10 [1, 3, 5, 7] (R 24) (R 25) (Ra 61) gc.toInt gn.toInt := fun h9 => (hC9 (by omega)).to (hj9 24 (by decide)) (hj9 25 (by decide))
                  have h22_9 : R 61 (10 * gn.toInt.toNat + 9) = v3420 := by rw [hw9, show 10 * gn.toInt.toNat + 9 = (v3419 : Int32).toNatClampNeg by show _ = v3419.toInt.toNat; omega]; exact pk_us
                  have hRR := mz_frp (K := [24, 25, 27, 28, 61]) (Fa := Ra) hj9 hRR (by decide)
                  refine lv_aload_n hx hb dX13_readOrder_221 rfl (lv_at hl 3 rfl) ?_
                  refine mz_getR hx hb htl hown hK hM 61 (Nat.le_of_ble_eq_true rfl) (Nat.le_of_ble_eq_true rfl) (htl _ mw_239) (fun _ h9 => h9) dX13_readOrder_222 ?_
                  refine lv_iload_n hx hb dX13_readOrder_225 rfl (lv_at hl 1 rfl) ?_
                  refine lv_bipush (v := 7) hx hb dX13_readOrder_226 (by decide) ?_
                  refine lv_iadd hx hb dX13_readOrder_228 ?_
                  refine tk_add rfl (show (7 : Int32).toInt = 7 by decide) (by omega) (by omega) (fun v3440 h_v3440 => ?_)
                  refine lv_aload_n hx hb dX13_readOrder_229 rfl (lv_at hl 3 rfl) ?_
                  refine mz_getI hx hb htl hown hK hM 23 (Nat.le_of_ble_eq_true rfl) rfl (htl _ mw_670) (fun _ h9 => h9) dX13_readOrder_230 (fun v9 e9 => ?_)
                  refine fx_ti (v := gc) (e9.symm.trans hg_6) ?_
                  refine mz_iast (x := gc) hx hb hK hD hM hS 61 (Nat.le_of_ble_eq_true rfl) rfl (nn := 120) rfl rfl (by omega) (by omega) dX13_readOrder_233 (fun H locs R hM hS hw9 hj9 => ?_)
                  have hIR := hIR.put hw9 hj9 trivial
                  have hL22 : low (10 * gn.toInt.toNat) (Ra 61) (R 61) := fun j hj => by rw [hw9, pk_un (fun h9 => by have h8 := tk_nat (i := v3440) rfl (by omega); omega)]; exact hL22 j hj
                  have h22_1 : R 61 (10 * gn.toInt.toNat + 1) = 0 := by rw [hw9, pk_un (fun h9 => by have h8 := tk_nat (i := v3440) rfl (by omega); omega)]; exact h22_1
                  have h22_2 : R 61 (10 * gn.toInt.toNat + 2) = 0 := by rw [hw9, pk_un (fun h9 => by have h8 := tk_nat (i := v3440) rfl (by omega); omega)]; exact h22_2
                  have h22_3 : R 61 (10 * gn.toInt.toNat + 3) = 0 := by rw [hw9, pk_un (fun h9 => by have h8 := tk_nat (i := v3440) rfl (by omega); omega)]; exact h22_3
                  have h22_4 : R 61 (10 * gn.toInt.toNat + 4) = 0 := by rw [hw9, pk_un (fun h9 => by have h8 := tk_nat (i := v3440) rfl (by omega); omega)]; exact h22_4
                  have h22_5 : R 61 (10 * gn.toInt.toNat + 5) = 0 := by rw [hw9, pk_un (fun h9 => by have h8 := tk_nat (i := v3440) rfl (by omega); omega)]; exact h22_5
                  have h22_6 : R 61 (10 * gn.toInt.toNat + 6) = 0 := by rw [hw9, pk_un (fun h9 => by have h8 := tk_nat (i := v3440) rfl (by omega); omega)]; exact h22_6
                  have h22_8 : R 61 (10 * gn.toInt.toNat + 8) = 0 := by rw [hw9, pk_un (fun h9 => by have h8 := tk_nat (i := v3440) rfl (by omega); omega)]; exact h22_8
                  have h22_0 : R 61 (10 * gn.toInt.toNat + 0) = v38 := by rw [hw9, pk_un (fun h9 => by have h8 := tk_nat (i := v3440) rfl (by omega); omega)]; exact h22_0
                  have h22_9 : R 61 (10 * gn.toInt.toNat + 9) = v3420 := by rw [hw9, pk_un (fun h9 => by have h8 := tk_nat (i := v3440) rfl (by omega); omega)]; exact h22_9
                  have hC9 := hC
                  have hC : v3438.toInt = 0 → CLS 10 [1, 3, 5, 7] (R 24) (R 25) (Ra 61) gc.toInt gn.toInt := fun h9 => (hC9 (by omega)).to (hj9 24 (by decide)) (hj9 25 (by decide))
                  have h22_7 : R 61 (10 * gn.toInt.toNat + 7) = gc := by rw [hw9, show 10 * gn.toInt.toNat + 7 = (v3440 : Int32).toNatClampNeg by show _ = v3440.toInt.toNat; omega]; exact pk_us
                  have hRR := mz_frp (K := [24, 25, 27, 28, 61]) (Fa := Ra) hj9 hRR (by decide)
                  refine lv_aload_n hx hb dX13_readOrder_234 rfl (lv_at hl 3 rfl) ?_
                  refine mz_getI hx hb htl hown hK hM 19 (Nat.le_of_ble_eq_true rfl) rfl (htl _ mw_668) (fun _ h9 => h9) dX13_readOrder_235 (fun v9 e9 => ?_)
                  refine fx_ti (v := v3438) (e9.symm.trans hf3437) ?_
                  refine lv_if_ne (tgt := 260) hx hb dX13_readOrder_238 (by decide) (fun c9 => ?_) (fun c9 => ?_)
                  · have hc3442 : ¬ (v3438.toInt = 0) := fun h9 => c9 ((fi_eq rfl (show (0 : Int32).toInt = 0 by decide)).mpr h9)
                    refine lv_aload_n hx hb dX13_readOrder_260 rfl (lv_at hl 3 rfl) ?_
                    refine mz_getR hx hb htl hown hK hM 61 (Nat.le_of_ble_eq_true rfl) (Nat.le_of_ble_eq_true rfl) (htl _ mw_239) (fun _ h9 => h9) dX13_readOrder_261 ?_
                    refine lv_iload_n hx hb dX13_readOrder_264 rfl (lv_at hl 1 rfl) ?_
                    refine lv_bipush (v := 8) hx hb dX13_readOrder_265 (by decide) ?_
                    refine lv_iadd hx hb dX13_readOrder_267 ?_
                    refine tk_add rfl (show (8 : Int32).toInt = 8 by decide) (by omega) (by omega) (fun v3443 h_v3443 => ?_)
                    refine lv_aload_n hx hb dX13_readOrder_268 rfl (lv_at hl 3 rfl) ?_
                    refine mz_getI hx hb htl hown hK hM 23 (Nat.le_of_ble_eq_true rfl) rfl (htl _ mw_670) (fun _ h9 => h9) dX13_readOrder_269 (fun v9 e9 => ?_)
                    refine fx_ti (v := gc) (e9.symm.trans hg_6) ?_
                    refine mz_iast (x := gc) hx hb hK hD hM hS 61 (Nat.le_of_ble_eq_true rfl) rfl (nn := 120) rfl rfl (by omega) (by omega) dX13_readOrder_272 (fun H locs R hM hS hw9 hj9 => ?_)
                    have hIR := hIR.put hw9 hj9 trivial
                    have hL22 : low (10 * gn.toInt.toNat) (Ra 61) (R 61) := fun j hj => by rw [hw9, pk_un (fun h9 => by have h8 := tk_nat (i := v3443) rfl (by omega); omega)]; exact hL22 j hj
                    have h22_1 : R 61 (10 * gn.toInt.toNat + 1) = 0 := by rw [hw9, pk_un (fun h9 => by have h8 := tk_nat (i := v3443) rfl (by omega); omega)]; exact h22_1
                    have h22_2 : R 61 (10 * gn.toInt.toNat + 2) = 0 := by rw [hw9, pk_un (fun h9 => by have h8 := tk_nat (i := v3443) rfl (by omega); omega)]; exact h22_2
                    have h22_3 : R 61 (10 * gn.toInt.toNat + 3) = 0 := by rw [hw9, pk_un (fun h9 => by have h8 := tk_nat (i := v3443) rfl (by omega); omega)]; exact h22_3
                    have h22_4 : R 61 (10 * gn.toInt.toNat + 4) = 0 := by rw [hw9, pk_un (fun h9 => by have h8 := tk_nat (i := v3443) rfl (by omega); omega)]; exact h22_4
                    have h22_5 : R 61 (10 * gn.toInt.toNat + 5) = 0 := by rw [hw9, pk_un (fun h9 => by have h8 := tk_nat (i := v3443) rfl (by omega); omega)]; exact h22_5
                    have h22_6 : R 61 (10 * gn.toInt.toNat + 6) = 0 := by rw [hw9, pk_un (fun h9 => by have h8 := tk_nat (i := v3443) rfl (by omega); omega)]; exact h22_6
                    have h22_7 : R 61 (10 * gn.toInt.toNat + 7) = gc := by rw [hw9, pk_un (fun h9 => by have h8 := tk_nat (i := v3443) rfl (by omega); omega)]; exact h22_7
                    have h22_0 : R 61 (10 * gn.toInt.toNat + 0) = v38 := by rw [hw9, pk_un (fun h9 => by have h8 := tk_nat (i := v3443) rfl (by omega); omega)]; exact h22_0
                    have h22_9 : R 61 (10 * gn.toInt.toNat + 9) = v3420 := by rw [hw9, pk_un (fun h9 => by have h8 := tk_nat (i := v3443) rfl (by omega); omega)]; exact h22_9
                    have hC9 := hC
                    have hC : v3438.toInt = 0 → CLS 10 [1, 3, 5, 7] (R 24) (R 25) (Ra 61) gc.toInt gn.toInt := fun h9 => (hC9 (by omega)).to (hj9 24 (by decide)) (hj9 25 (by decide))
                    have h22_8 : R 61 (10 * gn.toInt.toNat + 8) = gc := by rw [hw9, show 10 * gn.toInt.toNat + 8 = (v3443 : Int32).toNatClampNeg by show _ = v3443.toInt.toNat; omega]; exact pk_us
                    have hRR := mz_frp (K := [24, 25, 27, 28, 61]) (Fa := Ra) hj9 hRR (by decide)
                    exact mz_vret hx hb hr hlocks ⟨hIF, hIG, hIR, hFF, hRR, hGG, (by rw [hf3429, hf3431]; omega), (by rw [hf3431]; omega), (by rw [hf3429, hf3431, hf3433]; omega), (by rw [hf3429, hf3431, hf3433, hf3435]; omega), (by rw [hf3429]; omega), (by rw [hg_6]; omega), (by rw [hf3429, hg_6]; omega), (by rw [hf3437]; omega), (by rw [hf3429, hf3437]; omega), (by rw [hf3437]; exact fun h9 => absurd h9 (by omega)), (by rw [hf3437]; exact fun h9 => absurd h9 (by omega))⟩ hM hS dX13_readOrder_273
                  · have hc3442 : v3438.toInt = 0 := (fi_eq rfl (show (0 : Int32).toInt = 0 by decide)).mp c9
                    have hwk_3445 : 0 ≤ (-1) * v3414.toInt + v3430.toInt ∧ 1 ≤ v3420.toInt ∧ v3420.toInt ≤ 20 := by omega
                    refine lv_aload_n hx hb dX13_readOrder_241 rfl (lv_at hl 3 rfl) ?_
                    refine lv_ldc2 hx hb hown (htl _ mw_705) dX13_readOrder_242 ?_
                    have hk_294 : (294 : Int64).toInt = 294 := by decide
                    refine mz_Vj (As := [.long 294]) (rest := []) ⟨hx, hb, hml, hown, hts⟩ hK hM hS (k_X13_isWord l D cy ld ad am hD _ _ _ _ 294 v3434 w3436 hIF hIG hIR hf3433 hf3435) ⟨callB_of 1 hts (wl_in mw_709) rfl rfl rfl (htl _ mw_5) (htl _ mw_706) hd_yX13_isWord ⟨(Nat.le_of_ble_eq_true rfl), (Nat.le_of_ble_eq_true rfl)⟩, htl _ mw_707, htl _ mw_708⟩ rfl hl.1 rfl (Nat.le_of_ble_eq_true rfl) dX13_readOrder_245 ⟨(Nat.le_of_ble_eq_true rfl), (Nat.le_of_ble_eq_true rfl)⟩ (fun v3446 H locs hpo hM hS => ?_)
                    obtain ⟨hpo3447, hpo3448, hpo3449, hpo3450, hpo3451⟩ := hpo
                    have hq_v3446 := tk_rng v3446
                    refine lv_if_eq (tgt := 260) hx hb dX13_readOrder_248 (by decide) (fun c9 => ?_) (fun c9 => ?_)
                    · have hc3453 : v3446.toInt = 0 := (fi_eq rfl (show (0 : Int32).toInt = 0 by decide)).mp c9
                      refine lv_aload_n hx hb dX13_readOrder_260 rfl (lv_at hl 3 rfl) ?_
                      refine mz_getR hx hb htl hown hK hM 61 (Nat.le_of_ble_eq_true rfl) (Nat.le_of_ble_eq_true rfl) (htl _ mw_239) (fun _ h9 => h9) dX13_readOrder_261 ?_
                      refine lv_iload_n hx hb dX13_readOrder_264 rfl (lv_at hl 1 rfl) ?_
                      refine lv_bipush (v := 8) hx hb dX13_readOrder_265 (by decide) ?_
                      refine lv_iadd hx hb dX13_readOrder_267 ?_
                      refine tk_add rfl (show (8 : Int32).toInt = 8 by decide) (by omega) (by omega) (fun v3454 h_v3454 => ?_)
                      refine lv_aload_n hx hb dX13_readOrder_268 rfl (lv_at hl 3 rfl) ?_
                      refine mz_getI hx hb htl hown hK hM 23 (Nat.le_of_ble_eq_true rfl) rfl (htl _ mw_670) (fun _ h9 => h9) dX13_readOrder_269 (fun v9 e9 => ?_)
                      refine fx_ti (v := gc) (e9.symm.trans hg_6) ?_
                      refine mz_iast (x := gc) hx hb hK hD hM hS 61 (Nat.le_of_ble_eq_true rfl) rfl (nn := 120) rfl rfl (by omega) (by omega) dX13_readOrder_272 (fun H locs R hM hS hw9 hj9 => ?_)
                      have hIR := hIR.put hw9 hj9 trivial
                      have hL22 : low (10 * gn.toInt.toNat) (Ra 61) (R 61) := fun j hj => by rw [hw9, pk_un (fun h9 => by have h8 := tk_nat (i := v3454) rfl (by omega); omega)]; exact hL22 j hj
                      have h22_1 : R 61 (10 * gn.toInt.toNat + 1) = 0 := by rw [hw9, pk_un (fun h9 => by have h8 := tk_nat (i := v3454) rfl (by omega); omega)]; exact h22_1
                      have h22_2 : R 61 (10 * gn.toInt.toNat + 2) = 0 := by rw [hw9, pk_un (fun h9 => by have h8 := tk_nat (i := v3454) rfl (by omega); omega)]; exact h22_2
                      have h22_3 : R 61 (10 * gn.toInt.toNat + 3) = 0 := by rw [hw9, pk_un (fun h9 => by have h8 := tk_nat (i := v3454) rfl (by omega); omega)]; exact h22_3
                      have h22_4 : R 61 (10 * gn.toInt.toNat + 4) = 0 := by rw [hw9, pk_un (fun h9 => by have h8 := tk_nat (i := v3454) rfl (by omega); omega)]; exact h22_4
                      have h22_5 : R 61 (10 * gn.toInt.toNat + 5) = 0 := by rw [hw9, pk_un (fun h9 => by have h8 := tk_nat (i := v3454) rfl (by omega); omega)]; exact h22_5
                      have h22_6 : R 61 (10 * gn.toInt.toNat + 6) = 0 := by rw [hw9, pk_un (fun h9 => by have h8 := tk_nat (i := v3454) rfl (by omega); omega)]; exact h22_6
                      have h22_7 : R 61 (10 * gn.toInt.toNat + 7) = gc := by rw [hw9, pk_un (fun h9 => by have h8 := tk_nat (i := v3454) rfl (by omega); omega)]; exact h22_7
                      have h22_0 : R 61 (10 * gn.toInt.toNat + 0) = v38 := by rw [hw9, pk_un (fun h9 => by have h8 := tk_nat (i := v3454) rfl (by omega); omega)]; exact h22_0
                      have h22_9 : R 61 (10 * gn.toInt.toNat + 9) = v3420 := by rw [hw9, pk_un (fun h9 => by have h8 := tk_nat (i := v3454) rfl (by omega); omega)]; exact h22_9
                      have hC9 := hC
                      have hC : v3438.toInt = 0 → CLS 10 [1, 3, 5, 7] (R 24) (R 25) (Ra 61) gc.toInt gn.toInt := fun h9 => (hC9 (by omega)).to (hj9 24 (by decide)) (hj9 25 (by decide))
                      have h22_8 : R 61 (10 * gn.toInt.toNat + 8) = gc := by rw [hw9, show 10 * gn.toInt.toNat + 8 = (v3454 : Int32).toNatClampNeg by show _ = v3454.toInt.toNat; omega]; exact pk_us
                      have hRR := mz_frp (K := [24, 25, 27, 28, 61]) (Fa := Ra) hj9 hRR (by decide)
                      have hk_0 : (0 : Int32).toInt = 0 := by decide
                      have hk_0 : (0 : Int32).toInt = 0 := by decide
                      have hk_0 : (0 : Int32).toInt = 0 := by decide
                      have hk_0 : (0 : Int32).toInt = 0 := by decide
                      have hk_0 : (0 : Int32).toInt = 0 := by decide
                      have hk_0 : (0 : Int32).toInt = 0 := by decide
                      exact mz_vret hx hb hr hlocks ⟨hIF, hIG, hIR, hFF, hRR, hGG, (by rw [hf3429, hf3431]; omega), (by rw [hf3431]; omega), (by rw [hf3429, hf3431, hf3433]; omega), (by rw [hf3429, hf3431, hf3433, hf3435]; omega), (by rw [hf3429]; omega), (by rw [hg_6]; omega), (by rw [hf3429, hg_6]; omega), (by rw [hf3437]; omega), (by rw [hf3429, hf3437]; omega), (by rw [hf3437, hg_6, hf111]; exact fun h9 => mz_snoc (N := gn.toInt.toNat) (hC h9) (by omega) (by omega) hL22 (by decide) (by omega) (by intro d hd; simp only [List.mem_cons, List.not_mem_nil, or_false] at hd; rcases hd with rfl | rfl | rfl | rfl <;> first | (rw [show 10 * gn.toInt.toNat + 1 + 1 = 10 * gn.toInt.toNat + 2 from rfl, h22_1, h22_2]; exact ⟨WFX.nil (by omega) (by omega), by omega⟩) | (rw [show 10 * gn.toInt.toNat + 3 + 1 = 10 * gn.toInt.toNat + 4 from rfl, h22_3, h22_4]; exact ⟨WFX.nil (by omega) (by omega), by omega⟩) | (rw [show 10 * gn.toInt.toNat + 5 + 1 = 10 * gn.toInt.toNat + 6 from rfl, h22_5, h22_6]; exact ⟨WFX.nil (by omega) (by omega), by omega⟩) | (rw [show 10 * gn.toInt.toNat + 7 + 1 = 10 * gn.toInt.toNat + 8 from rfl, h22_7, h22_8]; exact ⟨WFX.nil (by omega) (by omega), by omega⟩))), (by rw [hf3437, hf111]; exact fun h9 => TMS.snoc (N := gn.toInt.toNat) hx_1 (by omega) (by omega) hL22 h22_9 (by omega) (by omega))⟩ hM hS dX13_readOrder_273
                    · have hc3453 : ¬ (v3446.toInt = 0) := fun h9 => c9 ((fi_eq rfl (show (0 : Int32).toInt = 0 by decide)).mpr h9)
                      have hwk_3456 : w3436.toInt + (-294) = 0 ∧ v3434.toInt + (-1) = 0 := by omega
                      have hwk_3457 : 0 ≤ (-1) * v3430.toInt + v3432.toInt + (-1) := by omega
                      have hwk_3458 : 0 ≤ (-1) * v3430.toInt + v3432.toInt + (-2) := by omega
                      refine lv_aload_n hx hb dX13_readOrder_251 rfl (lv_at hl 3 rfl) ?_
                      refine mz_Vv (As := []) (rest := []) ⟨hx, hb, hml, hown, hts⟩ hK hM hS (k_X13_next l D cy ld ad am hD _ _ _ _ v3432 gp hIF hIG hIR hf3431 hg_3 (by omega)) ⟨callB_of 0 hts (wl_in mw_685) rfl rfl rfl (htl _ mw_5) (htl _ mw_682) hd_yX13_next ⟨(Nat.le_of_ble_eq_true rfl), (Nat.le_of_ble_eq_true rfl)⟩, htl _ mw_683, htl _ mw_684⟩ rfl hl.1 rfl (Nat.le_of_ble_eq_true rfl) dX13_readOrder_252 ⟨(Nat.le_of_ble_eq_true rfl), (Nat.le_of_ble_eq_true rfl)⟩ (fun H locs F G R S hpo hM hS => ?_)
                      obtain ⟨hIF, hIG, hIR, hfr9, hrr9, hgr9, hpo3459, hpo3460, hpo3461, hpo3462, hpo3463⟩ := hpo
                      have hFF := mz_fr (K := [14, 15, 16, 18, 19, 21, 23, 26, 29, 30]) (Fa := Fa) hfr9 hFF (by decide)
                      have hRR := mz_fr (K := [24, 25, 27, 28, 61]) (Fa := Ra) hrr9 hRR (by decide)
                      have hGG := mz_fr (K := [17]) (Fa := Ga) hgr9 hGG (by decide)
                      have hg_3 := (hfr9 13 (by decide)).trans hg_3
                      have hg_6 := (hfr9 23 (by decide)).trans hg_6
                      have hf111 := (hfr9 21 (by decide)).trans hf111
                      have hf3437 := (hfr9 19 (by decide)).trans hf3437
                      obtain ⟨v3466, hf3465⟩ : ∃ z : Int32, F 14 = z := ⟨_, rfl⟩
                      have hq_v3466 := tk_rng v3466
                      rw [hf3465] at hpo3459 hpo3460 hpo3462 hpo3463
                      have hr_v3466 : 0 ≤ v3466.toInt ∧ v3466.toInt ≤ 400 := hIF.at hf3465
                      obtain ⟨v3468, hf3467⟩ : ∃ z : Int32, F 15 = z := ⟨_, rfl⟩
                      have hq_v3468 := tk_rng v3468
                      rw [hf3467] at hpo3460 hpo3461 hpo3462 hpo3463
                      have hr_v3468 : 0 ≤ v3468.toInt ∧ v3468.toInt ≤ 400 := hIF.at hf3467
                      obtain ⟨v3470, hf3469⟩ : ∃ z : Int32, F 16 = z := ⟨_, rfl⟩
                      have hq_v3470 := tk_rng v3470
                      rw [hf3469] at hpo3462 hpo3463
                      have hr_v3470 : 0 ≤ v3470.toInt ∧ v3470.toInt ≤ 3 := hIF.at hf3469
                      obtain ⟨w3472, hf3471⟩ : ∃ z : Int64, G 17 = z := ⟨_, rfl⟩
                      have hq_w3472 := tk_rngL w3472
                      rw [hf3471] at hpo3463
                      have hL22 := hL22.to (hrr9 61 (by decide))
                      have h22_1 := (congrFun (hrr9 61 (by decide)) _).trans h22_1
                      have h22_2 := (congrFun (hrr9 61 (by decide)) _).trans h22_2
                      have h22_3 := (congrFun (hrr9 61 (by decide)) _).trans h22_3
                      have h22_4 := (congrFun (hrr9 61 (by decide)) _).trans h22_4
                      have h22_5 := (congrFun (hrr9 61 (by decide)) _).trans h22_5
                      have h22_6 := (congrFun (hrr9 61 (by decide)) _).trans h22_6
                      have h22_7 := (congrFun (hrr9 61 (by decide)) _).trans h22_7
                      have h22_8 := (congrFun (hrr9 61 (by decide)) _).trans h22_8
                      have h22_0 := (congrFun (hrr9 61 (by decide)) _).trans h22_0
                      have h22_9 := (congrFun (hrr9 61 (by decide)) _).trans h22_9
                      have hC9 := hC
                      have hC : v3438.toInt = 0 → CLS 10 [1, 3, 5, 7] (R 24) (R 25) (Ra 61) gc.toInt gn.toInt := fun h9 => (hC9 (by omega)).to (hrr9 24 (by decide)) (hrr9 25 (by decide))
                      refine lv_aload_n hx hb dX13_readOrder_255 rfl (lv_at hl 3 rfl) ?_
                      refine lv_iconst (v := 1) hx hb dX13_readOrder_256 (by decide) ?_
                      have hk_1 : (1 : Int32).toInt = 1 := by decide
                      refine mz_Vv (As := [.int 1]) (rest := []) ⟨hx, hb, hml, hown, hts⟩ hK hM hS (k_X13_readExpression l D cy ld ad am hD _ _ _ _ 1 v3466 v3468 v3470 gp w3472 v3438 gc hIF hIG hIR hf3465 hf3467 hf3469 hg_3 hf3471 hf3437 hg_6 (by omega) (by omega) (by omega) (by omega) (by omega) (by omega) (by omega) (by omega)) ⟨callB_of 1 hts (wl_in mw_717) rfl rfl rfl (htl _ mw_5) (htl _ mw_714) hd_yX13_readExpression ⟨(Nat.le_of_ble_eq_true rfl), (Nat.le_of_ble_eq_true rfl)⟩, htl _ mw_715, htl _ mw_716⟩ rfl hl.1 rfl (Nat.le_of_ble_eq_true rfl) dX13_readOrder_257 ⟨(Nat.le_of_ble_eq_true rfl), (Nat.le_of_ble_eq_true rfl)⟩ (fun H locs F G R S hpo hM hS => ?_)
                      obtain ⟨hIF, hIG, hIR, hfr9, hrr9, hgr9, hpo3473, hpo3474, hpo3475, hpo3476, hpo3477, hpo3478, hpo3479, hx3480⟩ := hpo
                      have hFF := mz_fr (K := [14, 15, 16, 18, 19, 21, 23, 26, 29, 30]) (Fa := Fa) hfr9 hFF (by decide)
                      have hRR := mz_fr (K := [24, 25, 27, 28, 61]) (Fa := Ra) hrr9 hRR (by decide)
                      have hGG := mz_fr (K := [17]) (Fa := Ga) hgr9 hGG (by decide)
                      have hg_3 := (hfr9 13 (by decide)).trans hg_3
                      have hf111 := (hfr9 21 (by decide)).trans hf111
                      obtain ⟨v3483, hf3482⟩ : ∃ z : Int32, F 14 = z := ⟨_, rfl⟩
                      have hq_v3483 := tk_rng v3483
                      rw [hf3482] at hpo3473 hpo3475 hpo3476 hpo3477 hpo3478
                      have hr_v3483 : 0 ≤ v3483.toInt ∧ v3483.toInt ≤ 400 := hIF.at hf3482
                      obtain ⟨v3485, hf3484⟩ : ∃ z : Int32, F 15 = z := ⟨_, rfl⟩
                      have hq_v3485 := tk_rng v3485
                      rw [hf3484] at hpo3473 hpo3474 hpo3475 hpo3476
                      have hr_v3485 : 0 ≤ v3485.toInt ∧ v3485.toInt ≤ 400 := hIF.at hf3484
                      obtain ⟨v3487, hf3486⟩ : ∃ z : Int32, F 16 = z := ⟨_, rfl⟩
                      have hq_v3487 := tk_rng v3487
                      rw [hf3486] at hpo3475 hpo3476
                      have hr_v3487 : 0 ≤ v3487.toInt ∧ v3487.toInt ≤ 3 := hIF.at hf3486
                      obtain ⟨w3489, hf3488⟩ : ∃ z : Int64, G 17 = z := ⟨_, rfl⟩
                      have hq_w3489 := tk_rngL w3489
                      rw [hf3488] at hpo3476
                      obtain ⟨v3491, hf3490⟩ : ∃ z : Int32, F 19 = z := ⟨_, rfl⟩
                      have hq_v3491 := tk_rng v3491
                      have hr_v3491 : 0 ≤ v3491.toInt ∧ v3491.toInt ≤ 1 := hIF.at hf3490
                      obtain ⟨v3493, hf3492⟩ : ∃ z : Int32, F 23 = z := ⟨_, rfl⟩
                      have hq_v3493 := tk_rng v3493
                      rw [hf3492] at hpo3478 hpo3479
                      have hr_v3493 : 0 ≤ v3493.toInt ∧ v3493.toInt ≤ 400 := hIF.at hf3492
                      have hL22 := hL22.to (hrr9 61 (by decide))
                      have h22_1 := (congrFun (hrr9 61 (by decide)) _).trans h22_1
                      have h22_2 := (congrFun (hrr9 61 (by decide)) _).trans h22_2
                      have h22_3 := (congrFun (hrr9 61 (by decide)) _).trans h22_3
                      have h22_4 := (congrFun (hrr9 61 (by decide)) _).trans h22_4
                      have h22_5 := (congrFun (hrr9 61 (by decide)) _).trans h22_5
                      have h22_6 := (congrFun (hrr9 61 (by decide)) _).trans h22_6
                      have h22_7 := (congrFun (hrr9 61 (by decide)) _).trans h22_7
                      have h22_8 := (congrFun (hrr9 61 (by decide)) _).trans h22_8
                      have h22_0 := (congrFun (hrr9 61 (by decide)) _).trans h22_0
                      have h22_9 := (congrFun (hrr9 61 (by decide)) _).trans h22_9
                      have hE9 : v3491.toInt = 0 → WFC (R 24) (R 25) gc.toInt.toNat v3493.toInt.toNat ∧ low gc.toInt.toNat _ (R 24) ∧ low gc.toInt.toNat _ (R 25) := fun h9 => by have h8 := hx3480 (by rw [hf3490]; exact h9); rw [hf3492] at h8; exact h8
                      have hC9 := hC (by omega)
                      have hC : v3491.toInt = 0 → CLS 10 [1, 3, 5, 7] (R 24) (R 25) (Ra 61) gc.toInt gn.toInt := fun h9 => hC9.low (N := gc.toInt.toNat) (by omega) (hE9 h9).2.1 (hE9 h9).2.2
                      have hX3494 : v3491.toInt = 0 → WFX (R 24) (R 25) gc v3493 := fun h9 => ⟨by omega, by omega, by omega, (hE9 h9).1⟩
                      refine lv_aload_n hx hb dX13_readOrder_260 rfl (lv_at hl 3 rfl) ?_
                      refine mz_getR hx hb htl hown hK hM 61 (Nat.le_of_ble_eq_true rfl) (Nat.le_of_ble_eq_true rfl) (htl _ mw_239) (fun _ h9 => h9) dX13_readOrder_261 ?_
                      refine lv_iload_n hx hb dX13_readOrder_264 rfl (lv_at hl 1 rfl) ?_
                      refine lv_bipush (v := 8) hx hb dX13_readOrder_265 (by decide) ?_
                      refine lv_iadd hx hb dX13_readOrder_267 ?_
                      refine tk_add rfl (show (8 : Int32).toInt = 8 by decide) (by omega) (by omega) (fun v3495 h_v3495 => ?_)
                      refine lv_aload_n hx hb dX13_readOrder_268 rfl (lv_at hl 3 rfl) ?_
                      refine mz_getI hx hb htl hown hK hM 23 (Nat.le_of_ble_eq_true rfl) rfl (htl _ mw_670) (fun _ h9 => h9) dX13_readOrder_269 (fun v9 e9 => ?_)
                      refine fx_ti (v := v3493) (e9.symm.trans hf3492) ?_
                      refine mz_iast (x := v3493) hx hb hK hD hM hS 61 (Nat.le_of_ble_eq_true rfl) rfl (nn := 120) rfl rfl (by omega) (by omega) dX13_readOrder_272 (fun H locs R hM hS hw9 hj9 => ?_)
                      have hIR := hIR.put hw9 hj9 trivial
                      have hL22 : low (10 * gn.toInt.toNat) (Ra 61) (R 61) := fun j hj => by rw [hw9, pk_un (fun h9 => by have h8 := tk_nat (i := v3495) rfl (by omega); omega)]; exact hL22 j hj
                      have h22_1 : R 61 (10 * gn.toInt.toNat + 1) = 0 := by rw [hw9, pk_un (fun h9 => by have h8 := tk_nat (i := v3495) rfl (by omega); omega)]; exact h22_1
                      have h22_2 : R 61 (10 * gn.toInt.toNat + 2) = 0 := by rw [hw9, pk_un (fun h9 => by have h8 := tk_nat (i := v3495) rfl (by omega); omega)]; exact h22_2
                      have h22_3 : R 61 (10 * gn.toInt.toNat + 3) = 0 := by rw [hw9, pk_un (fun h9 => by have h8 := tk_nat (i := v3495) rfl (by omega); omega)]; exact h22_3
                      have h22_4 : R 61 (10 * gn.toInt.toNat + 4) = 0 := by rw [hw9, pk_un (fun h9 => by have h8 := tk_nat (i := v3495) rfl (by omega); omega)]; exact h22_4
                      have h22_5 : R 61 (10 * gn.toInt.toNat + 5) = 0 := by rw [hw9, pk_un (fun h9 => by have h8 := tk_nat (i := v3495) rfl (by omega); omega)]; exact h22_5
                      have h22_6 : R 61 (10 * gn.toInt.toNat + 6) = 0 := by rw [hw9, pk_un (fun h9 => by have h8 := tk_nat (i := v3495) rfl (by omega); omega)]; exact h22_6
                      have h22_7 : R 61 (10 * gn.toInt.toNat + 7) = gc := by rw [hw9, pk_un (fun h9 => by have h8 := tk_nat (i := v3495) rfl (by omega); omega)]; exact h22_7
                      have h22_0 : R 61 (10 * gn.toInt.toNat + 0) = v38 := by rw [hw9, pk_un (fun h9 => by have h8 := tk_nat (i := v3495) rfl (by omega); omega)]; exact h22_0
                      have h22_9 : R 61 (10 * gn.toInt.toNat + 9) = v3420 := by rw [hw9, pk_un (fun h9 => by have h8 := tk_nat (i := v3495) rfl (by omega); omega)]; exact h22_9
                      have hC9 := hC
                      have hC : v3491.toInt = 0 → CLS 10 [1, 3, 5, 7] (R 24) (R 25) (Ra 61) gc.toInt gn.toInt := fun h9 => (hC9 (by omega)).to (hj9 24 (by decide)) (hj9 25 (by decide))
                      have hX34949 := hX3494
                      have hX3494 : v3491.toInt = 0 → WFX (R 24) (R 25) gc v3493 := fun h9 => by rw [hj9 24 (by decide), hj9 25 (by decide)]; exact hX34949 (by omega)
                      have h22_8 : R 61 (10 * gn.toInt.toNat + 8) = v3493 := by rw [hw9, show 10 * gn.toInt.toNat + 8 = (v3495 : Int32).toNatClampNeg by show _ = v3495.toInt.toNat; omega]; exact pk_us
                      have hRR := mz_frp (K := [24, 25, 27, 28, 61]) (Fa := Ra) hj9 hRR (by decide)
                      have hk_0 : (0 : Int32).toInt = 0 := by decide
                      have hk_0 : (0 : Int32).toInt = 0 := by decide
                      have hk_0 : (0 : Int32).toInt = 0 := by decide
                      have hk_0 : (0 : Int32).toInt = 0 := by decide
                      have hk_0 : (0 : Int32).toInt = 0 := by decide
                      have hk_0 : (0 : Int32).toInt = 0 := by decide
                      exact mz_vret hx hb hr hlocks ⟨hIF, hIG, hIR, hFF, hRR, hGG, (by rw [hf3482, hf3484]; omega), (by rw [hf3484]; omega), (by rw [hf3482, hf3484, hf3486]; omega), (by rw [hf3482, hf3484, hf3486, hf3488]; omega), (by rw [hf3482]; omega), (by rw [hf3492]; omega), (by rw [hf3482, hf3492]; omega), (by rw [hf3490]; omega), (by rw [hf3482, hf3490]; omega), (by rw [hf3490, hf3492, hf111]; exact fun h9 => mz_snoc (N := gn.toInt.toNat) (hC h9) (by omega) (by omega) hL22 (by decide) (by omega) (by intro d hd; simp only [List.mem_cons, List.not_mem_nil, or_false] at hd; rcases hd with rfl | rfl | rfl | rfl <;> first | (rw [show 10 * gn.toInt.toNat + 1 + 1 = 10 * gn.toInt.toNat + 2 from rfl, h22_1, h22_2]; exact ⟨WFX.nil (by omega) (by omega), by omega⟩) | (rw [show 10 * gn.toInt.toNat + 3 + 1 = 10 * gn.toInt.toNat + 4 from rfl, h22_3, h22_4]; exact ⟨WFX.nil (by omega) (by omega), by omega⟩) | (rw [show 10 * gn.toInt.toNat + 5 + 1 = 10 * gn.toInt.toNat + 6 from rfl, h22_5, h22_6]; exact ⟨WFX.nil (by omega) (by omega), by omega⟩) | (rw [show 10 * gn.toInt.toNat + 7 + 1 = 10 * gn.toInt.toNat + 8 from rfl, h22_7, h22_8]; exact ⟨hX3494 h9, by omega⟩))), (by rw [hf3490, hf111]; exact fun h9 => TMS.snoc (N := gn.toInt.toNat) hx_1 (by omega) (by omega) hL22 h22_9 (by omega) (by omega))⟩ hM hS dX13_readOrder_273
              · have hc3338 : ¬ (2 ≤ v38.toInt) := fun h9 => c9 ((fi_le (show (2 : Int32).toInt = 2 by decide) rfl).mpr h9)
                refine lv_aload_n hx hb dX13_readOrder_142 rfl (lv_at hl 3 rfl) ?_
                refine lv_iload_n hx hb dX13_readOrder_143 rfl (lv_at hl 1 rfl) ?_
                refine lv_iconst (v := 1) hx hb dX13_readOrder_144 (by decide) ?_
                refine lv_iadd hx hb dX13_readOrder_145 ?_
                refine tk_add rfl (show (1 : Int32).toInt = 1 by decide) (by omega) (by omega) (fun v3497 h_v3497 => ?_)
                refine mz_Vv (As := [.int v3497]) (rest := []) ⟨hx, hb, hml, hown, hts⟩ hK hM hS (k_X13_readSum l D cy ld ad am hD _ _ _ _ v3497 v97 v99 v101 gp w103 v105 gc hIF hIG hIR hf96 hf98 hf100 hg_3 hf102 hf104 hg_6 (by omega) (by omega) (by omega) (by omega) (by omega) (by omega) (by omega)) ⟨callB_of 1 hts (wl_in mw_1025) rfl rfl rfl (htl _ mw_5) (htl _ mw_1022) hd_yX13_readSum ⟨(Nat.le_of_ble_eq_true rfl), (Nat.le_of_ble_eq_true rfl)⟩, htl _ mw_1023, htl _ mw_1024⟩ rfl hl.1 rfl (Nat.le_of_ble_eq_true rfl) dX13_readOrder_146 ⟨(Nat.le_of_ble_eq_true rfl), (Nat.le_of_ble_eq_true rfl)⟩ (fun H locs F G R S hpo hM hS => ?_)
                obtain ⟨hIF, hIG, hIR, hfr9, hrr9, hgr9, hpo3498, hpo3499, hpo3500, hpo3501, hpo3502, hpo3503, hpo3504, hpo3505, hx3506, hx3507⟩ := hpo
                have hFF := mz_fr (K := [14, 15, 16, 18, 19, 21, 23, 26, 29, 30]) (Fa := Fa) hfr9 hFF (by decide)
                have hRR := mz_fr (K := [24, 25, 27, 28, 61]) (Fa := Ra) hrr9 hRR (by decide)
                have hGG := mz_fr (K := [17]) (Fa := Ga) hgr9 hGG (by decide)
                have hg_3 := (hfr9 13 (by decide)).trans hg_3
                have hf111 := (hfr9 21 (by decide)).trans hf111
                obtain ⟨v3510, hf3509⟩ : ∃ z : Int32, F 14 = z := ⟨_, rfl⟩
                have hq_v3510 := tk_rng v3510
                rw [hf3509] at hpo3498 hpo3500 hpo3501 hpo3502 hpo3504
                have hr_v3510 : 0 ≤ v3510.toInt ∧ v3510.toInt ≤ 400 := hIF.at hf3509
                obtain ⟨v3512, hf3511⟩ : ∃ z : Int32, F 15 = z := ⟨_, rfl⟩
                have hq_v3512 := tk_rng v3512
                rw [hf3511] at hpo3498 hpo3499 hpo3500 hpo3501
                have hr_v3512 : 0 ≤ v3512.toInt ∧ v3512.toInt ≤ 400 := hIF.at hf3511
                obtain ⟨v3514, hf3513⟩ : ∃ z : Int32, F 16 = z := ⟨_, rfl⟩
                have hq_v3514 := tk_rng v3514
                rw [hf3513] at hpo3500 hpo3501
                have hr_v3514 : 0 ≤ v3514.toInt ∧ v3514.toInt ≤ 3 := hIF.at hf3513
                obtain ⟨w3516, hf3515⟩ : ∃ z : Int64, G 17 = z := ⟨_, rfl⟩
                have hq_w3516 := tk_rngL w3516
                rw [hf3515] at hpo3501
                obtain ⟨v3518, hf3517⟩ : ∃ z : Int32, F 19 = z := ⟨_, rfl⟩
                have hq_v3518 := tk_rng v3518
                rw [hf3517] at hpo3505
                have hr_v3518 : 0 ≤ v3518.toInt ∧ v3518.toInt ≤ 1 := hIF.at hf3517
                obtain ⟨v3520, hf3519⟩ : ∃ z : Int32, F 23 = z := ⟨_, rfl⟩
                have hq_v3520 := tk_rng v3520
                rw [hf3519] at hpo3503 hpo3504
                have hr_v3520 : 0 ≤ v3520.toInt ∧ v3520.toInt ≤ 400 := hIF.at hf3519
                rw [show v3497.toInt.toNat = 10 * gn.toInt.toNat + 1 by omega, hf3519] at hx3506
                have hL22 : low (10 * gn.toInt.toNat) (Ra 61) (R 61) := fun j hj => by rw [hx3506, pk_un (by omega), pk_un (by omega)]; exact hL22 j hj
                have h22_3 : R 61 (10 * gn.toInt.toNat + 3) = 0 := by rw [hx3506, pk_un (by omega), pk_un (by omega)]; exact h22_3
                have h22_4 : R 61 (10 * gn.toInt.toNat + 4) = 0 := by rw [hx3506, pk_un (by omega), pk_un (by omega)]; exact h22_4
                have h22_5 : R 61 (10 * gn.toInt.toNat + 5) = 0 := by rw [hx3506, pk_un (by omega), pk_un (by omega)]; exact h22_5
                have h22_6 : R 61 (10 * gn.toInt.toNat + 6) = 0 := by rw [hx3506, pk_un (by omega), pk_un (by omega)]; exact h22_6
                have h22_7 : R 61 (10 * gn.toInt.toNat + 7) = 0 := by rw [hx3506, pk_un (by omega), pk_un (by omega)]; exact h22_7
                have h22_8 : R 61 (10 * gn.toInt.toNat + 8) = 0 := by rw [hx3506, pk_un (by omega), pk_un (by omega)]; exact h22_8
                have h22_0 : R 61 (10 * gn.toInt.toNat + 0) = v38 := by rw [hx3506, pk_un (by omega), pk_un (by omega)]; exact h22_0
                have h22_1 : R 61 (10 * gn.toInt.toNat + 1) = gc := by rw [hx3506, pk_un (by omega)]; exact pk_us
                have h22_2 : R 61 (10 * gn.toInt.toNat + 2) = v3520 := by rw [hx3506, show 10 * gn.toInt.toNat + 2 = 10 * gn.toInt.toNat + 1 + 1 from rfl]; exact pk_us
                have hE9 : v3518.toInt = 0 → WFC (R 24) (R 25) gc.toInt.toNat v3520.toInt.toNat ∧ low gc.toInt.toNat _ (R 24) ∧ low gc.toInt.toNat _ (R 25) := fun h9 => by have h8 := hx3507 (by rw [hf3517]; exact h9); rw [hf3519] at h8; exact h8
                have hC9 := hC
                have hC : v3518.toInt = 0 → CLS 10 [1, 3, 5, 7] (R 24) (R 25) (Ra 61) gc.toInt gn.toInt := fun h9 => (hC9 (by omega)).low (N := gc.toInt.toNat) (by omega) (hE9 h9).2.1 (hE9 h9).2.2
                have hX3521 : v3518.toInt = 0 → WFX (R 24) (R 25) gc v3520 := fun h9 => ⟨by omega, by omega, by omega, (hE9 h9).1⟩
                refine lv_iload_n hx hb dX13_readOrder_149 rfl (lv_at hl 2 rfl) ?_
                refine lv_if_ne (tgt := 173) hx hb dX13_readOrder_150 (by decide) (fun c9 => ?_) (fun c9 => ?_)
                · have hc3522 : ¬ (v38.toInt = 0) := fun h9 => c9 ((fi_eq rfl (show (0 : Int32).toInt = 0 by decide)).mpr h9)
                  refine lv_aload_n hx hb dX13_readOrder_173 rfl (lv_at hl 3 rfl) ?_
                  refine mz_getR hx hb htl hown hK hM 61 (Nat.le_of_ble_eq_true rfl) (Nat.le_of_ble_eq_true rfl) (htl _ mw_239) (fun _ h9 => h9) dX13_readOrder_174 ?_
                  refine lv_iload_n hx hb dX13_readOrder_177 rfl (lv_at hl 1 rfl) ?_
                  refine lv_bipush (v := 9) hx hb dX13_readOrder_178 (by decide) ?_
                  refine lv_iadd hx hb dX13_readOrder_180 ?_
                  refine tk_add rfl (show (9 : Int32).toInt = 9 by decide) (by omega) (by omega) (fun v3523 h_v3523 => ?_)
                  refine lv_iconst (v := 1) hx hb dX13_readOrder_181 (by decide) ?_
                  have hk_1 : (1 : Int32).toInt = 1 := by decide
                  refine mz_iast (x := 1) hx hb hK hD hM hS 61 (Nat.le_of_ble_eq_true rfl) rfl (nn := 120) rfl rfl (by omega) (by omega) dX13_readOrder_182 (fun H locs R hM hS hw9 hj9 => ?_)
                  have hIR := hIR.put hw9 hj9 trivial
                  have hL22 : low (10 * gn.toInt.toNat) (Ra 61) (R 61) := fun j hj => by rw [hw9, pk_un (fun h9 => by have h8 := tk_nat (i := v3523) rfl (by omega); omega)]; exact hL22 j hj
                  have h22_1 : R 61 (10 * gn.toInt.toNat + 1) = gc := by rw [hw9, pk_un (fun h9 => by have h8 := tk_nat (i := v3523) rfl (by omega); omega)]; exact h22_1
                  have h22_2 : R 61 (10 * gn.toInt.toNat + 2) = v3520 := by rw [hw9, pk_un (fun h9 => by have h8 := tk_nat (i := v3523) rfl (by omega); omega)]; exact h22_2
                  have h22_3 : R 61 (10 * gn.toInt.toNat + 3) = 0 := by rw [hw9, pk_un (fun h9 => by have h8 := tk_nat (i := v3523) rfl (by omega); omega)]; exact h22_3
                  have h22_4 : R 61 (10 * gn.toInt.toNat + 4) = 0 := by rw [hw9, pk_un (fun h9 => by have h8 := tk_nat (i := v3523) rfl (by omega); omega)]; exact h22_4
                  have h22_5 : R 61 (10 * gn.toInt.toNat + 5) = 0 := by rw [hw9, pk_un (fun h9 => by have h8 := tk_nat (i := v3523) rfl (by omega); omega)]; exact h22_5
                  have h22_6 : R 61 (10 * gn.toInt.toNat + 6) = 0 := by rw [hw9, pk_un (fun h9 => by have h8 := tk_nat (i := v3523) rfl (by omega); omega)]; exact h22_6
                  have h22_7 : R 61 (10 * gn.toInt.toNat + 7) = 0 := by rw [hw9, pk_un (fun h9 => by have h8 := tk_nat (i := v3523) rfl (by omega); omega)]; exact h22_7
                  have h22_8 : R 61 (10 * gn.toInt.toNat + 8) = 0 := by rw [hw9, pk_un (fun h9 => by have h8 := tk_nat (i := v3523) rfl (by omega); omega)]; exact h22_8
                  have h22_0 : R 61 (10 * gn.toInt.toNat + 0) = v38 := by rw [hw9, pk_un (fun h9 => by have h8 := tk_nat (i := v3523) rfl (by omega); omega)]; exact h22_0
                  have hC9 := hC
                  have hC : v3518.toInt = 0 → CLS 10 [1, 3, 5, 7] (R 24) (R 25) (Ra 61) gc.toInt gn.toInt := fun h9 => (hC9 (by omega)).to (hj9 24 (by decide)) (hj9 25 (by decide))
                  have hX35219 := hX3521
                  have hX3521 : v3518.toInt = 0 → WFX (R 24) (R 25) gc v3520 := fun h9 => by rw [hj9 24 (by decide), hj9 25 (by decide)]; exact hX35219 (by omega)
                  have h22_9 : R 61 (10 * gn.toInt.toNat + 9) = 1 := by rw [hw9, show 10 * gn.toInt.toNat + 9 = (v3523 : Int32).toNatClampNeg by show _ = v3523.toInt.toNat; omega]; exact pk_us
                  have hRR := mz_frp (K := [24, 25, 27, 28, 61]) (Fa := Ra) hj9 hRR (by decide)
                  refine lv_aload_n hx hb dX13_readOrder_183 rfl (lv_at hl 3 rfl) ?_
                  refine mz_getI hx hb htl hown hK hM 19 (Nat.le_of_ble_eq_true rfl) rfl (htl _ mw_668) (fun _ h9 => h9) dX13_readOrder_184 (fun v9 e9 => ?_)
                  refine fx_ti (v := v3518) (e9.symm.trans hf3517) ?_
                  refine lv_if_ne (tgt := 221) hx hb dX13_readOrder_187 (by decide) (fun c9 => ?_) (fun c9 => ?_)
                  · have hc3525 : ¬ (v3518.toInt = 0) := fun h9 => c9 ((fi_eq rfl (show (0 : Int32).toInt = 0 by decide)).mpr h9)
                    refine lv_aload_n hx hb dX13_readOrder_221 rfl (lv_at hl 3 rfl) ?_
                    refine mz_getR hx hb htl hown hK hM 61 (Nat.le_of_ble_eq_true rfl) (Nat.le_of_ble_eq_true rfl) (htl _ mw_239) (fun _ h9 => h9) dX13_readOrder_222 ?_
                    refine lv_iload_n hx hb dX13_readOrder_225 rfl (lv_at hl 1 rfl) ?_
                    refine lv_bipush (v := 7) hx hb dX13_readOrder_226 (by decide) ?_
                    refine lv_iadd hx hb dX13_readOrder_228 ?_
                    refine tk_add rfl (show (7 : Int32).toInt = 7 by decide) (by omega) (by omega) (fun v3526 h_v3526 => ?_)
                    refine lv_aload_n hx hb dX13_readOrder_229 rfl (lv_at hl 3 rfl) ?_
                    refine mz_getI hx hb htl hown hK hM 23 (Nat.le_of_ble_eq_true rfl) rfl (htl _ mw_670) (fun _ h9 => h9) dX13_readOrder_230 (fun v9 e9 => ?_)
                    refine fx_ti (v := v3520) (e9.symm.trans hf3519) ?_
                    refine mz_iast (x := v3520) hx hb hK hD hM hS 61 (Nat.le_of_ble_eq_true rfl) rfl (nn := 120) rfl rfl (by omega) (by omega) dX13_readOrder_233 (fun H locs R hM hS hw9 hj9 => ?_)
                    have hIR := hIR.put hw9 hj9 trivial
                    have hL22 : low (10 * gn.toInt.toNat) (Ra 61) (R 61) := fun j hj => by rw [hw9, pk_un (fun h9 => by have h8 := tk_nat (i := v3526) rfl (by omega); omega)]; exact hL22 j hj
                    have h22_1 : R 61 (10 * gn.toInt.toNat + 1) = gc := by rw [hw9, pk_un (fun h9 => by have h8 := tk_nat (i := v3526) rfl (by omega); omega)]; exact h22_1
                    have h22_2 : R 61 (10 * gn.toInt.toNat + 2) = v3520 := by rw [hw9, pk_un (fun h9 => by have h8 := tk_nat (i := v3526) rfl (by omega); omega)]; exact h22_2
                    have h22_3 : R 61 (10 * gn.toInt.toNat + 3) = 0 := by rw [hw9, pk_un (fun h9 => by have h8 := tk_nat (i := v3526) rfl (by omega); omega)]; exact h22_3
                    have h22_4 : R 61 (10 * gn.toInt.toNat + 4) = 0 := by rw [hw9, pk_un (fun h9 => by have h8 := tk_nat (i := v3526) rfl (by omega); omega)]; exact h22_4
                    have h22_5 : R 61 (10 * gn.toInt.toNat + 5) = 0 := by rw [hw9, pk_un (fun h9 => by have h8 := tk_nat (i := v3526) rfl (by omega); omega)]; exact h22_5
                    have h22_6 : R 61 (10 * gn.toInt.toNat + 6) = 0 := by rw [hw9, pk_un (fun h9 => by have h8 := tk_nat (i := v3526) rfl (by omega); omega)]; exact h22_6
                    have h22_8 : R 61 (10 * gn.toInt.toNat + 8) = 0 := by rw [hw9, pk_un (fun h9 => by have h8 := tk_nat (i := v3526) rfl (by omega); omega)]; exact h22_8
                    have h22_0 : R 61 (10 * gn.toInt.toNat + 0) = v38 := by rw [hw9, pk_un (fun h9 => by have h8 := tk_nat (i := v3526) rfl (by omega); omega)]; exact h22_0
                    have h22_9 : R 61 (10 * gn.toInt.toNat + 9) = 1 := by rw [hw9, pk_un (fun h9 => by have h8 := tk_nat (i := v3526) rfl (by omega); omega)]; exact h22_9
                    have hC9 := hC
                    have hC : v3518.toInt = 0 → CLS 10 [1, 3, 5, 7] (R 24) (R 25) (Ra 61) gc.toInt gn.toInt := fun h9 => (hC9 (by omega)).to (hj9 24 (by decide)) (hj9 25 (by decide))
                    have hX35219 := hX3521
                    have hX3521 : v3518.toInt = 0 → WFX (R 24) (R 25) gc v3520 := fun h9 => by rw [hj9 24 (by decide), hj9 25 (by decide)]; exact hX35219 (by omega)
                    have h22_7 : R 61 (10 * gn.toInt.toNat + 7) = v3520 := by rw [hw9, show 10 * gn.toInt.toNat + 7 = (v3526 : Int32).toNatClampNeg by show _ = v3526.toInt.toNat; omega]; exact pk_us
                    have hRR := mz_frp (K := [24, 25, 27, 28, 61]) (Fa := Ra) hj9 hRR (by decide)
                    refine lv_aload_n hx hb dX13_readOrder_234 rfl (lv_at hl 3 rfl) ?_
                    refine mz_getI hx hb htl hown hK hM 19 (Nat.le_of_ble_eq_true rfl) rfl (htl _ mw_668) (fun _ h9 => h9) dX13_readOrder_235 (fun v9 e9 => ?_)
                    refine fx_ti (v := v3518) (e9.symm.trans hf3517) ?_
                    refine lv_if_ne (tgt := 260) hx hb dX13_readOrder_238 (by decide) (fun _ => ?_) (fun c9 => absurd (show v3518.toInt = 0 from (fi_eq rfl (show (0 : Int32).toInt = 0 by decide)).mp c9) (by omega))
                    refine lv_aload_n hx hb dX13_readOrder_260 rfl (lv_at hl 3 rfl) ?_
                    refine mz_getR hx hb htl hown hK hM 61 (Nat.le_of_ble_eq_true rfl) (Nat.le_of_ble_eq_true rfl) (htl _ mw_239) (fun _ h9 => h9) dX13_readOrder_261 ?_
                    refine lv_iload_n hx hb dX13_readOrder_264 rfl (lv_at hl 1 rfl) ?_
                    refine lv_bipush (v := 8) hx hb dX13_readOrder_265 (by decide) ?_
                    refine lv_iadd hx hb dX13_readOrder_267 ?_
                    refine tk_add rfl (show (8 : Int32).toInt = 8 by decide) (by omega) (by omega) (fun v3528 h_v3528 => ?_)
                    refine lv_aload_n hx hb dX13_readOrder_268 rfl (lv_at hl 3 rfl) ?_
                    refine mz_getI hx hb htl hown hK hM 23 (Nat.le_of_ble_eq_true rfl) rfl (htl _ mw_670) (fun _ h9 => h9) dX13_readOrder_269 (fun v9 e9 => ?_)
                    refine fx_ti (v := v3520) (e9.symm.trans hf3519) ?_
                    refine mz_iast (x := v3520) hx hb hK hD hM hS 61 (Nat.le_of_ble_eq_true rfl) rfl (nn := 120) rfl rfl (by omega) (by omega) dX13_readOrder_272 (fun H locs R hM hS hw9 hj9 => ?_)
                    have hIR := hIR.put hw9 hj9 trivial
                    have hL22 : low (10 * gn.toInt.toNat) (Ra 61) (R 61) := fun j hj => by rw [hw9, pk_un (fun h9 => by have h8 := tk_nat (i := v3528) rfl (by omega); omega)]; exact hL22 j hj
                    have h22_1 : R 61 (10 * gn.toInt.toNat + 1) = gc := by rw [hw9, pk_un (fun h9 => by have h8 := tk_nat (i := v3528) rfl (by omega); omega)]; exact h22_1
                    have h22_2 : R 61 (10 * gn.toInt.toNat + 2) = v3520 := by rw [hw9, pk_un (fun h9 => by have h8 := tk_nat (i := v3528) rfl (by omega); omega)]; exact h22_2
                    have h22_3 : R 61 (10 * gn.toInt.toNat + 3) = 0 := by rw [hw9, pk_un (fun h9 => by have h8 := tk_nat (i := v3528) rfl (by omega); omega)]; exact h22_3
                    have h22_4 : R 61 (10 * gn.toInt.toNat + 4) = 0 := by rw [hw9, pk_un (fun h9 => by have h8 := tk_nat (i := v3528) rfl (by omega); omega)]; exact h22_4
                    have h22_5 : R 61 (10 * gn.toInt.toNat + 5) = 0 := by rw [hw9, pk_un (fun h9 => by have h8 := tk_nat (i := v3528) rfl (by omega); omega)]; exact h22_5
                    have h22_6 : R 61 (10 * gn.toInt.toNat + 6) = 0 := by rw [hw9, pk_un (fun h9 => by have h8 := tk_nat (i := v3528) rfl (by omega); omega)]; exact h22_6
                    have h22_7 : R 61 (10 * gn.toInt.toNat + 7) = v3520 := by rw [hw9, pk_un (fun h9 => by have h8 := tk_nat (i := v3528) rfl (by omega); omega)]; exact h22_7
                    have h22_0 : R 61 (10 * gn.toInt.toNat + 0) = v38 := by rw [hw9, pk_un (fun h9 => by have h8 := tk_nat (i := v3528) rfl (by omega); omega)]; exact h22_0
                    have h22_9 : R 61 (10 * gn.toInt.toNat + 9) = 1 := by rw [hw9, pk_un (fun h9 => by have h8 := tk_nat (i := v3528) rfl (by omega); omega)]; exact h22_9
                    have hC9 := hC
                    have hC : v3518.toInt = 0 → CLS 10 [1, 3, 5, 7] (R 24) (R 25) (Ra 61) gc.toInt gn.toInt := fun h9 => (hC9 (by omega)).to (hj9 24 (by decide)) (hj9 25 (by decide))
                    have hX35219 := hX3521
                    have hX3521 : v3518.toInt = 0 → WFX (R 24) (R 25) gc v3520 := fun h9 => by rw [hj9 24 (by decide), hj9 25 (by decide)]; exact hX35219 (by omega)
                    have h22_8 : R 61 (10 * gn.toInt.toNat + 8) = v3520 := by rw [hw9, show 10 * gn.toInt.toNat + 8 = (v3528 : Int32).toNatClampNeg by show _ = v3528.toInt.toNat; omega]; exact pk_us
                    have hRR := mz_frp (K := [24, 25, 27, 28, 61]) (Fa := Ra) hj9 hRR (by decide)
                    exact mz_vret hx hb hr hlocks ⟨hIF, hIG, hIR, hFF, hRR, hGG, (by rw [hf3509, hf3511]; omega), (by rw [hf3511]; omega), (by rw [hf3509, hf3511, hf3513]; omega), (by rw [hf3509, hf3511, hf3513, hf3515]; omega), (by rw [hf3509]; omega), (by rw [hf3519]; omega), (by rw [hf3509, hf3519]; omega), (by rw [hf3517]; omega), (by rw [hf3509, hf3517]; omega), (by rw [hf3517]; exact fun h9 => absurd h9 (by omega)), (by rw [hf3517]; exact fun h9 => absurd h9 (by omega))⟩ hM hS dX13_readOrder_273
                  · have hc3525 : v3518.toInt = 0 := (fi_eq rfl (show (0 : Int32).toInt = 0 by decide)).mp c9
                    refine lv_aload_n hx hb dX13_readOrder_190 rfl (lv_at hl 3 rfl) ?_
                    refine lv_ldc2 hx hb hown (htl _ mw_1021) dX13_readOrder_191 ?_
                    have hk_21279923 : (21279923 : Int64).toInt = 21279923 := by decide
                    refine mz_Vj (As := [.long 21279923]) (rest := []) ⟨hx, hb, hml, hown, hts⟩ hK hM hS (k_X13_isWord l D cy ld ad am hD _ _ _ _ 21279923 v3514 w3516 hIF hIG hIR hf3513 hf3515) ⟨callB_of 1 hts (wl_in mw_709) rfl rfl rfl (htl _ mw_5) (htl _ mw_706) hd_yX13_isWord ⟨(Nat.le_of_ble_eq_true rfl), (Nat.le_of_ble_eq_true rfl)⟩, htl _ mw_707, htl _ mw_708⟩ rfl hl.1 rfl (Nat.le_of_ble_eq_true rfl) dX13_readOrder_194 ⟨(Nat.le_of_ble_eq_true rfl), (Nat.le_of_ble_eq_true rfl)⟩ (fun v3530 H locs hpo hM hS => ?_)
                    obtain ⟨hpo3531, hpo3532, hpo3533, hpo3534, hpo3535⟩ := hpo
                    have hq_v3530 := tk_rng v3530
                    refine lv_if_eq (tgt := 221) hx hb dX13_readOrder_197 (by decide) (fun c9 => ?_) (fun c9 => ?_)
                    · have hc3537 : v3530.toInt = 0 := (fi_eq rfl (show (0 : Int32).toInt = 0 by decide)).mp c9
                      refine lv_aload_n hx hb dX13_readOrder_221 rfl (lv_at hl 3 rfl) ?_
                      refine mz_getR hx hb htl hown hK hM 61 (Nat.le_of_ble_eq_true rfl) (Nat.le_of_ble_eq_true rfl) (htl _ mw_239) (fun _ h9 => h9) dX13_readOrder_222 ?_
                      refine lv_iload_n hx hb dX13_readOrder_225 rfl (lv_at hl 1 rfl) ?_
                      refine lv_bipush (v := 7) hx hb dX13_readOrder_226 (by decide) ?_
                      refine lv_iadd hx hb dX13_readOrder_228 ?_
                      refine tk_add rfl (show (7 : Int32).toInt = 7 by decide) (by omega) (by omega) (fun v3538 h_v3538 => ?_)
                      refine lv_aload_n hx hb dX13_readOrder_229 rfl (lv_at hl 3 rfl) ?_
                      refine mz_getI hx hb htl hown hK hM 23 (Nat.le_of_ble_eq_true rfl) rfl (htl _ mw_670) (fun _ h9 => h9) dX13_readOrder_230 (fun v9 e9 => ?_)
                      refine fx_ti (v := v3520) (e9.symm.trans hf3519) ?_
                      refine mz_iast (x := v3520) hx hb hK hD hM hS 61 (Nat.le_of_ble_eq_true rfl) rfl (nn := 120) rfl rfl (by omega) (by omega) dX13_readOrder_233 (fun H locs R hM hS hw9 hj9 => ?_)
                      have hIR := hIR.put hw9 hj9 trivial
                      have hL22 : low (10 * gn.toInt.toNat) (Ra 61) (R 61) := fun j hj => by rw [hw9, pk_un (fun h9 => by have h8 := tk_nat (i := v3538) rfl (by omega); omega)]; exact hL22 j hj
                      have h22_1 : R 61 (10 * gn.toInt.toNat + 1) = gc := by rw [hw9, pk_un (fun h9 => by have h8 := tk_nat (i := v3538) rfl (by omega); omega)]; exact h22_1
                      have h22_2 : R 61 (10 * gn.toInt.toNat + 2) = v3520 := by rw [hw9, pk_un (fun h9 => by have h8 := tk_nat (i := v3538) rfl (by omega); omega)]; exact h22_2
                      have h22_3 : R 61 (10 * gn.toInt.toNat + 3) = 0 := by rw [hw9, pk_un (fun h9 => by have h8 := tk_nat (i := v3538) rfl (by omega); omega)]; exact h22_3
                      have h22_4 : R 61 (10 * gn.toInt.toNat + 4) = 0 := by rw [hw9, pk_un (fun h9 => by have h8 := tk_nat (i := v3538) rfl (by omega); omega)]; exact h22_4
                      have h22_5 : R 61 (10 * gn.toInt.toNat + 5) = 0 := by rw [hw9, pk_un (fun h9 => by have h8 := tk_nat (i := v3538) rfl (by omega); omega)]; exact h22_5
                      have h22_6 : R 61 (10 * gn.toInt.toNat + 6) = 0 := by rw [hw9, pk_un (fun h9 => by have h8 := tk_nat (i := v3538) rfl (by omega); omega)]; exact h22_6
                      have h22_8 : R 61 (10 * gn.toInt.toNat + 8) = 0 := by rw [hw9, pk_un (fun h9 => by have h8 := tk_nat (i := v3538) rfl (by omega); omega)]; exact h22_8
                      have h22_0 : R 61 (10 * gn.toInt.toNat + 0) = v38 := by rw [hw9, pk_un (fun h9 => by have h8 := tk_nat (i := v3538) rfl (by omega); omega)]; exact h22_0
                      have h22_9 : R 61 (10 * gn.toInt.toNat + 9) = 1 := by rw [hw9, pk_un (fun h9 => by have h8 := tk_nat (i := v3538) rfl (by omega); omega)]; exact h22_9
                      have hC9 := hC
                      have hC : v3518.toInt = 0 → CLS 10 [1, 3, 5, 7] (R 24) (R 25) (Ra 61) gc.toInt gn.toInt := fun h9 => (hC9 (by omega)).to (hj9 24 (by decide)) (hj9 25 (by decide))
                      have hX35219 := hX3521
                      have hX3521 : v3518.toInt = 0 → WFX (R 24) (R 25) gc v3520 := fun h9 => by rw [hj9 24 (by decide), hj9 25 (by decide)]; exact hX35219 (by omega)
                      have h22_7 : R 61 (10 * gn.toInt.toNat + 7) = v3520 := by rw [hw9, show 10 * gn.toInt.toNat + 7 = (v3538 : Int32).toNatClampNeg by show _ = v3538.toInt.toNat; omega]; exact pk_us
                      have hRR := mz_frp (K := [24, 25, 27, 28, 61]) (Fa := Ra) hj9 hRR (by decide)
                      refine lv_aload_n hx hb dX13_readOrder_234 rfl (lv_at hl 3 rfl) ?_
                      refine mz_getI hx hb htl hown hK hM 19 (Nat.le_of_ble_eq_true rfl) rfl (htl _ mw_668) (fun _ h9 => h9) dX13_readOrder_235 (fun v9 e9 => ?_)
                      refine fx_ti (v := v3518) (e9.symm.trans hf3517) ?_
                      refine lv_if_ne (tgt := 260) hx hb dX13_readOrder_238 (by decide) (fun c9 => absurd ((fi_eq rfl (show (0 : Int32).toInt = 0 by decide)).mpr (show v3518.toInt = 0 by omega)) c9) (fun _ => ?_)
                      refine lv_aload_n hx hb dX13_readOrder_241 rfl (lv_at hl 3 rfl) ?_
                      refine lv_ldc2 hx hb hown (htl _ mw_705) dX13_readOrder_242 ?_
                      have hk_294 : (294 : Int64).toInt = 294 := by decide
                      refine mz_Vj (As := [.long 294]) (rest := []) ⟨hx, hb, hml, hown, hts⟩ hK hM hS (k_X13_isWord l D cy ld ad am hD _ _ _ _ 294 v3514 w3516 hIF hIG hIR hf3513 hf3515) ⟨callB_of 1 hts (wl_in mw_709) rfl rfl rfl (htl _ mw_5) (htl _ mw_706) hd_yX13_isWord ⟨(Nat.le_of_ble_eq_true rfl), (Nat.le_of_ble_eq_true rfl)⟩, htl _ mw_707, htl _ mw_708⟩ rfl hl.1 rfl (Nat.le_of_ble_eq_true rfl) dX13_readOrder_245 ⟨(Nat.le_of_ble_eq_true rfl), (Nat.le_of_ble_eq_true rfl)⟩ (fun v3540 H locs hpo hM hS => ?_)
                      obtain ⟨hpo3541, hpo3542, hpo3543, hpo3544, hpo3545⟩ := hpo
                      have hq_v3540 := tk_rng v3540
                      refine lv_if_eq (tgt := 260) hx hb dX13_readOrder_248 (by decide) (fun c9 => ?_) (fun c9 => ?_)
                      · have hc3547 : v3540.toInt = 0 := (fi_eq rfl (show (0 : Int32).toInt = 0 by decide)).mp c9
                        refine lv_aload_n hx hb dX13_readOrder_260 rfl (lv_at hl 3 rfl) ?_
                        refine mz_getR hx hb htl hown hK hM 61 (Nat.le_of_ble_eq_true rfl) (Nat.le_of_ble_eq_true rfl) (htl _ mw_239) (fun _ h9 => h9) dX13_readOrder_261 ?_
                        refine lv_iload_n hx hb dX13_readOrder_264 rfl (lv_at hl 1 rfl) ?_
                        refine lv_bipush (v := 8) hx hb dX13_readOrder_265 (by decide) ?_
                        refine lv_iadd hx hb dX13_readOrder_267 ?_
                        refine tk_add rfl (show (8 : Int32).toInt = 8 by decide) (by omega) (by omega) (fun v3548 h_v3548 => ?_)
                        refine lv_aload_n hx hb dX13_readOrder_268 rfl (lv_at hl 3 rfl) ?_
                        refine mz_getI hx hb htl hown hK hM 23 (Nat.le_of_ble_eq_true rfl) rfl (htl _ mw_670) (fun _ h9 => h9) dX13_readOrder_269 (fun v9 e9 => ?_)
                        refine fx_ti (v := v3520) (e9.symm.trans hf3519) ?_
                        refine mz_iast (x := v3520) hx hb hK hD hM hS 61 (Nat.le_of_ble_eq_true rfl) rfl (nn := 120) rfl rfl (by omega) (by omega) dX13_readOrder_272 (fun H locs R hM hS hw9 hj9 => ?_)
                        have hIR := hIR.put hw9 hj9 trivial
                        have hL22 : low (10 * gn.toInt.toNat) (Ra 61) (R 61) := fun j hj => by rw [hw9, pk_un (fun h9 => by have h8 := tk_nat (i := v3548) rfl (by omega); omega)]; exact hL22 j hj
                        have h22_1 : R 61 (10 * gn.toInt.toNat + 1) = gc := by rw [hw9, pk_un (fun h9 => by have h8 := tk_nat (i := v3548) rfl (by omega); omega)]; exact h22_1
                        have h22_2 : R 61 (10 * gn.toInt.toNat + 2) = v3520 := by rw [hw9, pk_un (fun h9 => by have h8 := tk_nat (i := v3548) rfl (by omega); omega)]; exact h22_2
                        have h22_3 : R 61 (10 * gn.toInt.toNat + 3) = 0 := by rw [hw9, pk_un (fun h9 => by have h8 := tk_nat (i := v3548) rfl (by omega); omega)]; exact h22_3
                        have h22_4 : R 61 (10 * gn.toInt.toNat + 4) = 0 := by rw [hw9, pk_un (fun h9 => by have h8 := tk_nat (i := v3548) rfl (by omega); omega)]; exact h22_4
                        have h22_5 : R 61 (10 * gn.toInt.toNat + 5) = 0 := by rw [hw9, pk_un (fun h9 => by have h8 := tk_nat (i := v3548) rfl (by omega); omega)]; exact h22_5
                        have h22_6 : R 61 (10 * gn.toInt.toNat + 6) = 0 := by rw [hw9, pk_un (fun h9 => by have h8 := tk_nat (i := v3548) rfl (by omega); omega)]; exact h22_6
                        have h22_7 : R 61 (10 * gn.toInt.toNat + 7) = v3520 := by rw [hw9, pk_un (fun h9 => by have h8 := tk_nat (i := v3548) rfl (by omega); omega)]; exact h22_7
                        have h22_0 : R 61 (10 * gn.toInt.toNat + 0) = v38 := by rw [hw9, pk_un (fun h9 => by have h8 := tk_nat (i := v3548) rfl (by omega); omega)]; exact h22_0
                        have h22_9 : R 61 (10 * gn.toInt.toNat + 9) = 1 := by rw [hw9, pk_un (fun h9 => by have h8 := tk_nat (i := v3548) rfl (by omega); omega)]; exact h22_9
                        have hC9 := hC
                        have hC : v3518.toInt = 0 → CLS 10 [1, 3, 5, 7] (R 24) (R 25) (Ra 61) gc.toInt gn.toInt := fun h9 => (hC9 (by omega)).to (hj9 24 (by decide)) (hj9 25 (by decide))
                        have hX35219 := hX3521
                        have hX3521 : v3518.toInt = 0 → WFX (R 24) (R 25) gc v3520 := fun h9 => by rw [hj9 24 (by decide), hj9 25 (by decide)]; exact hX35219 (by omega)
                        have h22_8 : R 61 (10 * gn.toInt.toNat + 8) = v3520 := by rw [hw9, show 10 * gn.toInt.toNat + 8 = (v3548 : Int32).toNatClampNeg by show _ = v3548.toInt.toNat; omega]; exact pk_us
                        have hRR := mz_frp (K := [24, 25, 27, 28, 61]) (Fa := Ra) hj9 hRR (by decide)
                        have hk_0 : (0 : Int32).toInt = 0 := by decide
                        have hk_0 : (0 : Int32).toInt = 0 := by decide
                        have hk_0 : (0 : Int32).toInt = 0 := by decide
                        have hk_0 : (0 : Int32).toInt = 0 := by decide
                        have hk_1 : (1 : Int32).toInt = 1 := by decide
                        exact mz_vret hx hb hr hlocks ⟨hIF, hIG, hIR, hFF, hRR, hGG, (by rw [hf3509, hf3511]; omega), (by rw [hf3511]; omega), (by rw [hf3509, hf3511, hf3513]; omega), (by rw [hf3509, hf3511, hf3513, hf3515]; omega), (by rw [hf3509]; omega), (by rw [hf3519]; omega), (by rw [hf3509, hf3519]; omega), (by rw [hf3517]; omega), (by rw [hf3509, hf3517]; omega), (by rw [hf3517, hf3519, hf111]; exact fun h9 => mz_snoc (N := gn.toInt.toNat) (hC h9) (by omega) (by omega) hL22 (by decide) (by omega) (by intro d hd; simp only [List.mem_cons, List.not_mem_nil, or_false] at hd; rcases hd with rfl | rfl | rfl | rfl <;> first | (rw [show 10 * gn.toInt.toNat + 1 + 1 = 10 * gn.toInt.toNat + 2 from rfl, h22_1, h22_2]; exact ⟨hX3521 h9, by omega⟩) | (rw [show 10 * gn.toInt.toNat + 3 + 1 = 10 * gn.toInt.toNat + 4 from rfl, h22_3, h22_4]; exact ⟨WFX.nil (by omega) (by omega), by omega⟩) | (rw [show 10 * gn.toInt.toNat + 5 + 1 = 10 * gn.toInt.toNat + 6 from rfl, h22_5, h22_6]; exact ⟨WFX.nil (by omega) (by omega), by omega⟩) | (rw [show 10 * gn.toInt.toNat + 7 + 1 = 10 * gn.toInt.toNat + 8 from rfl, h22_7, h22_8]; exact ⟨WFX.nil (by omega) (by omega), by omega⟩))), (by rw [hf3517, hf111]; exact fun h9 => TMS.snoc (N := gn.toInt.toNat) hx_1 (by omega) (by omega) hL22 h22_9 (by omega) (by omega))⟩ hM hS dX13_readOrder_273
                      · have hc3547 : ¬ (v3540.toInt = 0) := fun h9 => c9 ((fi_eq rfl (show (0 : Int32).toInt = 0 by decide)).mpr h9)
                        have hwk_3550 : w3516.toInt + (-294) = 0 ∧ v3514.toInt + (-1) = 0 := by omega
                        have hwk_3551 : 0 ≤ (-1) * v3510.toInt + v3512.toInt + (-1) := by omega
                        have hwk_3552 : 0 ≤ (-1) * v3510.toInt + v3512.toInt + (-2) := by omega
                        refine lv_aload_n hx hb dX13_readOrder_251 rfl (lv_at hl 3 rfl) ?_
                        refine mz_Vv (As := []) (rest := []) ⟨hx, hb, hml, hown, hts⟩ hK hM hS (k_X13_next l D cy ld ad am hD _ _ _ _ v3512 gp hIF hIG hIR hf3511 hg_3 (by omega)) ⟨callB_of 0 hts (wl_in mw_685) rfl rfl rfl (htl _ mw_5) (htl _ mw_682) hd_yX13_next ⟨(Nat.le_of_ble_eq_true rfl), (Nat.le_of_ble_eq_true rfl)⟩, htl _ mw_683, htl _ mw_684⟩ rfl hl.1 rfl (Nat.le_of_ble_eq_true rfl) dX13_readOrder_252 ⟨(Nat.le_of_ble_eq_true rfl), (Nat.le_of_ble_eq_true rfl)⟩ (fun H locs F G R S hpo hM hS => ?_)
                        obtain ⟨hIF, hIG, hIR, hfr9, hrr9, hgr9, hpo3553, hpo3554, hpo3555, hpo3556, hpo3557⟩ := hpo
                        have hFF := mz_fr (K := [14, 15, 16, 18, 19, 21, 23, 26, 29, 30]) (Fa := Fa) hfr9 hFF (by decide)
                        have hRR := mz_fr (K := [24, 25, 27, 28, 61]) (Fa := Ra) hrr9 hRR (by decide)
                        have hGG := mz_fr (K := [17]) (Fa := Ga) hgr9 hGG (by decide)
                        have hg_3 := (hfr9 13 (by decide)).trans hg_3
                        have hf111 := (hfr9 21 (by decide)).trans hf111
                        have hf3517 := (hfr9 19 (by decide)).trans hf3517
                        have hf3519 := (hfr9 23 (by decide)).trans hf3519
                        obtain ⟨v3560, hf3559⟩ : ∃ z : Int32, F 14 = z := ⟨_, rfl⟩
                        have hq_v3560 := tk_rng v3560
                        rw [hf3559] at hpo3553 hpo3554 hpo3556 hpo3557
                        have hr_v3560 : 0 ≤ v3560.toInt ∧ v3560.toInt ≤ 400 := hIF.at hf3559
                        obtain ⟨v3562, hf3561⟩ : ∃ z : Int32, F 15 = z := ⟨_, rfl⟩
                        have hq_v3562 := tk_rng v3562
                        rw [hf3561] at hpo3554 hpo3555 hpo3556 hpo3557
                        have hr_v3562 : 0 ≤ v3562.toInt ∧ v3562.toInt ≤ 400 := hIF.at hf3561
                        obtain ⟨v3564, hf3563⟩ : ∃ z : Int32, F 16 = z := ⟨_, rfl⟩
                        have hq_v3564 := tk_rng v3564
                        rw [hf3563] at hpo3556 hpo3557
                        have hr_v3564 : 0 ≤ v3564.toInt ∧ v3564.toInt ≤ 3 := hIF.at hf3563
                        obtain ⟨w3566, hf3565⟩ : ∃ z : Int64, G 17 = z := ⟨_, rfl⟩
                        have hq_w3566 := tk_rngL w3566
                        rw [hf3565] at hpo3557
                        have hL22 := hL22.to (hrr9 61 (by decide))
                        have h22_1 := (congrFun (hrr9 61 (by decide)) _).trans h22_1
                        have h22_2 := (congrFun (hrr9 61 (by decide)) _).trans h22_2
                        have h22_3 := (congrFun (hrr9 61 (by decide)) _).trans h22_3
                        have h22_4 := (congrFun (hrr9 61 (by decide)) _).trans h22_4
                        have h22_5 := (congrFun (hrr9 61 (by decide)) _).trans h22_5
                        have h22_6 := (congrFun (hrr9 61 (by decide)) _).trans h22_6
                        have h22_7 := (congrFun (hrr9 61 (by decide)) _).trans h22_7
                        have h22_8 := (congrFun (hrr9 61 (by decide)) _).trans h22_8
                        have h22_0 := (congrFun (hrr9 61 (by decide)) _).trans h22_0
                        have h22_9 := (congrFun (hrr9 61 (by decide)) _).trans h22_9
                        have hC9 := hC
                        have hC : v3518.toInt = 0 → CLS 10 [1, 3, 5, 7] (R 24) (R 25) (Ra 61) gc.toInt gn.toInt := fun h9 => (hC9 (by omega)).to (hrr9 24 (by decide)) (hrr9 25 (by decide))
                        have hX35219 := hX3521
                        have hX3521 : v3518.toInt = 0 → WFX (R 24) (R 25) gc v3520 := fun h9 => by rw [hrr9 24 (by decide), hrr9 25 (by decide)]; exact hX35219 (by omega)
                        refine lv_aload_n hx hb dX13_readOrder_255 rfl (lv_at hl 3 rfl) ?_
                        refine lv_iconst (v := 1) hx hb dX13_readOrder_256 (by decide) ?_
                        have hk_1 : (1 : Int32).toInt = 1 := by decide
                        refine mz_Vv (As := [.int 1]) (rest := []) ⟨hx, hb, hml, hown, hts⟩ hK hM hS (k_X13_readExpression l D cy ld ad am hD _ _ _ _ 1 v3560 v3562 v3564 gp w3566 v3518 v3520 hIF hIG hIR hf3559 hf3561 hf3563 hg_3 hf3565 hf3517 hf3519 (by omega) (by omega) (by omega) (by omega) (by omega) (by omega) (by omega) (by omega)) ⟨callB_of 1 hts (wl_in mw_717) rfl rfl rfl (htl _ mw_5) (htl _ mw_714) hd_yX13_readExpression ⟨(Nat.le_of_ble_eq_true rfl), (Nat.le_of_ble_eq_true rfl)⟩, htl _ mw_715, htl _ mw_716⟩ rfl hl.1 rfl (Nat.le_of_ble_eq_true rfl) dX13_readOrder_257 ⟨(Nat.le_of_ble_eq_true rfl), (Nat.le_of_ble_eq_true rfl)⟩ (fun H locs F G R S hpo hM hS => ?_)
                        obtain ⟨hIF, hIG, hIR, hfr9, hrr9, hgr9, hpo3567, hpo3568, hpo3569, hpo3570, hpo3571, hpo3572, hpo3573, hx3574⟩ := hpo
                        have hFF := mz_fr (K := [14, 15, 16, 18, 19, 21, 23, 26, 29, 30]) (Fa := Fa) hfr9 hFF (by decide)
                        have hRR := mz_fr (K := [24, 25, 27, 28, 61]) (Fa := Ra) hrr9 hRR (by decide)
                        have hGG := mz_fr (K := [17]) (Fa := Ga) hgr9 hGG (by decide)
                        have hg_3 := (hfr9 13 (by decide)).trans hg_3
                        have hf111 := (hfr9 21 (by decide)).trans hf111
                        obtain ⟨v3577, hf3576⟩ : ∃ z : Int32, F 14 = z := ⟨_, rfl⟩
                        have hq_v3577 := tk_rng v3577
                        rw [hf3576] at hpo3567 hpo3569 hpo3570 hpo3571 hpo3572
                        have hr_v3577 : 0 ≤ v3577.toInt ∧ v3577.toInt ≤ 400 := hIF.at hf3576
                        obtain ⟨v3579, hf3578⟩ : ∃ z : Int32, F 15 = z := ⟨_, rfl⟩
                        have hq_v3579 := tk_rng v3579
                        rw [hf3578] at hpo3567 hpo3568 hpo3569 hpo3570
                        have hr_v3579 : 0 ≤ v3579.toInt ∧ v3579.toInt ≤ 400 := hIF.at hf3578
                        obtain ⟨v3581, hf3580⟩ : ∃ z : Int32, F 16 = z := ⟨_, rfl⟩
                        have hq_v3581 := tk_rng v3581
                        rw [hf3580] at hpo3569 hpo3570
                        have hr_v3581 : 0 ≤ v3581.toInt ∧ v3581.toInt ≤ 3 := hIF.at hf3580
                        obtain ⟨w3583, hf3582⟩ : ∃ z : Int64, G 17 = z := ⟨_, rfl⟩
                        have hq_w3583 := tk_rngL w3583
                        rw [hf3582] at hpo3570
                        obtain ⟨v3585, hf3584⟩ : ∃ z : Int32, F 19 = z := ⟨_, rfl⟩
                        have hq_v3585 := tk_rng v3585
                        have hr_v3585 : 0 ≤ v3585.toInt ∧ v3585.toInt ≤ 1 := hIF.at hf3584
                        obtain ⟨v3587, hf3586⟩ : ∃ z : Int32, F 23 = z := ⟨_, rfl⟩
                        have hq_v3587 := tk_rng v3587
                        rw [hf3586] at hpo3572 hpo3573
                        have hr_v3587 : 0 ≤ v3587.toInt ∧ v3587.toInt ≤ 400 := hIF.at hf3586
                        have hL22 := hL22.to (hrr9 61 (by decide))
                        have h22_1 := (congrFun (hrr9 61 (by decide)) _).trans h22_1
                        have h22_2 := (congrFun (hrr9 61 (by decide)) _).trans h22_2
                        have h22_3 := (congrFun (hrr9 61 (by decide)) _).trans h22_3
                        have h22_4 := (congrFun (hrr9 61 (by decide)) _).trans h22_4
                        have h22_5 := (congrFun (hrr9 61 (by decide)) _).trans h22_5
                        have h22_6 := (congrFun (hrr9 61 (by decide)) _).trans h22_6
                        have h22_7 := (congrFun (hrr9 61 (by decide)) _).trans h22_7
                        have h22_8 := (congrFun (hrr9 61 (by decide)) _).trans h22_8
                        have h22_0 := (congrFun (hrr9 61 (by decide)) _).trans h22_0
                        have h22_9 := (congrFun (hrr9 61 (by decide)) _).trans h22_9
                        have hE9 : v3585.toInt = 0 → WFC (R 24) (R 25) v3520.toInt.toNat v3587.toInt.toNat ∧ low v3520.toInt.toNat _ (R 24) ∧ low v3520.toInt.toNat _ (R 25) := fun h9 => by have h8 := hx3574 (by rw [hf3584]; exact h9); rw [hf3586] at h8; exact h8
                        have hC9 := hC (by omega)
                        have hC : v3585.toInt = 0 → CLS 10 [1, 3, 5, 7] (R 24) (R 25) (Ra 61) gc.toInt gn.toInt := fun h9 => hC9.low (N := v3520.toInt.toNat) (by omega) (hE9 h9).2.1 (hE9 h9).2.2
                        have hX35219 := hX3521 (by omega)
                        have hX3521 : v3585.toInt = 0 → WFX (R 24) (R 25) gc v3520 := fun h9 => hX35219.low (n := v3520.toInt.toNat) (by omega) (hE9 h9).2.1 (hE9 h9).2.2
                        have hX3588 : v3585.toInt = 0 → WFX (R 24) (R 25) v3520 v3587 := fun h9 => ⟨by omega, by omega, by omega, (hE9 h9).1⟩
                        refine lv_aload_n hx hb dX13_readOrder_260 rfl (lv_at hl 3 rfl) ?_
                        refine mz_getR hx hb htl hown hK hM 61 (Nat.le_of_ble_eq_true rfl) (Nat.le_of_ble_eq_true rfl) (htl _ mw_239) (fun _ h9 => h9) dX13_readOrder_261 ?_
                        refine lv_iload_n hx hb dX13_readOrder_264 rfl (lv_at hl 1 rfl) ?_
                        refine lv_bipush (v := 8) hx hb dX13_readOrder_265 (by decide) ?_
                        refine lv_iadd hx hb dX13_readOrder_267 ?_
                        refine tk_add rfl (show (8 : Int32).toInt = 8 by decide) (by omega) (by omega) (fun v3589 h_v3589 => ?_)
                        refine lv_aload_n hx hb dX13_readOrder_268 rfl (lv_at hl 3 rfl) ?_
                        refine mz_getI hx hb htl hown hK hM 23 (Nat.le_of_ble_eq_true rfl) rfl (htl _ mw_670) (fun _ h9 => h9) dX13_readOrder_269 (fun v9 e9 => ?_)
                        refine fx_ti (v := v3587) (e9.symm.trans hf3586) ?_
                        refine mz_iast (x := v3587) hx hb hK hD hM hS 61 (Nat.le_of_ble_eq_true rfl) rfl (nn := 120) rfl rfl (by omega) (by omega) dX13_readOrder_272 (fun H locs R hM hS hw9 hj9 => ?_)
                        have hIR := hIR.put hw9 hj9 trivial
                        have hL22 : low (10 * gn.toInt.toNat) (Ra 61) (R 61) := fun j hj => by rw [hw9, pk_un (fun h9 => by have h8 := tk_nat (i := v3589) rfl (by omega); omega)]; exact hL22 j hj
                        have h22_1 : R 61 (10 * gn.toInt.toNat + 1) = gc := by rw [hw9, pk_un (fun h9 => by have h8 := tk_nat (i := v3589) rfl (by omega); omega)]; exact h22_1
                        have h22_2 : R 61 (10 * gn.toInt.toNat + 2) = v3520 := by rw [hw9, pk_un (fun h9 => by have h8 := tk_nat (i := v3589) rfl (by omega); omega)]; exact h22_2
                        have h22_3 : R 61 (10 * gn.toInt.toNat + 3) = 0 := by rw [hw9, pk_un (fun h9 => by have h8 := tk_nat (i := v3589) rfl (by omega); omega)]; exact h22_3
                        have h22_4 : R 61 (10 * gn.toInt.toNat + 4) = 0 := by rw [hw9, pk_un (fun h9 => by have h8 := tk_nat (i := v3589) rfl (by omega); omega)]; exact h22_4
                        have h22_5 : R 61 (10 * gn.toInt.toNat + 5) = 0 := by rw [hw9, pk_un (fun h9 => by have h8 := tk_nat (i := v3589) rfl (by omega); omega)]; exact h22_5
                        have h22_6 : R 61 (10 * gn.toInt.toNat + 6) = 0 := by rw [hw9, pk_un (fun h9 => by have h8 := tk_nat (i := v3589) rfl (by omega); omega)]; exact h22_6
                        have h22_7 : R 61 (10 * gn.toInt.toNat + 7) = v3520 := by rw [hw9, pk_un (fun h9 => by have h8 := tk_nat (i := v3589) rfl (by omega); omega)]; exact h22_7
                        have h22_0 : R 61 (10 * gn.toInt.toNat + 0) = v38 := by rw [hw9, pk_un (fun h9 => by have h8 := tk_nat (i := v3589) rfl (by omega); omega)]; exact h22_0
                        have h22_9 : R 61 (10 * gn.toInt.toNat + 9) = 1 := by rw [hw9, pk_un (fun h9 => by have h8 := tk_nat (i := v3589) rfl (by omega); omega)]; exact h22_9
                        have hC9 := hC
                        have hC : v3585.toInt = 0 → CLS 10 [1, 3, 5, 7] (R 24) (R 25) (Ra 61) gc.toInt gn.toInt := fun h9 => (hC9 (by omega)).to (hj9 24 (by decide)) (hj9 25 (by decide))
                        have hX35219 := hX3521
                        have hX3521 : v3585.toInt = 0 → WFX (R 24) (R 25) gc v3520 := fun h9 => by rw [hj9 24 (by decide), hj9 25 (by decide)]; exact hX35219 (by omega)
                        have hX35889 := hX3588
                        have hX3588 : v3585.toInt = 0 → WFX (R 24) (R 25) v3520 v3587 := fun h9 => by rw [hj9 24 (by decide), hj9 25 (by decide)]; exact hX35889 (by omega)
                        have h22_8 : R 61 (10 * gn.toInt.toNat + 8) = v3587 := by rw [hw9, show 10 * gn.toInt.toNat + 8 = (v3589 : Int32).toNatClampNeg by show _ = v3589.toInt.toNat; omega]; exact pk_us
                        have hRR := mz_frp (K := [24, 25, 27, 28, 61]) (Fa := Ra) hj9 hRR (by decide)
                        have hk_0 : (0 : Int32).toInt = 0 := by decide
                        have hk_0 : (0 : Int32).toInt = 0 := by decide
                        have hk_0 : (0 : Int32).toInt = 0 := by decide
                        have hk_0 : (0 : Int32).toInt = 0 := by decide
                        have hk_1 : (1 : Int32).toInt = 1 := by decide
                        exact mz_vret hx hb hr hlocks ⟨hIF, hIG, hIR, hFF, hRR, hGG, (by rw [hf3576, hf3578]; omega), (by rw [hf3578]; omega), (by rw [hf3576, hf3578, hf3580]; omega), (by rw [hf3576, hf3578, hf3580, hf3582]; omega), (by rw [hf3576]; omega), (by rw [hf3586]; omega), (by rw [hf3576, hf3586]; omega), (by rw [hf3584]; omega), (by rw [hf3576, hf3584]; omega), (by rw [hf3584, hf3586, hf111]; exact fun h9 => mz_snoc (N := gn.toInt.toNat) (hC h9) (by omega) (by omega) hL22 (by decide) (by omega) (by intro d hd; simp only [List.mem_cons, List.not_mem_nil, or_false] at hd; rcases hd with rfl | rfl | rfl | rfl <;> first | (rw [show 10 * gn.toInt.toNat + 1 + 1 = 10 * gn.toInt.toNat + 2 from rfl, h22_1, h22_2]; exact ⟨hX3521 h9, by omega⟩) | (rw [show 10 * gn.toInt.toNat + 3 + 1 = 10 * gn.toInt.toNat + 4 from rfl, h22_3, h22_4]; exact ⟨WFX.nil (by omega) (by omega), by omega⟩) | (rw [show 10 * gn.toInt.toNat + 5 + 1 = 10 * gn.toInt.toNat + 6 from rfl, h22_5, h22_6]; exact ⟨WFX.nil (by omega) (by omega), by omega⟩) | (rw [show 10 * gn.toInt.toNat + 7 + 1 = 10 * gn.toInt.toNat + 8 from rfl, h22_7, h22_8]; exact ⟨hX3588 h9, by omega⟩))), (by rw [hf3584, hf111]; exact fun h9 => TMS.snoc (N := gn.toInt.toNat) hx_1 (by omega) (by omega) hL22 h22_9 (by omega) (by omega))⟩ hM hS dX13_readOrder_273
                    · have hc3537 : ¬ (v3530.toInt = 0) := fun h9 => c9 ((fi_eq rfl (show (0 : Int32).toInt = 0 by decide)).mpr h9)
                      have hwk_3591 : w3516.toInt + (-21279923) = 0 ∧ v3514.toInt + (-1) = 0 := by omega
                      have hwk_3592 : 0 ≤ (-1) * v3510.toInt + v3512.toInt + (-1) := by omega
                      have hwk_3593 : 0 ≤ (-1) * v3510.toInt + v3512.toInt + (-2) := by omega
                      refine lv_aload_n hx hb dX13_readOrder_200 rfl (lv_at hl 3 rfl) ?_
                      refine mz_Vv (As := []) (rest := []) ⟨hx, hb, hml, hown, hts⟩ hK hM hS (k_X13_next l D cy ld ad am hD _ _ _ _ v3512 gp hIF hIG hIR hf3511 hg_3 (by omega)) ⟨callB_of 0 hts (wl_in mw_685) rfl rfl rfl (htl _ mw_5) (htl _ mw_682) hd_yX13_next ⟨(Nat.le_of_ble_eq_true rfl), (Nat.le_of_ble_eq_true rfl)⟩, htl _ mw_683, htl _ mw_684⟩ rfl hl.1 rfl (Nat.le_of_ble_eq_true rfl) dX13_readOrder_201 ⟨(Nat.le_of_ble_eq_true rfl), (Nat.le_of_ble_eq_true rfl)⟩ (fun H locs F G R S hpo hM hS => ?_)
                      obtain ⟨hIF, hIG, hIR, hfr9, hrr9, hgr9, hpo3594, hpo3595, hpo3596, hpo3597, hpo3598⟩ := hpo
                      have hFF := mz_fr (K := [14, 15, 16, 18, 19, 21, 23, 26, 29, 30]) (Fa := Fa) hfr9 hFF (by decide)
                      have hRR := mz_fr (K := [24, 25, 27, 28, 61]) (Fa := Ra) hrr9 hRR (by decide)
                      have hGG := mz_fr (K := [17]) (Fa := Ga) hgr9 hGG (by decide)
                      have hg_3 := (hfr9 13 (by decide)).trans hg_3
                      have hf111 := (hfr9 21 (by decide)).trans hf111
                      have hf3517 := (hfr9 19 (by decide)).trans hf3517
                      have hf3519 := (hfr9 23 (by decide)).trans hf3519
                      obtain ⟨v3601, hf3600⟩ : ∃ z : Int32, F 14 = z := ⟨_, rfl⟩
                      have hq_v3601 := tk_rng v3601
                      rw [hf3600] at hpo3594 hpo3595 hpo3597 hpo3598
                      have hr_v3601 : 0 ≤ v3601.toInt ∧ v3601.toInt ≤ 400 := hIF.at hf3600
                      obtain ⟨v3603, hf3602⟩ : ∃ z : Int32, F 15 = z := ⟨_, rfl⟩
                      have hq_v3603 := tk_rng v3603
                      rw [hf3602] at hpo3595 hpo3596 hpo3597 hpo3598
                      have hr_v3603 : 0 ≤ v3603.toInt ∧ v3603.toInt ≤ 400 := hIF.at hf3602
                      obtain ⟨v3605, hf3604⟩ : ∃ z : Int32, F 16 = z := ⟨_, rfl⟩
                      have hq_v3605 := tk_rng v3605
                      rw [hf3604] at hpo3597 hpo3598
                      have hr_v3605 : 0 ≤ v3605.toInt ∧ v3605.toInt ≤ 3 := hIF.at hf3604
                      obtain ⟨w3607, hf3606⟩ : ∃ z : Int64, G 17 = z := ⟨_, rfl⟩
                      have hq_w3607 := tk_rngL w3607
                      rw [hf3606] at hpo3598
                      have hL22 := hL22.to (hrr9 61 (by decide))
                      have h22_1 := (congrFun (hrr9 61 (by decide)) _).trans h22_1
                      have h22_2 := (congrFun (hrr9 61 (by decide)) _).trans h22_2
                      have h22_3 := (congrFun (hrr9 61 (by decide)) _).trans h22_3
                      have h22_4 := (congrFun (hrr9 61 (by decide)) _).trans h22_4
                      have h22_5 := (congrFun (hrr9 61 (by decide)) _).trans h22_5
                      have h22_6 := (congrFun (hrr9 61 (by decide)) _).trans h22_6
                      have h22_7 := (congrFun (hrr9 61 (by decide)) _).trans h22_7
                      have h22_8 := (congrFun (hrr9 61 (by decide)) _).trans h22_8
                      have h22_0 := (congrFun (hrr9 61 (by decide)) _).trans h22_0
                      have h22_9 := (congrFun (hrr9 61 (by decide)) _).trans h22_9
                      have hC9 := hC
                      have hC : v3518.toInt = 0 → CLS 10 [1, 3, 5, 7] (R 24) (R 25) (Ra 61) gc.toInt gn.toInt := fun h9 => (hC9 (by omega)).to (hrr9 24 (by decide)) (hrr9 25 (by decide))
                      have hX35219 := hX3521
                      have hX3521 : v3518.toInt = 0 → WFX (R 24) (R 25) gc v3520 := fun h9 => by rw [hrr9 24 (by decide), hrr9 25 (by decide)]; exact hX35219 (by omega)
                      refine lv_aload_n hx hb dX13_readOrder_204 rfl (lv_at hl 3 rfl) ?_
                      refine mz_getR hx hb htl hown hK hM 61 (Nat.le_of_ble_eq_true rfl) (Nat.le_of_ble_eq_true rfl) (htl _ mw_239) (fun _ h9 => h9) dX13_readOrder_205 ?_
                      refine lv_iload_n hx hb dX13_readOrder_208 rfl (lv_at hl 1 rfl) ?_
                      refine lv_bipush (v := 9) hx hb dX13_readOrder_209 (by decide) ?_
                      refine lv_iadd hx hb dX13_readOrder_211 ?_
                      refine tk_add rfl (show (9 : Int32).toInt = 9 by decide) (by omega) (by omega) (fun v3608 h_v3608 => ?_)
                      refine lv_aload_n hx hb dX13_readOrder_212 rfl (lv_at hl 3 rfl) ?_
                      refine lv_lconst (v := 1) hx hb dX13_readOrder_213 (by decide) ?_
                      refine lv_ldc2 hx hb hown (htl _ mw_782) dX13_readOrder_214 ?_
                      have hk_1 : (1 : Int64).toInt = 1 := by decide
                      have hk_20 : (20 : Int64).toInt = 20 := by decide
                      refine mz_Vi (As := [.long 1, .long 20]) (rest := [.int v3608, .ref (ad 61)]) ⟨hx, hb, hml, hown, hts⟩ hK hM hS (k_X13_number l D cy ld ad am hD _ _ _ _ 1 20 v3601 v3603 v3605 gp w3607 v3518 hIF hIG hIR hf3600 hf3602 hf3604 hg_3 hf3606 hf3517 (by omega) (by omega) (by omega) (by omega) (by omega) (by omega) (by omega) (by omega)) ⟨callB_of 2 hts (wl_in mw_762) rfl rfl rfl (htl _ mw_5) (htl _ mw_759) hd_yX13_number ⟨(Nat.le_of_ble_eq_true rfl), (Nat.le_of_ble_eq_true rfl)⟩, htl _ mw_760, htl _ mw_761⟩ rfl hl.1 rfl (Nat.le_of_ble_eq_true rfl) dX13_readOrder_217 ⟨(Nat.le_of_ble_eq_true rfl), (Nat.le_of_ble_eq_true rfl)⟩ (fun v3609 H locs F G R S hpo hM hS => ?_)
                      obtain ⟨hIF, hIG, hIR, hfr9, hrr9, hgr9, hpo3610, hpo3611, hpo3612, hpo3613, hpo3614, hpo3615, hpo3616⟩ := hpo
                      have hq_v3609 := tk_rng v3609
                      have hFF := mz_fr (K := [14, 15, 16, 18, 19, 21, 23, 26, 29, 30]) (Fa := Fa) hfr9 hFF (by decide)
                      have hRR := mz_fr (K := [24, 25, 27, 28, 61]) (Fa := Ra) hrr9 hRR (by decide)
                      have hGG := mz_fr (K := [17]) (Fa := Ga) hgr9 hGG (by decide)
                      have hg_3 := (hfr9 13 (by decide)).trans hg_3
                      have hf111 := (hfr9 21 (by decide)).trans hf111
                      have hf3519 := (hfr9 23 (by decide)).trans hf3519
                      obtain ⟨v3619, hf3618⟩ : ∃ z : Int32, F 14 = z := ⟨_, rfl⟩
                      have hq_v3619 := tk_rng v3619
                      rw [hf3618] at hpo3610 hpo3612 hpo3613 hpo3614 hpo3616
                      have hr_v3619 : 0 ≤ v3619.toInt ∧ v3619.toInt ≤ 400 := hIF.at hf3618
                      obtain ⟨v3621, hf3620⟩ : ∃ z : Int32, F 15 = z := ⟨_, rfl⟩
                      have hq_v3621 := tk_rng v3621
                      rw [hf3620] at hpo3610 hpo3611 hpo3612 hpo3613
                      have hr_v3621 : 0 ≤ v3621.toInt ∧ v3621.toInt ≤ 400 := hIF.at hf3620
                      obtain ⟨v3623, hf3622⟩ : ∃ z : Int32, F 16 = z := ⟨_, rfl⟩
                      have hq_v3623 := tk_rng v3623
                      rw [hf3622] at hpo3612 hpo3613
                      have hr_v3623 : 0 ≤ v3623.toInt ∧ v3623.toInt ≤ 3 := hIF.at hf3622
                      obtain ⟨w3625, hf3624⟩ : ∃ z : Int64, G 17 = z := ⟨_, rfl⟩
                      have hq_w3625 := tk_rngL w3625
                      rw [hf3624] at hpo3613
                      obtain ⟨v3627, hf3626⟩ : ∃ z : Int32, F 19 = z := ⟨_, rfl⟩
                      have hq_v3627 := tk_rng v3627
                      rw [hf3626] at hpo3615 hpo3616
                      have hr_v3627 : 0 ≤ v3627.toInt ∧ v3627.toInt ≤ 1 := hIF.at hf3626
                      have hL22 := hL22.to (hrr9 61 (by decide))
                      have h22_1 := (congrFun (hrr9 61 (by decide)) _).trans h22_1
                      have h22_2 := (congrFun (hrr9 61 (by decide)) _).trans h22_2
                      have h22_3 := (congrFun (hrr9 61 (by decide)) _).trans h22_3
                      have h22_4 := (congrFun (hrr9 61 (by decide)) _).trans h22_4
                      have h22_5 := (congrFun (hrr9 61 (by decide)) _).trans h22_5
                      have h22_6 := (congrFun (hrr9 61 (by decide)) _).trans h22_6
                      have h22_7 := (congrFun (hrr9 61 (by decide)) _).trans h22_7
                      have h22_8 := (congrFun (hrr9 61 (by decide)) _).trans h22_8
                      have h22_0 := (congrFun (hrr9 61 (by decide)) _).trans h22_0
                      have h22_9 := (congrFun (hrr9 61 (by decide)) _).trans h22_9
                      have hC9 := hC
                      have hC : v3627.toInt = 0 → CLS 10 [1, 3, 5, 7] (R 24) (R 25) (Ra 61) gc.toInt gn.toInt := fun h9 => (hC9 (by omega)).to (hrr9 24 (by decide)) (hrr9 25 (by decide))
                      have hX35219 := hX3521
                      have hX3521 : v3627.toInt = 0 → WFX (R 24) (R 25) gc v3520 := fun h9 => by rw [hrr9 24 (by decide), hrr9 25 (by decide)]; exact hX35219 (by omega)
                      refine mz_iast (x := v3609) hx hb hK hD hM hS 61 (Nat.le_of_ble_eq_true rfl) rfl (nn := 120) rfl rfl (by omega) (by omega) dX13_readOrder_220 (fun H locs R hM hS hw9 hj9 => ?_)
                      have hIR := hIR.put hw9 hj9 trivial
                      have hL22 : low (10 * gn.toInt.toNat) (Ra 61) (R 61) := fun j hj => by rw [hw9, pk_un (fun h9 => by have h8 := tk_nat (i := v3608) rfl (by omega); omega)]; exact hL22 j hj
                      have h22_1 : R 61 (10 * gn.toInt.toNat + 1) = gc := by rw [hw9, pk_un (fun h9 => by have h8 := tk_nat (i := v3608) rfl (by omega); omega)]; exact h22_1
                      have h22_2 : R 61 (10 * gn.toInt.toNat + 2) = v3520 := by rw [hw9, pk_un (fun h9 => by have h8 := tk_nat (i := v3608) rfl (by omega); omega)]; exact h22_2
                      have h22_3 : R 61 (10 * gn.toInt.toNat + 3) = 0 := by rw [hw9, pk_un (fun h9 => by have h8 := tk_nat (i := v3608) rfl (by omega); omega)]; exact h22_3
                      have h22_4 : R 61 (10 * gn.toInt.toNat + 4) = 0 := by rw [hw9, pk_un (fun h9 => by have h8 := tk_nat (i := v3608) rfl (by omega); omega)]; exact h22_4
                      have h22_5 : R 61 (10 * gn.toInt.toNat + 5) = 0 := by rw [hw9, pk_un (fun h9 => by have h8 := tk_nat (i := v3608) rfl (by omega); omega)]; exact h22_5
                      have h22_6 : R 61 (10 * gn.toInt.toNat + 6) = 0 := by rw [hw9, pk_un (fun h9 => by have h8 := tk_nat (i := v3608) rfl (by omega); omega)]; exact h22_6
                      have h22_7 : R 61 (10 * gn.toInt.toNat + 7) = 0 := by rw [hw9, pk_un (fun h9 => by have h8 := tk_nat (i := v3608) rfl (by omega); omega)]; exact h22_7
                      have h22_8 : R 61 (10 * gn.toInt.toNat + 8) = 0 := by rw [hw9, pk_un (fun h9 => by have h8 := tk_nat (i := v3608) rfl (by omega); omega)]; exact h22_8
                      have h22_0 : R 61 (10 * gn.toInt.toNat + 0) = v38 := by rw [hw9, pk_un (fun h9 => by have h8 := tk_nat (i := v3608) rfl (by omega); omega)]; exact h22_0
                      have hC9 := hC
                      have hC : v3627.toInt = 0 → CLS 10 [1, 3, 5, 7] (R 24) (R 25) (Ra 61) gc.toInt gn.toInt := fun h9 => (hC9 (by omega)).to (hj9 24 (by decide)) (hj9 25 (by decide))
                      have hX35219 := hX3521
                      have hX3521 : v3627.toInt = 0 → WFX (R 24) (R 25) gc v3520 := fun h9 => by rw [hj9 24 (by decide), hj9 25 (by decide)]; exact hX35219 (by omega)
                      have h22_9 : R 61 (10 * gn.toInt.toNat + 9) = v3609 := by rw [hw9, show 10 * gn.toInt.toNat + 9 = (v3608 : Int32).toNatClampNeg by show _ = v3608.toInt.toNat; omega]; exact pk_us
                      have hRR := mz_frp (K := [24, 25, 27, 28, 61]) (Fa := Ra) hj9 hRR (by decide)
                      refine lv_aload_n hx hb dX13_readOrder_221 rfl (lv_at hl 3 rfl) ?_
                      refine mz_getR hx hb htl hown hK hM 61 (Nat.le_of_ble_eq_true rfl) (Nat.le_of_ble_eq_true rfl) (htl _ mw_239) (fun _ h9 => h9) dX13_readOrder_222 ?_
                      refine lv_iload_n hx hb dX13_readOrder_225 rfl (lv_at hl 1 rfl) ?_
                      refine lv_bipush (v := 7) hx hb dX13_readOrder_226 (by decide) ?_
                      refine lv_iadd hx hb dX13_readOrder_228 ?_
                      refine tk_add rfl (show (7 : Int32).toInt = 7 by decide) (by omega) (by omega) (fun v3629 h_v3629 => ?_)
                      refine lv_aload_n hx hb dX13_readOrder_229 rfl (lv_at hl 3 rfl) ?_
                      refine mz_getI hx hb htl hown hK hM 23 (Nat.le_of_ble_eq_true rfl) rfl (htl _ mw_670) (fun _ h9 => h9) dX13_readOrder_230 (fun v9 e9 => ?_)
                      refine fx_ti (v := v3520) (e9.symm.trans hf3519) ?_
                      refine mz_iast (x := v3520) hx hb hK hD hM hS 61 (Nat.le_of_ble_eq_true rfl) rfl (nn := 120) rfl rfl (by omega) (by omega) dX13_readOrder_233 (fun H locs R hM hS hw9 hj9 => ?_)
                      have hIR := hIR.put hw9 hj9 trivial
                      have hL22 : low (10 * gn.toInt.toNat) (Ra 61) (R 61) := fun j hj => by rw [hw9, pk_un (fun h9 => by have h8 := tk_nat (i := v3629) rfl (by omega); omega)]; exact hL22 j hj
                      have h22_1 : R 61 (10 * gn.toInt.toNat + 1) = gc := by rw [hw9, pk_un (fun h9 => by have h8 := tk_nat (i := v3629) rfl (by omega); omega)]; exact h22_1
                      have h22_2 : R 61 (10 * gn.toInt.toNat + 2) = v3520 := by rw [hw9, pk_un (fun h9 => by have h8 := tk_nat (i := v3629) rfl (by omega); omega)]; exact h22_2
                      have h22_3 : R 61 (10 * gn.toInt.toNat + 3) = 0 := by rw [hw9, pk_un (fun h9 => by have h8 := tk_nat (i := v3629) rfl (by omega); omega)]; exact h22_3
                      have h22_4 : R 61 (10 * gn.toInt.toNat + 4) = 0 := by rw [hw9, pk_un (fun h9 => by have h8 := tk_nat (i := v3629) rfl (by omega); omega)]; exact h22_4
                      have h22_5 : R 61 (10 * gn.toInt.toNat + 5) = 0 := by rw [hw9, pk_un (fun h9 => by have h8 := tk_nat (i := v3629) rfl (by omega); omega)]; exact h22_5
                      have h22_6 : R 61 (10 * gn.toInt.toNat + 6) = 0 := by rw [hw9, pk_un (fun h9 => by have h8 := tk_nat (i := v3629) rfl (by omega); omega)]; exact h22_6
                      have h22_8 : R 61 (10 * gn.toInt.toNat + 8) = 0 := by rw [hw9, pk_un (fun h9 => by have h8 := tk_nat (i := v3629) rfl (by omega); omega)]; exact h22_8
                      have h22_0 : R 61 (10 * gn.toInt.toNat + 0) = v38 := by rw [hw9, pk_un (fun h9 => by have h8 := tk_nat (i := v3629) rfl (by omega); omega)]; exact h22_0
                      have h22_9 : R 61 (10 * gn.toInt.toNat + 9) = v3609 := by rw [hw9, pk_un (fun h9 => by have h8 := tk_nat (i := v3629) rfl (by omega); omega)]; exact h22_9
                      have hC9 := hC
                      have hC : v3627.toInt = 0 → CLS 10 [1, 3, 5, 7] (R 24) (R 25) (Ra 61) gc.toInt gn.toInt := fun h9 => (hC9 (by omega)).to (hj9 24 (by decide)) (hj9 25 (by decide))
                      have hX35219 := hX3521
                      have hX3521 : v3627.toInt = 0 → WFX (R 24) (R 25) gc v3520 := fun h9 => by rw [hj9 24 (by decide), hj9 25 (by decide)]; exact hX35219 (by omega)
                      have h22_7 : R 61 (10 * gn.toInt.toNat + 7) = v3520 := by rw [hw9, show 10 * gn.toInt.toNat + 7 = (v3629 : Int32).toNatClampNeg by show _ = v3629.toInt.toNat; omega]; exact pk_us
                      have hRR := mz_frp (K := [24, 25, 27, 28, 61]) (Fa := Ra) hj9 hRR (by decide)
                      refine lv_aload_n hx hb dX13_readOrder_234 rfl (lv_at hl 3 rfl) ?_
                      refine mz_getI hx hb htl hown hK hM 19 (Nat.le_of_ble_eq_true rfl) rfl (htl _ mw_668) (fun _ h9 => h9) dX13_readOrder_235 (fun v9 e9 => ?_)
                      refine fx_ti (v := v3627) (e9.symm.trans hf3626) ?_
                      refine lv_if_ne (tgt := 260) hx hb dX13_readOrder_238 (by decide) (fun c9 => ?_) (fun c9 => ?_)
                      · have hc3631 : ¬ (v3627.toInt = 0) := fun h9 => c9 ((fi_eq rfl (show (0 : Int32).toInt = 0 by decide)).mpr h9)
                        refine lv_aload_n hx hb dX13_readOrder_260 rfl (lv_at hl 3 rfl) ?_
                        refine mz_getR hx hb htl hown hK hM 61 (Nat.le_of_ble_eq_true rfl) (Nat.le_of_ble_eq_true rfl) (htl _ mw_239) (fun _ h9 => h9) dX13_readOrder_261 ?_
                        refine lv_iload_n hx hb dX13_readOrder_264 rfl (lv_at hl 1 rfl) ?_
                        refine lv_bipush (v := 8) hx hb dX13_readOrder_265 (by decide) ?_
                        refine lv_iadd hx hb dX13_readOrder_267 ?_
                        refine tk_add rfl (show (8 : Int32).toInt = 8 by decide) (by omega) (by omega) (fun v3632 h_v3632 => ?_)
                        refine lv_aload_n hx hb dX13_readOrder_268 rfl (lv_at hl 3 rfl) ?_
                        refine mz_getI hx hb htl hown hK hM 23 (Nat.le_of_ble_eq_true rfl) rfl (htl _ mw_670) (fun _ h9 => h9) dX13_readOrder_269 (fun v9 e9 => ?_)
                        refine fx_ti (v := v3520) (e9.symm.trans hf3519) ?_
                        refine mz_iast (x := v3520) hx hb hK hD hM hS 61 (Nat.le_of_ble_eq_true rfl) rfl (nn := 120) rfl rfl (by omega) (by omega) dX13_readOrder_272 (fun H locs R hM hS hw9 hj9 => ?_)
                        have hIR := hIR.put hw9 hj9 trivial
                        have hL22 : low (10 * gn.toInt.toNat) (Ra 61) (R 61) := fun j hj => by rw [hw9, pk_un (fun h9 => by have h8 := tk_nat (i := v3632) rfl (by omega); omega)]; exact hL22 j hj
                        have h22_1 : R 61 (10 * gn.toInt.toNat + 1) = gc := by rw [hw9, pk_un (fun h9 => by have h8 := tk_nat (i := v3632) rfl (by omega); omega)]; exact h22_1
                        have h22_2 : R 61 (10 * gn.toInt.toNat + 2) = v3520 := by rw [hw9, pk_un (fun h9 => by have h8 := tk_nat (i := v3632) rfl (by omega); omega)]; exact h22_2
                        have h22_3 : R 61 (10 * gn.toInt.toNat + 3) = 0 := by rw [hw9, pk_un (fun h9 => by have h8 := tk_nat (i := v3632) rfl (by omega); omega)]; exact h22_3
                        have h22_4 : R 61 (10 * gn.toInt.toNat + 4) = 0 := by rw [hw9, pk_un (fun h9 => by have h8 := tk_nat (i := v3632) rfl (by omega); omega)]; exact h22_4
                        have h22_5 : R 61 (10 * gn.toInt.toNat + 5) = 0 := by rw [hw9, pk_un (fun h9 => by have h8 := tk_nat (i := v3632) rfl (by omega); omega)]; exact h22_5
                        have h22_6 : R 61 (10 * gn.toInt.toNat + 6) = 0 := by rw [hw9, pk_un (fun h9 => by have h8 := tk_nat (i := v3632) rfl (by omega); omega)]; exact h22_6
                        have h22_7 : R 61 (10 * gn.toInt.toNat + 7) = v3520 := by rw [hw9, pk_un (fun h9 => by have h8 := tk_nat (i := v3632) rfl (by omega); omega)]; exact h22_7
                        have h22_0 : R 61 (10 * gn.toInt.toNat + 0) = v38 := by rw [hw9, pk_un (fun h9 => by have h8 := tk_nat (i := v3632) rfl (by omega); omega)]; exact h22_0
                        have h22_9 : R 61 (10 * gn.toInt.toNat + 9) = v3609 := by rw [hw9, pk_un (fun h9 => by have h8 := tk_nat (i := v3632) rfl (by omega); omega)]; exact h22_9
                        have hC9 := hC
                        have hC : v3627.toInt = 0 → CLS 10 [1, 3, 5, 7] (R 24) (R 25) (Ra 61) gc.toInt gn.toInt := fun h9 => (hC9 (by omega)).to (hj9 24 (by decide)) (hj9 25 (by decide))
                        have hX35219 := hX3521
                        have hX3521 : v3627.toInt = 0 → WFX (R 24) (R 25) gc v3520 := fun h9 => by rw [hj9 24 (by decide), hj9 25 (by decide)]; exact hX35219 (by omega)
                        have h22_8 : R 61 (10 * gn.toInt.toNat + 8) = v3520 := by rw [hw9, show 10 * gn.toInt.toNat + 8 = (v3632 : Int32).toNatClampNeg by show _ = v3632.toInt.toNat; omega]; exact pk_us
                        have hRR := mz_frp (K := [24, 25, 27, 28, 61]) (Fa := Ra) hj9 hRR (by decide)
                        exact mz_vret hx hb hr hlocks ⟨hIF, hIG, hIR, hFF, hRR, hGG, (by rw [hf3618, hf3620]; omega), (by rw [hf3620]; omega), (by rw [hf3618, hf3620, hf3622]; omega), (by rw [hf3618, hf3620, hf3622, hf3624]; omega), (by rw [hf3618]; omega), (by rw [hf3519]; omega), (by rw [hf3618, hf3519]; omega), (by rw [hf3626]; omega), (by rw [hf3618, hf3626]; omega), (by rw [hf3626]; exact fun h9 => absurd h9 (by omega)), (by rw [hf3626]; exact fun h9 => absurd h9 (by omega))⟩ hM hS dX13_readOrder_273
                      · have hc3631 : v3627.toInt = 0 := (fi_eq rfl (show (0 : Int32).toInt = 0 by decide)).mp c9
                        have hwk_3634 : 0 ≤ (-1) * v3603.toInt + v3619.toInt ∧ 1 ≤ v3609.toInt ∧ v3609.toInt ≤ 20 := by omega
                        refine lv_aload_n hx hb dX13_readOrder_241 rfl (lv_at hl 3 rfl) ?_
                        refine lv_ldc2 hx hb hown (htl _ mw_705) dX13_readOrder_242 ?_
                        have hk_294 : (294 : Int64).toInt = 294 := by decide
                        refine mz_Vj (As := [.long 294]) (rest := []) ⟨hx, hb, hml, hown, hts⟩ hK hM hS (k_X13_isWord l D cy ld ad am hD _ _ _ _ 294 v3623 w3625 hIF hIG hIR hf3622 hf3624) ⟨callB_of 1 hts (wl_in mw_709) rfl rfl rfl (htl _ mw_5) (htl _ mw_706) hd_yX13_isWord ⟨(Nat.le_of_ble_eq_true rfl), (Nat.le_of_ble_eq_true rfl)⟩, htl _ mw_707, htl _ mw_708⟩ rfl hl.1 rfl (Nat.le_of_ble_eq_true rfl) dX13_readOrder_245 ⟨(Nat.le_of_ble_eq_true rfl), (Nat.le_of_ble_eq_true rfl)⟩ (fun v3635 H locs hpo hM hS => ?_)
                        obtain ⟨hpo3636, hpo3637, hpo3638, hpo3639, hpo3640⟩ := hpo
                        have hq_v3635 := tk_rng v3635
                        refine lv_if_eq (tgt := 260) hx hb dX13_readOrder_248 (by decide) (fun c9 => ?_) (fun c9 => ?_)
                        · have hc3642 : v3635.toInt = 0 := (fi_eq rfl (show (0 : Int32).toInt = 0 by decide)).mp c9
                          refine lv_aload_n hx hb dX13_readOrder_260 rfl (lv_at hl 3 rfl) ?_
                          refine mz_getR hx hb htl hown hK hM 61 (Nat.le_of_ble_eq_true rfl) (Nat.le_of_ble_eq_true rfl) (htl _ mw_239) (fun _ h9 => h9) dX13_readOrder_261 ?_
                          refine lv_iload_n hx hb dX13_readOrder_264 rfl (lv_at hl 1 rfl) ?_
                          refine lv_bipush (v := 8) hx hb dX13_readOrder_265 (by decide) ?_
                          refine lv_iadd hx hb dX13_readOrder_267 ?_
                          refine tk_add rfl (show (8 : Int32).toInt = 8 by decide) (by omega) (by omega) (fun v3643 h_v3643 => ?_)
                          refine lv_aload_n hx hb dX13_readOrder_268 rfl (lv_at hl 3 rfl) ?_
                          refine mz_getI hx hb htl hown hK hM 23 (Nat.le_of_ble_eq_true rfl) rfl (htl _ mw_670) (fun _ h9 => h9) dX13_readOrder_269 (fun v9 e9 => ?_)
                          refine fx_ti (v := v3520) (e9.symm.trans hf3519) ?_
                          refine mz_iast (x := v3520) hx hb hK hD hM hS 61 (Nat.le_of_ble_eq_true rfl) rfl (nn := 120) rfl rfl (by omega) (by omega) dX13_readOrder_272 (fun H locs R hM hS hw9 hj9 => ?_)
                          have hIR := hIR.put hw9 hj9 trivial
                          have hL22 : low (10 * gn.toInt.toNat) (Ra 61) (R 61) := fun j hj => by rw [hw9, pk_un (fun h9 => by have h8 := tk_nat (i := v3643) rfl (by omega); omega)]; exact hL22 j hj
                          have h22_1 : R 61 (10 * gn.toInt.toNat + 1) = gc := by rw [hw9, pk_un (fun h9 => by have h8 := tk_nat (i := v3643) rfl (by omega); omega)]; exact h22_1
                          have h22_2 : R 61 (10 * gn.toInt.toNat + 2) = v3520 := by rw [hw9, pk_un (fun h9 => by have h8 := tk_nat (i := v3643) rfl (by omega); omega)]; exact h22_2
                          have h22_3 : R 61 (10 * gn.toInt.toNat + 3) = 0 := by rw [hw9, pk_un (fun h9 => by have h8 := tk_nat (i := v3643) rfl (by omega); omega)]; exact h22_3
                          have h22_4 : R 61 (10 * gn.toInt.toNat + 4) = 0 := by rw [hw9, pk_un (fun h9 => by have h8 := tk_nat (i := v3643) rfl (by omega); omega)]; exact h22_4
                          have h22_5 : R 61 (10 * gn.toInt.toNat + 5) = 0 := by rw [hw9, pk_un (fun h9 => by have h8 := tk_nat (i := v3643) rfl (by omega); omega)]; exact h22_5
                          have h22_6 : R 61 (10 * gn.toInt.toNat + 6) = 0 := by rw [hw9, pk_un (fun h9 => by have h8 := tk_nat (i := v3643) rfl (by omega); omega)]; exact h22_6
                          have h22_7 : R 61 (10 * gn.toInt.toNat + 7) = v3520 := by rw [hw9, pk_un (fun h9 => by have h8 := tk_nat (i := v3643) rfl (by omega); omega)]; exact h22_7
                          have h22_0 : R 61 (10 * gn.toInt.toNat + 0) = v38 := by rw [hw9, pk_un (fun h9 => by have h8 := tk_nat (i := v3643) rfl (by omega); omega)]; exact h22_0
                          have h22_9 : R 61 (10 * gn.toInt.toNat + 9) = v3609 := by rw [hw9, pk_un (fun h9 => by have h8 := tk_nat (i := v3643) rfl (by omega); omega)]; exact h22_9
                          have hC9 := hC
                          have hC : v3627.toInt = 0 → CLS 10 [1, 3, 5, 7] (R 24) (R 25) (Ra 61) gc.toInt gn.toInt := fun h9 => (hC9 (by omega)).to (hj9 24 (by decide)) (hj9 25 (by decide))
                          have hX35219 := hX3521
                          have hX3521 : v3627.toInt = 0 → WFX (R 24) (R 25) gc v3520 := fun h9 => by rw [hj9 24 (by decide), hj9 25 (by decide)]; exact hX35219 (by omega)
                          have h22_8 : R 61 (10 * gn.toInt.toNat + 8) = v3520 := by rw [hw9, show 10 * gn.toInt.toNat + 8 = (v3643 : Int32).toNatClampNeg by show _ = v3643.toInt.toNat; omega]; exact pk_us
                          have hRR := mz_frp (K := [24, 25, 27, 28, 61]) (Fa := Ra) hj9 hRR (by decide)
                          have hk_0 : (0 : Int32).toInt = 0 := by decide
                          have hk_0 : (0 : Int32).toInt = 0 := by decide
                          have hk_0 : (0 : Int32).toInt = 0 := by decide
                          have hk_0 : (0 : Int32).toInt = 0 := by decide
                          exact mz_vret hx hb hr hlocks ⟨hIF, hIG, hIR, hFF, hRR, hGG, (by rw [hf3618, hf3620]; omega), (by rw [hf3620]; omega), (by rw [hf3618, hf3620, hf3622]; omega), (by rw [hf3618, hf3620, hf3622, hf3624]; omega), (by rw [hf3618]; omega), (by rw [hf3519]; omega), (by rw [hf3618, hf3519]; omega), (by rw [hf3626]; omega), (by rw [hf3618, hf3626]; omega), (by rw [hf3626, hf3519, hf111]; exact fun h9 => mz_snoc (N := gn.toInt.toNat) (hC h9) (by omega) (by omega) hL22 (by decide) (by omega) (by intro d hd; simp only [List.mem_cons, List.not_mem_nil, or_false] at hd; rcases hd with rfl | rfl | rfl | rfl <;> first | (rw [show 10 * gn.toInt.toNat + 1 + 1 = 10 * gn.toInt.toNat + 2 from rfl, h22_1, h22_2]; exact ⟨hX3521 h9, by omega⟩) | (rw [show 10 * gn.toInt.toNat + 3 + 1 = 10 * gn.toInt.toNat + 4 from rfl, h22_3, h22_4]; exact ⟨WFX.nil (by omega) (by omega), by omega⟩) | (rw [show 10 * gn.toInt.toNat + 5 + 1 = 10 * gn.toInt.toNat + 6 from rfl, h22_5, h22_6]; exact ⟨WFX.nil (by omega) (by omega), by omega⟩) | (rw [show 10 * gn.toInt.toNat + 7 + 1 = 10 * gn.toInt.toNat + 8 from rfl, h22_7, h22_8]; exact ⟨WFX.nil (by omega) (by omega), by omega⟩))), (by rw [hf3626, hf111]; exact fun h9 => TMS.snoc (N := gn.toInt.toNat) hx_1 (by omega) (by omega) hL22 h22_9 (by omega) (by omega))⟩ hM hS dX13_readOrder_273
                        · have hc3642 : ¬ (v3635.toInt = 0) := fun h9 => c9 ((fi_eq rfl (show (0 : Int32).toInt = 0 by decide)).mpr h9)
                          have hwk_3645 : w3625.toInt + (-294) = 0 ∧ v3623.toInt + (-1) = 0 := by omega
                          have hwk_3646 : 0 ≤ (-1) * v3619.toInt + v3621.toInt + (-1) := by omega
                          have hwk_3647 : 0 ≤ (-1) * v3619.toInt + v3621.toInt + (-2) := by omega
                          refine lv_aload_n hx hb dX13_readOrder_251 rfl (lv_at hl 3 rfl) ?_
                          refine mz_Vv (As := []) (rest := []) ⟨hx, hb, hml, hown, hts⟩ hK hM hS (k_X13_next l D cy ld ad am hD _ _ _ _ v3621 gp hIF hIG hIR hf3620 hg_3 (by omega)) ⟨callB_of 0 hts (wl_in mw_685) rfl rfl rfl (htl _ mw_5) (htl _ mw_682) hd_yX13_next ⟨(Nat.le_of_ble_eq_true rfl), (Nat.le_of_ble_eq_true rfl)⟩, htl _ mw_683, htl _ mw_684⟩ rfl hl.1 rfl (Nat.le_of_ble_eq_true rfl) dX13_readOrder_252 ⟨(Nat.le_of_ble_eq_true rfl), (Nat.le_of_ble_eq_true rfl)⟩ (fun H locs F G R S hpo hM hS => ?_)
                          obtain ⟨hIF, hIG, hIR, hfr9, hrr9, hgr9, hpo3648, hpo3649, hpo3650, hpo3651, hpo3652⟩ := hpo
                          have hFF := mz_fr (K := [14, 15, 16, 18, 19, 21, 23, 26, 29, 30]) (Fa := Fa) hfr9 hFF (by decide)
                          have hRR := mz_fr (K := [24, 25, 27, 28, 61]) (Fa := Ra) hrr9 hRR (by decide)
                          have hGG := mz_fr (K := [17]) (Fa := Ga) hgr9 hGG (by decide)
                          have hg_3 := (hfr9 13 (by decide)).trans hg_3
                          have hf111 := (hfr9 21 (by decide)).trans hf111
                          have hf3519 := (hfr9 23 (by decide)).trans hf3519
                          have hf3626 := (hfr9 19 (by decide)).trans hf3626
                          obtain ⟨v3655, hf3654⟩ : ∃ z : Int32, F 14 = z := ⟨_, rfl⟩
                          have hq_v3655 := tk_rng v3655
                          rw [hf3654] at hpo3648 hpo3649 hpo3651 hpo3652
                          have hr_v3655 : 0 ≤ v3655.toInt ∧ v3655.toInt ≤ 400 := hIF.at hf3654
                          obtain ⟨v3657, hf3656⟩ : ∃ z : Int32, F 15 = z := ⟨_, rfl⟩
                          have hq_v3657 := tk_rng v3657
                          rw [hf3656] at hpo3649 hpo3650 hpo3651 hpo3652
                          have hr_v3657 : 0 ≤ v3657.toInt ∧ v3657.toInt ≤ 400 := hIF.at hf3656
                          obtain ⟨v3659, hf3658⟩ : ∃ z : Int32, F 16 = z := ⟨_, rfl⟩
                          have hq_v3659 := tk_rng v3659
                          rw [hf3658] at hpo3651 hpo3652
                          have hr_v3659 : 0 ≤ v3659.toInt ∧ v3659.toInt ≤ 3 := hIF.at hf3658
                          obtain ⟨w3661, hf3660⟩ : ∃ z : Int64, G 17 = z := ⟨_, rfl⟩
                          have hq_w3661 := tk_rngL w3661
                          rw [hf3660] at hpo3652
                          have hL22 := hL22.to (hrr9 61 (by decide))
                          have h22_1 := (congrFun (hrr9 61 (by decide)) _).trans h22_1
                          have h22_2 := (congrFun (hrr9 61 (by decide)) _).trans h22_2
                          have h22_3 := (congrFun (hrr9 61 (by decide)) _).trans h22_3
                          have h22_4 := (congrFun (hrr9 61 (by decide)) _).trans h22_4
                          have h22_5 := (congrFun (hrr9 61 (by decide)) _).trans h22_5
                          have h22_6 := (congrFun (hrr9 61 (by decide)) _).trans h22_6
                          have h22_7 := (congrFun (hrr9 61 (by decide)) _).trans h22_7
                          have h22_8 := (congrFun (hrr9 61 (by decide)) _).trans h22_8
                          have h22_0 := (congrFun (hrr9 61 (by decide)) _).trans h22_0
                          have h22_9 := (congrFun (hrr9 61 (by decide)) _).trans h22_9
                          have hC9 := hC
                          have hC : v3627.toInt = 0 → CLS 10 [1, 3, 5, 7] (R 24) (R 25) (Ra 61) gc.toInt gn.toInt := fun h9 => (hC9 (by omega)).to (hrr9 24 (by decide)) (hrr9 25 (by decide))
                          have hX35219 := hX3521
                          have hX3521 : v3627.toInt = 0 → WFX (R 24) (R 25) gc v3520 := fun h9 => by rw [hrr9 24 (by decide), hrr9 25 (by decide)]; exact hX35219 (by omega)
                          refine lv_aload_n hx hb dX13_readOrder_255 rfl (lv_at hl 3 rfl) ?_
                          refine lv_iconst (v := 1) hx hb dX13_readOrder_256 (by decide) ?_
                          have hk_1 : (1 : Int32).toInt = 1 := by decide
                          refine mz_Vv (As := [.int 1]) (rest := []) ⟨hx, hb, hml, hown, hts⟩ hK hM hS (k_X13_readExpression l D cy ld ad am hD _ _ _ _ 1 v3655 v3657 v3659 gp w3661 v3627 v3520 hIF hIG hIR hf3654 hf3656 hf3658 hg_3 hf3660 hf3626 hf3519 (by omega) (by omega) (by omega) (by omega) (by omega) (by omega) (by omega) (by omega)) ⟨callB_of 1 hts (wl_in mw_717) rfl rfl rfl (htl _ mw_5) (htl _ mw_714) hd_yX13_readExpression ⟨(Nat.le_of_ble_eq_true rfl), (Nat.le_of_ble_eq_true rfl)⟩, htl _ mw_715, htl _ mw_716⟩ rfl hl.1 rfl (Nat.le_of_ble_eq_true rfl) dX13_readOrder_257 ⟨(Nat.le_of_ble_eq_true rfl), (Nat.le_of_ble_eq_true rfl)⟩ (fun H locs F G R S hpo hM hS => ?_)
                          obtain ⟨hIF, hIG, hIR, hfr9, hrr9, hgr9, hpo3662, hpo3663, hpo3664, hpo3665, hpo3666, hpo3667, hpo3668, hx3669⟩ := hpo
                          have hFF := mz_fr (K := [14, 15, 16, 18, 19, 21, 23, 26, 29, 30]) (Fa := Fa) hfr9 hFF (by decide)
                          have hRR := mz_fr (K := [24, 25, 27, 28, 61]) (Fa := Ra) hrr9 hRR (by decide)
                          have hGG := mz_fr (K := [17]) (Fa := Ga) hgr9 hGG (by decide)
                          have hg_3 := (hfr9 13 (by decide)).trans hg_3
                          have hf111 := (hfr9 21 (by decide)).trans hf111
                          obtain ⟨v3672, hf3671⟩ : ∃ z : Int32, F 14 = z := ⟨_, rfl⟩
                          have hq_v3672 := tk_rng v3672
                          rw [hf3671] at hpo3662 hpo3664 hpo3665 hpo3666 hpo3667
                          have hr_v3672 : 0 ≤ v3672.toInt ∧ v3672.toInt ≤ 400 := hIF.at hf3671
                          obtain ⟨v3674, hf3673⟩ : ∃ z : Int32, F 15 = z := ⟨_, rfl⟩
                          have hq_v3674 := tk_rng v3674
                          rw [hf3673] at hpo3662 hpo3663 hpo3664 hpo3665
                          have hr_v3674 : 0 ≤ v3674.toInt ∧ v3674.toInt ≤ 400 := hIF.at hf3673
                          obtain ⟨v3676, hf3675⟩ : ∃ z : Int32, F 16 = z := ⟨_, rfl⟩
                          have hq_v3676 := tk_rng v3676
                          rw [hf3675] at hpo3664 hpo3665
                          have hr_v3676 : 0 ≤ v3676.toInt ∧ v3676.toInt ≤ 3 := hIF.at hf3675
                          obtain ⟨w3678, hf3677⟩ : ∃ z : Int64, G 17 = z := ⟨_, rfl⟩
                          have hq_w3678 := tk_rngL w3678
                          rw [hf3677] at hpo3665
                          obtain ⟨v3680, hf3679⟩ : ∃ z : Int32, F 19 = z := ⟨_, rfl⟩
                          have hq_v3680 := tk_rng v3680
                          have hr_v3680 : 0 ≤ v3680.toInt ∧ v3680.toInt ≤ 1 := hIF.at hf3679
                          obtain ⟨v3682, hf3681⟩ : ∃ z : Int32, F 23 = z := ⟨_, rfl⟩
                          have hq_v3682 := tk_rng v3682
                          rw [hf3681] at hpo3667 hpo3668
                          have hr_v3682 : 0 ≤ v3682.toInt ∧ v3682.toInt ≤ 400 := hIF.at hf3681
                          have hL22 := hL22.to (hrr9 61 (by decide))
                          have h22_1 := (congrFun (hrr9 61 (by decide)) _).trans h22_1
                          have h22_2 := (congrFun (hrr9 61 (by decide)) _).trans h22_2
                          have h22_3 := (congrFun (hrr9 61 (by decide)) _).trans h22_3
                          have h22_4 := (congrFun (hrr9 61 (by decide)) _).trans h22_4
                          have h22_5 := (congrFun (hrr9 61 (by decide)) _).trans h22_5
                          have h22_6 := (congrFun (hrr9 61 (by decide)) _).trans h22_6
                          have h22_7 := (congrFun (hrr9 61 (by decide)) _).trans h22_7
                          have h22_8 := (congrFun (hrr9 61 (by decide)) _).trans h22_8
                          have h22_0 := (congrFun (hrr9 61 (by decide)) _).trans h22_0
                          have h22_9 := (congrFun (hrr9 61 (by decide)) _).trans h22_9
                          have hE9 : v3680.toInt = 0 → WFC (R 24) (R 25) v3520.toInt.toNat v3682.toInt.toNat ∧ low v3520.toInt.toNat _ (R 24) ∧ low v3520.toInt.toNat _ (R 25) := fun h9 => by have h8 := hx3669 (by rw [hf3679]; exact h9); rw [hf3681] at h8; exact h8
                          have hC9 := hC (by omega)
                          have hC : v3680.toInt = 0 → CLS 10 [1, 3, 5, 7] (R 24) (R 25) (Ra 61) gc.toInt gn.toInt := fun h9 => hC9.low (N := v3520.toInt.toNat) (by omega) (hE9 h9).2.1 (hE9 h9).2.2
                          have hX35219 := hX3521 (by omega)
                          have hX3521 : v3680.toInt = 0 → WFX (R 24) (R 25) gc v3520 := fun h9 => hX35219.low (n := v3520.toInt.toNat) (by omega) (hE9 h9).2.1 (hE9 h9).2.2
                          have hX3683 : v3680.toInt = 0 → WFX (R 24) (R 25) v3520 v3682 := fun h9 => ⟨by omega, by omega, by omega, (hE9 h9).1⟩
                          refine lv_aload_n hx hb dX13_readOrder_260 rfl (lv_at hl 3 rfl) ?_
                          refine mz_getR hx hb htl hown hK hM 61 (Nat.le_of_ble_eq_true rfl) (Nat.le_of_ble_eq_true rfl) (htl _ mw_239) (fun _ h9 => h9) dX13_readOrder_261 ?_
                          refine lv_iload_n hx hb dX13_readOrder_264 rfl (lv_at hl 1 rfl) ?_
                          refine lv_bipush (v := 8) hx hb dX13_readOrder_265 (by decide) ?_
                          refine lv_iadd hx hb dX13_readOrder_267 ?_
                          refine tk_add rfl (show (8 : Int32).toInt = 8 by decide) (by omega) (by omega) (fun v3684 h_v3684 => ?_)
                          refine lv_aload_n hx hb dX13_readOrder_268 rfl (lv_at hl 3 rfl) ?_
                          refine mz_getI hx hb htl hown hK hM 23 (Nat.le_of_ble_eq_true rfl) rfl (htl _ mw_670) (fun _ h9 => h9) dX13_readOrder_269 (fun v9 e9 => ?_)
                          refine fx_ti (v := v3682) (e9.symm.trans hf3681) ?_
                          refine mz_iast (x := v3682) hx hb hK hD hM hS 61 (Nat.le_of_ble_eq_true rfl) rfl (nn := 120) rfl rfl (by omega) (by omega) dX13_readOrder_272 (fun H locs R hM hS hw9 hj9 => ?_)
                          have hIR := hIR.put hw9 hj9 trivial
                          have hL22 : low (10 * gn.toInt.toNat) (Ra 61) (R 61) := fun j hj => by rw [hw9, pk_un (fun h9 => by have h8 := tk_nat (i := v3684) rfl (by omega); omega)]; exact hL22 j hj
                          have h22_1 : R 61 (10 * gn.toInt.toNat + 1) = gc := by rw [hw9, pk_un (fun h9 => by have h8 := tk_nat (i := v3684) rfl (by omega); omega)]; exact h22_1
                          have h22_2 : R 61 (10 * gn.toInt.toNat + 2) = v3520 := by rw [hw9, pk_un (fun h9 => by have h8 := tk_nat (i := v3684) rfl (by omega); omega)]; exact h22_2
                          have h22_3 : R 61 (10 * gn.toInt.toNat + 3) = 0 := by rw [hw9, pk_un (fun h9 => by have h8 := tk_nat (i := v3684) rfl (by omega); omega)]; exact h22_3
                          have h22_4 : R 61 (10 * gn.toInt.toNat + 4) = 0 := by rw [hw9, pk_un (fun h9 => by have h8 := tk_nat (i := v3684) rfl (by omega); omega)]; exact h22_4
                          have h22_5 : R 61 (10 * gn.toInt.toNat + 5) = 0 := by rw [hw9, pk_un (fun h9 => by have h8 := tk_nat (i := v3684) rfl (by omega); omega)]; exact h22_5
                          have h22_6 : R 61 (10 * gn.toInt.toNat + 6) = 0 := by rw [hw9, pk_un (fun h9 => by have h8 := tk_nat (i := v3684) rfl (by omega); omega)]; exact h22_6
                          have h22_7 : R 61 (10 * gn.toInt.toNat + 7) = v3520 := by rw [hw9, pk_un (fun h9 => by have h8 := tk_nat (i := v3684) rfl (by omega); omega)]; exact h22_7
                          have h22_0 : R 61 (10 * gn.toInt.toNat + 0) = v38 := by rw [hw9, pk_un (fun h9 => by have h8 := tk_nat (i := v3684) rfl (by omega); omega)]; exact h22_0
                          have h22_9 : R 61 (10 * gn.toInt.toNat + 9) = v3609 := by rw [hw9, pk_un (fun h9 => by have h8 := tk_nat (i := v3684) rfl (by omega); omega)]; exact h22_9
                          have hC9 := hC
                          have hC : v3680.toInt = 0 → CLS 10 [1, 3, 5, 7] (R 24) (R 25) (Ra 61) gc.toInt gn.toInt := fun h9 => (hC9 (by omega)).to (hj9 24 (by decide)) (hj9 25 (by decide))
                          have hX35219 := hX3521
                          have hX3521 : v3680.toInt = 0 → WFX (R 24) (R 25) gc v3520 := fun h9 => by rw [hj9 24 (by decide), hj9 25 (by decide)]; exact hX35219 (by omega)
                          have hX36839 := hX3683
                          have hX3683 : v3680.toInt = 0 → WFX (R 24) (R 25) v3520 v3682 := fun h9 => by rw [hj9 24 (by decide), hj9 25 (by decide)]; exact hX36839 (by omega)
                          have h22_8 : R 61 (10 * gn.toInt.toNat + 8) = v3682 := by rw [hw9, show 10 * gn.toInt.toNat + 8 = (v3684 : Int32).toNatClampNeg by show _ = v3684.toInt.toNat; omega]; exact pk_us
                          have hRR := mz_frp (K := [24, 25, 27, 28, 61]) (Fa := Ra) hj9 hRR (by decide)
                          have hk_0 : (0 : Int32).toInt = 0 := by decide
                          have hk_0 : (0 : Int32).toInt = 0 := by decide
                          have hk_0 : (0 : Int32).toInt = 0 := by decide
                          have hk_0 : (0 : Int32).toInt = 0 := by decide
                          exact mz_vret hx hb hr hlocks ⟨hIF, hIG, hIR, hFF, hRR, hGG, (by rw [hf3671, hf3673]; omega), (by rw [hf3673]; omega), (by rw [hf3671, hf3673, hf3675]; omega), (by rw [hf3671, hf3673, hf3675, hf3677]; omega), (by rw [hf3671]; omega), (by rw [hf3681]; omega), (by rw [hf3671, hf3681]; omega), (by rw [hf3679]; omega), (by rw [hf3671, hf3679]; omega), (by rw [hf3679, hf3681, hf111]; exact fun h9 => mz_snoc (N := gn.toInt.toNat) (hC h9) (by omega) (by omega) hL22 (by decide) (by omega) (by intro d hd; simp only [List.mem_cons, List.not_mem_nil, or_false] at hd; rcases hd with rfl | rfl | rfl | rfl <;> first | (rw [show 10 * gn.toInt.toNat + 1 + 1 = 10 * gn.toInt.toNat + 2 from rfl, h22_1, h22_2]; exact ⟨hX3521 h9, by omega⟩) | (rw [show 10 * gn.toInt.toNat + 3 + 1 = 10 * gn.toInt.toNat + 4 from rfl, h22_3, h22_4]; exact ⟨WFX.nil (by omega) (by omega), by omega⟩) | (rw [show 10 * gn.toInt.toNat + 5 + 1 = 10 * gn.toInt.toNat + 6 from rfl, h22_5, h22_6]; exact ⟨WFX.nil (by omega) (by omega), by omega⟩) | (rw [show 10 * gn.toInt.toNat + 7 + 1 = 10 * gn.toInt.toNat + 8 from rfl, h22_7, h22_8]; exact ⟨hX3683 h9, by omega⟩))), (by rw [hf3679, hf111]; exact fun h9 => TMS.snoc (N := gn.toInt.toNat) hx_1 (by omega) (by omega) hL22 h22_9 (by omega) (by omega))⟩ hM hS dX13_readOrder_273
                · have hc3522 : v38.toInt = 0 := (fi_eq rfl (show (0 : Int32).toInt = 0 by decide)).mp c9
                  refine lv_aload_n hx hb dX13_readOrder_153 rfl (lv_at hl 3 rfl) ?_
                  refine lv_iload_n hx hb dX13_readOrder_154 rfl (lv_at hl 1 rfl) ?_
                  refine lv_iconst (v := 3) hx hb dX13_readOrder_155 (by decide) ?_
                  refine lv_iadd hx hb dX13_readOrder_156 ?_
                  refine tk_add rfl (show (3 : Int32).toInt = 3 by decide) (by omega) (by omega) (fun v3686 h_v3686 => ?_)
                  refine lv_ldc2 hx hb hown (htl _ mw_1019) dX13_readOrder_157 ?_
                  have hk_763528 : (763528 : Int64).toInt = 763528 := by decide
                  refine mz_Vv (As := [.int v3686, .long 763528]) (rest := []) ⟨hx, hb, hml, hown, hts⟩ hK hM hS (k_X13_readBehind l D cy ld ad am hD _ _ _ _ v3686 763528 v3510 v3512 v3514 gp w3516 v3518 v3520 hIF hIG hIR hf3509 hf3511 hf3513 hg_3 hf3515 hf3517 hf3519 (by omega) (by omega) (by omega) (by omega) (by omega) (by omega) (by omega)) ⟨callB_of 2 hts (wl_in mw_1029) rfl rfl rfl (htl _ mw_5) (htl _ mw_1026) hd_yX13_readBehind ⟨(Nat.le_of_ble_eq_true rfl), (Nat.le_of_ble_eq_true rfl)⟩, htl _ mw_1027, htl _ mw_1028⟩ rfl hl.1 rfl (Nat.le_of_ble_eq_true rfl) dX13_readOrder_160 ⟨(Nat.le_of_ble_eq_true rfl), (Nat.le_of_ble_eq_true rfl)⟩ (fun H locs F G R S hpo hM hS => ?_)
                  obtain ⟨hIF, hIG, hIR, hfr9, hrr9, hgr9, hpo3687, hpo3688, hpo3689, hpo3690, hpo3691, hpo3692, hpo3693, hpo3694, hx3695, hx3696⟩ := hpo
                  have hFF := mz_fr (K := [14, 15, 16, 18, 19, 21, 23, 26, 29, 30]) (Fa := Fa) hfr9 hFF (by decide)
                  have hRR := mz_fr (K := [24, 25, 27, 28, 61]) (Fa := Ra) hrr9 hRR (by decide)
                  have hGG := mz_fr (K := [17]) (Fa := Ga) hgr9 hGG (by decide)
                  have hg_3 := (hfr9 13 (by decide)).trans hg_3
                  have hf111 := (hfr9 21 (by decide)).trans hf111
                  obtain ⟨v3699, hf3698⟩ : ∃ z : Int32, F 14 = z := ⟨_, rfl⟩
                  have hq_v3699 := tk_rng v3699
                  rw [hf3698] at hpo3687 hpo3689 hpo3690 hpo3691 hpo3693
                  have hr_v3699 : 0 ≤ v3699.toInt ∧ v3699.toInt ≤ 400 := hIF.at hf3698
                  obtain ⟨v3701, hf3700⟩ : ∃ z : Int32, F 15 = z := ⟨_, rfl⟩
                  have hq_v3701 := tk_rng v3701
                  rw [hf3700] at hpo3687 hpo3688 hpo3689 hpo3690
                  have hr_v3701 : 0 ≤ v3701.toInt ∧ v3701.toInt ≤ 400 := hIF.at hf3700
                  obtain ⟨v3703, hf3702⟩ : ∃ z : Int32, F 16 = z := ⟨_, rfl⟩
                  have hq_v3703 := tk_rng v3703
                  rw [hf3702] at hpo3689 hpo3690
                  have hr_v3703 : 0 ≤ v3703.toInt ∧ v3703.toInt ≤ 3 := hIF.at hf3702
                  obtain ⟨w3705, hf3704⟩ : ∃ z : Int64, G 17 = z := ⟨_, rfl⟩
                  have hq_w3705 := tk_rngL w3705
                  rw [hf3704] at hpo3690
                  obtain ⟨v3707, hf3706⟩ : ∃ z : Int32, F 19 = z := ⟨_, rfl⟩
                  have hq_v3707 := tk_rng v3707
                  rw [hf3706] at hpo3694
                  have hr_v3707 : 0 ≤ v3707.toInt ∧ v3707.toInt ≤ 1 := hIF.at hf3706
                  obtain ⟨v3709, hf3708⟩ : ∃ z : Int32, F 23 = z := ⟨_, rfl⟩
                  have hq_v3709 := tk_rng v3709
                  rw [hf3708] at hpo3692 hpo3693
                  have hr_v3709 : 0 ≤ v3709.toInt ∧ v3709.toInt ≤ 400 := hIF.at hf3708
                  rw [show v3686.toInt.toNat = 10 * gn.toInt.toNat + 3 by omega, hf3708] at hx3695
                  have hL22 : low (10 * gn.toInt.toNat) (Ra 61) (R 61) := fun j hj => by rw [hx3695, pk_un (by omega), pk_un (by omega)]; exact hL22 j hj
                  have h22_1 : R 61 (10 * gn.toInt.toNat + 1) = gc := by rw [hx3695, pk_un (by omega), pk_un (by omega)]; exact h22_1
                  have h22_2 : R 61 (10 * gn.toInt.toNat + 2) = v3520 := by rw [hx3695, pk_un (by omega), pk_un (by omega)]; exact h22_2
                  have h22_5 : R 61 (10 * gn.toInt.toNat + 5) = 0 := by rw [hx3695, pk_un (by omega), pk_un (by omega)]; exact h22_5
                  have h22_6 : R 61 (10 * gn.toInt.toNat + 6) = 0 := by rw [hx3695, pk_un (by omega), pk_un (by omega)]; exact h22_6
                  have h22_7 : R 61 (10 * gn.toInt.toNat + 7) = 0 := by rw [hx3695, pk_un (by omega), pk_un (by omega)]; exact h22_7
                  have h22_8 : R 61 (10 * gn.toInt.toNat + 8) = 0 := by rw [hx3695, pk_un (by omega), pk_un (by omega)]; exact h22_8
                  have h22_0 : R 61 (10 * gn.toInt.toNat + 0) = v38 := by rw [hx3695, pk_un (by omega), pk_un (by omega)]; exact h22_0
                  have h22_3 : R 61 (10 * gn.toInt.toNat + 3) = v3520 := by rw [hx3695, pk_un (by omega)]; exact pk_us
                  have h22_4 : R 61 (10 * gn.toInt.toNat + 4) = v3709 := by rw [hx3695, show 10 * gn.toInt.toNat + 4 = 10 * gn.toInt.toNat + 3 + 1 from rfl]; exact pk_us
                  have hE9 : v3707.toInt = 0 → WFC (R 24) (R 25) v3520.toInt.toNat v3709.toInt.toNat ∧ low v3520.toInt.toNat _ (R 24) ∧ low v3520.toInt.toNat _ (R 25) := fun h9 => by have h8 := hx3696 (by rw [hf3706]; exact h9); rw [hf3708] at h8; exact h8
                  have hC9 := hC
                  have hC : v3707.toInt = 0 → CLS 10 [1, 3, 5, 7] (R 24) (R 25) (Ra 61) gc.toInt gn.toInt := fun h9 => (hC9 (by omega)).low (N := v3520.toInt.toNat) (by omega) (hE9 h9).2.1 (hE9 h9).2.2
                  have hX35219 := hX3521
                  have hX3521 : v3707.toInt = 0 → WFX (R 24) (R 25) gc v3520 := fun h9 => (hX35219 (by omega)).low (n := v3520.toInt.toNat) (by omega) (hE9 h9).2.1 (hE9 h9).2.2
                  have hX3710 : v3707.toInt = 0 → WFX (R 24) (R 25) v3520 v3709 := fun h9 => ⟨by omega, by omega, by omega, (hE9 h9).1⟩
                  refine lv_aload_n hx hb dX13_readOrder_163 rfl (lv_at hl 3 rfl) ?_
                  refine lv_iload_n hx hb dX13_readOrder_164 rfl (lv_at hl 1 rfl) ?_
                  refine lv_iconst (v := 5) hx hb dX13_readOrder_165 (by decide) ?_
                  refine lv_iadd hx hb dX13_readOrder_166 ?_
                  refine tk_add rfl (show (5 : Int32).toInt = 5 by decide) (by omega) (by omega) (fun v3711 h_v3711 => ?_)
                  refine lv_ldc2 hx hb hown (htl _ mw_1020) dX13_readOrder_167 ?_
                  have hk_6642 : (6642 : Int64).toInt = 6642 := by decide
                  refine mz_Vv (As := [.int v3711, .long 6642]) (rest := []) ⟨hx, hb, hml, hown, hts⟩ hK hM hS (k_X13_readBehind l D cy ld ad am hD _ _ _ _ v3711 6642 v3699 v3701 v3703 gp w3705 v3707 v3709 hIF hIG hIR hf3698 hf3700 hf3702 hg_3 hf3704 hf3706 hf3708 (by omega) (by omega) (by omega) (by omega) (by omega) (by omega) (by omega)) ⟨callB_of 2 hts (wl_in mw_1029) rfl rfl rfl (htl _ mw_5) (htl _ mw_1026) hd_yX13_readBehind ⟨(Nat.le_of_ble_eq_true rfl), (Nat.le_of_ble_eq_true rfl)⟩, htl _ mw_1027, htl _ mw_1028⟩ rfl hl.1 rfl (Nat.le_of_ble_eq_true rfl) dX13_readOrder_170 ⟨(Nat.le_of_ble_eq_true rfl), (Nat.le_of_ble_eq_true rfl)⟩ (fun H locs F G R S hpo hM hS => ?_)
                  obtain ⟨hIF, hIG, hIR, hfr9, hrr9, hgr9, hpo3712, hpo3713, hpo3714, hpo3715, hpo3716, hpo3717, hpo3718, hpo3719, hx3720, hx3721⟩ := hpo
                  have hFF := mz_fr (K := [14, 15, 16, 18, 19, 21, 23, 26, 29, 30]) (Fa := Fa) hfr9 hFF (by decide)
                  have hRR := mz_fr (K := [24, 25, 27, 28, 61]) (Fa := Ra) hrr9 hRR (by decide)
                  have hGG := mz_fr (K := [17]) (Fa := Ga) hgr9 hGG (by decide)
                  have hg_3 := (hfr9 13 (by decide)).trans hg_3
                  have hf111 := (hfr9 21 (by decide)).trans hf111
                  obtain ⟨v3724, hf3723⟩ : ∃ z : Int32, F 14 = z := ⟨_, rfl⟩
                  have hq_v3724 := tk_rng v3724
                  rw [hf3723] at hpo3712 hpo3714 hpo3715 hpo3716 hpo3718
                  have hr_v3724 : 0 ≤ v3724.toInt ∧ v3724.toInt ≤ 400 := hIF.at hf3723
                  obtain ⟨v3726, hf3725⟩ : ∃ z : Int32, F 15 = z := ⟨_, rfl⟩
                  have hq_v3726 := tk_rng v3726
                  rw [hf3725] at hpo3712 hpo3713 hpo3714 hpo3715
                  have hr_v3726 : 0 ≤ v3726.toInt ∧ v3726.toInt ≤ 400 := hIF.at hf3725
                  obtain ⟨v3728, hf3727⟩ : ∃ z : Int32, F 16 = z := ⟨_, rfl⟩
                  have hq_v3728 := tk_rng v3728
                  rw [hf3727] at hpo3714 hpo3715
                  have hr_v3728 : 0 ≤ v3728.toInt ∧ v3728.toInt ≤ 3 := hIF.at hf3727
                  obtain ⟨w3730, hf3729⟩ : ∃ z : Int64, G 17 = z := ⟨_, rfl⟩
                  have hq_w3730 := tk_rngL w3730
                  rw [hf3729] at hpo3715
                  obtain ⟨v3732, hf3731⟩ : ∃ z : Int32, F 19 = z := ⟨_, rfl⟩
                  have hq_v3732 := tk_rng v3732
                  rw [hf3731] at hpo3719
                  have hr_v3732 : 0 ≤ v3732.toInt ∧ v3732.toInt ≤ 1 := hIF.at hf3731
                  obtain ⟨v3734, hf3733⟩ : ∃ z : Int32, F 23 = z := ⟨_, rfl⟩
                  have hq_v3734 := tk_rng v3734
                  rw [hf3733] at hpo3717 hpo3718
                  have hr_v3734 : 0 ≤ v3734.toInt ∧ v3734.toInt ≤ 400 := hIF.at hf3733
                  rw [show v3711.toInt.toNat = 10 * gn.toInt.toNat + 5 by omega, hf3733] at hx3720
                  have hL22 : low (10 * gn.toInt.toNat) (Ra 61) (R 61) := fun j hj => by rw [hx3720, pk_un (by omega), pk_un (by omega)]; exact hL22 j hj
                  have h22_1 : R 61 (10 * gn.toInt.toNat + 1) = gc := by rw [hx3720, pk_un (by omega), pk_un (by omega)]; exact h22_1
                  have h22_2 : R 61 (10 * gn.toInt.toNat + 2) = v3520 := by rw [hx3720, pk_un (by omega), pk_un (by omega)]; exact h22_2
                  have h22_3 : R 61 (10 * gn.toInt.toNat + 3) = v3520 := by rw [hx3720, pk_un (by omega), pk_un (by omega)]; exact h22_3
                  have h22_4 : R 61 (10 * gn.toInt.toNat + 4) = v3709 := by rw [hx3720, pk_un (by omega), pk_un (by omega)]; exact h22_4
                  have h22_7 : R 61 (10 * gn.toInt.toNat + 7) = 0 := by rw [hx3720, pk_un (by omega), pk_un (by omega)]; exact h22_7
                  have h22_8 : R 61 (10 * gn.toInt.toNat + 8) = 0 := by rw [hx3720, pk_un (by omega), pk_un (by omega)]; exact h22_8
                  have h22_0 : R 61 (10 * gn.toInt.toNat + 0) = v38 := by rw [hx3720, pk_un (by omega), pk_un (by omega)]; exact h22_0
                  have h22_5 : R 61 (10 * gn.toInt.toNat + 5) = v3709 := by rw [hx3720, pk_un (by omega)]; exact pk_us
                  have h22_6 : R 61 (10 * gn.toInt.toNat + 6) = v3734 := by rw [hx3720, show 10 * gn.toInt.toNat + 6 = 10 * gn.toInt.toNat + 5 + 1 from rfl]; exact pk_us
                  have hE9 : v3732.toInt = 0 → WFC (R 24) (R 25) v3709.toInt.toNat v3734.toInt.toNat ∧ low v3709.toInt.toNat _ (R 24) ∧ low v3709.toInt.toNat _ (R 25) := fun h9 => by have h8 := hx3721 (by rw [hf3731]; exact h9); rw [hf3733] at h8; exact h8
                  have hC9 := hC
                  have hC : v3732.toInt = 0 → CLS 10 [1, 3, 5, 7] (R 24) (R 25) (Ra 61) gc.toInt gn.toInt := fun h9 => (hC9 (by omega)).low (N := v3709.toInt.toNat) (by omega) (hE9 h9).2.1 (hE9 h9).2.2
                  have hX35219 := hX3521
                  have hX3521 : v3732.toInt = 0 → WFX (R 24) (R 25) gc v3520 := fun h9 => (hX35219 (by omega)).low (n := v3709.toInt.toNat) (by omega) (hE9 h9).2.1 (hE9 h9).2.2
                  have hX37109 := hX3710
                  have hX3710 : v3732.toInt = 0 → WFX (R 24) (R 25) v3520 v3709 := fun h9 => (hX37109 (by omega)).low (n := v3709.toInt.toNat) (by omega) (hE9 h9).2.1 (hE9 h9).2.2
                  have hX3735 : v3732.toInt = 0 → WFX (R 24) (R 25) v3709 v3734 := fun h9 => ⟨by omega, by omega, by omega, (hE9 h9).1⟩
                  refine lv_aload_n hx hb dX13_readOrder_173 rfl (lv_at hl 3 rfl) ?_
                  refine mz_getR hx hb htl hown hK hM 61 (Nat.le_of_ble_eq_true rfl) (Nat.le_of_ble_eq_true rfl) (htl _ mw_239) (fun _ h9 => h9) dX13_readOrder_174 ?_
                  refine lv_iload_n hx hb dX13_readOrder_177 rfl (lv_at hl 1 rfl) ?_
                  refine lv_bipush (v := 9) hx hb dX13_readOrder_178 (by decide) ?_
                  refine lv_iadd hx hb dX13_readOrder_180 ?_
                  refine tk_add rfl (show (9 : Int32).toInt = 9 by decide) (by omega) (by omega) (fun v3736 h_v3736 => ?_)
                  refine lv_iconst (v := 1) hx hb dX13_readOrder_181 (by decide) ?_
                  have hk_1 : (1 : Int32).toInt = 1 := by decide
                  refine mz_iast (x := 1) hx hb hK hD hM hS 61 (Nat.le_of_ble_eq_true rfl) rfl (nn := 120) rfl rfl (by omega) (by omega) dX13_readOrder_182 (fun H locs R hM hS hw9 hj9 => ?_)
                  have hIR := hIR.put hw9 hj9 trivial
                  have hL22 : low (10 * gn.toInt.toNat) (Ra 61) (R 61) := fun j hj => by rw [hw9, pk_un (fun h9 => by have h8 := tk_nat (i := v3736) rfl (by omega); omega)]; exact hL22 j hj
                  have h22_1 : R 61 (10 * gn.toInt.toNat + 1) = gc := by rw [hw9, pk_un (fun h9 => by have h8 := tk_nat (i := v3736) rfl (by omega); omega)]; exact h22_1
                  have h22_2 : R 61 (10 * gn.toInt.toNat + 2) = v3520 := by rw [hw9, pk_un (fun h9 => by have h8 := tk_nat (i := v3736) rfl (by omega); omega)]; exact h22_2
                  have h22_3 : R 61 (10 * gn.toInt.toNat + 3) = v3520 := by rw [hw9, pk_un (fun h9 => by have h8 := tk_nat (i := v3736) rfl (by omega); omega)]; exact h22_3
                  have h22_4 : R 61 (10 * gn.toInt.toNat + 4) = v3709 := by rw [hw9, pk_un (fun h9 => by have h8 := tk_nat (i := v3736) rfl (by omega); omega)]; exact h22_4
                  have h22_5 : R 61 (10 * gn.toInt.toNat + 5) = v3709 := by rw [hw9, pk_un (fun h9 => by have h8 := tk_nat (i := v3736) rfl (by omega); omega)]; exact h22_5
                  have h22_6 : R 61 (10 * gn.toInt.toNat + 6) = v3734 := by rw [hw9, pk_un (fun h9 => by have h8 := tk_nat (i := v3736) rfl (by omega); omega)]; exact h22_6
                  have h22_7 : R 61 (10 * gn.toInt.toNat + 7) = 0 := by rw [hw9, pk_un (fun h9 => by have h8 := tk_nat (i := v3736) rfl (by omega); omega)]; exact h22_7
                  have h22_8 : R 61 (10 * gn.toInt.toNat + 8) = 0 := by rw [hw9, pk_un (fun h9 => by have h8 := tk_nat (i := v3736) rfl (by omega); omega)]; exact h22_8
                  have h22_0 : R 61 (10 * gn.toInt.toNat + 0) = v38 := by rw [hw9, pk_un (fun h9 => by have h8 := tk_nat (i := v3736) rfl (by omega); omega)]; exact h22_0
                  have hC9 := hC
                  have hC : v3732.toInt = 0 → CLS 10 [1, 3, 5, 7] (R 24) (R 25) (Ra 61) gc.toInt gn.toInt := fun h9 => (hC9 (by omega)).to (hj9 24 (by decide)) (hj9 25 (by decide))
                  have hX35219 := hX3521
                  have hX3521 : v3732.toInt = 0 → WFX (R 24) (R 25) gc v3520 := fun h9 => by rw [hj9 24 (by decide), hj9 25 (by decide)]; exact hX35219 (by omega)
                  have hX37109 := hX3710
                  have hX3710 : v3732.toInt = 0 → WFX (R 24) (R 25) v3520 v3709 := fun h9 => by rw [hj9 24 (by decide), hj9 25 (by decide)]; exact hX37109 (by omega)
                  have hX37359 := hX3735
                  have hX3735 : v3732.toInt = 0 → WFX (R 24) (R 25) v3709 v3734 := fun h9 => by rw [hj9 24 (by decide), hj9 25 (by decide)]; exact hX37359 (by omega)
                  have h22_9 : R 61 (10 * gn.toInt.toNat + 9) = 1 := by rw [hw9, show 10 * gn.toInt.toNat + 9 = (v3736 : Int32).toNatClampNeg by show _ = v3736.toInt.toNat; omega]; exact pk_us
                  have hRR := mz_frp (K := [24, 25, 27, 28, 61]) (Fa := Ra) hj9 hRR (by decide)
                  refine lv_aload_n hx hb dX13_readOrder_183 rfl (lv_at hl 3 rfl) ?_
                  refine mz_getI hx hb htl hown hK hM 19 (Nat.le_of_ble_eq_true rfl) rfl (htl _ mw_668) (fun _ h9 => h9) dX13_readOrder_184 (fun v9 e9 => ?_)
                  refine fx_ti (v := v3732) (e9.symm.trans hf3731) ?_
                  refine lv_if_ne (tgt := 221) hx hb dX13_readOrder_187 (by decide) (fun c9 => ?_) (fun c9 => ?_)
                  · have hc3738 : ¬ (v3732.toInt = 0) := fun h9 => c9 ((fi_eq rfl (show (0 : Int32).toInt = 0 by decide)).mpr h9)
                    refine lv_aload_n hx hb dX13_readOrder_221 rfl (lv_at hl 3 rfl) ?_
                    refine mz_getR hx hb htl hown hK hM 61 (Nat.le_of_ble_eq_true rfl) (Nat.le_of_ble_eq_true rfl) (htl _ mw_239) (fun _ h9 => h9) dX13_readOrder_222 ?_
                    refine lv_iload_n hx hb dX13_readOrder_225 rfl (lv_at hl 1 rfl) ?_
                    refine lv_bipush (v := 7) hx hb dX13_readOrder_226 (by decide) ?_
                    refine lv_iadd hx hb dX13_readOrder_228 ?_
                    refine tk_add rfl (show (7 : Int32).toInt = 7 by decide) (by omega) (by omega) (fun v3739 h_v3739 => ?_)
                    refine lv_aload_n hx hb dX13_readOrder_229 rfl (lv_at hl 3 rfl) ?_
                    refine mz_getI hx hb htl hown hK hM 23 (Nat.le_of_ble_eq_true rfl) rfl (htl _ mw_670) (fun _ h9 => h9) dX13_readOrder_230 (fun v9 e9 => ?_)
                    refine fx_ti (v := v3734) (e9.symm.trans hf3733) ?_
                    refine mz_iast (x := v3734) hx hb hK hD hM hS 61 (Nat.le_of_ble_eq_true rfl) rfl (nn := 120) rfl rfl (by omega) (by omega) dX13_readOrder_233 (fun H locs R hM hS hw9 hj9 => ?_)
                    have hIR := hIR.put hw9 hj9 trivial
                    have hL22 : low (10 * gn.toInt.toNat) (Ra 61) (R 61) := fun j hj => by rw [hw9, pk_un (fun h9 => by have h8 := tk_nat (i := v3739) rfl (by omega); omega)]; exact hL22 j hj
                    have h22_1 : R 61 (10 * gn.toInt.toNat + 1) = gc := by rw [hw9, pk_un (fun h9 => by have h8 := tk_nat (i := v3739) rfl (by omega); omega)]; exact h22_1
                    have h22_2 : R 61 (10 * gn.toInt.toNat + 2) = v3520 := by rw [hw9, pk_un (fun h9 => by have h8 := tk_nat (i := v3739) rfl (by omega); omega)]; exact h22_2
                    have h22_3 : R 61 (10 * gn.toInt.toNat + 3) = v3520 := by rw [hw9, pk_un (fun h9 => by have h8 := tk_nat (i := v3739) rfl (by omega); omega)]; exact h22_3
                    have h22_4 : R 61 (10 * gn.toInt.toNat + 4) = v3709 := by rw [hw9, pk_un (fun h9 => by have h8 := tk_nat (i := v3739) rfl (by omega); omega)]; exact h22_4
                    have h22_5 : R 61 (10 * gn.toInt.toNat + 5) = v3709 := by rw [hw9, pk_un (fun h9 => by have h8 := tk_nat (i := v3739) rfl (by omega); omega)]; exact h22_5
                    have h22_6 : R 61 (10 * gn.toInt.toNat + 6) = v3734 := by rw [hw9, pk_un (fun h9 => by have h8 := tk_nat (i := v3739) rfl (by omega); omega)]; exact h22_6
                    have h22_8 : R 61 (10 * gn.toInt.toNat + 8) = 0 := by rw [hw9, pk_un (fun h9 => by have h8 := tk_nat (i := v3739) rfl (by omega); omega)]; exact h22_8
                    have h22_0 : R 61 (10 * gn.toInt.toNat + 0) = v38 := by rw [hw9, pk_un (fun h9 => by have h8 := tk_nat (i := v3739) rfl (by omega); omega)]; exact h22_0
                    have h22_9 : R 61 (10 * gn.toInt.toNat + 9) = 1 := by rw [hw9, pk_un (fun h9 => by have h8 := tk_nat (i := v3739) rfl (by omega); omega)]; exact h22_9
                    have hC9 := hC
                    have hC : v3732.toInt = 0 → CLS 10 [1, 3, 5, 7] (R 24) (R 25) (Ra 61) gc.toInt gn.toInt := fun h9 => (hC9 (by omega)).to (hj9 24 (by decide)) (hj9 25 (by decide))
                    have hX35219 := hX3521
                    have hX3521 : v3732.toInt = 0 → WFX (R 24) (R 25) gc v3520 := fun h9 => by rw [hj9 24 (by decide), hj9 25 (by decide)]; exact hX35219 (by omega)
                    have hX37109 := hX3710
                    have hX3710 : v3732.toInt = 0 → WFX (R 24) (R 25) v3520 v3709 := fun h9 => by rw [hj9 24 (by decide), hj9 25 (by decide)]; exact hX37109 (by omega)
                    have hX37359 := hX3735
                    have hX3735 : v3732.toInt = 0 → WFX (R 24) (R 25) v3709 v3734 := fun h9 => by rw [hj9 24 (by decide), hj9 25 (by decide)]; exact hX37359 (by omega)
                    have h22_7 : R 61 (10 * gn.toInt.toNat + 7) = v3734 := by rw [hw9, show 10 * gn.toInt.toNat + 7 = (v3739 : Int32).toNatClampNeg by show _ = v3739.toInt.toNat; omega]; exact pk_us
                    have hRR := mz_frp (K := [24, 25, 27, 28, 61]) (Fa := Ra) hj9 hRR (by decide)
                    refine lv_aload_n hx hb dX13_readOrder_234 rfl (lv_at hl 3 rfl) ?_
                    refine mz_getI hx hb htl hown hK hM 19 (Nat.le_of_ble_eq_true rfl) rfl (htl _ mw_668) (fun _ h9 => h9) dX13_readOrder_235 (fun v9 e9 => ?_)
                    refine fx_ti (v := v3732) (e9.symm.trans hf3731) ?_
                    refine lv_if_ne (tgt := 260) hx hb dX13_readOrder_238 (by decide) (fun _ => ?_) (fun c9 => absurd (show v3732.toInt = 0 from (fi_eq rfl (show (0 : Int32).toInt = 0 by decide)).mp c9) (by omega))
                    refine lv_aload_n hx hb dX13_readOrder_260 rfl (lv_at hl 3 rfl) ?_
                    refine mz_getR hx hb htl hown hK hM 61 (Nat.le_of_ble_eq_true rfl) (Nat.le_of_ble_eq_true rfl) (htl _ mw_239) (fun _ h9 => h9) dX13_readOrder_261 ?_
                    refine lv_iload_n hx hb dX13_readOrder_264 rfl (lv_at hl 1 rfl) ?_
                    refine lv_bipush (v := 8) hx hb dX13_readOrder_265 (by decide) ?_
                    refine lv_iadd hx hb dX13_readOrder_267 ?_
                    refine tk_add rfl (show (8 : Int32).toInt = 8 by decide) (by omega) (by omega) (fun v3741 h_v3741 => ?_)
                    refine lv_aload_n hx hb dX13_readOrder_268 rfl (lv_at hl 3 rfl) ?_
                    refine mz_getI hx hb htl hown hK hM 23 (Nat.le_of_ble_eq_true rfl) rfl (htl _ mw_670) (fun _ h9 => h9) dX13_readOrder_269 (fun v9 e9 => ?_)
                    refine fx_ti (v := v3734) (e9.symm.trans hf3733) ?_
                    refine mz_iast (x := v3734) hx hb hK hD hM hS 61 (Nat.le_of_ble_eq_true rfl) rfl (nn := 120) rfl rfl (by omega) (by omega) dX13_readOrder_272 (fun H locs R hM hS hw9 hj9 => ?_)
                    have hIR := hIR.put hw9 hj9 trivial
                    have hL22 : low (10 * gn.toInt.toNat) (Ra 61) (R 61) := fun j hj => by rw [hw9, pk_un (fun h9 => by have h8 := tk_nat (i := v3741) rfl (by omega); omega)]; exact hL22 j hj
                    have h22_1 : R 61 (10 * gn.toInt.toNat + 1) = gc := by rw [hw9, pk_un (fun h9 => by have h8 := tk_nat (i := v3741) rfl (by omega); omega)]; exact h22_1
                    have h22_2 : R 61 (10 * gn.toInt.toNat + 2) = v3520 := by rw [hw9, pk_un (fun h9 => by have h8 := tk_nat (i := v3741) rfl (by omega); omega)]; exact h22_2
                    have h22_3 : R 61 (10 * gn.toInt.toNat + 3) = v3520 := by rw [hw9, pk_un (fun h9 => by have h8 := tk_nat (i := v3741) rfl (by omega); omega)]; exact h22_3
                    have h22_4 : R 61 (10 * gn.toInt.toNat + 4) = v3709 := by rw [hw9, pk_un (fun h9 => by have h8 := tk_nat (i := v3741) rfl (by omega); omega)]; exact h22_4
                    have h22_5 : R 61 (10 * gn.toInt.toNat + 5) = v3709 := by rw [hw9, pk_un (fun h9 => by have h8 := tk_nat (i := v3741) rfl (by omega); omega)]; exact h22_5
                    have h22_6 : R 61 (10 * gn.toInt.toNat + 6) = v3734 := by rw [hw9, pk_un (fun h9 => by have h8 := tk_nat (i := v3741) rfl (by omega); omega)]; exact h22_6
                    have h22_7 : R 61 (10 * gn.toInt.toNat + 7) = v3734 := by rw [hw9, pk_un (fun h9 => by have h8 := tk_nat (i := v3741) rfl (by omega); omega)]; exact h22_7
                    have h22_0 : R 61 (10 * gn.toInt.toNat + 0) = v38 := by rw [hw9, pk_un (fun h9 => by have h8 := tk_nat (i := v3741) rfl (by omega); omega)]; exact h22_0
                    have h22_9 : R 61 (10 * gn.toInt.toNat + 9) = 1 := by rw [hw9, pk_un (fun h9 => by have h8 := tk_nat (i := v3741) rfl (by omega); omega)]; exact h22_9
                    have hC9 := hC
                    have hC : v3732.toInt = 0 → CLS 10 [1, 3, 5, 7] (R 24) (R 25) (Ra 61) gc.toInt gn.toInt := fun h9 => (hC9 (by omega)).to (hj9 24 (by decide)) (hj9 25 (by decide))
                    have hX35219 := hX3521
                    have hX3521 : v3732.toInt = 0 → WFX (R 24) (R 25) gc v3520 := fun h9 => by rw [hj9 24 (by decide), hj9 25 (by decide)]; exact hX35219 (by omega)
                    have hX37109 := hX3710
                    have hX3710 : v3732.toInt = 0 → WFX (R 24) (R 25) v3520 v3709 := fun h9 => by rw [hj9 24 (by decide), hj9 25 (by decide)]; exact hX37109 (by omega)
                    have hX37359 := hX3735
                    have hX3735 : v3732.toInt = 0 → WFX (R 24) (R 25) v3709 v3734 := fun h9 => by rw [hj9 24 (by decide), hj9 25 (by decide)]; exact hX37359 (by omega)
                    have h22_8 : R 61 (10 * gn.toInt.toNat + 8) = v3734 := by rw [hw9, show 10 * gn.toInt.toNat + 8 = (v3741 : Int32).toNatClampNeg by show _ = v3741.toInt.toNat; omega]; exact pk_us
                    have hRR := mz_frp (K := [24, 25, 27, 28, 61]) (Fa := Ra) hj9 hRR (by decide)
                    exact mz_vret hx hb hr hlocks ⟨hIF, hIG, hIR, hFF, hRR, hGG, (by rw [hf3723, hf3725]; omega), (by rw [hf3725]; omega), (by rw [hf3723, hf3725, hf3727]; omega), (by rw [hf3723, hf3725, hf3727, hf3729]; omega), (by rw [hf3723]; omega), (by rw [hf3733]; omega), (by rw [hf3723, hf3733]; omega), (by rw [hf3731]; omega), (by rw [hf3723, hf3731]; omega), (by rw [hf3731]; exact fun h9 => absurd h9 (by omega)), (by rw [hf3731]; exact fun h9 => absurd h9 (by omega))⟩ hM hS dX13_readOrder_273
                  · have hc3738 : v3732.toInt = 0 := (fi_eq rfl (show (0 : Int32).toInt = 0 by decide)).mp c9
                    refine lv_aload_n hx hb dX13_readOrder_190 rfl (lv_at hl 3 rfl) ?_
                    refine lv_ldc2 hx hb hown (htl _ mw_1021) dX13_readOrder_191 ?_
                    have hk_21279923 : (21279923 : Int64).toInt = 21279923 := by decide
                    refine mz_Vj (As := [.long 21279923]) (rest := []) ⟨hx, hb, hml, hown, hts⟩ hK hM hS (k_X13_isWord l D cy ld ad am hD _ _ _ _ 21279923 v3728 w3730 hIF hIG hIR hf3727 hf3729) ⟨callB_of 1 hts (wl_in mw_709) rfl rfl rfl (htl _ mw_5) (htl _ mw_706) hd_yX13_isWord ⟨(Nat.le_of_ble_eq_true rfl), (Nat.le_of_ble_eq_true rfl)⟩, htl _ mw_707, htl _ mw_708⟩ rfl hl.1 rfl (Nat.le_of_ble_eq_true rfl) dX13_readOrder_194 ⟨(Nat.le_of_ble_eq_true rfl), (Nat.le_of_ble_eq_true rfl)⟩ (fun v3743 H locs hpo hM hS => ?_)
                    obtain ⟨hpo3744, hpo3745, hpo3746, hpo3747, hpo3748⟩ := hpo
                    have hq_v3743 := tk_rng v3743
                    refine lv_if_eq (tgt := 221) hx hb dX13_readOrder_197 (by decide) (fun c9 => ?_) (fun c9 => ?_)
                    · have hc3750 : v3743.toInt = 0 := (fi_eq rfl (show (0 : Int32).toInt = 0 by decide)).mp c9
                      refine lv_aload_n hx hb dX13_readOrder_221 rfl (lv_at hl 3 rfl) ?_
                      refine mz_getR hx hb htl hown hK hM 61 (Nat.le_of_ble_eq_true rfl) (Nat.le_of_ble_eq_true rfl) (htl _ mw_239) (fun _ h9 => h9) dX13_readOrder_222 ?_
                      refine lv_iload_n hx hb dX13_readOrder_225 rfl (lv_at hl 1 rfl) ?_
                      refine lv_bipush (v := 7) hx hb dX13_readOrder_226 (by decide) ?_
                      refine lv_iadd hx hb dX13_readOrder_228 ?_
                      refine tk_add rfl (show (7 : Int32).toInt = 7 by decide) (by omega) (by omega) (fun v3751 h_v3751 => ?_)
                      refine lv_aload_n hx hb dX13_readOrder_229 rfl (lv_at hl 3 rfl) ?_
                      refine mz_getI hx hb htl hown hK hM 23 (Nat.le_of_ble_eq_true rfl) rfl (htl _ mw_670) (fun _ h9 => h9) dX13_readOrder_230 (fun v9 e9 => ?_)
                      refine fx_ti (v := v3734) (e9.symm.trans hf3733) ?_
                      refine mz_iast (x := v3734) hx hb hK hD hM hS 61 (Nat.le_of_ble_eq_true rfl) rfl (nn := 120) rfl rfl (by omega) (by omega) dX13_readOrder_233 (fun H locs R hM hS hw9 hj9 => ?_)
                      have hIR := hIR.put hw9 hj9 trivial
                      have hL22 : low (10 * gn.toInt.toNat) (Ra 61) (R 61) := fun j hj => by rw [hw9, pk_un (fun h9 => by have h8 := tk_nat (i := v3751) rfl (by omega); omega)]; exact hL22 j hj
                      have h22_1 : R 61 (10 * gn.toInt.toNat + 1) = gc := by rw [hw9, pk_un (fun h9 => by have h8 := tk_nat (i := v3751) rfl (by omega); omega)]; exact h22_1
                      have h22_2 : R 61 (10 * gn.toInt.toNat + 2) = v3520 := by rw [hw9, pk_un (fun h9 => by have h8 := tk_nat (i := v3751) rfl (by omega); omega)]; exact h22_2
                      have h22_3 : R 61 (10 * gn.toInt.toNat + 3) = v3520 := by rw [hw9, pk_un (fun h9 => by have h8 := tk_nat (i := v3751) rfl (by omega); omega)]; exact h22_3
                      have h22_4 : R 61 (10 * gn.toInt.toNat + 4) = v3709 := by rw [hw9, pk_un (fun h9 => by have h8 := tk_nat (i := v3751) rfl (by omega); omega)]; exact h22_4
                      have h22_5 : R 61 (10 * gn.toInt.toNat + 5) = v3709 := by rw [hw9, pk_un (fun h9 => by have h8 := tk_nat (i := v3751) rfl (by omega); omega)]; exact h22_5
                      have h22_6 : R 61 (10 * gn.toInt.toNat + 6) = v3734 := by rw [hw9, pk_un (fun h9 => by have h8 := tk_nat (i := v3751) rfl (by omega); omega)]; exact h22_6
                      have h22_8 : R 61 (10 * gn.toInt.toNat + 8) = 0 := by rw [hw9, pk_un (fun h9 => by have h8 := tk_nat (i := v3751) rfl (by omega); omega)]; exact h22_8
                      have h22_0 : R 61 (10 * gn.toInt.toNat + 0) = v38 := by rw [hw9, pk_un (fun h9 => by have h8 := tk_nat (i := v3751) rfl (by omega); omega)]; exact h22_0
                      have h22_9 : R 61 (10 * gn.toInt.toNat + 9) = 1 := by rw [hw9, pk_un (fun h9 => by have h8 := tk_nat (i := v3751) rfl (by omega); omega)]; exact h22_9
                      have hC9 := hC
                      have hC : v3732.toInt = 0 → CLS 10 [1, 3, 5, 7] (R 24) (R 25) (Ra 61) gc.toInt gn.toInt := fun h9 => (hC9 (by omega)).to (hj9 24 (by decide)) (hj9 25 (by decide))
                      have hX35219 := hX3521
                      have hX3521 : v3732.toInt = 0 → WFX (R 24) (R 25) gc v3520 := fun h9 => by rw [hj9 24 (by decide), hj9 25 (by decide)]; exact hX35219 (by omega)
                      have hX37109 := hX3710
                      have hX3710 : v3732.toInt = 0 → WFX (R 24) (R 25) v3520 v3709 := fun h9 => by rw [hj9 24 (by decide), hj9 25 (by decide)]; exact hX37109 (by omega)
                      have hX37359 := hX3735
                      have hX3735 : v3732.toInt = 0 → WFX (R 24) (R 25) v3709 v3734 := fun h9 => by rw [hj9 24 (by decide), hj9 25 (by decide)]; exact hX37359 (by omega)
                      have h22_7 : R 61 (10 * gn.toInt.toNat + 7) = v3734 := by rw [hw9, show 10 * gn.toInt.toNat + 7 = (v3751 : Int32).toNatClampNeg by show _ = v3751.toInt.toNat; omega]; exact pk_us
                      have hRR := mz_frp (K := [24, 25, 27, 28, 61]) (Fa := Ra) hj9 hRR (by decide)
                      refine lv_aload_n hx hb dX13_readOrder_234 rfl (lv_at hl 3 rfl) ?_
                      refine mz_getI hx hb htl hown hK hM 19 (Nat.le_of_ble_eq_true rfl) rfl (htl _ mw_668) (fun _ h9 => h9) dX13_readOrder_235 (fun v9 e9 => ?_)
                      refine fx_ti (v := v3732) (e9.symm.trans hf3731) ?_
                      refine lv_if_ne (tgt := 260) hx hb dX13_readOrder_238 (by decide) (fun c9 => absurd ((fi_eq rfl (show (0 : Int32).toInt = 0 by decide)).mpr (show v3732.toInt = 0 by omega)) c9) (fun _ => ?_)
                      refine lv_aload_n hx hb dX13_readOrder_241 rfl (lv_at hl 3 rfl) ?_
                      refine lv_ldc2 hx hb hown (htl _ mw_705) dX13_readOrder_242 ?_
                      have hk_294 : (294 : Int64).toInt = 294 := by decide
                      refine mz_Vj (As := [.long 294]) (rest := []) ⟨hx, hb, hml, hown, hts⟩ hK hM hS (k_X13_isWord l D cy ld ad am hD _ _ _ _ 294 v3728 w3730 hIF hIG hIR hf3727 hf3729) ⟨callB_of 1 hts (wl_in mw_709) rfl rfl rfl (htl _ mw_5) (htl _ mw_706) hd_yX13_isWord ⟨(Nat.le_of_ble_eq_true rfl), (Nat.le_of_ble_eq_true rfl)⟩, htl _ mw_707, htl _ mw_708⟩ rfl hl.1 rfl (Nat.le_of_ble_eq_true rfl) dX13_readOrder_245 ⟨(Nat.le_of_ble_eq_true rfl), (Nat.le_of_ble_eq_true rfl)⟩ (fun v3753 H locs hpo hM hS => ?_)
                      obtain ⟨hpo3754, hpo3755, hpo3756, hpo3757, hpo3758⟩ := hpo
                      have hq_v3753 := tk_rng v3753
                      refine lv_if_eq (tgt := 260) hx hb dX13_readOrder_248 (by decide) (fun c9 => ?_) (fun c9 => ?_)
                      · have hc3760 : v3753.toInt = 0 := (fi_eq rfl (show (0 : Int32).toInt = 0 by decide)).mp c9
                        refine lv_aload_n hx hb dX13_readOrder_260 rfl (lv_at hl 3 rfl) ?_
                        refine mz_getR hx hb htl hown hK hM 61 (Nat.le_of_ble_eq_true rfl) (Nat.le_of_ble_eq_true rfl) (htl _ mw_239) (fun _ h9 => h9) dX13_readOrder_261 ?_
                        refine lv_iload_n hx hb dX13_readOrder_264 rfl (lv_at hl 1 rfl) ?_
                        refine lv_bipush (v := 8) hx hb dX13_readOrder_265 (by decide) ?_
                        refine lv_iadd hx hb dX13_readOrder_267 ?_
                        refine tk_add rfl (show (8 : Int32).toInt = 8 by decide) (by omega) (by omega) (fun v3761 h_v3761 => ?_)
                        refine lv_aload_n hx hb dX13_readOrder_268 rfl (lv_at hl 3 rfl) ?_
                        refine mz_getI hx hb htl hown hK hM 23 (Nat.le_of_ble_eq_true rfl) rfl (htl _ mw_670) (fun _ h9 => h9) dX13_readOrder_269 (fun v9 e9 => ?_)
                        refine fx_ti (v := v3734) (e9.symm.trans hf3733) ?_
                        refine mz_iast (x := v3734) hx hb hK hD hM hS 61 (Nat.le_of_ble_eq_true rfl) rfl (nn := 120) rfl rfl (by omega) (by omega) dX13_readOrder_272 (fun H locs R hM hS hw9 hj9 => ?_)
                        have hIR := hIR.put hw9 hj9 trivial
                        have hL22 : low (10 * gn.toInt.toNat) (Ra 61) (R 61) := fun j hj => by rw [hw9, pk_un (fun h9 => by have h8 := tk_nat (i := v3761) rfl (by omega); omega)]; exact hL22 j hj
                        have h22_1 : R 61 (10 * gn.toInt.toNat + 1) = gc := by rw [hw9, pk_un (fun h9 => by have h8 := tk_nat (i := v3761) rfl (by omega); omega)]; exact h22_1
                        have h22_2 : R 61 (10 * gn.toInt.toNat + 2) = v3520 := by rw [hw9, pk_un (fun h9 => by have h8 := tk_nat (i := v3761) rfl (by omega); omega)]; exact h22_2
                        have h22_3 : R 61 (10 * gn.toInt.toNat + 3) = v3520 := by rw [hw9, pk_un (fun h9 => by have h8 := tk_nat (i := v3761) rfl (by omega); omega)]; exact h22_3
                        have h22_4 : R 61 (10 * gn.toInt.toNat + 4) = v3709 := by rw [hw9, pk_un (fun h9 => by have h8 := tk_nat (i := v3761) rfl (by omega); omega)]; exact h22_4
                        have h22_5 : R 61 (10 * gn.toInt.toNat + 5) = v3709 := by rw [hw9, pk_un (fun h9 => by have h8 := tk_nat (i := v3761) rfl (by omega); omega)]; exact h22_5
                        have h22_6 : R 61 (10 * gn.toInt.toNat + 6) = v3734 := by rw [hw9, pk_un (fun h9 => by have h8 := tk_nat (i := v3761) rfl (by omega); omega)]; exact h22_6
                        have h22_7 : R 61 (10 * gn.toInt.toNat + 7) = v3734 := by rw [hw9, pk_un (fun h9 => by have h8 := tk_nat (i := v3761) rfl (by omega); omega)]; exact h22_7
                        have h22_0 : R 61 (10 * gn.toInt.toNat + 0) = v38 := by rw [hw9, pk_un (fun h9 => by have h8 := tk_nat (i := v3761) rfl (by omega); omega)]; exact h22_0
                        have h22_9 : R 61 (10 * gn.toInt.toNat + 9) = 1 := by rw [hw9, pk_un (fun h9 => by have h8 := tk_nat (i := v3761) rfl (by omega); omega)]; exact h22_9
                        have hC9 := hC
                        have hC : v3732.toInt = 0 → CLS 10 [1, 3, 5, 7] (R 24) (R 25) (Ra 61) gc.toInt gn.toInt := fun h9 => (hC9 (by omega)).to (hj9 24 (by decide)) (hj9 25 (by decide))
                        have hX35219 := hX3521
                        have hX3521 : v3732.toInt = 0 → WFX (R 24) (R 25) gc v3520 := fun h9 => by rw [hj9 24 (by decide), hj9 25 (by decide)]; exact hX35219 (by omega)
                        have hX37109 := hX3710
                        have hX3710 : v3732.toInt = 0 → WFX (R 24) (R 25) v3520 v3709 := fun h9 => by rw [hj9 24 (by decide), hj9 25 (by decide)]; exact hX37109 (by omega)
                        have hX37359 := hX3735
                        have hX3735 : v3732.toInt = 0 → WFX (R 24) (R 25) v3709 v3734 := fun h9 => by rw [hj9 24 (by decide), hj9 25 (by decide)]; exact hX37359 (by omega)
                        have h22_8 : R 61 (10 * gn.toInt.toNat + 8) = v3734 := by rw [hw9, show 10 * gn.toInt.toNat + 8 = (v3761 : Int32).toNatClampNeg by show _ = v3761.toInt.toNat; omega]; exact pk_us
                        have hRR := mz_frp (K := [24, 25, 27, 28, 61]) (Fa := Ra) hj9 hRR (by decide)
                        have hk_1 : (1 : Int32).toInt = 1 := by decide
                        exact mz_vret hx hb hr hlocks ⟨hIF, hIG, hIR, hFF, hRR, hGG, (by rw [hf3723, hf3725]; omega), (by rw [hf3725]; omega), (by rw [hf3723, hf3725, hf3727]; omega), (by rw [hf3723, hf3725, hf3727, hf3729]; omega), (by rw [hf3723]; omega), (by rw [hf3733]; omega), (by rw [hf3723, hf3733]; omega), (by rw [hf3731]; omega), (by rw [hf3723, hf3731]; omega), (by rw [hf3731, hf3733, hf111]; exact fun h9 => mz_snoc (N := gn.toInt.toNat) (hC h9) (by omega) (by omega) hL22 (by decide) (by omega) (by intro d hd; simp only [List.mem_cons, List.not_mem_nil, or_false] at hd; rcases hd with rfl | rfl | rfl | rfl <;> first | (rw [show 10 * gn.toInt.toNat + 1 + 1 = 10 * gn.toInt.toNat + 2 from rfl, h22_1, h22_2]; exact ⟨hX3521 h9, by omega⟩) | (rw [show 10 * gn.toInt.toNat + 3 + 1 = 10 * gn.toInt.toNat + 4 from rfl, h22_3, h22_4]; exact ⟨hX3710 h9, by omega⟩) | (rw [show 10 * gn.toInt.toNat + 5 + 1 = 10 * gn.toInt.toNat + 6 from rfl, h22_5, h22_6]; exact ⟨hX3735 h9, by omega⟩) | (rw [show 10 * gn.toInt.toNat + 7 + 1 = 10 * gn.toInt.toNat + 8 from rfl, h22_7, h22_8]; exact ⟨WFX.nil (by omega) (by omega), by omega⟩))), (by rw [hf3731, hf111]; exact fun h9 => TMS.snoc (N := gn.toInt.toNat) hx_1 (by omega) (by omega) hL22 h22_9 (by omega) (by omega))⟩ hM hS dX13_readOrder_273
                      · have hc3760 : ¬ (v3753.toInt = 0) := fun h9 => c9 ((fi_eq rfl (show (0 : Int32).toInt = 0 by decide)).mpr h9)
                        have hwk_3763 : w3730.toInt + (-294) = 0 ∧ v3728.toInt + (-1) = 0 := by omega
                        have hwk_3764 : 0 ≤ (-1) * v3724.toInt + v3726.toInt + (-1) := by omega
                        have hwk_3765 : 0 ≤ (-1) * v3724.toInt + v3726.toInt + (-2) := by omega
                        refine lv_aload_n hx hb dX13_readOrder_251 rfl (lv_at hl 3 rfl) ?_
                        refine mz_Vv (As := []) (rest := []) ⟨hx, hb, hml, hown, hts⟩ hK hM hS (k_X13_next l D cy ld ad am hD _ _ _ _ v3726 gp hIF hIG hIR hf3725 hg_3 (by omega)) ⟨callB_of 0 hts (wl_in mw_685) rfl rfl rfl (htl _ mw_5) (htl _ mw_682) hd_yX13_next ⟨(Nat.le_of_ble_eq_true rfl), (Nat.le_of_ble_eq_true rfl)⟩, htl _ mw_683, htl _ mw_684⟩ rfl hl.1 rfl (Nat.le_of_ble_eq_true rfl) dX13_readOrder_252 ⟨(Nat.le_of_ble_eq_true rfl), (Nat.le_of_ble_eq_true rfl)⟩ (fun H locs F G R S hpo hM hS => ?_)
                        obtain ⟨hIF, hIG, hIR, hfr9, hrr9, hgr9, hpo3766, hpo3767, hpo3768, hpo3769, hpo3770⟩ := hpo
                        have hFF := mz_fr (K := [14, 15, 16, 18, 19, 21, 23, 26, 29, 30]) (Fa := Fa) hfr9 hFF (by decide)
                        have hRR := mz_fr (K := [24, 25, 27, 28, 61]) (Fa := Ra) hrr9 hRR (by decide)
                        have hGG := mz_fr (K := [17]) (Fa := Ga) hgr9 hGG (by decide)
                        have hg_3 := (hfr9 13 (by decide)).trans hg_3
                        have hf111 := (hfr9 21 (by decide)).trans hf111
                        have hf3731 := (hfr9 19 (by decide)).trans hf3731
                        have hf3733 := (hfr9 23 (by decide)).trans hf3733
                        obtain ⟨v3773, hf3772⟩ : ∃ z : Int32, F 14 = z := ⟨_, rfl⟩
                        have hq_v3773 := tk_rng v3773
                        rw [hf3772] at hpo3766 hpo3767 hpo3769 hpo3770
                        have hr_v3773 : 0 ≤ v3773.toInt ∧ v3773.toInt ≤ 400 := hIF.at hf3772
                        obtain ⟨v3775, hf3774⟩ : ∃ z : Int32, F 15 = z := ⟨_, rfl⟩
                        have hq_v3775 := tk_rng v3775
                        rw [hf3774] at hpo3767 hpo3768 hpo3769 hpo3770
                        have hr_v3775 : 0 ≤ v3775.toInt ∧ v3775.toInt ≤ 400 := hIF.at hf3774
                        obtain ⟨v3777, hf3776⟩ : ∃ z : Int32, F 16 = z := ⟨_, rfl⟩
                        have hq_v3777 := tk_rng v3777
                        rw [hf3776] at hpo3769 hpo3770
                        have hr_v3777 : 0 ≤ v3777.toInt ∧ v3777.toInt ≤ 3 := hIF.at hf3776
                        obtain ⟨w3779, hf3778⟩ : ∃ z : Int64, G 17 = z := ⟨_, rfl⟩
                        have hq_w3779 := tk_rngL w3779
                        rw [hf3778] at hpo3770
                        have hL22 := hL22.to (hrr9 61 (by decide))
                        have h22_1 := (congrFun (hrr9 61 (by decide)) _).trans h22_1
                        have h22_2 := (congrFun (hrr9 61 (by decide)) _).trans h22_2
                        have h22_3 := (congrFun (hrr9 61 (by decide)) _).trans h22_3
                        have h22_4 := (congrFun (hrr9 61 (by decide)) _).trans h22_4
                        have h22_5 := (congrFun (hrr9 61 (by decide)) _).trans h22_5
                        have h22_6 := (congrFun (hrr9 61 (by decide)) _).trans h22_6
                        have h22_7 := (congrFun (hrr9 61 (by decide)) _).trans h22_7
                        have h22_8 := (congrFun (hrr9 61 (by decide)) _).trans h22_8
                        have h22_0 := (congrFun (hrr9 61 (by decide)) _).trans h22_0
                        have h22_9 := (congrFun (hrr9 61 (by decide)) _).trans h22_9
                        have hC9 := hC
                        have hC : v3732.toInt = 0 → CLS 10 [1, 3, 5, 7] (R 24) (R 25) (Ra 61) gc.toInt gn.toInt := fun h9 => (hC9 (by omega)).to (hrr9 24 (by decide)) (hrr9 25 (by decide))
                        have hX35219 := hX3521
                        have hX3521 : v3732.toInt = 0 → WFX (R 24) (R 25) gc v3520 := fun h9 => by rw [hrr9 24 (by decide), hrr9 25 (by decide)]; exact hX35219 (by omega)
                        have hX37109 := hX3710
                        have hX3710 : v3732.toInt = 0 → WFX (R 24) (R 25) v3520 v3709 := fun h9 => by rw [hrr9 24 (by decide), hrr9 25 (by decide)]; exact hX37109 (by omega)
                        have hX37359 := hX3735
                        have hX3735 : v3732.toInt = 0 → WFX (R 24) (R 25) v3709 v3734 := fun h9 => by rw [hrr9 24 (by decide), hrr9 25 (by decide)]; exact hX37359 (by omega)
                        refine lv_aload_n hx hb dX13_readOrder_255 rfl (lv_at hl 3 rfl) ?_
                        refine lv_iconst (v := 1) hx hb dX13_readOrder_256 (by decide) ?_
                        have hk_1 : (1 : Int32).toInt = 1 := by decide
                        refine mz_Vv (As := [.int 1]) (rest := []) ⟨hx, hb, hml, hown, hts⟩ hK hM hS (k_X13_readExpression l D cy ld ad am hD _ _ _ _ 1 v3773 v3775 v3777 gp w3779 v3732 v3734 hIF hIG hIR hf3772 hf3774 hf3776 hg_3 hf3778 hf3731 hf3733 (by omega) (by omega) (by omega) (by omega) (by omega) (by omega) (by omega) (by omega)) ⟨callB_of 1 hts (wl_in mw_717) rfl rfl rfl (htl _ mw_5) (htl _ mw_714) hd_yX13_readExpression ⟨(Nat.le_of_ble_eq_true rfl), (Nat.le_of_ble_eq_true rfl)⟩, htl _ mw_715, htl _ mw_716⟩ rfl hl.1 rfl (Nat.le_of_ble_eq_true rfl) dX13_readOrder_257 ⟨(Nat.le_of_ble_eq_true rfl), (Nat.le_of_ble_eq_true rfl)⟩ (fun H locs F G R S hpo hM hS => ?_)
                        obtain ⟨hIF, hIG, hIR, hfr9, hrr9, hgr9, hpo3780, hpo3781, hpo3782, hpo3783, hpo3784, hpo3785, hpo3786, hx3787⟩ := hpo
                        have hFF := mz_fr (K := [14, 15, 16, 18, 19, 21, 23, 26, 29, 30]) (Fa := Fa) hfr9 hFF (by decide)
                        have hRR := mz_fr (K := [24, 25, 27, 28, 61]) (Fa := Ra) hrr9 hRR (by decide)
                        have hGG := mz_fr (K := [17]) (Fa := Ga) hgr9 hGG (by decide)
                        have hg_3 := (hfr9 13 (by decide)).trans hg_3
                        have hf111 := (hfr9 21 (by decide)).trans hf111
                        obtain ⟨v3790, hf3789⟩ : ∃ z : Int32, F 14 = z := ⟨_, rfl⟩
                        have hq_v3790 := tk_rng v3790
                        rw [hf3789] at hpo3780 hpo3782 hpo3783 hpo3784 hpo3785
                        have hr_v3790 : 0 ≤ v3790.toInt ∧ v3790.toInt ≤ 400 := hIF.at hf3789
                        obtain ⟨v3792, hf3791⟩ : ∃ z : Int32, F 15 = z := ⟨_, rfl⟩
                        have hq_v3792 := tk_rng v3792
                        rw [hf3791] at hpo3780 hpo3781 hpo3782 hpo3783
                        have hr_v3792 : 0 ≤ v3792.toInt ∧ v3792.toInt ≤ 400 := hIF.at hf3791
                        obtain ⟨v3794, hf3793⟩ : ∃ z : Int32, F 16 = z := ⟨_, rfl⟩
                        have hq_v3794 := tk_rng v3794
                        rw [hf3793] at hpo3782 hpo3783
                        have hr_v3794 : 0 ≤ v3794.toInt ∧ v3794.toInt ≤ 3 := hIF.at hf3793
                        obtain ⟨w3796, hf3795⟩ : ∃ z : Int64, G 17 = z := ⟨_, rfl⟩
                        have hq_w3796 := tk_rngL w3796
                        rw [hf3795] at hpo3783
                        obtain ⟨v3798, hf3797⟩ : ∃ z : Int32, F 19 = z := ⟨_, rfl⟩
                        have hq_v3798 := tk_rng v3798
                        have hr_v3798 : 0 ≤ v3798.toInt ∧ v3798.toInt ≤ 1 := hIF.at hf3797
                        obtain ⟨v3800, hf3799⟩ : ∃ z : Int32, F 23 = z := ⟨_, rfl⟩
                        have hq_v3800 := tk_rng v3800
                        rw [hf3799] at hpo3785 hpo3786
                        have hr_v3800 : 0 ≤ v3800.toInt ∧ v3800.toInt ≤ 400 := hIF.at hf3799
                        have hL22 := hL22.to (hrr9 61 (by decide))
                        have h22_1 := (congrFun (hrr9 61 (by decide)) _).trans h22_1
                        have h22_2 := (congrFun (hrr9 61 (by decide)) _).trans h22_2
                        have h22_3 := (congrFun (hrr9 61 (by decide)) _).trans h22_3
                        have h22_4 := (congrFun (hrr9 61 (by decide)) _).trans h22_4
                        have h22_5 := (congrFun (hrr9 61 (by decide)) _).trans h22_5
                        have h22_6 := (congrFun (hrr9 61 (by decide)) _).trans h22_6
                        have h22_7 := (congrFun (hrr9 61 (by decide)) _).trans h22_7
                        have h22_8 := (congrFun (hrr9 61 (by decide)) _).trans h22_8
                        have h22_0 := (congrFun (hrr9 61 (by decide)) _).trans h22_0
                        have h22_9 := (congrFun (hrr9 61 (by decide)) _).trans h22_9
                        have hE9 : v3798.toInt = 0 → WFC (R 24) (R 25) v3734.toInt.toNat v3800.toInt.toNat ∧ low v3734.toInt.toNat _ (R 24) ∧ low v3734.toInt.toNat _ (R 25) := fun h9 => by have h8 := hx3787 (by rw [hf3797]; exact h9); rw [hf3799] at h8; exact h8
                        have hC9 := hC (by omega)
                        have hC : v3798.toInt = 0 → CLS 10 [1, 3, 5, 7] (R 24) (R 25) (Ra 61) gc.toInt gn.toInt := fun h9 => hC9.low (N := v3734.toInt.toNat) (by omega) (hE9 h9).2.1 (hE9 h9).2.2
                        have hX35219 := hX3521 (by omega)
                        have hX3521 : v3798.toInt = 0 → WFX (R 24) (R 25) gc v3520 := fun h9 => hX35219.low (n := v3734.toInt.toNat) (by omega) (hE9 h9).2.1 (hE9 h9).2.2
                        have hX37109 := hX3710 (by omega)
                        have hX3710 : v3798.toInt = 0 → WFX (R 24) (R 25) v3520 v3709 := fun h9 => hX37109.low (n := v3734.toInt.toNat) (by omega) (hE9 h9).2.1 (hE9 h9).2.2
                        have hX37359 := hX3735 (by omega)
                        have hX3735 : v3798.toInt = 0 → WFX (R 24) (R 25) v3709 v3734 := fun h9 => hX37359.low (n := v3734.toInt.toNat) (by omega) (hE9 h9).2.1 (hE9 h9).2.2
                        have hX3801 : v3798.toInt = 0 → WFX (R 24) (R 25) v3734 v3800 := fun h9 => ⟨by omega, by omega, by omega, (hE9 h9).1⟩
                        refine lv_aload_n hx hb dX13_readOrder_260 rfl (lv_at hl 3 rfl) ?_
                        refine mz_getR hx hb htl hown hK hM 61 (Nat.le_of_ble_eq_true rfl) (Nat.le_of_ble_eq_true rfl) (htl _ mw_239) (fun _ h9 => h9) dX13_readOrder_261 ?_
                        refine lv_iload_n hx hb dX13_readOrder_264 rfl (lv_at hl 1 rfl) ?_
                        refine lv_bipush (v := 8) hx hb dX13_readOrder_265 (by decide) ?_
                        refine lv_iadd hx hb dX13_readOrder_267 ?_
                        refine tk_add rfl (show (8 : Int32).toInt = 8 by decide) (by omega) (by omega) (fun v3802 h_v3802 => ?_)
                        refine lv_aload_n hx hb dX13_readOrder_268 rfl (lv_at hl 3 rfl) ?_
                        refine mz_getI hx hb htl hown hK hM 23 (Nat.le_of_ble_eq_true rfl) rfl (htl _ mw_670) (fun _ h9 => h9) dX13_readOrder_269 (fun v9 e9 => ?_)
                        refine fx_ti (v := v3800) (e9.symm.trans hf3799) ?_
                        refine mz_iast (x := v3800) hx hb hK hD hM hS 61 (Nat.le_of_ble_eq_true rfl) rfl (nn := 120) rfl rfl (by omega) (by omega) dX13_readOrder_272 (fun H locs R hM hS hw9 hj9 => ?_)
                        have hIR := hIR.put hw9 hj9 trivial
                        have hL22 : low (10 * gn.toInt.toNat) (Ra 61) (R 61) := fun j hj => by rw [hw9, pk_un (fun h9 => by have h8 := tk_nat (i := v3802) rfl (by omega); omega)]; exact hL22 j hj
                        have h22_1 : R 61 (10 * gn.toInt.toNat + 1) = gc := by rw [hw9, pk_un (fun h9 => by have h8 := tk_nat (i := v3802) rfl (by omega); omega)]; exact h22_1
                        have h22_2 : R 61 (10 * gn.toInt.toNat + 2) = v3520 := by rw [hw9, pk_un (fun h9 => by have h8 := tk_nat (i := v3802) rfl (by omega); omega)]; exact h22_2
                        have h22_3 : R 61 (10 * gn.toInt.toNat + 3) = v3520 := by rw [hw9, pk_un (fun h9 => by have h8 := tk_nat (i := v3802) rfl (by omega); omega)]; exact h22_3
                        have h22_4 : R 61 (10 * gn.toInt.toNat + 4) = v3709 := by rw [hw9, pk_un (fun h9 => by have h8 := tk_nat (i := v3802) rfl (by omega); omega)]; exact h22_4
                        have h22_5 : R 61 (10 * gn.toInt.toNat + 5) = v3709 := by rw [hw9, pk_un (fun h9 => by have h8 := tk_nat (i := v3802) rfl (by omega); omega)]; exact h22_5
                        have h22_6 : R 61 (10 * gn.toInt.toNat + 6) = v3734 := by rw [hw9, pk_un (fun h9 => by have h8 := tk_nat (i := v3802) rfl (by omega); omega)]; exact h22_6
                        have h22_7 : R 61 (10 * gn.toInt.toNat + 7) = v3734 := by rw [hw9, pk_un (fun h9 => by have h8 := tk_nat (i := v3802) rfl (by omega); omega)]; exact h22_7
                        have h22_0 : R 61 (10 * gn.toInt.toNat + 0) = v38 := by rw [hw9, pk_un (fun h9 => by have h8 := tk_nat (i := v3802) rfl (by omega); omega)]; exact h22_0
                        have h22_9 : R 61 (10 * gn.toInt.toNat + 9) = 1 := by rw [hw9, pk_un (fun h9 => by have h8 := tk_nat (i := v3802) rfl (by omega); omega)]; exact h22_9
                        have hC9 := hC
                        have hC : v3798.toInt = 0 → CLS 10 [1, 3, 5, 7] (R 24) (R 25) (Ra 61) gc.toInt gn.toInt := fun h9 => (hC9 (by omega)).to (hj9 24 (by decide)) (hj9 25 (by decide))
                        have hX35219 := hX3521
                        have hX3521 : v3798.toInt = 0 → WFX (R 24) (R 25) gc v3520 := fun h9 => by rw [hj9 24 (by decide), hj9 25 (by decide)]; exact hX35219 (by omega)
                        have hX37109 := hX3710
                        have hX3710 : v3798.toInt = 0 → WFX (R 24) (R 25) v3520 v3709 := fun h9 => by rw [hj9 24 (by decide), hj9 25 (by decide)]; exact hX37109 (by omega)
                        have hX37359 := hX3735
                        have hX3735 : v3798.toInt = 0 → WFX (R 24) (R 25) v3709 v3734 := fun h9 => by rw [hj9 24 (by decide), hj9 25 (by decide)]; exact hX37359 (by omega)
                        have hX38019 := hX3801
                        have hX3801 : v3798.toInt = 0 → WFX (R 24) (R 25) v3734 v3800 := fun h9 => by rw [hj9 24 (by decide), hj9 25 (by decide)]; exact hX38019 (by omega)
                        have h22_8 : R 61 (10 * gn.toInt.toNat + 8) = v3800 := by rw [hw9, show 10 * gn.toInt.toNat + 8 = (v3802 : Int32).toNatClampNeg by show _ = v3802.toInt.toNat; omega]; exact pk_us
                        have hRR := mz_frp (K := [24, 25, 27, 28, 61]) (Fa := Ra) hj9 hRR (by decide)
                        have hk_1 : (1 : Int32).toInt = 1 := by decide
                        exact mz_vret hx hb hr hlocks ⟨hIF, hIG, hIR, hFF, hRR, hGG, (by rw [hf3789, hf3791]; omega), (by rw [hf3791]; omega), (by rw [hf3789, hf3791, hf3793]; omega), (by rw [hf3789, hf3791, hf3793, hf3795]; omega), (by rw [hf3789]; omega), (by rw [hf3799]; omega), (by rw [hf3789, hf3799]; omega), (by rw [hf3797]; omega), (by rw [hf3789, hf3797]; omega), (by rw [hf3797, hf3799, hf111]; exact fun h9 => mz_snoc (N := gn.toInt.toNat) (hC h9) (by omega) (by omega) hL22 (by decide) (by omega) (by intro d hd; simp only [List.mem_cons, List.not_mem_nil, or_false] at hd; rcases hd with rfl | rfl | rfl | rfl <;> first | (rw [show 10 * gn.toInt.toNat + 1 + 1 = 10 * gn.toInt.toNat + 2 from rfl, h22_1, h22_2]; exact ⟨hX3521 h9, by omega⟩) | (rw [show 10 * gn.toInt.toNat + 3 + 1 = 10 * gn.toInt.toNat + 4 from rfl, h22_3, h22_4]; exact ⟨hX3710 h9, by omega⟩) | (rw [show 10 * gn.toInt.toNat + 5 + 1 = 10 * gn.toInt.toNat + 6 from rfl, h22_5, h22_6]; exact ⟨hX3735 h9, by omega⟩) | (rw [show 10 * gn.toInt.toNat + 7 + 1 = 10 * gn.toInt.toNat + 8 from rfl, h22_7, h22_8]; exact ⟨hX3801 h9, by omega⟩))), (by rw [hf3797, hf111]; exact fun h9 => TMS.snoc (N := gn.toInt.toNat) hx_1 (by omega) (by omega) hL22 h22_9 (by omega) (by omega))⟩ hM hS dX13_readOrder_273
                    · have hc3750 : ¬ (v3743.toInt = 0) := fun h9 => c9 ((fi_eq rfl (show (0 : Int32).toInt = 0 by decide)).mpr h9)
                      have hwk_3804 : w3730.toInt + (-21279923) = 0 ∧ v3728.toInt + (-1) = 0 := by omega
                      have hwk_3805 : 0 ≤ (-1) * v3724.toInt + v3726.toInt + (-1) := by omega
                      have hwk_3806 : 0 ≤ (-1) * v3724.toInt + v3726.toInt + (-2) := by omega
                      refine lv_aload_n hx hb dX13_readOrder_200 rfl (lv_at hl 3 rfl) ?_
                      refine mz_Vv (As := []) (rest := []) ⟨hx, hb, hml, hown, hts⟩ hK hM hS (k_X13_next l D cy ld ad am hD _ _ _ _ v3726 gp hIF hIG hIR hf3725 hg_3 (by omega)) ⟨callB_of 0 hts (wl_in mw_685) rfl rfl rfl (htl _ mw_5) (htl _ mw_682) hd_yX13_next ⟨(Nat.le_of_ble_eq_true rfl), (Nat.le_of_ble_eq_true rfl)⟩, htl _ mw_683, htl _ mw_684⟩ rfl hl.1 rfl (Nat.le_of_ble_eq_true rfl) dX13_readOrder_201 ⟨(Nat.le_of_ble_eq_true rfl), (Nat.le_of_ble_eq_true rfl)⟩ (fun H locs F G R S hpo hM hS => ?_)
                      obtain ⟨hIF, hIG, hIR, hfr9, hrr9, hgr9, hpo3807, hpo3808, hpo3809, hpo3810, hpo3811⟩ := hpo
                      have hFF := mz_fr (K := [14, 15, 16, 18, 19, 21, 23, 26, 29, 30]) (Fa := Fa) hfr9 hFF (by decide)
                      have hRR := mz_fr (K := [24, 25, 27, 28, 61]) (Fa := Ra) hrr9 hRR (by decide)
                      have hGG := mz_fr (K := [17]) (Fa := Ga) hgr9 hGG (by decide)
                      have hg_3 := (hfr9 13 (by decide)).trans hg_3
                      have hf111 := (hfr9 21 (by decide)).trans hf111
                      have hf3731 := (hfr9 19 (by decide)).trans hf3731
                      have hf3733 := (hfr9 23 (by decide)).trans hf3733
                      obtain ⟨v3814, hf3813⟩ : ∃ z : Int32, F 14 = z := ⟨_, rfl⟩
                      have hq_v3814 := tk_rng v3814
                      rw [hf3813] at hpo3807 hpo3808 hpo3810 hpo3811
                      have hr_v3814 : 0 ≤ v3814.toInt ∧ v3814.toInt ≤ 400 := hIF.at hf3813
                      obtain ⟨v3816, hf3815⟩ : ∃ z : Int32, F 15 = z := ⟨_, rfl⟩
                      have hq_v3816 := tk_rng v3816
                      rw [hf3815] at hpo3808 hpo3809 hpo3810 hpo3811
                      have hr_v3816 : 0 ≤ v3816.toInt ∧ v3816.toInt ≤ 400 := hIF.at hf3815
                      obtain ⟨v3818, hf3817⟩ : ∃ z : Int32, F 16 = z := ⟨_, rfl⟩
                      have hq_v3818 := tk_rng v3818
                      rw [hf3817] at hpo3810 hpo3811
                      have hr_v3818 : 0 ≤ v3818.toInt ∧ v3818.toInt ≤ 3 := hIF.at hf3817
                      obtain ⟨w3820, hf3819⟩ : ∃ z : Int64, G 17 = z := ⟨_, rfl⟩
                      have hq_w3820 := tk_rngL w3820
                      rw [hf3819] at hpo3811
                      have hL22 := hL22.to (hrr9 61 (by decide))
                      have h22_1 := (congrFun (hrr9 61 (by decide)) _).trans h22_1
                      have h22_2 := (congrFun (hrr9 61 (by decide)) _).trans h22_2
                      have h22_3 := (congrFun (hrr9 61 (by decide)) _).trans h22_3
                      have h22_4 := (congrFun (hrr9 61 (by decide)) _).trans h22_4
                      have h22_5 := (congrFun (hrr9 61 (by decide)) _).trans h22_5
                      have h22_6 := (congrFun (hrr9 61 (by decide)) _).trans h22_6
                      have h22_7 := (congrFun (hrr9 61 (by decide)) _).trans h22_7
                      have h22_8 := (congrFun (hrr9 61 (by decide)) _).trans h22_8
                      have h22_0 := (congrFun (hrr9 61 (by decide)) _).trans h22_0
                      have h22_9 := (congrFun (hrr9 61 (by decide)) _).trans h22_9
                      have hC9 := hC
                      have hC : v3732.toInt = 0 → CLS 10 [1, 3, 5, 7] (R 24) (R 25) (Ra 61) gc.toInt gn.toInt := fun h9 => (hC9 (by omega)).to (hrr9 24 (by decide)) (hrr9 25 (by decide))
                      have hX35219 := hX3521
                      have hX3521 : v3732.toInt = 0 → WFX (R 24) (R 25) gc v3520 := fun h9 => by rw [hrr9 24 (by decide), hrr9 25 (by decide)]; exact hX35219 (by omega)
                      have hX37109 := hX3710
                      have hX3710 : v3732.toInt = 0 → WFX (R 24) (R 25) v3520 v3709 := fun h9 => by rw [hrr9 24 (by decide), hrr9 25 (by decide)]; exact hX37109 (by omega)
                      have hX37359 := hX3735
                      have hX3735 : v3732.toInt = 0 → WFX (R 24) (R 25) v3709 v3734 := fun h9 => by rw [hrr9 24 (by decide), hrr9 25 (by decide)]; exact hX37359 (by omega)
                      refine lv_aload_n hx hb dX13_readOrder_204 rfl (lv_at hl 3 rfl) ?_
                      refine mz_getR hx hb htl hown hK hM 61 (Nat.le_of_ble_eq_true rfl) (Nat.le_of_ble_eq_true rfl) (htl _ mw_239) (fun _ h9 => h9) dX13_readOrder_205 ?_
                      refine lv_iload_n hx hb dX13_readOrder_208 rfl (lv_at hl 1 rfl) ?_
                      refine lv_bipush (v := 9) hx hb dX13_readOrder_209 (by decide) ?_
                      refine lv_iadd hx hb dX13_readOrder_211 ?_
                      refine tk_add rfl (show (9 : Int32).toInt = 9 by decide) (by omega) (by omega) (fun v3821 h_v3821 => ?_)
                      refine lv_aload_n hx hb dX13_readOrder_212 rfl (lv_at hl 3 rfl) ?_
                      refine lv_lconst (v := 1) hx hb dX13_readOrder_213 (by decide) ?_
                      refine lv_ldc2 hx hb hown (htl _ mw_782) dX13_readOrder_214 ?_
                      have hk_1 : (1 : Int64).toInt = 1 := by decide
                      have hk_20 : (20 : Int64).toInt = 20 := by decide
                      refine mz_Vi (As := [.long 1, .long 20]) (rest := [.int v3821, .ref (ad 61)]) ⟨hx, hb, hml, hown, hts⟩ hK hM hS (k_X13_number l D cy ld ad am hD _ _ _ _ 1 20 v3814 v3816 v3818 gp w3820 v3732 hIF hIG hIR hf3813 hf3815 hf3817 hg_3 hf3819 hf3731 (by omega) (by omega) (by omega) (by omega) (by omega) (by omega) (by omega) (by omega)) ⟨callB_of 2 hts (wl_in mw_762) rfl rfl rfl (htl _ mw_5) (htl _ mw_759) hd_yX13_number ⟨(Nat.le_of_ble_eq_true rfl), (Nat.le_of_ble_eq_true rfl)⟩, htl _ mw_760, htl _ mw_761⟩ rfl hl.1 rfl (Nat.le_of_ble_eq_true rfl) dX13_readOrder_217 ⟨(Nat.le_of_ble_eq_true rfl), (Nat.le_of_ble_eq_true rfl)⟩ (fun v3822 H locs F G R S hpo hM hS => ?_)
                      obtain ⟨hIF, hIG, hIR, hfr9, hrr9, hgr9, hpo3823, hpo3824, hpo3825, hpo3826, hpo3827, hpo3828, hpo3829⟩ := hpo
                      have hq_v3822 := tk_rng v3822
                      have hFF := mz_fr (K := [14, 15, 16, 18, 19, 21, 23, 26, 29, 30]) (Fa := Fa) hfr9 hFF (by decide)
                      have hRR := mz_fr (K := [24, 25, 27, 28, 61]) (Fa := Ra) hrr9 hRR (by decide)
                      have hGG := mz_fr (K := [17]) (Fa := Ga) hgr9 hGG (by decide)
                      have hg_3 := (hfr9 13 (by decide)).trans hg_3
                      have hf111 := (hfr9 21 (by decide)).trans hf111
                      have hf3733 := (hfr9 23 (by decide)).trans hf3733
                      obtain ⟨v3832, hf3831⟩ : ∃ z : Int32, F 14 = z := ⟨_, rfl⟩
                      have hq_v3832 := tk_rng v3832
                      rw [hf3831] at hpo3823 hpo3825 hpo3826 hpo3827 hpo3829
                      have hr_v3832 : 0 ≤ v3832.toInt ∧ v3832.toInt ≤ 400 := hIF.at hf3831
                      obtain ⟨v3834, hf3833⟩ : ∃ z : Int32, F 15 = z := ⟨_, rfl⟩
                      have hq_v3834 := tk_rng v3834
                      rw [hf3833] at hpo3823 hpo3824 hpo3825 hpo3826
                      have hr_v3834 : 0 ≤ v3834.toInt ∧ v3834.toInt ≤ 400 := hIF.at hf3833
                      obtain ⟨v3836, hf3835⟩ : ∃ z : Int32, F 16 = z := ⟨_, rfl⟩
                      have hq_v3836 := tk_rng v3836
                      rw [hf3835] at hpo3825 hpo3826
                      have hr_v3836 : 0 ≤ v3836.toInt ∧ v3836.toInt ≤ 3 := hIF.at hf3835
                      obtain ⟨w3838, hf3837⟩ : ∃ z : Int64, G 17 = z := ⟨_, rfl⟩
                      have hq_w3838 := tk_rngL w3838
                      rw [hf3837] at hpo3826
                      obtain ⟨v3840, hf3839⟩ : ∃ z : Int32, F 19 = z := ⟨_, rfl⟩
                      have hq_v3840 := tk_rng v3840
                      rw [hf3839] at hpo3828 hpo3829
                      have hr_v3840 : 0 ≤ v3840.toInt ∧ v3840.toInt ≤ 1 := hIF.at hf3839
                      have hL22 := hL22.to (hrr9 61 (by decide))
                      have h22_1 := (congrFun (hrr9 61 (by decide)) _).trans h22_1
                      have h22_2 := (congrFun (hrr9 61 (by decide)) _).trans h22_2
                      have h22_3 := (congrFun (hrr9 61 (by decide)) _).trans h22_3
                      have h22_4 := (congrFun (hrr9 61 (by decide)) _).trans h22_4
                      have h22_5 := (congrFun (hrr9 61 (by decide)) _).trans h22_5
                      have h22_6 := (congrFun (hrr9 61 (by decide)) _).trans h22_6
                      have h22_7 := (congrFun (hrr9 61 (by decide)) _).trans h22_7
                      have h22_8 := (congrFun (hrr9 61 (by decide)) _).trans h22_8
                      have h22_0 := (congrFun (hrr9 61 (by decide)) _).trans h22_0
                      have h22_9 := (congrFun (hrr9 61 (by decide)) _).trans h22_9
                      have hC9 := hC
                      have hC : v3840.toInt = 0 → CLS 10 [1, 3, 5, 7] (R 24) (R 25) (Ra 61) gc.toInt gn.toInt := fun h9 => (hC9 (by omega)).to (hrr9 24 (by decide)) (hrr9 25 (by decide))
                      have hX35219 := hX3521
                      have hX3521 : v3840.toInt = 0 → WFX (R 24) (R 25) gc v3520 := fun h9 => by rw [hrr9 24 (by decide), hrr9 25 (by decide)]; exact hX35219 (by omega)
                      have hX37109 := hX3710
                      have hX3710 : v3840.toInt = 0 → WFX (R 24) (R 25) v3520 v3709 := fun h9 => by rw [hrr9 24 (by decide), hrr9 25 (by decide)]; exact hX37109 (by omega)
                      have hX37359 := hX3735
                      have hX3735 : v3840.toInt = 0 → WFX (R 24) (R 25) v3709 v3734 := fun h9 => by rw [hrr9 24 (by decide), hrr9 25 (by decide)]; exact hX37359 (by omega)
                      refine mz_iast (x := v3822) hx hb hK hD hM hS 61 (Nat.le_of_ble_eq_true rfl) rfl (nn := 120) rfl rfl (by omega) (by omega) dX13_readOrder_220 (fun H locs R hM hS hw9 hj9 => ?_)
                      have hIR := hIR.put hw9 hj9 trivial
                      have hL22 : low (10 * gn.toInt.toNat) (Ra 61) (R 61) := fun j hj => by rw [hw9, pk_un (fun h9 => by have h8 := tk_nat (i := v3821) rfl (by omega); omega)]; exact hL22 j hj
                      have h22_1 : R 61 (10 * gn.toInt.toNat + 1) = gc := by rw [hw9, pk_un (fun h9 => by have h8 := tk_nat (i := v3821) rfl (by omega); omega)]; exact h22_1
                      have h22_2 : R 61 (10 * gn.toInt.toNat + 2) = v3520 := by rw [hw9, pk_un (fun h9 => by have h8 := tk_nat (i := v3821) rfl (by omega); omega)]; exact h22_2
                      have h22_3 : R 61 (10 * gn.toInt.toNat + 3) = v3520 := by rw [hw9, pk_un (fun h9 => by have h8 := tk_nat (i := v3821) rfl (by omega); omega)]; exact h22_3
                      have h22_4 : R 61 (10 * gn.toInt.toNat + 4) = v3709 := by rw [hw9, pk_un (fun h9 => by have h8 := tk_nat (i := v3821) rfl (by omega); omega)]; exact h22_4
                      have h22_5 : R 61 (10 * gn.toInt.toNat + 5) = v3709 := by rw [hw9, pk_un (fun h9 => by have h8 := tk_nat (i := v3821) rfl (by omega); omega)]; exact h22_5
                      have h22_6 : R 61 (10 * gn.toInt.toNat + 6) = v3734 := by rw [hw9, pk_un (fun h9 => by have h8 := tk_nat (i := v3821) rfl (by omega); omega)]; exact h22_6
                      have h22_7 : R 61 (10 * gn.toInt.toNat + 7) = 0 := by rw [hw9, pk_un (fun h9 => by have h8 := tk_nat (i := v3821) rfl (by omega); omega)]; exact h22_7
                      have h22_8 : R 61 (10 * gn.toInt.toNat + 8) = 0 := by rw [hw9, pk_un (fun h9 => by have h8 := tk_nat (i := v3821) rfl (by omega); omega)]; exact h22_8
                      have h22_0 : R 61 (10 * gn.toInt.toNat + 0) = v38 := by rw [hw9, pk_un (fun h9 => by have h8 := tk_nat (i := v3821) rfl (by omega); omega)]; exact h22_0
                      have hC9 := hC
                      have hC : v3840.toInt = 0 → CLS 10 [1, 3, 5, 7] (R 24) (R 25) (Ra 61) gc.toInt gn.toInt := fun h9 => (hC9 (by omega)).to (hj9 24 (by decide)) (hj9 25 (by decide))
                      have hX35219 := hX3521
                      have hX3521 : v3840.toInt = 0 → WFX (R 24) (R 25) gc v3520 := fun h9 => by rw [hj9 24 (by decide), hj9 25 (by decide)]; exact hX35219 (by omega)
                      have hX37109 := hX3710
                      have hX3710 : v3840.toInt = 0 → WFX (R 24) (R 25) v3520 v3709 := fun h9 => by rw [hj9 24 (by decide), hj9 25 (by decide)]; exact hX37109 (by omega)
                      have hX37359 := hX3735
                      have hX3735 : v3840.toInt = 0 → WFX (R 24) (R 25) v3709 v3734 := fun h9 => by rw [hj9 24 (by decide), hj9 25 (by decide)]; exact hX37359 (by omega)
                      have h22_9 : R 61 (10 * gn.toInt.toNat + 9) = v3822 := by rw [hw9, show 10 * gn.toInt.toNat + 9 = (v3821 : Int32).toNatClampNeg by show _ = v3821.toInt.toNat; omega]; exact pk_us
                      have hRR := mz_frp (K := [24, 25, 27, 28, 61]) (Fa := Ra) hj9 hRR (by decide)
                      refine lv_aload_n hx hb dX13_readOrder_221 rfl (lv_at hl 3 rfl) ?_
                      refine mz_getR hx hb htl hown hK hM 61 (Nat.le_of_ble_eq_true rfl) (Nat.le_of_ble_eq_true rfl) (htl _ mw_239) (fun _ h9 => h9) dX13_readOrder_222 ?_
                      refine lv_iload_n hx hb dX13_readOrder_225 rfl (lv_at hl 1 rfl) ?_
                      refine lv_bipush (v := 7) hx hb dX13_readOrder_226 (by decide) ?_
                      refine lv_iadd hx hb dX13_readOrder_228 ?_
                      refine tk_add rfl (show (7 : Int32).toInt = 7 by decide) (by omega) (by omega) (fun v3842 h_v3842 => ?_)
                      refine lv_aload_n hx hb dX13_readOrder_229 rfl (lv_at hl 3 rfl) ?_
                      refine mz_getI hx hb htl hown hK hM 23 (Nat.le_of_ble_eq_true rfl) rfl (htl _ mw_670) (fun _ h9 => h9) dX13_readOrder_230 (fun v9 e9 => ?_)
                      refine fx_ti (v := v3734) (e9.symm.trans hf3733) ?_
                      refine mz_iast (x := v3734) hx hb hK hD hM hS 61 (Nat.le_of_ble_eq_true rfl) rfl (nn := 120) rfl rfl (by omega) (by omega) dX13_readOrder_233 (fun H locs R hM hS hw9 hj9 => ?_)
                      have hIR := hIR.put hw9 hj9 trivial
                      have hL22 : low (10 * gn.toInt.toNat) (Ra 61) (R 61) := fun j hj => by rw [hw9, pk_un (fun h9 => by have h8 := tk_nat (i := v3842) rfl (by omega); omega)]; exact hL22 j hj
                      have h22_1 : R 61 (10 * gn.toInt.toNat + 1) = gc := by rw [hw9, pk_un (fun h9 => by have h8 := tk_nat (i := v3842) rfl (by omega); omega)]; exact h22_1
                      have h22_2 : R 61 (10 * gn.toInt.toNat + 2) = v3520 := by rw [hw9, pk_un (fun h9 => by have h8 := tk_nat (i := v3842) rfl (by omega); omega)]; exact h22_2
                      have h22_3 : R 61 (10 * gn.toInt.toNat + 3) = v3520 := by rw [hw9, pk_un (fun h9 => by have h8 := tk_nat (i := v3842) rfl (by omega); omega)]; exact h22_3
                      have h22_4 : R 61 (10 * gn.toInt.toNat + 4) = v3709 := by rw [hw9, pk_un (fun h9 => by have h8 := tk_nat (i := v3842) rfl (by omega); omega)]; exact h22_4
                      have h22_5 : R 61 (10 * gn.toInt.toNat + 5) = v3709 := by rw [hw9, pk_un (fun h9 => by have h8 := tk_nat (i := v3842) rfl (by omega); omega)]; exact h22_5
                      have h22_6 : R 61 (10 * gn.toInt.toNat + 6) = v3734 := by rw [hw9, pk_un (fun h9 => by have h8 := tk_nat (i := v3842) rfl (by omega); omega)]; exact h22_6
                      have h22_8 : R 61 (10 * gn.toInt.toNat + 8) = 0 := by rw [hw9, pk_un (fun h9 => by have h8 := tk_nat (i := v3842) rfl (by omega); omega)]; exact h22_8
                      have h22_0 : R 61 (10 * gn.toInt.toNat + 0) = v38 := by rw [hw9, pk_un (fun h9 => by have h8 := tk_nat (i := v3842) rfl (by omega); omega)]; exact h22_0
                      have h22_9 : R 61 (10 * gn.toInt.toNat + 9) = v3822 := by rw [hw9, pk_un (fun h9 => by have h8 := tk_nat (i := v3842) rfl (by omega); omega)]; exact h22_9
                      have hC9 := hC
                      have hC : v3840.toInt = 0 → CLS 10 [1, 3, 5, 7] (R 24) (R 25) (Ra 61) gc.toInt gn.toInt := fun h9 => (hC9 (by omega)).to (hj9 24 (by decide)) (hj9 25 (by decide))
                      have hX35219 := hX3521
                      have hX3521 : v3840.toInt = 0 → WFX (R 24) (R 25) gc v3520 := fun h9 => by rw [hj9 24 (by decide), hj9 25 (by decide)]; exact hX35219 (by omega)
                      have hX37109 := hX3710
                      have hX3710 : v3840.toInt = 0 → WFX (R 24) (R 25) v3520 v3709 := fun h9 => by rw [hj9 24 (by decide), hj9 25 (by decide)]; exact hX37109 (by omega)
                      have hX37359 := hX3735
                      have hX3735 : v3840.toInt = 0 → WFX (R 24) (R 25) v3709 v3734 := fun h9 => by rw [hj9 24 (by decide), hj9 25 (by decide)]; exact hX37359 (by omega)
                      have h22_7 : R 61 (10 * gn.toInt.toNat + 7) = v3734 := by rw [hw9, show 10 * gn.toInt.toNat + 7 = (v3842 : Int32).toNatClampNeg by show _ = v3842.toInt.toNat; omega]; exact pk_us
                      have hRR := mz_frp (K := [24, 25, 27, 28, 61]) (Fa := Ra) hj9 hRR (by decide)
                      refine lv_aload_n hx hb dX13_readOrder_234 rfl (lv_at hl 3 rfl) ?_
                      refine mz_getI hx hb htl hown hK hM 19 (Nat.le_of_ble_eq_true rfl) rfl (htl _ mw_668) (fun _ h9 => h9) dX13_readOrder_235 (fun v9 e9 => ?_)
                      refine fx_ti (v := v3840) (e9.symm.trans hf3839) ?_
                      refine lv_if_ne (tgt := 260) hx hb dX13_readOrder_238 (by decide) (fun c9 => ?_) (fun c9 => ?_)
                      · have hc3844 : ¬ (v3840.toInt = 0) := fun h9 => c9 ((fi_eq rfl (show (0 : Int32).toInt = 0 by decide)).mpr h9)
                        refine lv_aload_n hx hb dX13_readOrder_260 rfl (lv_at hl 3 rfl) ?_
                        refine mz_getR hx hb htl hown hK hM 61 (Nat.le_of_ble_eq_true rfl) (Nat.le_of_ble_eq_true rfl) (htl _ mw_239) (fun _ h9 => h9) dX13_readOrder_261 ?_
                        refine lv_iload_n hx hb dX13_readOrder_264 rfl (lv_at hl 1 rfl) ?_
                        refine lv_bipush (v := 8) hx hb dX13_readOrder_265 (by decide) ?_
                        refine lv_iadd hx hb dX13_readOrder_267 ?_
                        refine tk_add rfl (show (8 : Int32).toInt = 8 by decide) (by omega) (by omega) (fun v3845 h_v3845 => ?_)
                        refine lv_aload_n hx hb dX13_readOrder_268 rfl (lv_at hl 3 rfl) ?_
                        refine mz_getI hx hb htl hown hK hM 23 (Nat.le_of_ble_eq_true rfl) rfl (htl _ mw_670) (fun _ h9 => h9) dX13_readOrder_269 (fun v9 e9 => ?_)
                        refine fx_ti (v := v3734) (e9.symm.trans hf3733) ?_
                        refine mz_iast (x := v3734) hx hb hK hD hM hS 61 (Nat.le_of_ble_eq_true rfl) rfl (nn := 120) rfl rfl (by omega) (by omega) dX13_readOrder_272 (fun H locs R hM hS hw9 hj9 => ?_)
                        have hIR := hIR.put hw9 hj9 trivial
                        have hL22 : low (10 * gn.toInt.toNat) (Ra 61) (R 61) := fun j hj => by rw [hw9, pk_un (fun h9 => by have h8 := tk_nat (i := v3845) rfl (by omega); omega)]; exact hL22 j hj
                        have h22_1 : R 61 (10 * gn.toInt.toNat + 1) = gc := by rw [hw9, pk_un (fun h9 => by have h8 := tk_nat (i := v3845) rfl (by omega); omega)]; exact h22_1
                        have h22_2 : R 61 (10 * gn.toInt.toNat + 2) = v3520 := by rw [hw9, pk_un (fun h9 => by have h8 := tk_nat (i := v3845) rfl (by omega); omega)]; exact h22_2
                        have h22_3 : R 61 (10 * gn.toInt.toNat + 3) = v3520 := by rw [hw9, pk_un (fun h9 => by have h8 := tk_nat (i := v3845) rfl (by omega); omega)]; exact h22_3
                        have h22_4 : R 61 (10 * gn.toInt.toNat + 4) = v3709 := by rw [hw9, pk_un (fun h9 => by have h8 := tk_nat (i := v3845) rfl (by omega); omega)]; exact h22_4
                        have h22_5 : R 61 (10 * gn.toInt.toNat + 5) = v3709 := by rw [hw9, pk_un (fun h9 => by have h8 := tk_nat (i := v3845) rfl (by omega); omega)]; exact h22_5
                        have h22_6 : R 61 (10 * gn.toInt.toNat + 6) = v3734 := by rw [hw9, pk_un (fun h9 => by have h8 := tk_nat (i := v3845) rfl (by omega); omega)]; exact h22_6
                        have h22_7 : R 61 (10 * gn.toInt.toNat + 7) = v3734 := by rw [hw9, pk_un (fun h9 => by have h8 := tk_nat (i := v3845) rfl (by omega); omega)]; exact h22_7
                        have h22_0 : R 61 (10 * gn.toInt.toNat + 0) = v38 := by rw [hw9, pk_un (fun h9 => by have h8 := tk_nat (i := v3845) rfl (by omega); omega)]; exact h22_0
                        have h22_9 : R 61 (10 * gn.toInt.toNat + 9) = v3822 := by rw [hw9, pk_un (fun h9 => by have h8 := tk_nat (i := v3845) rfl (by omega); omega)]; exact h22_9
                        have hC9 := hC
                        have hC : v3840.toInt = 0 → CLS 10 [1, 3, 5, 7] (R 24) (R 25) (Ra 61) gc.toInt gn.toInt := fun h9 => (hC9 (by omega)).to (hj9 24 (by decide)) (hj9 25 (by decide))
                        have hX35219 := hX3521
                        have hX3521 : v3840.toInt = 0 → WFX (R 24) (R 25) gc v3520 := fun h9 => by rw [hj9 24 (by decide), hj9 25 (by decide)]; exact hX35219 (by omega)
                        have hX37109 := hX3710
                        have hX3710 : v3840.toInt = 0 → WFX (R 24) (R 25) v3520 v3709 := fun h9 => by rw [hj9 24 (by decide), hj9 25 (by decide)]; exact hX37109 (by omega)
                        have hX37359 := hX3735
                        have hX3735 : v3840.toInt = 0 → WFX (R 24) (R 25) v3709 v3734 := fun h9 => by rw [hj9 24 (by decide), hj9 25 (by decide)]; exact hX37359 (by omega)
                        have h22_8 : R 61 (10 * gn.toInt.toNat + 8) = v3734 := by rw [hw9, show 10 * gn.toInt.toNat + 8 = (v3845 : Int32).toNatClampNeg by show _ = v3845.toInt.toNat; omega]; exact pk_us
                        have hRR := mz_frp (K := [24, 25, 27, 28, 61]) (Fa := Ra) hj9 hRR (by decide)
                        exact mz_vret hx hb hr hlocks ⟨hIF, hIG, hIR, hFF, hRR, hGG, (by rw [hf3831, hf3833]; omega), (by rw [hf3833]; omega), (by rw [hf3831, hf3833, hf3835]; omega), (by rw [hf3831, hf3833, hf3835, hf3837]; omega), (by rw [hf3831]; omega), (by rw [hf3733]; omega), (by rw [hf3831, hf3733]; omega), (by rw [hf3839]; omega), (by rw [hf3831, hf3839]; omega), (by rw [hf3839]; exact fun h9 => absurd h9 (by omega)), (by rw [hf3839]; exact fun h9 => absurd h9 (by omega))⟩ hM hS dX13_readOrder_273
                      · have hc3844 : v3840.toInt = 0 := (fi_eq rfl (show (0 : Int32).toInt = 0 by decide)).mp c9
                        have hwk_3847 : 0 ≤ (-1) * v3816.toInt + v3832.toInt ∧ 1 ≤ v3822.toInt ∧ v3822.toInt ≤ 20 := by omega
                        refine lv_aload_n hx hb dX13_readOrder_241 rfl (lv_at hl 3 rfl) ?_
                        refine lv_ldc2 hx hb hown (htl _ mw_705) dX13_readOrder_242 ?_
                        have hk_294 : (294 : Int64).toInt = 294 := by decide
                        refine mz_Vj (As := [.long 294]) (rest := []) ⟨hx, hb, hml, hown, hts⟩ hK hM hS (k_X13_isWord l D cy ld ad am hD _ _ _ _ 294 v3836 w3838 hIF hIG hIR hf3835 hf3837) ⟨callB_of 1 hts (wl_in mw_709) rfl rfl rfl (htl _ mw_5) (htl _ mw_706) hd_yX13_isWord ⟨(Nat.le_of_ble_eq_true rfl), (Nat.le_of_ble_eq_true rfl)⟩, htl _ mw_707, htl _ mw_708⟩ rfl hl.1 rfl (Nat.le_of_ble_eq_true rfl) dX13_readOrder_245 ⟨(Nat.le_of_ble_eq_true rfl), (Nat.le_of_ble_eq_true rfl)⟩ (fun v3848 H locs hpo hM hS => ?_)
                        obtain ⟨hpo3849, hpo3850, hpo3851, hpo3852, hpo3853⟩ := hpo
                        have hq_v3848 := tk_rng v3848
                        refine lv_if_eq (tgt := 260) hx hb dX13_readOrder_248 (by decide) (fun c9 => ?_) (fun c9 => ?_)
                        · have hc3855 : v3848.toInt = 0 := (fi_eq rfl (show (0 : Int32).toInt = 0 by decide)).mp c9
                          refine lv_aload_n hx hb dX13_readOrder_260 rfl (lv_at hl 3 rfl) ?_
                          refine mz_getR hx hb htl hown hK hM 61 (Nat.le_of_ble_eq_true rfl) (Nat.le_of_ble_eq_true rfl) (htl _ mw_239) (fun _ h9 => h9) dX13_readOrder_261 ?_
                          refine lv_iload_n hx hb dX13_readOrder_264 rfl (lv_at hl 1 rfl) ?_
                          refine lv_bipush (v := 8) hx hb dX13_readOrder_265 (by decide) ?_
                          refine lv_iadd hx hb dX13_readOrder_267 ?_
                          refine tk_add rfl (show (8 : Int32).toInt = 8 by decide) (by omega) (by omega) (fun v3856 h_v3856 => ?_)
                          refine lv_aload_n hx hb dX13_readOrder_268 rfl (lv_at hl 3 rfl) ?_
                          refine mz_getI hx hb htl hown hK hM 23 (Nat.le_of_ble_eq_true rfl) rfl (htl _ mw_670) (fun _ h9 => h9) dX13_readOrder_269 (fun v9 e9 => ?_)
                          refine fx_ti (v := v3734) (e9.symm.trans hf3733) ?_
                          refine mz_iast (x := v3734) hx hb hK hD hM hS 61 (Nat.le_of_ble_eq_true rfl) rfl (nn := 120) rfl rfl (by omega) (by omega) dX13_readOrder_272 (fun H locs R hM hS hw9 hj9 => ?_)
                          have hIR := hIR.put hw9 hj9 trivial
                          have hL22 : low (10 * gn.toInt.toNat) (Ra 61) (R 61) := fun j hj => by rw [hw9, pk_un (fun h9 => by have h8 := tk_nat (i := v3856) rfl (by omega); omega)]; exact hL22 j hj
                          have h22_1 : R 61 (10 * gn.toInt.toNat + 1) = gc := by rw [hw9, pk_un (fun h9 => by have h8 := tk_nat (i := v3856) rfl (by omega); omega)]; exact h22_1
                          have h22_2 : R 61 (10 * gn.toInt.toNat + 2) = v3520 := by rw [hw9, pk_un (fun h9 => by have h8 := tk_nat (i := v3856) rfl (by omega); omega)]; exact h22_2
                          have h22_3 : R 61 (10 * gn.toInt.toNat + 3) = v3520 := by rw [hw9, pk_un (fun h9 => by have h8 := tk_nat (i := v3856) rfl (by omega); omega)]; exact h22_3
                          have h22_4 : R 61 (10 * gn.toInt.toNat + 4) = v3709 := by rw [hw9, pk_un (fun h9 => by have h8 := tk_nat (i := v3856) rfl (by omega); omega)]; exact h22_4
                          have h22_5 : R 61 (10 * gn.toInt.toNat + 5) = v3709 := by rw [hw9, pk_un (fun h9 => by have h8 := tk_nat (i := v3856) rfl (by omega); omega)]; exact h22_5
                          have h22_6 : R 61 (10 * gn.toInt.toNat + 6) = v3734 := by rw [hw9, pk_un (fun h9 => by have h8 := tk_nat (i := v3856) rfl (by omega); omega)]; exact h22_6
                          have h22_7 : R 61 (10 * gn.toInt.toNat + 7) = v3734 := by rw [hw9, pk_un (fun h9 => by have h8 := tk_nat (i := v3856) rfl (by omega); omega)]; exact h22_7
                          have h22_0 : R 61 (10 * gn.toInt.toNat + 0) = v38 := by rw [hw9, pk_un (fun h9 => by have h8 := tk_nat (i := v3856) rfl (by omega); omega)]; exact h22_0
                          have h22_9 : R 61 (10 * gn.toInt.toNat + 9) = v3822 := by rw [hw9, pk_un (fun h9 => by have h8 := tk_nat (i := v3856) rfl (by omega); omega)]; exact h22_9
                          have hC9 := hC
                          have hC : v3840.toInt = 0 → CLS 10 [1, 3, 5, 7] (R 24) (R 25) (Ra 61) gc.toInt gn.toInt := fun h9 => (hC9 (by omega)).to (hj9 24 (by decide)) (hj9 25 (by decide))
                          have hX35219 := hX3521
                          have hX3521 : v3840.toInt = 0 → WFX (R 24) (R 25) gc v3520 := fun h9 => by rw [hj9 24 (by decide), hj9 25 (by decide)]; exact hX35219 (by omega)
                          have hX37109 := hX3710
                          have hX3710 : v3840.toInt = 0 → WFX (R 24) (R 25) v3520 v3709 := fun h9 => by rw [hj9 24 (by decide), hj9 25 (by decide)]; exact hX37109 (by omega)
                          have hX37359 := hX3735
                          have hX3735 : v3840.toInt = 0 → WFX (R 24) (R 25) v3709 v3734 := fun h9 => by rw [hj9 24 (by decide), hj9 25 (by decide)]; exact hX37359 (by omega)
                          have h22_8 : R 61 (10 * gn.toInt.toNat + 8) = v3734 := by rw [hw9, show 10 * gn.toInt.toNat + 8 = (v3856 : Int32).toNatClampNeg by show _ = v3856.toInt.toNat; omega]; exact pk_us
                          have hRR := mz_frp (K := [24, 25, 27, 28, 61]) (Fa := Ra) hj9 hRR (by decide)
                          exact mz_vret hx hb hr hlocks ⟨hIF, hIG, hIR, hFF, hRR, hGG, (by rw [hf3831, hf3833]; omega), (by rw [hf3833]; omega), (by rw [hf3831, hf3833, hf3835]; omega), (by rw [hf3831, hf3833, hf3835, hf3837]; omega), (by rw [hf3831]; omega), (by rw [hf3733]; omega), (by rw [hf3831, hf3733]; omega), (by rw [hf3839]; omega), (by rw [hf3831, hf3839]; omega), (by rw [hf3839, hf3733, hf111]; exact fun h9 => mz_snoc (N := gn.toInt.toNat) (hC h9) (by omega) (by omega) hL22 (by decide) (by omega) (by intro d hd; simp only [List.mem_cons, List.not_mem_nil, or_false] at hd; rcases hd with rfl | rfl | rfl | rfl <;> first | (rw [show 10 * gn.toInt.toNat + 1 + 1 = 10 * gn.toInt.toNat + 2 from rfl, h22_1, h22_2]; exact ⟨hX3521 h9, by omega⟩) | (rw [show 10 * gn.toInt.toNat + 3 + 1 = 10 * gn.toInt.toNat + 4 from rfl, h22_3, h22_4]; exact ⟨hX3710 h9, by omega⟩) | (rw [show 10 * gn.toInt.toNat + 5 + 1 = 10 * gn.toInt.toNat + 6 from rfl, h22_5, h22_6]; exact ⟨hX3735 h9, by omega⟩) | (rw [show 10 * gn.toInt.toNat + 7 + 1 = 10 * gn.toInt.toNat + 8 from rfl, h22_7, h22_8]; exact ⟨WFX.nil (by omega) (by omega), by omega⟩))), (by rw [hf3839, hf111]; exact fun h9 => TMS.snoc (N := gn.toInt.toNat) hx_1 (by omega) (by omega) hL22 h22_9 (by omega) (by omega))⟩ hM hS dX13_readOrder_273
                        · have hc3855 : ¬ (v3848.toInt = 0) := fun h9 => c9 ((fi_eq rfl (show (0 : Int32).toInt = 0 by decide)).mpr h9)
                          have hwk_3858 : w3838.toInt + (-294) = 0 ∧ v3836.toInt + (-1) = 0 := by omega
                          have hwk_3859 : 0 ≤ (-1) * v3832.toInt + v3834.toInt + (-1) := by omega
                          have hwk_3860 : 0 ≤ (-1) * v3832.toInt + v3834.toInt + (-2) := by omega
                          refine lv_aload_n hx hb dX13_readOrder_251 rfl (lv_at hl 3 rfl) ?_
                          refine mz_Vv (As := []) (rest := []) ⟨hx, hb, hml, hown, hts⟩ hK hM hS (k_X13_next l D cy ld ad am hD _ _ _ _ v3834 gp hIF hIG hIR hf3833 hg_3 (by omega)) ⟨callB_of 0 hts (wl_in mw_685) rfl rfl rfl (htl _ mw_5) (htl _ mw_682) hd_yX13_next ⟨(Nat.le_of_ble_eq_true rfl), (Nat.le_of_ble_eq_true rfl)⟩, htl _ mw_683, htl _ mw_684⟩ rfl hl.1 rfl (Nat.le_of_ble_eq_true rfl) dX13_readOrder_252 ⟨(Nat.le_of_ble_eq_true rfl), (Nat.le_of_ble_eq_true rfl)⟩ (fun H locs F G R S hpo hM hS => ?_)
                          obtain ⟨hIF, hIG, hIR, hfr9, hrr9, hgr9, hpo3861, hpo3862, hpo3863, hpo3864, hpo3865⟩ := hpo
                          have hFF := mz_fr (K := [14, 15, 16, 18, 19, 21, 23, 26, 29, 30]) (Fa := Fa) hfr9 hFF (by decide)
                          have hRR := mz_fr (K := [24, 25, 27, 28, 61]) (Fa := Ra) hrr9 hRR (by decide)
                          have hGG := mz_fr (K := [17]) (Fa := Ga) hgr9 hGG (by decide)
                          have hg_3 := (hfr9 13 (by decide)).trans hg_3
                          have hf111 := (hfr9 21 (by decide)).trans hf111
                          have hf3733 := (hfr9 23 (by decide)).trans hf3733
                          have hf3839 := (hfr9 19 (by decide)).trans hf3839
                          obtain ⟨v3868, hf3867⟩ : ∃ z : Int32, F 14 = z := ⟨_, rfl⟩
                          have hq_v3868 := tk_rng v3868
                          rw [hf3867] at hpo3861 hpo3862 hpo3864 hpo3865
                          have hr_v3868 : 0 ≤ v3868.toInt ∧ v3868.toInt ≤ 400 := hIF.at hf3867
                          obtain ⟨v3870, hf3869⟩ : ∃ z : Int32, F 15 = z := ⟨_, rfl⟩
                          have hq_v3870 := tk_rng v3870
                          rw [hf3869] at hpo3862 hpo3863 hpo3864 hpo3865
                          have hr_v3870 : 0 ≤ v3870.toInt ∧ v3870.toInt ≤ 400 := hIF.at hf3869
                          obtain ⟨v3872, hf3871⟩ : ∃ z : Int32, F 16 = z := ⟨_, rfl⟩
                          have hq_v3872 := tk_rng v3872
                          rw [hf3871] at hpo3864 hpo3865
                          have hr_v3872 : 0 ≤ v3872.toInt ∧ v3872.toInt ≤ 3 := hIF.at hf3871
                          obtain ⟨w3874, hf3873⟩ : ∃ z : Int64, G 17 = z := ⟨_, rfl⟩
                          have hq_w3874 := tk_rngL w3874
                          rw [hf3873] at hpo3865
                          have hL22 := hL22.to (hrr9 61 (by decide))
                          have h22_1 := (congrFun (hrr9 61 (by decide)) _).trans h22_1
                          have h22_2 := (congrFun (hrr9 61 (by decide)) _).trans h22_2
                          have h22_3 := (congrFun (hrr9 61 (by decide)) _).trans h22_3
                          have h22_4 := (congrFun (hrr9 61 (by decide)) _).trans h22_4
                          have h22_5 := (congrFun (hrr9 61 (by decide)) _).trans h22_5
                          have h22_6 := (congrFun (hrr9 61 (by decide)) _).trans h22_6
                          have h22_7 := (congrFun (hrr9 61 (by decide)) _).trans h22_7
                          have h22_8 := (congrFun (hrr9 61 (by decide)) _).trans h22_8
                          have h22_0 := (congrFun (hrr9 61 (by decide)) _).trans h22_0
                          have h22_9 := (congrFun (hrr9 61 (by decide)) _).trans h22_9
                          have hC9 := hC
                          have hC : v3840.toInt = 0 → CLS 10 [1, 3, 5, 7] (R 24) (R 25) (Ra 61) gc.toInt gn.toInt := fun h9 => (hC9 (by omega)).to (hrr9 24 (by decide)) (hrr9 25 (by decide))
                          have hX35219 := hX3521
                          have hX3521 : v3840.toInt = 0 → WFX (R 24) (R 25) gc v3520 := fun h9 => by rw [hrr9 24 (by decide), hrr9 25 (by decide)]; exact hX35219 (by omega)
                          have hX37109 := hX3710
                          have hX3710 : v3840.toInt = 0 → WFX (R 24) (R 25) v3520 v3709 := fun h9 => by rw [hrr9 24 (by decide), hrr9 25 (by decide)]; exact hX37109 (by omega)
                          have hX37359 := hX3735
                          have hX3735 : v3840.toInt = 0 → WFX (R 24) (R 25) v3709 v3734 := fun h9 => by rw [hrr9 24 (by decide), hrr9 25 (by decide)]; exact hX37359 (by omega)
                          refine lv_aload_n hx hb dX13_readOrder_255 rfl (lv_at hl 3 rfl) ?_
                          refine lv_iconst (v := 1) hx hb dX13_readOrder_256 (by decide) ?_
                          have hk_1 : (1 : Int32).toInt = 1 := by decide
                          refine mz_Vv (As := [.int 1]) (rest := []) ⟨hx, hb, hml, hown, hts⟩ hK hM hS (k_X13_readExpression l D cy ld ad am hD _ _ _ _ 1 v3868 v3870 v3872 gp w3874 v3840 v3734 hIF hIG hIR hf3867 hf3869 hf3871 hg_3 hf3873 hf3839 hf3733 (by omega) (by omega) (by omega) (by omega) (by omega) (by omega) (by omega) (by omega)) ⟨callB_of 1 hts (wl_in mw_717) rfl rfl rfl (htl _ mw_5) (htl _ mw_714) hd_yX13_readExpression ⟨(Nat.le_of_ble_eq_true rfl), (Nat.le_of_ble_eq_true rfl)⟩, htl _ mw_715, htl _ mw_716⟩ rfl hl.1 rfl (Nat.le_of_ble_eq_true rfl) dX13_readOrder_257 ⟨(Nat.le_of_ble_eq_true rfl), (Nat.le_of_ble_eq_true rfl)⟩ (fun H locs F G R S hpo hM hS => ?_)
                          obtain ⟨hIF, hIG, hIR, hfr9, hrr9, hgr9, hpo3875, hpo3876, hpo3877, hpo3878, hpo3879, hpo3880, hpo3881, hx3882⟩ := hpo
                          have hFF := mz_fr (K := [14, 15, 16, 18, 19, 21, 23, 26, 29, 30]) (Fa := Fa) hfr9 hFF (by decide)
                          have hRR := mz_fr (K := [24, 25, 27, 28, 61]) (Fa := Ra) hrr9 hRR (by decide)
                          have hGG := mz_fr (K := [17]) (Fa := Ga) hgr9 hGG (by decide)
                          have hg_3 := (hfr9 13 (by decide)).trans hg_3
                          have hf111 := (hfr9 21 (by decide)).trans hf111
                          obtain ⟨v3885, hf3884⟩ : ∃ z : Int32, F 14 = z := ⟨_, rfl⟩
                          have hq_v3885 := tk_rng v3885
                          rw [hf3884] at hpo3875 hpo3877 hpo3878 hpo3879 hpo3880
                          have hr_v3885 : 0 ≤ v3885.toInt ∧ v3885.toInt ≤ 400 := hIF.at hf3884
                          obtain ⟨v3887, hf3886⟩ : ∃ z : Int32, F 15 = z := ⟨_, rfl⟩
                          have hq_v3887 := tk_rng v3887
                          rw [hf3886] at hpo3875 hpo3876 hpo3877 hpo3878
                          have hr_v3887 : 0 ≤ v3887.toInt ∧ v3887.toInt ≤ 400 := hIF.at hf3886
                          obtain ⟨v3889, hf3888⟩ : ∃ z : Int32, F 16 = z := ⟨_, rfl⟩
                          have hq_v3889 := tk_rng v3889
                          rw [hf3888] at hpo3877 hpo3878
                          have hr_v3889 : 0 ≤ v3889.toInt ∧ v3889.toInt ≤ 3 := hIF.at hf3888
                          obtain ⟨w3891, hf3890⟩ : ∃ z : Int64, G 17 = z := ⟨_, rfl⟩
                          have hq_w3891 := tk_rngL w3891
                          rw [hf3890] at hpo3878
                          obtain ⟨v3893, hf3892⟩ : ∃ z : Int32, F 19 = z := ⟨_, rfl⟩
                          have hq_v3893 := tk_rng v3893
                          have hr_v3893 : 0 ≤ v3893.toInt ∧ v3893.toInt ≤ 1 := hIF.at hf3892
                          obtain ⟨v3895, hf3894⟩ : ∃ z : Int32, F 23 = z := ⟨_, rfl⟩
                          have hq_v3895 := tk_rng v3895
                          rw [hf3894] at hpo3880 hpo3881
                          have hr_v3895 : 0 ≤ v3895.toInt ∧ v3895.toInt ≤ 400 := hIF.at hf3894
                          have hL22 := hL22.to (hrr9 61 (by decide))
                          have h22_1 := (congrFun (hrr9 61 (by decide)) _).trans h22_1
                          have h22_2 := (congrFun (hrr9 61 (by decide)) _).trans h22_2
                          have h22_3 := (congrFun (hrr9 61 (by decide)) _).trans h22_3
                          have h22_4 := (congrFun (hrr9 61 (by decide)) _).trans h22_4
                          have h22_5 := (congrFun (hrr9 61 (by decide)) _).trans h22_5
                          have h22_6 := (congrFun (hrr9 61 (by decide)) _).trans h22_6
                          have h22_7 := (congrFun (hrr9 61 (by decide)) _).trans h22_7
                          have h22_8 := (congrFun (hrr9 61 (by decide)) _).trans h22_8
                          have h22_0 := (congrFun (hrr9 61 (by decide)) _).trans h22_0
                          have h22_9 := (congrFun (hrr9 61 (by decide)) _).trans h22_9
                          have hE9 : v3893.toInt = 0 → WFC (R 24) (R 25) v3734.toInt.toNat v3895.toInt.toNat ∧ low v3734.toInt.toNat _ (R 24) ∧ low v3734.toInt.toNat _ (R 25) := fun h9 => by have h8 := hx3882 (by rw [hf3892]; exact h9); rw [hf3894] at h8; exact h8
                          have hC9 := hC (by omega)
                          have hC : v3893.toInt = 0 → CLS 10 [1, 3, 5, 7] (R 24) (R 25) (Ra 61) gc.toInt gn.toInt := fun h9 => hC9.low (N := v3734.toInt.toNat) (by omega) (hE9 h9).2.1 (hE9 h9).2.2
                          have hX35219 := hX3521 (by omega)
                          have hX3521 : v3893.toInt = 0 → WFX (R 24) (R 25) gc v3520 := fun h9 => hX35219.low (n := v3734.toInt.toNat) (by omega) (hE9 h9).2.1 (hE9 h9).2.2
                          have hX37109 := hX3710 (by omega)
                          have hX3710 : v3893.toInt = 0 → WFX (R 24) (R 25) v3520 v3709 := fun h9 => hX37109.low (n := v3734.toInt.toNat) (by omega) (hE9 h9).2.1 (hE9 h9).2.2
                          have hX37359 := hX3735 (by omega)
                          have hX3735 : v3893.toInt = 0 → WFX (R 24) (R 25) v3709 v3734 := fun h9 => hX37359.low (n := v3734.toInt.toNat) (by omega) (hE9 h9).2.1 (hE9 h9).2.2
                          have hX3896 : v3893.toInt = 0 → WFX (R 24) (R 25) v3734 v3895 := fun h9 => ⟨by omega, by omega, by omega, (hE9 h9).1⟩
                          refine lv_aload_n hx hb dX13_readOrder_260 rfl (lv_at hl 3 rfl) ?_
                          refine mz_getR hx hb htl hown hK hM 61 (Nat.le_of_ble_eq_true rfl) (Nat.le_of_ble_eq_true rfl) (htl _ mw_239) (fun _ h9 => h9) dX13_readOrder_261 ?_
                          refine lv_iload_n hx hb dX13_readOrder_264 rfl (lv_at hl 1 rfl) ?_
                          refine lv_bipush (v := 8) hx hb dX13_readOrder_265 (by decide) ?_
                          refine lv_iadd hx hb dX13_readOrder_267 ?_
                          refine tk_add rfl (show (8 : Int32).toInt = 8 by decide) (by omega) (by omega) (fun v3897 h_v3897 => ?_)
                          refine lv_aload_n hx hb dX13_readOrder_268 rfl (lv_at hl 3 rfl) ?_
                          refine mz_getI hx hb htl hown hK hM 23 (Nat.le_of_ble_eq_true rfl) rfl (htl _ mw_670) (fun _ h9 => h9) dX13_readOrder_269 (fun v9 e9 => ?_)
                          refine fx_ti (v := v3895) (e9.symm.trans hf3894) ?_
                          refine mz_iast (x := v3895) hx hb hK hD hM hS 61 (Nat.le_of_ble_eq_true rfl) rfl (nn := 120) rfl rfl (by omega) (by omega) dX13_readOrder_272 (fun H locs R hM hS hw9 hj9 => ?_)
                          have hIR := hIR.put hw9 hj9 trivial
                          have hL22 : low (10 * gn.toInt.toNat) (Ra 61) (R 61) := fun j hj => by rw [hw9, pk_un (fun h9 => by have h8 := tk_nat (i := v3897) rfl (by omega); omega)]; exact hL22 j hj
                          have h22_1 : R 61 (10 * gn.toInt.toNat + 1) = gc := by rw [hw9, pk_un (fun h9 => by have h8 := tk_nat (i := v3897) rfl (by omega); omega)]; exact h22_1
                          have h22_2 : R 61 (10 * gn.toInt.toNat + 2) = v3520 := by rw [hw9, pk_un (fun h9 => by have h8 := tk_nat (i := v3897) rfl (by omega); omega)]; exact h22_2
                          have h22_3 : R 61 (10 * gn.toInt.toNat + 3) = v3520 := by rw [hw9, pk_un (fun h9 => by have h8 := tk_nat (i := v3897) rfl (by omega); omega)]; exact h22_3
                          have h22_4 : R 61 (10 * gn.toInt.toNat + 4) = v3709 := by rw [hw9, pk_un (fun h9 => by have h8 := tk_nat (i := v3897) rfl (by omega); omega)]; exact h22_4
                          have h22_5 : R 61 (10 * gn.toInt.toNat + 5) = v3709 := by rw [hw9, pk_un (fun h9 => by have h8 := tk_nat (i := v3897) rfl (by omega); omega)]; exact h22_5
                          have h22_6 : R 61 (10 * gn.toInt.toNat + 6) = v3734 := by rw [hw9, pk_un (fun h9 => by have h8 := tk_nat (i := v3897) rfl (by omega); omega)]; exact h22_6
                          have h22_7 : R 61 (10 * gn.toInt.toNat + 7) = v3734 := by rw [hw9, pk_un (fun h9 => by have h8 := tk_nat (i := v3897) rfl (by omega); omega)]; exact h22_7
                          have h22_0 : R 61 (10 * gn.toInt.toNat + 0) = v38 := by rw [hw9, pk_un (fun h9 => by have h8 := tk_nat (i := v3897) rfl (by omega); omega)]; exact h22_0
                          have h22_9 : R 61 (10 * gn.toInt.toNat + 9) = v3822 := by rw [hw9, pk_un (fun h9 => by have h8 := tk_nat (i := v3897) rfl (by omega); omega)]; exact h22_9
                          have hC9 := hC
                          have hC : v3893.toInt = 0 → CLS 10 [1, 3, 5, 7] (R 24) (R 25) (Ra 61) gc.toInt gn.toInt := fun h9 => (hC9 (by omega)).to (hj9 24 (by decide)) (hj9 25 (by decide))
                          have hX35219 := hX3521
                          have hX3521 : v3893.toInt = 0 → WFX (R 24) (R 25) gc v3520 := fun h9 => by rw [hj9 24 (by decide), hj9 25 (by decide)]; exact hX35219 (by omega)
                          have hX37109 := hX3710
                          have hX3710 : v3893.toInt = 0 → WFX (R 24) (R 25) v3520 v3709 := fun h9 => by rw [hj9 24 (by decide), hj9 25 (by decide)]; exact hX37109 (by omega)
                          have hX37359 := hX3735
                          have hX3735 : v3893.toInt = 0 → WFX (R 24) (R 25) v3709 v3734 := fun h9 => by rw [hj9 24 (by decide), hj9 25 (by decide)]; exact hX37359 (by omega)
                          have hX38969 := hX3896
                          have hX3896 : v3893.toInt = 0 → WFX (R 24) (R 25) v3734 v3895 := fun h9 => by rw [hj9 24 (by decide), hj9 25 (by decide)]; exact hX38969 (by omega)
                          have h22_8 : R 61 (10 * gn.toInt.toNat + 8) = v3895 := by rw [hw9, show 10 * gn.toInt.toNat + 8 = (v3897 : Int32).toNatClampNeg by show _ = v3897.toInt.toNat; omega]; exact pk_us
                          have hRR := mz_frp (K := [24, 25, 27, 28, 61]) (Fa := Ra) hj9 hRR (by decide)
                          exact mz_vret hx hb hr hlocks ⟨hIF, hIG, hIR, hFF, hRR, hGG, (by rw [hf3884, hf3886]; omega), (by rw [hf3886]; omega), (by rw [hf3884, hf3886, hf3888]; omega), (by rw [hf3884, hf3886, hf3888, hf3890]; omega), (by rw [hf3884]; omega), (by rw [hf3894]; omega), (by rw [hf3884, hf3894]; omega), (by rw [hf3892]; omega), (by rw [hf3884, hf3892]; omega), (by rw [hf3892, hf3894, hf111]; exact fun h9 => mz_snoc (N := gn.toInt.toNat) (hC h9) (by omega) (by omega) hL22 (by decide) (by omega) (by intro d hd; simp only [List.mem_cons, List.not_mem_nil, or_false] at hd; rcases hd with rfl | rfl | rfl | rfl <;> first | (rw [show 10 * gn.toInt.toNat + 1 + 1 = 10 * gn.toInt.toNat + 2 from rfl, h22_1, h22_2]; exact ⟨hX3521 h9, by omega⟩) | (rw [show 10 * gn.toInt.toNat + 3 + 1 = 10 * gn.toInt.toNat + 4 from rfl, h22_3, h22_4]; exact ⟨hX3710 h9, by omega⟩) | (rw [show 10 * gn.toInt.toNat + 5 + 1 = 10 * gn.toInt.toNat + 6 from rfl, h22_5, h22_6]; exact ⟨hX3735 h9, by omega⟩) | (rw [show 10 * gn.toInt.toNat + 7 + 1 = 10 * gn.toInt.toNat + 8 from rfl, h22_7, h22_8]; exact ⟨hX3896 h9, by omega⟩))), (by rw [hf3892, hf111]; exact fun h9 => TMS.snoc (N := gn.toInt.toNat) hx_1 (by omega) (by omega) hL22 h22_9 (by omega) (by omega))⟩ hM hS dX13_readOrder_273
            · have hc3336 : ¬ (10 ≤ v650.toInt) := fun h9 => c9 ((fi_le (show (10 : Int32).toInt = 10 by decide) rfl).mpr h9)
              refine lv_aload_n hx hb dX13_readOrder_115 rfl (lv_at hl 3 rfl) ?_
              refine mz_getR hx hb htl hown hK hM 61 (Nat.le_of_ble_eq_true rfl) (Nat.le_of_ble_eq_true rfl) (htl _ mw_239) (fun _ h9 => h9) dX13_readOrder_116 ?_
              refine lv_iload_n hx hb dX13_readOrder_119 rfl (lv_at hl 1 rfl) ?_
              refine lv_iload_n hx hb dX13_readOrder_120 rfl (lv_at hl 0 rfl) ?_
              refine lv_iadd hx hb dX13_readOrder_121 ?_
              refine tk_add rfl rfl (by omega) (by omega) (fun v3899 h_v3899 => ?_)
              refine lv_iconst (v := 0) hx hb dX13_readOrder_122 (by decide) ?_
              have hk_0 : (0 : Int32).toInt = 0 := by decide
              refine mz_iast (x := 0) hx hb hK hD hM hS 61 (Nat.le_of_ble_eq_true rfl) rfl (nn := 120) rfl rfl (by omega) (by omega) dX13_readOrder_123 (fun H locs R hM hS hw9 hj9 => ?_)
              have hIR := hIR.put hw9 hj9 trivial
              have hL22 : low (10 * gn.toInt.toNat) (Ra 61) (R 61) := fun j hj => by rw [hw9, pk_un (fun h9 => by have h8 := tk_nat (i := v3899) rfl (by omega); omega)]; exact hL22 j hj
              have hC9 := hC
              have hC : v105.toInt = 0 → CLS 10 [1, 3, 5, 7] (R 24) (R 25) (Ra 61) gc.toInt gn.toInt := fun h9 => (hC9 (by omega)).to (hj9 24 (by decide)) (hj9 25 (by decide))
              have hZ := zr_step (C := 10 * gn.toInt.toNat) (k := v650.toInt.toNat) hZ hw9 (by omega) rfl
              have hRR := mz_frp (K := [24, 25, 27, 28, 61]) (Fa := Ra) hj9 hRR (by decide)
              obtain ⟨v3901, h_v3901, e_v3901⟩ := tk_inc v650 1 (by decide) (by omega) (by omega)
              refine lv_iinc (v := v3901) (lv' := [(3, .int v3901), (2, .int v108), (1, .int v38), (0, .ref am)]) hx hb dX13_readOrder_124 hl (k := 0) rfl e_v3901 (by decide) rfl (fun ls hl => ?_)
              refine lv_goto (tgt := 109) hx hb dX13_readOrder_127 (by decide) ?_
              exact ih_l3335 v3901 _ _ _ (by omega) (by omega) hM hS hIR hRR hL22 hC (fun d hd => hZ d (by omega)) (by omega) _ (lv_sub hl [0, 1, 2, 3] rfl)
        have hk_0 : (0 : Int32).toInt = 0 := by decide
        exact hl3335 11 0 _ _ _ (by omega) (by omega) hM hS hIR hRR hL22 hC hZ (by omega) _ (lv_sub hl [0, 1, 2, 3] rfl)
  refine lv_if_eq (tgt := 14) hx hb dX13_readOrder_7 (by decide) (fun c9 => ?_) (fun c9 => ?_)
  · have hc11 : v1.toInt = 0 := (fi_eq rfl (show (0 : Int32).toInt = 0 by decide)).mp c9
    refine lv_aload_n hx hb dX13_readOrder_14 rfl (lv_at hl 0 rfl) ?_
    refine lv_ldc2 hx hb hown (htl _ mw_1016) dX13_readOrder_15 ?_
    have hk_632263 : (632263 : Int64).toInt = 632263 := by decide
    refine mz_Vj (As := [.long 632263]) (rest := []) ⟨hx, hb, hml, hown, hts⟩ hK hM hS (k_X13_isWord l D cy ld ad am hD _ _ _ _ 632263 gs gw hIF hIG hIR hg_2 hg_4) ⟨callB_of 1 hts (wl_in mw_709) rfl rfl rfl (htl _ mw_5) (htl _ mw_706) hd_yX13_isWord ⟨(Nat.le_of_ble_eq_true rfl), (Nat.le_of_ble_eq_true rfl)⟩, htl _ mw_707, htl _ mw_708⟩ rfl hl.1 rfl (Nat.le_of_ble_eq_true rfl) dX13_readOrder_18 ⟨(Nat.le_of_ble_eq_true rfl), (Nat.le_of_ble_eq_true rfl)⟩ (fun v3902 H locs hpo hM hS => ?_)
    obtain ⟨hpo3903, hpo3904, hpo3905, hpo3906, hpo3907⟩ := hpo
    have hq_v3902 := tk_rng v3902
    refine lv_if_eq (tgt := 28) hx hb dX13_readOrder_21 (by decide) (fun c9 => ?_) (fun c9 => ?_)
    · have hc3909 : v3902.toInt = 0 := (fi_eq rfl (show (0 : Int32).toInt = 0 by decide)).mp c9
      refine lv_aload_n hx hb dX13_readOrder_28 rfl (lv_at hl 0 rfl) ?_
      refine lv_ldc2 hx hb hown (htl _ mw_1017) dX13_readOrder_29 ?_
      have hk_525908 : (525908 : Int64).toInt = 525908 := by decide
      refine mz_Vj (As := [.long 525908]) (rest := []) ⟨hx, hb, hml, hown, hts⟩ hK hM hS (k_X13_isWord l D cy ld ad am hD _ _ _ _ 525908 gs gw hIF hIG hIR hg_2 hg_4) ⟨callB_of 1 hts (wl_in mw_709) rfl rfl rfl (htl _ mw_5) (htl _ mw_706) hd_yX13_isWord ⟨(Nat.le_of_ble_eq_true rfl), (Nat.le_of_ble_eq_true rfl)⟩, htl _ mw_707, htl _ mw_708⟩ rfl hl.1 rfl (Nat.le_of_ble_eq_true rfl) dX13_readOrder_32 ⟨(Nat.le_of_ble_eq_true rfl), (Nat.le_of_ble_eq_true rfl)⟩ (fun v3910 H locs hpo hM hS => ?_)
      obtain ⟨hpo3911, hpo3912, hpo3913, hpo3914, hpo3915⟩ := hpo
      have hq_v3910 := tk_rng v3910
      refine lv_if_eq (tgt := 42) hx hb dX13_readOrder_35 (by decide) (fun c9 => ?_) (fun c9 => ?_)
      · have hc3917 : v3910.toInt = 0 := (fi_eq rfl (show (0 : Int32).toInt = 0 by decide)).mp c9
        refine lv_aload_n hx hb dX13_readOrder_42 rfl (lv_at hl 0 rfl) ?_
        refine lv_ldc2 hx hb hown (htl _ mw_1018) dX13_readOrder_43 ?_
        have hk_132846 : (132846 : Int64).toInt = 132846 := by decide
        refine mz_Vj (As := [.long 132846]) (rest := []) ⟨hx, hb, hml, hown, hts⟩ hK hM hS (k_X13_isWord l D cy ld ad am hD _ _ _ _ 132846 gs gw hIF hIG hIR hg_2 hg_4) ⟨callB_of 1 hts (wl_in mw_709) rfl rfl rfl (htl _ mw_5) (htl _ mw_706) hd_yX13_isWord ⟨(Nat.le_of_ble_eq_true rfl), (Nat.le_of_ble_eq_true rfl)⟩, htl _ mw_707, htl _ mw_708⟩ rfl hl.1 rfl (Nat.le_of_ble_eq_true rfl) dX13_readOrder_46 ⟨(Nat.le_of_ble_eq_true rfl), (Nat.le_of_ble_eq_true rfl)⟩ (fun v3918 H locs hpo hM hS => ?_)
        obtain ⟨hpo3919, hpo3920, hpo3921, hpo3922, hpo3923⟩ := hpo
        have hq_v3918 := tk_rng v3918
        refine lv_if_eq (tgt := 56) hx hb dX13_readOrder_49 (by decide) (fun c9 => ?_) (fun c9 => ?_)
        · have hc3925 : v3918.toInt = 0 := (fi_eq rfl (show (0 : Int32).toInt = 0 by decide)).mp c9
          refine lv_iconst (v := (-1)) hx hb dX13_readOrder_56 (by decide) ?_
          have hk_m1 : ((-1) : Int32).toInt = (-1) := by decide
          exact hj40 (-1) _ _ (by omega) (by omega) (by omega) hM hS (by omega) _ (lv_sub hl [0] rfl)
        · have hc3925 : ¬ (v3918.toInt = 0) := fun h9 => c9 ((fi_eq rfl (show (0 : Int32).toInt = 0 by decide)).mpr h9)
          have hwk_3926 : gw.toInt + (-132846) = 0 ∧ gs.toInt + (-1) = 0 := by omega
          have hwk_3927 : 0 ≤ (-1) * gf.toInt + gt.toInt + (-1) := by omega
          have hwk_3928 : 0 ≤ (-1) * gf.toInt + gt.toInt + (-2) := by omega
          refine lv_iconst (v := 3) hx hb dX13_readOrder_52 (by decide) ?_
          refine lv_goto (tgt := 57) hx hb dX13_readOrder_53 (by decide) ?_
          have hk_3 : (3 : Int32).toInt = 3 := by decide
          exact hj40 3 _ _ (by omega) (by omega) (by omega) hM hS (by omega) _ (lv_sub hl [0] rfl)
      · have hc3917 : ¬ (v3910.toInt = 0) := fun h9 => c9 ((fi_eq rfl (show (0 : Int32).toInt = 0 by decide)).mpr h9)
        have hwk_3929 : gw.toInt + (-525908) = 0 ∧ gs.toInt + (-1) = 0 := by omega
        have hwk_3930 : 0 ≤ (-1) * gf.toInt + gt.toInt + (-1) := by omega
        have hwk_3931 : 0 ≤ (-1) * gf.toInt + gt.toInt + (-2) := by omega
        refine lv_iconst (v := 2) hx hb dX13_readOrder_38 (by decide) ?_
        refine lv_goto (tgt := 57) hx hb dX13_readOrder_39 (by decide) ?_
        have hk_2 : (2 : Int32).toInt = 2 := by decide
        exact hj40 2 _ _ (by omega) (by omega) (by omega) hM hS (by omega) _ (lv_sub hl [0] rfl)
    · have hc3909 : ¬ (v3902.toInt = 0) := fun h9 => c9 ((fi_eq rfl (show (0 : Int32).toInt = 0 by decide)).mpr h9)
      have hwk_3932 : gw.toInt + (-632263) = 0 ∧ gs.toInt + (-1) = 0 := by omega
      have hwk_3933 : 0 ≤ (-1) * gf.toInt + gt.toInt + (-1) := by omega
      have hwk_3934 : 0 ≤ (-1) * gf.toInt + gt.toInt + (-2) := by omega
      refine lv_iconst (v := 1) hx hb dX13_readOrder_24 (by decide) ?_
      refine lv_goto (tgt := 57) hx hb dX13_readOrder_25 (by decide) ?_
      have hk_1 : (1 : Int32).toInt = 1 := by decide
      exact hj40 1 _ _ (by omega) (by omega) (by omega) hM hS (by omega) _ (lv_sub hl [0] rfl)
  · have hc11 : ¬ (v1.toInt = 0) := fun h9 => c9 ((fi_eq rfl (show (0 : Int32).toInt = 0 by decide)).mpr h9)
    have hwk_3935 : gw.toInt + (-2268462) = 0 ∧ gs.toInt + (-1) = 0 := by omega
    have hwk_3936 : 0 ≤ (-1) * gf.toInt + gt.toInt + (-1) := by omega
    have hwk_3937 : 0 ≤ (-1) * gf.toInt + gt.toInt + (-2) := by omega
    refine lv_iconst (v := 0) hx hb dX13_readOrder_10 (by decide) ?_
    refine lv_goto (tgt := 57) hx hb dX13_readOrder_11 (by decide) ?_
    have hk_0 : (0 : Int32).toInt = 0 := by decide
    exact hj40 0 _ _ (by omega) (by omega) (by omega) hM hS (by omega) _ (lv_sub hl [0] rfl)
