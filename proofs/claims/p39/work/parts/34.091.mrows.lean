theorem hd_yX13_inner : yX13_inner.cls ≠ "java/lang/invoke/MethodHandle" ∧ yX13_inner.cls ≠ "java/lang/invoke/VarHandle" ∧ (parseMethodDescriptor yX13_inner.desc).map (fun d => d.parameters.length) = some 0 := by decide +kernel
theorem hd_yX13_isCompared : yX13_isCompared.cls ≠ "java/lang/invoke/MethodHandle" ∧ yX13_isCompared.cls ≠ "java/lang/invoke/VarHandle" ∧ (parseMethodDescriptor yX13_isCompared.desc).map (fun d => d.parameters.length) = some 0 := by decide +kernel
theorem hd_yX13_settle : yX13_settle.cls ≠ "java/lang/invoke/MethodHandle" ∧ yX13_settle.cls ≠ "java/lang/invoke/VarHandle" ∧ (parseMethodDescriptor yX13_settle.desc).map (fun d => d.parameters.length) = some 1 := by decide +kernel
theorem dX13_behindSum_0 : decode cX13_behindSum 0 = .ok (.aload_n 0, 1) := by decide +kernel
theorem dX13_behindSum_1 : decode cX13_behindSum 1 = .ok (.bipush 43, 2) := by decide +kernel
theorem dX13_behindSum_3 : decode cX13_behindSum 3 = .ok (.invokevirtual 309, 3) := by decide +kernel
theorem dX13_behindSum_6 : decode cX13_behindSum 6 = .ok (.ifCond .eq 8, 3) := by decide +kernel
theorem dX13_behindSum_14 : decode cX13_behindSum 14 = .ok (.aload_n 0, 1) := by decide +kernel
theorem dX13_behindSum_15 : decode cX13_behindSum 15 = .ok (.bipush 45, 2) := by decide +kernel
theorem dX13_behindSum_17 : decode cX13_behindSum 17 = .ok (.invokevirtual 309, 3) := by decide +kernel
theorem dX13_behindSum_20 : decode cX13_behindSum 20 = .ok (.ifCond .eq 8, 3) := by decide +kernel
theorem dX13_behindSum_28 : decode cX13_behindSum 28 = .ok (.aload_n 0, 1) := by decide +kernel
theorem dX13_behindSum_29 : decode cX13_behindSum 29 = .ok (.bipush 42, 2) := by decide +kernel
theorem dX13_behindSum_31 : decode cX13_behindSum 31 = .ok (.invokevirtual 309, 3) := by decide +kernel
theorem dX13_behindSum_34 : decode cX13_behindSum 34 = .ok (.ifCond .eq 8, 3) := by decide +kernel
theorem dX13_behindSum_42 : decode cX13_behindSum 42 = .ok (.aload_n 0, 1) := by decide +kernel
theorem dX13_behindSum_43 : decode cX13_behindSum 43 = .ok (.bipush 47, 2) := by decide +kernel
theorem dX13_behindSum_45 : decode cX13_behindSum 45 = .ok (.invokevirtual 309, 3) := by decide +kernel
theorem dX13_behindSum_48 : decode cX13_behindSum 48 = .ok (.ifCond .eq 8, 3) := by decide +kernel
theorem dX13_behindSum_56 : decode cX13_behindSum 56 = .ok (.aload_n 0, 1) := by decide +kernel
theorem dX13_behindSum_57 : decode cX13_behindSum 57 = .ok (.bipush 37, 2) := by decide +kernel
theorem dX13_behindSum_59 : decode cX13_behindSum 59 = .ok (.invokevirtual 309, 3) := by decide +kernel
theorem dX13_behindSum_62 : decode cX13_behindSum 62 = .ok (.ifCond .eq 8, 3) := by decide +kernel
theorem dX13_behindSum_70 : decode cX13_behindSum 70 = .ok (.iconst (-1), 1) := by decide +kernel
theorem dX13_behindSum_71 : decode cX13_behindSum 71 = .ok (.istore_n 2, 1) := by decide +kernel
theorem dX13_behindSum_72 : decode cX13_behindSum 72 = .ok (.iload_n 2, 1) := by decide +kernel
theorem dX13_behindSum_73 : decode cX13_behindSum 73 = .ok (.iconst (-1), 1) := by decide +kernel
theorem dX13_behindSum_74 : decode cX13_behindSum 74 = .ok (.if_icmp .eq 23, 3) := by decide +kernel
theorem dX13_behindSum_97 : decode cX13_behindSum 97 = .ok (.aload_n 0, 1) := by decide +kernel
theorem dX13_behindSum_98 : decode cX13_behindSum 98 = .ok (.invokevirtual 345, 3) := by decide +kernel
theorem dX13_behindSum_101 : decode cX13_behindSum 101 = .ok (.istore_n 3, 1) := by decide +kernel
theorem dX13_behindSum_102 : decode cX13_behindSum 102 = .ok (.iload_n 3, 1) := by decide +kernel
theorem dX13_behindSum_103 : decode cX13_behindSum 103 = .ok (.bipush 32, 2) := by decide +kernel
theorem dX13_behindSum_105 : decode cX13_behindSum 105 = .ok (.if_icmp .ne 47, 3) := by decide +kernel
theorem dX13_behindSum_152 : decode cX13_behindSum 152 = .ok (.iload_n 3, 1) := by decide +kernel
theorem dX13_behindSum_153 : decode cX13_behindSum 153 = .ok (.iconst (-1), 1) := by decide +kernel
theorem dX13_behindSum_154 : decode cX13_behindSum 154 = .ok (.if_icmp .ne 9, 3) := by decide +kernel
theorem dX13_behindSum_163 : decode cX13_behindSum 163 = .ok (.aload_n 0, 1) := by decide +kernel
theorem dX13_behindSum_164 : decode cX13_behindSum 164 = .ok (.invokevirtual 348, 3) := by decide +kernel
theorem dX13_behindSum_167 : decode cX13_behindSum 167 = .ok (.ifCond .eq 5, 3) := by decide +kernel
theorem dX13_behindSum_172 : decode cX13_behindSum 172 = .ok (.aload_n 0, 1) := by decide +kernel
theorem dX13_behindSum_173 : decode cX13_behindSum 173 = .ok (.bipush 60, 2) := by decide +kernel
theorem dX13_behindSum_175 : decode cX13_behindSum 175 = .ok (.invokevirtual 309, 3) := by decide +kernel
theorem dX13_behindSum_178 : decode cX13_behindSum 178 = .ok (.ifCond .eq 8, 3) := by decide +kernel
theorem dX13_behindSum_186 : decode cX13_behindSum 186 = .ok (.aload_n 0, 1) := by decide +kernel
theorem dX13_behindSum_187 : decode cX13_behindSum 187 = .ok (.bipush 62, 2) := by decide +kernel
theorem dX13_behindSum_189 : decode cX13_behindSum 189 = .ok (.invokevirtual 309, 3) := by decide +kernel
theorem dX13_behindSum_192 : decode cX13_behindSum 192 = .ok (.ifCond .eq 8, 3) := by decide +kernel
theorem dX13_behindSum_200 : decode cX13_behindSum 200 = .ok (.bipush 27, 2) := by decide +kernel
theorem dX13_behindSum_202 : decode cX13_behindSum 202 = .ok (.istore_n 2, 1) := by decide +kernel
theorem dX13_behindSum_203 : decode cX13_behindSum 203 = .ok (.aload_n 0, 1) := by decide +kernel
theorem dX13_behindSum_204 : decode cX13_behindSum 204 = .ok (.iload_n 2, 1) := by decide +kernel
theorem dX13_behindSum_205 : decode cX13_behindSum 205 = .ok (.bipush 27, 2) := by decide +kernel
theorem dX13_behindSum_207 : decode cX13_behindSum 207 = .ok (.if_icmp .ne 12, 3) := by decide +kernel
theorem dX13_behindSum_210 : decode cX13_behindSum 210 = .ok (.aload_n 0, 1) := by decide +kernel
theorem dX13_behindSum_211 : decode cX13_behindSum 211 = .ok (.bipush 61, 2) := by decide +kernel
theorem dX13_behindSum_213 : decode cX13_behindSum 213 = .ok (.invokevirtual 309, 3) := by decide +kernel
theorem dX13_behindSum_216 : decode cX13_behindSum 216 = .ok (.ifCond .eq 7, 3) := by decide +kernel
theorem dX13_behindSum_223 : decode cX13_behindSum 223 = .ok (.iconst 0, 1) := by decide +kernel
theorem dX13_behindSum_224 : decode cX13_behindSum 224 = .ok (.invokevirtual 271, 3) := by decide +kernel
theorem dX13_behindSum_227 : decode cX13_behindSum 227 = .ok (.aload_n 0, 1) := by decide +kernel
theorem dX13_behindSum_228 : decode cX13_behindSum 228 = .ok (.getfield 236, 3) := by decide +kernel
theorem dX13_behindSum_231 : decode cX13_behindSum 231 = .ok (.ifCond .ne 14, 3) := by decide +kernel
theorem dX13_behindSum_245 : decode cX13_behindSum 245 = .ok (.iconst 1, 1) := by decide +kernel
theorem dX13_behindSum_246 : decode cX13_behindSum 246 = .ok (.ireturn, 1) := by decide +kernel
theorem dX13_behindSum_219 : decode cX13_behindSum 219 = .ok (.iconst 1, 1) := by decide +kernel
theorem dX13_behindSum_220 : decode cX13_behindSum 220 = .ok (.goto 4, 3) := by decide +kernel
theorem dX13_behindSum_234 : decode cX13_behindSum 234 = .ok (.aload_n 0, 1) := by decide +kernel
theorem dX13_behindSum_235 : decode cX13_behindSum 235 = .ok (.iconst 5, 1) := by decide +kernel
theorem dX13_behindSum_236 : decode cX13_behindSum 236 = .ok (.invokevirtual 342, 3) := by decide +kernel
theorem dX13_behindSum_239 : decode cX13_behindSum 239 = .ok (.aload_n 0, 1) := by decide +kernel
theorem dX13_behindSum_240 : decode cX13_behindSum 240 = .ok (.iload_n 2, 1) := by decide +kernel
theorem dX13_behindSum_241 : decode cX13_behindSum 241 = .ok (.iconst 0, 1) := by decide +kernel
theorem dX13_behindSum_242 : decode cX13_behindSum 242 = .ok (.invokevirtual 303, 3) := by decide +kernel
theorem dX13_behindSum_195 : decode cX13_behindSum 195 = .ok (.bipush 26, 2) := by decide +kernel
theorem dX13_behindSum_197 : decode cX13_behindSum 197 = .ok (.goto 5, 3) := by decide +kernel
theorem dX13_behindSum_181 : decode cX13_behindSum 181 = .ok (.bipush 25, 2) := by decide +kernel
theorem dX13_behindSum_183 : decode cX13_behindSum 183 = .ok (.goto 19, 3) := by decide +kernel
theorem dX13_behindSum_170 : decode cX13_behindSum 170 = .ok (.iconst 2, 1) := by decide +kernel
theorem dX13_behindSum_171 : decode cX13_behindSum 171 = .ok (.ireturn, 1) := by decide +kernel
theorem dX13_behindSum_157 : decode cX13_behindSum 157 = .ok (.iload_n 1, 1) := by decide +kernel
theorem dX13_behindSum_158 : decode cX13_behindSum 158 = .ok (.ifCond .ne 5, 3) := by decide +kernel
theorem dX13_behindSum_161 : decode cX13_behindSum 161 = .ok (.iconst 4, 1) := by decide +kernel
theorem dX13_behindSum_162 : decode cX13_behindSum 162 = .ok (.ireturn, 1) := by decide +kernel
theorem dX13_behindSum_108 : decode cX13_behindSum 108 = .ok (.aload_n 0, 1) := by decide +kernel
theorem dX13_behindSum_109 : decode cX13_behindSum 109 = .ok (.aload_n 0, 1) := by decide +kernel
theorem dX13_behindSum_110 : decode cX13_behindSum 110 = .ok (.bipush 93, 2) := by decide +kernel
theorem dX13_behindSum_112 : decode cX13_behindSum 112 = .ok (.invokevirtual 309, 3) := by decide +kernel
theorem dX13_behindSum_115 : decode cX13_behindSum 115 = .ok (.invokevirtual 271, 3) := by decide +kernel
theorem dX13_behindSum_118 : decode cX13_behindSum 118 = .ok (.aload_n 0, 1) := by decide +kernel
theorem dX13_behindSum_119 : decode cX13_behindSum 119 = .ok (.getfield 236, 3) := by decide +kernel
theorem dX13_behindSum_122 : decode cX13_behindSum 122 = .ok (.ifCond .ne 28, 3) := by decide +kernel
theorem dX13_behindSum_150 : decode cX13_behindSum 150 = .ok (.iconst 3, 1) := by decide +kernel
theorem dX13_behindSum_151 : decode cX13_behindSum 151 = .ok (.ireturn, 1) := by decide +kernel
theorem dX13_behindSum_125 : decode cX13_behindSum 125 = .ok (.aload_n 0, 1) := by decide +kernel
theorem dX13_behindSum_126 : decode cX13_behindSum 126 = .ok (.iconst 5, 1) := by decide +kernel
theorem dX13_behindSum_127 : decode cX13_behindSum 127 = .ok (.invokevirtual 342, 3) := by decide +kernel
theorem dX13_behindSum_130 : decode cX13_behindSum 130 = .ok (.aload_n 0, 1) := by decide +kernel
theorem dX13_behindSum_131 : decode cX13_behindSum 131 = .ok (.dup, 1) := by decide +kernel
theorem dX13_behindSum_132 : decode cX13_behindSum 132 = .ok (.getfield 278, 3) := by decide +kernel
theorem dX13_behindSum_135 : decode cX13_behindSum 135 = .ok (.iconst 1, 1) := by decide +kernel
theorem dX13_behindSum_136 : decode cX13_behindSum 136 = .ok (.isub, 1) := by decide +kernel
theorem dX13_behindSum_137 : decode cX13_behindSum 137 = .ok (.putfield 278, 3) := by decide +kernel
theorem dX13_behindSum_140 : decode cX13_behindSum 140 = .ok (.aload_n 0, 1) := by decide +kernel
theorem dX13_behindSum_141 : decode cX13_behindSum 141 = .ok (.dup, 1) := by decide +kernel
theorem dX13_behindSum_142 : decode cX13_behindSum 142 = .ok (.getfield 300, 3) := by decide +kernel
theorem dX13_behindSum_145 : decode cX13_behindSum 145 = .ok (.iconst 1, 1) := by decide +kernel
theorem dX13_behindSum_146 : decode cX13_behindSum 146 = .ok (.isub, 1) := by decide +kernel
theorem dX13_behindSum_147 : decode cX13_behindSum 147 = .ok (.putfield 300, 3) := by decide +kernel
theorem dX13_behindSum_65 : decode cX13_behindSum 65 = .ok (.bipush 24, 2) := by decide +kernel
theorem dX13_behindSum_67 : decode cX13_behindSum 67 = .ok (.goto 4, 3) := by decide +kernel
theorem dX13_behindSum_77 : decode cX13_behindSum 77 = .ok (.aload_n 0, 1) := by decide +kernel
theorem dX13_behindSum_78 : decode cX13_behindSum 78 = .ok (.iload_n 2, 1) := by decide +kernel
theorem dX13_behindSum_79 : decode cX13_behindSum 79 = .ok (.invokestatic 281, 3) := by decide +kernel
theorem dX13_behindSum_82 : decode cX13_behindSum 82 = .ok (.invokevirtual 342, 3) := by decide +kernel
theorem dX13_behindSum_85 : decode cX13_behindSum 85 = .ok (.aload_n 0, 1) := by decide +kernel
theorem dX13_behindSum_86 : decode cX13_behindSum 86 = .ok (.iload_n 2, 1) := by decide +kernel
theorem dX13_behindSum_87 : decode cX13_behindSum 87 = .ok (.iconst 0, 1) := by decide +kernel
theorem dX13_behindSum_88 : decode cX13_behindSum 88 = .ok (.invokevirtual 303, 3) := by decide +kernel
theorem dX13_behindSum_91 : decode cX13_behindSum 91 = .ok (.aload_n 0, 1) := by decide +kernel
theorem dX13_behindSum_92 : decode cX13_behindSum 92 = .ok (.invokevirtual 240, 3) := by decide +kernel
theorem dX13_behindSum_95 : decode cX13_behindSum 95 = .ok (.iconst 1, 1) := by decide +kernel
theorem dX13_behindSum_96 : decode cX13_behindSum 96 = .ok (.ireturn, 1) := by decide +kernel
theorem dX13_behindSum_51 : decode cX13_behindSum 51 = .ok (.bipush 23, 2) := by decide +kernel
theorem dX13_behindSum_53 : decode cX13_behindSum 53 = .ok (.goto 18, 3) := by decide +kernel
theorem dX13_behindSum_37 : decode cX13_behindSum 37 = .ok (.bipush 22, 2) := by decide +kernel
theorem dX13_behindSum_39 : decode cX13_behindSum 39 = .ok (.goto 32, 3) := by decide +kernel
theorem dX13_behindSum_23 : decode cX13_behindSum 23 = .ok (.bipush 21, 2) := by decide +kernel
theorem dX13_behindSum_25 : decode cX13_behindSum 25 = .ok (.goto 46, 3) := by decide +kernel
theorem dX13_behindSum_9 : decode cX13_behindSum 9 = .ok (.bipush 20, 2) := by decide +kernel
theorem dX13_behindSum_11 : decode cX13_behindSum 11 = .ok (.goto 60, 3) := by decide +kernel
set_option maxHeartbeats 4000000 in
set_option maxRecDepth 100000 in
theorem k_X13_behindSum (l : Launch) (D : va_G) (cy : Nat → ClassId) (ld ad : Nat → Nat) (am : Nat) (hD : mz_D ad am) (Fa : Nat → Int32) (Ga : Nat → Int64) (Ra : Nat → Nat → Int32) (Sa : Nat → Nat → Int64) (p1 : Int32) (gf : Int32) (gt : Int32) (gs : Int32) (gp : Int32) (gw : Int64) (gb : Int32) (gc : Int32) (gd : Int32) (zs : Nat) (hIF : mz_IF false Fa) (hIG : mz_IG Ga) (hIR : mz_IR [] true Ra) (hg_0 : Fa 14 = gf) (hg_1 : Fa 15 = gt) (hg_2 : Fa 16 = gs) (hg_3 : Fa 13 = gp) (hg_4 : Ga 17 = gw) (hg_5 : Fa 19 = gb) (hg_6 : Fa 23 = gc) (hg_7 : Fa 29 = gd) (hp_0 : 0 ≤ p1.toInt) (hp_1 : p1.toInt ≤ 1) (hp_2 : 0 ≤ (-1) * gf.toInt + gt.toInt) (hp_3 : 0 ≤ gp.toInt + (-1) * gt.toInt) (hp_4 : (1 ≤ gs.toInt → 0 ≤ (-1) * gf.toInt + gt.toInt + (-1))) (hp_5 : (27 ≤ gw.toInt → 1 ≤ gs.toInt → gs.toInt ≤ 1 → 0 ≤ (-1) * gf.toInt + gt.toInt + (-2))) (hp_6 : 0 ≤ (-1) * gc.toInt + (-1) * gd.toInt + gf.toInt) (hp_7 : gb.toInt ≤ 0) (hx_0 : PT (Ra 24) (Ra 25) (Ra 27) (Ra 28) zs gc.toInt.toNat gd.toInt.toNat 3) : Met l yX13_behindSum (wl yX13_behindSum cX13_behindSum 4 (some .int)) ({ frames := 6, cells := 0, slots := 0, locals := 350 }) (mz_p D cy ld ad am Fa Ga Ra Sa [.ref am, .int p1]) (mz_i D cy ad am (fun r F G R S => mz_IF false F ∧ mz_IG G ∧ mz_IR [] true R ∧ (∀ k : Nat, k ∉ ([14, 15, 16, 18, 19, 23, 29, 30] : List Nat) → F k = Fa k) ∧ (∀ k : Nat, k ∉ ([24, 25, 27, 28] : List Nat) → R k = Ra k) ∧ (∀ k : Nat, k ∉ ([17] : List Nat) → G k = Ga k) ∧ 0 ≤ (-1) * (F 14).toInt + (F 15).toInt ∧ 0 ≤ gp.toInt + (-1) * (F 15).toInt ∧ (1 ≤ (F 16).toInt → 0 ≤ (-1) * (F 14).toInt + (F 15).toInt + (-1)) ∧ (27 ≤ (G 17).toInt → 1 ≤ (F 16).toInt → (F 16).toInt ≤ 1 → 0 ≤ (-1) * (F 14).toInt + (F 15).toInt + (-2)) ∧ 0 ≤ (-1) * gf.toInt + (F 14).toInt ∧ 0 ≤ (-1) * (F 23).toInt + (-1) * (F 29).toInt + (F 14).toInt ∧ 0 ≤ (-1) * gc.toInt + (F 23).toInt ∧ ((F 19).toInt ≤ 0 → r.toInt ≤ 1 → 0 ≤ (-1) * gf.toInt + (F 14).toInt + (-1)) ∧ ((F 19).toInt ≤ 0 → 3 ≤ r.toInt → r.toInt ≤ 3 → 0 ≤ (-1) * gf.toInt + (F 14).toInt + (-1)) ∧ 1 ≤ r.toInt ∧ r.toInt ≤ 4 ∧ ((F 19).toInt = 0 → PT (R 24) (R 25) (R 27) (R 28) zs (F 23).toInt.toNat (F 29).toInt.toNat r.toInt ∧ low zs (Ra 24) (R 24) ∧ low zs (Ra 25) (R 25)))) 0 0 (mz_W ad am) := by
  refine mz_met (y := yX13_behindSum) (cc := cX13_behindSum) (maxL := 4) (ret := (some .int)) (av := [.ref am, .int p1]) _ (by decide) (Nat.le_of_ble_eq_true rfl) ?_
  intro p e s m args below meth c hx hb hr hml hts htl hown hlocks hK H locs hM hS ls hl
  have hown : s.vm.findClass RX13 = some m.cls := hown
  have hl : lv_has ls 4 [(0, .ref am), (1, .int p1)] := hl
  have hr_p1 := tk_rng p1
  have hq_gf := tk_rng gf
  have hq_gt := tk_rng gt
  have hq_gs := tk_rng gs
  have hq_gp := tk_rng gp
  have hq_gw := tk_rngL gw
  have hq_gb := tk_rng gb
  have hq_gc := tk_rng gc
  have hq_gd := tk_rng gd
  have hr_gf : 0 ≤ gf.toInt ∧ gf.toInt ≤ 400 := hIF.at hg_0
  have hr_gt : 0 ≤ gt.toInt ∧ gt.toInt ≤ 400 := hIF.at hg_1
  have hr_gs : 0 ≤ gs.toInt ∧ gs.toInt ≤ 3 := hIF.at hg_2
  have hr_gp : 0 ≤ gp.toInt ∧ gp.toInt ≤ 400 := hIF.at hg_3
  have hr_gb : 0 ≤ gb.toInt ∧ gb.toInt ≤ 1 := hIF.at hg_5
  have hr_gc : 0 ≤ gc.toInt ∧ gc.toInt ≤ 400 := hIF.at hg_6
  have hr_gd : 0 ≤ gd.toInt ∧ gd.toInt ≤ 400 := hIF.at hg_7
  have hPI : PI (Ra 24) (Ra 25) (Ra 27) (Ra 28) zs gc.toInt.toNat gd.toInt.toNat 1 := hx_0.p (by decide)
  have hLo := And.intro (low.refl zs (Ra 24)) (low.refl zs (Ra 25))
  refine lv_aload_n hx hb dX13_behindSum_0 rfl (lv_at hl 0 rfl) ?_
  refine lv_bipush (v := 43) hx hb dX13_behindSum_1 (by decide) ?_
  have hk_43 : (43 : Int32).toInt = 43 := by decide
  refine mz_Vj (As := [.int 43]) (rest := []) ⟨hx, hb, hml, hown, hts⟩ hK hM hS (k_X13_isSign l D cy ld ad am hD _ _ _ _ 43 gs hIF hIG hIR hg_2) ⟨callB_of 1 hts (wl_in mw_732) rfl rfl rfl (htl _ mw_5) (htl _ mw_729) hd_yX13_isSign ⟨(Nat.le_of_ble_eq_true rfl), (Nat.le_of_ble_eq_true rfl)⟩, htl _ mw_730, htl _ mw_731⟩ rfl hl.1 rfl (Nat.le_of_ble_eq_true rfl) dX13_behindSum_3 ⟨(Nat.le_of_ble_eq_true rfl), (Nat.le_of_ble_eq_true rfl)⟩ (fun v1 H locs hpo hM hS => ?_)
  obtain ⟨hpo2, hpo3, hpo4, hpo5, hpo6⟩ := hpo
  have hq_v1 := tk_rng v1
  refine lv_if_eq (tgt := 14) hx hb dX13_behindSum_6 (by decide) (fun c9 => ?_) (fun c9 => ?_)
  · have hc8 : v1.toInt = 0 := (fi_eq rfl (show (0 : Int32).toInt = 0 by decide)).mp c9
    refine lv_aload_n hx hb dX13_behindSum_14 rfl (lv_at hl 0 rfl) ?_
    refine lv_bipush (v := 45) hx hb dX13_behindSum_15 (by decide) ?_
    have hk_45 : (45 : Int32).toInt = 45 := by decide
    refine mz_Vj (As := [.int 45]) (rest := []) ⟨hx, hb, hml, hown, hts⟩ hK hM hS (k_X13_isSign l D cy ld ad am hD _ _ _ _ 45 gs hIF hIG hIR hg_2) ⟨callB_of 1 hts (wl_in mw_732) rfl rfl rfl (htl _ mw_5) (htl _ mw_729) hd_yX13_isSign ⟨(Nat.le_of_ble_eq_true rfl), (Nat.le_of_ble_eq_true rfl)⟩, htl _ mw_730, htl _ mw_731⟩ rfl hl.1 rfl (Nat.le_of_ble_eq_true rfl) dX13_behindSum_17 ⟨(Nat.le_of_ble_eq_true rfl), (Nat.le_of_ble_eq_true rfl)⟩ (fun v9 H locs hpo hM hS => ?_)
    obtain ⟨hpo10, hpo11, hpo12, hpo13, hpo14⟩ := hpo
    have hq_v9 := tk_rng v9
    refine lv_if_eq (tgt := 28) hx hb dX13_behindSum_20 (by decide) (fun c9 => ?_) (fun c9 => ?_)
    · have hc16 : v9.toInt = 0 := (fi_eq rfl (show (0 : Int32).toInt = 0 by decide)).mp c9
      refine lv_aload_n hx hb dX13_behindSum_28 rfl (lv_at hl 0 rfl) ?_
      refine lv_bipush (v := 42) hx hb dX13_behindSum_29 (by decide) ?_
      have hk_42 : (42 : Int32).toInt = 42 := by decide
      refine mz_Vj (As := [.int 42]) (rest := []) ⟨hx, hb, hml, hown, hts⟩ hK hM hS (k_X13_isSign l D cy ld ad am hD _ _ _ _ 42 gs hIF hIG hIR hg_2) ⟨callB_of 1 hts (wl_in mw_732) rfl rfl rfl (htl _ mw_5) (htl _ mw_729) hd_yX13_isSign ⟨(Nat.le_of_ble_eq_true rfl), (Nat.le_of_ble_eq_true rfl)⟩, htl _ mw_730, htl _ mw_731⟩ rfl hl.1 rfl (Nat.le_of_ble_eq_true rfl) dX13_behindSum_31 ⟨(Nat.le_of_ble_eq_true rfl), (Nat.le_of_ble_eq_true rfl)⟩ (fun v17 H locs hpo hM hS => ?_)
      obtain ⟨hpo18, hpo19, hpo20, hpo21, hpo22⟩ := hpo
      have hq_v17 := tk_rng v17
      refine lv_if_eq (tgt := 42) hx hb dX13_behindSum_34 (by decide) (fun c9 => ?_) (fun c9 => ?_)
      · have hc24 : v17.toInt = 0 := (fi_eq rfl (show (0 : Int32).toInt = 0 by decide)).mp c9
        refine lv_aload_n hx hb dX13_behindSum_42 rfl (lv_at hl 0 rfl) ?_
        refine lv_bipush (v := 47) hx hb dX13_behindSum_43 (by decide) ?_
        have hk_47 : (47 : Int32).toInt = 47 := by decide
        refine mz_Vj (As := [.int 47]) (rest := []) ⟨hx, hb, hml, hown, hts⟩ hK hM hS (k_X13_isSign l D cy ld ad am hD _ _ _ _ 47 gs hIF hIG hIR hg_2) ⟨callB_of 1 hts (wl_in mw_732) rfl rfl rfl (htl _ mw_5) (htl _ mw_729) hd_yX13_isSign ⟨(Nat.le_of_ble_eq_true rfl), (Nat.le_of_ble_eq_true rfl)⟩, htl _ mw_730, htl _ mw_731⟩ rfl hl.1 rfl (Nat.le_of_ble_eq_true rfl) dX13_behindSum_45 ⟨(Nat.le_of_ble_eq_true rfl), (Nat.le_of_ble_eq_true rfl)⟩ (fun v25 H locs hpo hM hS => ?_)
        obtain ⟨hpo26, hpo27, hpo28, hpo29, hpo30⟩ := hpo
        have hq_v25 := tk_rng v25
        refine lv_if_eq (tgt := 56) hx hb dX13_behindSum_48 (by decide) (fun c9 => ?_) (fun c9 => ?_)
        · have hc32 : v25.toInt = 0 := (fi_eq rfl (show (0 : Int32).toInt = 0 by decide)).mp c9
          refine lv_aload_n hx hb dX13_behindSum_56 rfl (lv_at hl 0 rfl) ?_
          refine lv_bipush (v := 37) hx hb dX13_behindSum_57 (by decide) ?_
          have hk_37 : (37 : Int32).toInt = 37 := by decide
          refine mz_Vj (As := [.int 37]) (rest := []) ⟨hx, hb, hml, hown, hts⟩ hK hM hS (k_X13_isSign l D cy ld ad am hD _ _ _ _ 37 gs hIF hIG hIR hg_2) ⟨callB_of 1 hts (wl_in mw_732) rfl rfl rfl (htl _ mw_5) (htl _ mw_729) hd_yX13_isSign ⟨(Nat.le_of_ble_eq_true rfl), (Nat.le_of_ble_eq_true rfl)⟩, htl _ mw_730, htl _ mw_731⟩ rfl hl.1 rfl (Nat.le_of_ble_eq_true rfl) dX13_behindSum_59 ⟨(Nat.le_of_ble_eq_true rfl), (Nat.le_of_ble_eq_true rfl)⟩ (fun v33 H locs hpo hM hS => ?_)
          obtain ⟨hpo34, hpo35, hpo36, hpo37, hpo38⟩ := hpo
          have hq_v33 := tk_rng v33
          refine lv_if_eq (tgt := 70) hx hb dX13_behindSum_62 (by decide) (fun c9 => ?_) (fun c9 => ?_)
          · have hc40 : v33.toInt = 0 := (fi_eq rfl (show (0 : Int32).toInt = 0 by decide)).mp c9
            refine lv_iconst (v := (-1)) hx hb dX13_behindSum_70 (by decide) ?_
            refine lv_istore_n (lv' := [(2, .int (-1)), (0, .ref am), (1, .int p1)]) hx hb dX13_behindSum_71 rfl hl (by decide) rfl (fun ls hl => ?_)
            refine lv_iload_n hx hb dX13_behindSum_72 rfl (lv_at hl 0 rfl) ?_
            refine lv_iconst (v := (-1)) hx hb dX13_behindSum_73 (by decide) ?_
            refine lv_icmp_eq (tgt := 97) hx hb dX13_behindSum_74 (by decide) (fun _ => ?_) (fun c9 => absurd (by decide) c9)
            refine lv_aload_n hx hb dX13_behindSum_97 rfl (lv_at hl 1 rfl) ?_
            refine mz_Vj (As := []) (rest := []) ⟨hx, hb, hml, hown, hts⟩ hK hM hS (k_X13_inner l D cy ld ad am hD _ _ _ _ gd hIF hIG hIR hg_7) ⟨callB_of 0 hts (wl_in mw_777) rfl rfl rfl (htl _ mw_5) (htl _ mw_774) hd_yX13_inner ⟨(Nat.le_of_ble_eq_true rfl), (Nat.le_of_ble_eq_true rfl)⟩, htl _ mw_775, htl _ mw_776⟩ rfl hl.1 rfl (Nat.le_of_ble_eq_true rfl) dX13_behindSum_98 ⟨(Nat.le_of_ble_eq_true rfl), (Nat.le_of_ble_eq_true rfl)⟩ (fun v41 H locs hpo hM hS => ?_)
            have hx42 := hpo
            have hq_v41 := tk_rng v41
            have hinn := hx42
            refine lv_istore_n (lv' := [(3, .int v41), (2, .int (-1)), (0, .ref am), (1, .int p1)]) hx hb dX13_behindSum_101 rfl hl (by decide) rfl (fun ls hl => ?_)
            refine lv_iload_n hx hb dX13_behindSum_102 rfl (lv_at hl 0 rfl) ?_
            refine lv_bipush (v := 32) hx hb dX13_behindSum_103 (by decide) ?_
            refine lv_icmp_ne (tgt := 152) hx hb dX13_behindSum_105 (by decide) (fun c9 => ?_) (fun c9 => ?_)
            · have hc44 : ¬ (v41.toInt = 32) := fun h9 => c9 ((fi_eq rfl (show (32 : Int32).toInt = 32 by decide)).mpr h9)
              refine lv_iload_n hx hb dX13_behindSum_152 rfl (lv_at hl 0 rfl) ?_
              refine lv_iconst (v := (-1)) hx hb dX13_behindSum_153 (by decide) ?_
              refine lv_icmp_ne (tgt := 163) hx hb dX13_behindSum_154 (by decide) (fun c9 => ?_) (fun c9 => ?_)
              · have hc45 : ¬ (v41.toInt = (-1)) := fun h9 => c9 ((fi_eq rfl (show ((-1) : Int32).toInt = (-1) by decide)).mpr h9)
                refine lv_aload_n hx hb dX13_behindSum_163 rfl (lv_at hl 2 rfl) ?_
                refine mz_Vj (As := []) (rest := []) ⟨hx, hb, hml, hown, hts⟩ hK hM hS (k_X13_isCompared l D cy ld ad am hD _ _ _ _ hIF hIG hIR) ⟨callB_of 0 hts (wl_in mw_781) rfl rfl rfl (htl _ mw_5) (htl _ mw_778) hd_yX13_isCompared ⟨(Nat.le_of_ble_eq_true rfl), (Nat.le_of_ble_eq_true rfl)⟩, htl _ mw_779, htl _ mw_780⟩ rfl hl.1 rfl (Nat.le_of_ble_eq_true rfl) dX13_behindSum_164 ⟨(Nat.le_of_ble_eq_true rfl), (Nat.le_of_ble_eq_true rfl)⟩ (fun v46 H locs hpo hM hS => ?_)
                obtain ⟨hpo47, hpo48, hpo49, hpo50⟩ := hpo
                have hq_v46 := tk_rng v46
                have hSq := hinn.nsq hPI (by omega)
                refine lv_if_eq (tgt := 172) hx hb dX13_behindSum_167 (by decide) (fun c9 => ?_) (fun c9 => ?_)
                · have hc52 : v46.toInt = 0 := (fi_eq rfl (show (0 : Int32).toInt = 0 by decide)).mp c9
                  refine lv_aload_n hx hb dX13_behindSum_172 rfl (lv_at hl 2 rfl) ?_
                  refine lv_bipush (v := 60) hx hb dX13_behindSum_173 (by decide) ?_
                  have hk_60 : (60 : Int32).toInt = 60 := by decide
                  refine mz_Vj (As := [.int 60]) (rest := []) ⟨hx, hb, hml, hown, hts⟩ hK hM hS (k_X13_isSign l D cy ld ad am hD _ _ _ _ 60 gs hIF hIG hIR hg_2) ⟨callB_of 1 hts (wl_in mw_732) rfl rfl rfl (htl _ mw_5) (htl _ mw_729) hd_yX13_isSign ⟨(Nat.le_of_ble_eq_true rfl), (Nat.le_of_ble_eq_true rfl)⟩, htl _ mw_730, htl _ mw_731⟩ rfl hl.1 rfl (Nat.le_of_ble_eq_true rfl) dX13_behindSum_175 ⟨(Nat.le_of_ble_eq_true rfl), (Nat.le_of_ble_eq_true rfl)⟩ (fun v53 H locs hpo hM hS => ?_)
                  obtain ⟨hpo54, hpo55, hpo56, hpo57, hpo58⟩ := hpo
                  have hq_v53 := tk_rng v53
                  refine lv_if_eq (tgt := 186) hx hb dX13_behindSum_178 (by decide) (fun c9 => ?_) (fun c9 => ?_)
                  · have hc60 : v53.toInt = 0 := (fi_eq rfl (show (0 : Int32).toInt = 0 by decide)).mp c9
                    refine lv_aload_n hx hb dX13_behindSum_186 rfl (lv_at hl 2 rfl) ?_
                    refine lv_bipush (v := 62) hx hb dX13_behindSum_187 (by decide) ?_
                    have hk_62 : (62 : Int32).toInt = 62 := by decide
                    refine mz_Vj (As := [.int 62]) (rest := []) ⟨hx, hb, hml, hown, hts⟩ hK hM hS (k_X13_isSign l D cy ld ad am hD _ _ _ _ 62 gs hIF hIG hIR hg_2) ⟨callB_of 1 hts (wl_in mw_732) rfl rfl rfl (htl _ mw_5) (htl _ mw_729) hd_yX13_isSign ⟨(Nat.le_of_ble_eq_true rfl), (Nat.le_of_ble_eq_true rfl)⟩, htl _ mw_730, htl _ mw_731⟩ rfl hl.1 rfl (Nat.le_of_ble_eq_true rfl) dX13_behindSum_189 ⟨(Nat.le_of_ble_eq_true rfl), (Nat.le_of_ble_eq_true rfl)⟩ (fun v61 H locs hpo hM hS => ?_)
                    obtain ⟨hpo62, hpo63, hpo64, hpo65, hpo66⟩ := hpo
                    have hq_v61 := tk_rng v61
                    refine lv_if_eq (tgt := 200) hx hb dX13_behindSum_192 (by decide) (fun c9 => ?_) (fun c9 => ?_)
                    · have hc68 : v61.toInt = 0 := (fi_eq rfl (show (0 : Int32).toInt = 0 by decide)).mp c9
                      refine lv_bipush (v := 27) hx hb dX13_behindSum_200 (by decide) ?_
                      refine lv_istore_n (lv' := [(2, .int 27), (3, .int v41), (0, .ref am), (1, .int p1)]) hx hb dX13_behindSum_202 rfl hl (by decide) rfl (fun ls hl => ?_)
                      refine lv_aload_n hx hb dX13_behindSum_203 rfl (lv_at hl 2 rfl) ?_
                      refine lv_iload_n hx hb dX13_behindSum_204 rfl (lv_at hl 0 rfl) ?_
                      refine lv_bipush (v := 27) hx hb dX13_behindSum_205 (by decide) ?_
                      refine lv_icmp_ne (tgt := 219) hx hb dX13_behindSum_207 (by decide) (fun c9 => absurd (by decide) c9) (fun _ => ?_)
                      refine lv_aload_n hx hb dX13_behindSum_210 rfl (lv_at hl 2 rfl) ?_
                      refine lv_bipush (v := 61) hx hb dX13_behindSum_211 (by decide) ?_
                      have hk_61 : (61 : Int32).toInt = 61 := by decide
                      refine mz_Vj (As := [.int 61]) (rest := [.ref am]) ⟨hx, hb, hml, hown, hts⟩ hK hM hS (k_X13_isSign l D cy ld ad am hD _ _ _ _ 61 gs hIF hIG hIR hg_2) ⟨callB_of 1 hts (wl_in mw_732) rfl rfl rfl (htl _ mw_5) (htl _ mw_729) hd_yX13_isSign ⟨(Nat.le_of_ble_eq_true rfl), (Nat.le_of_ble_eq_true rfl)⟩, htl _ mw_730, htl _ mw_731⟩ rfl hl.1 rfl (Nat.le_of_ble_eq_true rfl) dX13_behindSum_213 ⟨(Nat.le_of_ble_eq_true rfl), (Nat.le_of_ble_eq_true rfl)⟩ (fun v69 H locs hpo hM hS => ?_)
                      obtain ⟨hpo70, hpo71, hpo72, hpo73, hpo74⟩ := hpo
                      have hq_v69 := tk_rng v69
                      refine lv_if_eq (tgt := 223) hx hb dX13_behindSum_216 (by decide) (fun c9 => ?_) (fun c9 => ?_)
                      · have hc76 : v69.toInt = 0 := (fi_eq rfl (show (0 : Int32).toInt = 0 by decide)).mp c9
                        refine lv_iconst (v := 0) hx hb dX13_behindSum_223 (by decide) ?_
                        have hk_0 : (0 : Int32).toInt = 0 := by decide
                        refine mz_Vv (As := [.int 0]) (rest := []) ⟨hx, hb, hml, hown, hts⟩ hK hM hS (k_X13_must l D cy ld ad am hD _ _ _ _ 0 gf gt gs gp gw gb hIF hIG hIR hg_0 hg_1 hg_2 hg_3 hg_4 hg_5 (by omega) (by omega) (by omega) (by omega) (by omega) (by omega)) ⟨callB_of 1 hts (wl_in mw_713) rfl rfl rfl (htl _ mw_5) (htl _ mw_710) hd_yX13_must ⟨(Nat.le_of_ble_eq_true rfl), (Nat.le_of_ble_eq_true rfl)⟩, htl _ mw_711, htl _ mw_712⟩ rfl hl.1 rfl (Nat.le_of_ble_eq_true rfl) dX13_behindSum_224 ⟨(Nat.le_of_ble_eq_true rfl), (Nat.le_of_ble_eq_true rfl)⟩ (fun H locs F G R S hpo hM hS => ?_)
                        obtain ⟨hIF, hIG, hIR, hfr9, hrr9, hgr9, hpo77, hpo78, hpo79, hpo80, hpo81, hpo82, hpo83, hpo84⟩ := hpo
                        have hFF := mz_fr (K := [14, 15, 16, 18, 19, 23, 29, 30]) (Fa := Fa) hfr9 (fun _ _ => rfl) (by decide)
                        have hRR := mz_fr (K := [24, 25, 27, 28]) (Fa := Ra) hrr9 (fun _ _ => rfl) (by decide)
                        have hGG := mz_fr (K := [17]) (Fa := Ga) hgr9 (fun _ _ => rfl) (by decide)
                        have hg_3 := (hfr9 13 (by decide)).trans hg_3
                        have hg_6 := (hfr9 23 (by decide)).trans hg_6
                        have hg_7 := (hfr9 29 (by decide)).trans hg_7
                        obtain ⟨v87, hf86⟩ : ∃ z : Int32, F 14 = z := ⟨_, rfl⟩
                        have hq_v87 := tk_rng v87
                        rw [hf86] at hpo77 hpo79 hpo80 hpo81 hpo83
                        have hr_v87 : 0 ≤ v87.toInt ∧ v87.toInt ≤ 400 := hIF.at hf86
                        obtain ⟨v89, hf88⟩ : ∃ z : Int32, F 15 = z := ⟨_, rfl⟩
                        have hq_v89 := tk_rng v89
                        rw [hf88] at hpo77 hpo78 hpo79 hpo80
                        have hr_v89 : 0 ≤ v89.toInt ∧ v89.toInt ≤ 400 := hIF.at hf88
                        obtain ⟨v91, hf90⟩ : ∃ z : Int32, F 16 = z := ⟨_, rfl⟩
                        have hq_v91 := tk_rng v91
                        rw [hf90] at hpo79 hpo80
                        have hr_v91 : 0 ≤ v91.toInt ∧ v91.toInt ≤ 3 := hIF.at hf90
                        obtain ⟨w93, hf92⟩ : ∃ z : Int64, G 17 = z := ⟨_, rfl⟩
                        have hq_w93 := tk_rngL w93
                        rw [hf92] at hpo80
                        obtain ⟨v95, hf94⟩ : ∃ z : Int32, F 19 = z := ⟨_, rfl⟩
                        have hq_v95 := tk_rng v95
                        rw [hf94] at hpo82 hpo83 hpo84
                        have hr_v95 : 0 ≤ v95.toInt ∧ v95.toInt ≤ 1 := hIF.at hf94
                        have hPI := hPI.to (hrr9 24 (by decide)) (hrr9 25 (by decide)) (hrr9 27 (by decide)) (hrr9 28 (by decide)) rfl rfl
                        have hLo := And.intro (hLo.1.to (hrr9 24 (by decide))) (hLo.2.to (hrr9 25 (by decide)))
                        have hSq := hSq.to (hrr9 27 (by decide)) (Nat.le_refl _)
                        have hinn0 := hinn
                        have hinn : inn (R 27) gd.toInt.toNat v41.toInt := by rw [hrr9 27 (by decide)]; exact hinn0
                        refine lv_aload_n hx hb dX13_behindSum_227 rfl (lv_at hl 2 rfl) ?_
                        refine mz_getI hx hb htl hown hK hM 19 (Nat.le_of_ble_eq_true rfl) rfl (htl _ mw_668) (fun _ h9 => h9) dX13_behindSum_228 (fun v9 e9 => ?_)
                        refine fx_ti (v := v95) (e9.symm.trans hf94) ?_
                        refine lv_if_ne (tgt := 245) hx hb dX13_behindSum_231 (by decide) (fun c9 => ?_) (fun c9 => ?_)
                        · have hc96 : ¬ (v95.toInt = 0) := fun h9 => c9 ((fi_eq rfl (show (0 : Int32).toInt = 0 by decide)).mpr h9)
                          refine lv_iconst (v := 1) hx hb dX13_behindSum_245 (by decide) ?_
                          have hk_1 : (1 : Int32).toInt = 1 := by decide
                          exact mz_iret (v := 1) hx hb hr rfl hlocks ⟨hIF, hIG, hIR, hFF, hRR, hGG, (by rw [hf86, hf88]; omega), (by rw [hf88]; omega), (by rw [hf86, hf88, hf90]; omega), (by rw [hf86, hf88, hf90, hf92]; omega), (by rw [hf86]; omega), (by rw [hf86, hg_6, hg_7]; omega), (by rw [hg_6]; omega), (by rw [hf86, hf94]; omega), (by rw [hf86, hf94]; omega), (by omega), (by omega), (by rw [hf94]; exact fun h9 => absurd h9 (by omega))⟩ hM hS dX13_behindSum_246
                        · have hc96 : v95.toInt = 0 := (fi_eq rfl (show (0 : Int32).toInt = 0 by decide)).mp c9
                          exfalso
                          omega
                      · have hc76 : ¬ (v69.toInt = 0) := fun h9 => c9 ((fi_eq rfl (show (0 : Int32).toInt = 0 by decide)).mpr h9)
                        refine lv_iconst (v := 1) hx hb dX13_behindSum_219 (by decide) ?_
                        refine lv_goto (tgt := 224) hx hb dX13_behindSum_220 (by decide) ?_
                        have hk_1 : (1 : Int32).toInt = 1 := by decide
                        refine mz_Vv (As := [.int 1]) (rest := []) ⟨hx, hb, hml, hown, hts⟩ hK hM hS (k_X13_must l D cy ld ad am hD _ _ _ _ 1 gf gt gs gp gw gb hIF hIG hIR hg_0 hg_1 hg_2 hg_3 hg_4 hg_5 (by omega) (by omega) (by omega) (by omega) (by omega) (by omega)) ⟨callB_of 1 hts (wl_in mw_713) rfl rfl rfl (htl _ mw_5) (htl _ mw_710) hd_yX13_must ⟨(Nat.le_of_ble_eq_true rfl), (Nat.le_of_ble_eq_true rfl)⟩, htl _ mw_711, htl _ mw_712⟩ rfl hl.1 rfl (Nat.le_of_ble_eq_true rfl) dX13_behindSum_224 ⟨(Nat.le_of_ble_eq_true rfl), (Nat.le_of_ble_eq_true rfl)⟩ (fun H locs F G R S hpo hM hS => ?_)
                        obtain ⟨hIF, hIG, hIR, hfr9, hrr9, hgr9, hpo97, hpo98, hpo99, hpo100, hpo101, hpo102, hpo103, hpo104⟩ := hpo
                        have hFF := mz_fr (K := [14, 15, 16, 18, 19, 23, 29, 30]) (Fa := Fa) hfr9 (fun _ _ => rfl) (by decide)
                        have hRR := mz_fr (K := [24, 25, 27, 28]) (Fa := Ra) hrr9 (fun _ _ => rfl) (by decide)
                        have hGG := mz_fr (K := [17]) (Fa := Ga) hgr9 (fun _ _ => rfl) (by decide)
                        have hg_3 := (hfr9 13 (by decide)).trans hg_3
                        have hg_6 := (hfr9 23 (by decide)).trans hg_6
                        have hg_7 := (hfr9 29 (by decide)).trans hg_7
                        obtain ⟨v107, hf106⟩ : ∃ z : Int32, F 14 = z := ⟨_, rfl⟩
                        have hq_v107 := tk_rng v107
                        rw [hf106] at hpo97 hpo99 hpo100 hpo101 hpo103
                        have hr_v107 : 0 ≤ v107.toInt ∧ v107.toInt ≤ 400 := hIF.at hf106
                        obtain ⟨v109, hf108⟩ : ∃ z : Int32, F 15 = z := ⟨_, rfl⟩
                        have hq_v109 := tk_rng v109
                        rw [hf108] at hpo97 hpo98 hpo99 hpo100
                        have hr_v109 : 0 ≤ v109.toInt ∧ v109.toInt ≤ 400 := hIF.at hf108
                        obtain ⟨v111, hf110⟩ : ∃ z : Int32, F 16 = z := ⟨_, rfl⟩
                        have hq_v111 := tk_rng v111
                        rw [hf110] at hpo99 hpo100
                        have hr_v111 : 0 ≤ v111.toInt ∧ v111.toInt ≤ 3 := hIF.at hf110
                        obtain ⟨w113, hf112⟩ : ∃ z : Int64, G 17 = z := ⟨_, rfl⟩
                        have hq_w113 := tk_rngL w113
                        rw [hf112] at hpo100
                        obtain ⟨v115, hf114⟩ : ∃ z : Int32, F 19 = z := ⟨_, rfl⟩
                        have hq_v115 := tk_rng v115
                        rw [hf114] at hpo102 hpo103 hpo104
                        have hr_v115 : 0 ≤ v115.toInt ∧ v115.toInt ≤ 1 := hIF.at hf114
                        have hPI := hPI.to (hrr9 24 (by decide)) (hrr9 25 (by decide)) (hrr9 27 (by decide)) (hrr9 28 (by decide)) rfl rfl
                        have hLo := And.intro (hLo.1.to (hrr9 24 (by decide))) (hLo.2.to (hrr9 25 (by decide)))
                        have hSq := hSq.to (hrr9 27 (by decide)) (Nat.le_refl _)
                        have hinn0 := hinn
                        have hinn : inn (R 27) gd.toInt.toNat v41.toInt := by rw [hrr9 27 (by decide)]; exact hinn0
                        refine lv_aload_n hx hb dX13_behindSum_227 rfl (lv_at hl 2 rfl) ?_
                        refine mz_getI hx hb htl hown hK hM 19 (Nat.le_of_ble_eq_true rfl) rfl (htl _ mw_668) (fun _ h9 => h9) dX13_behindSum_228 (fun v9 e9 => ?_)
                        refine fx_ti (v := v115) (e9.symm.trans hf114) ?_
                        refine lv_if_ne (tgt := 245) hx hb dX13_behindSum_231 (by decide) (fun c9 => absurd ((fi_eq rfl (show (0 : Int32).toInt = 0 by decide)).mpr (show v115.toInt = 0 by omega)) c9) (fun _ => ?_)
                        refine lv_aload_n hx hb dX13_behindSum_234 rfl (lv_at hl 2 rfl) ?_
                        refine lv_iconst (v := 5) hx hb dX13_behindSum_235 (by decide) ?_
                        have hk_5 : (5 : Int32).toInt = 5 := by decide
                        refine mz_Vv (As := [.int 5]) (rest := []) ⟨hx, hb, hml, hown, hts⟩ hK hM hS (k_X13_settle l D cy ld ad am hD _ _ _ _ 5 gc gd v115 zs hIF hIG hIR hg_6 hg_7 hf114 (by omega) (by omega) (by omega) (fun _ => hPI)) ⟨callB_of 1 hts (wl_in mw_773) rfl rfl rfl (htl _ mw_5) (htl _ mw_770) hd_yX13_settle ⟨(Nat.le_of_ble_eq_true rfl), (Nat.le_of_ble_eq_true rfl)⟩, htl _ mw_771, htl _ mw_772⟩ rfl hl.1 rfl (Nat.le_of_ble_eq_true rfl) dX13_behindSum_236 ⟨(Nat.le_of_ble_eq_true rfl), (Nat.le_of_ble_eq_true rfl)⟩ (fun H locs F G R S hpo hM hS => ?_)
                        obtain ⟨hIF, hIG, hIR, hfr9, hrr9, hgr9, hpo116, hpo117, hpo118, hx119, hx120, hx121⟩ := hpo
                        have hFF := mz_fr (K := [14, 15, 16, 18, 19, 23, 29, 30]) (Fa := Fa) hfr9 hFF (by decide)
                        have hRR := mz_fr (K := [24, 25, 27, 28]) (Fa := Ra) hrr9 hRR (by decide)
                        have hGG := mz_fr (K := [17]) (Fa := Ga) hgr9 hGG (by decide)
                        have hg_3 := (hfr9 13 (by decide)).trans hg_3
                        have hf106 := (hfr9 14 (by decide)).trans hf106
                        have hf108 := (hfr9 15 (by decide)).trans hf108
                        have hf110 := (hfr9 16 (by decide)).trans hf110
                        have hf112 := (hgr9 17 (by decide)).trans hf112
                        have hf114 := (hfr9 19 (by decide)).trans hf114
                        obtain ⟨v124, hf123⟩ : ∃ z : Int32, F 23 = z := ⟨_, rfl⟩
                        have hq_v124 := tk_rng v124
                        rw [hf123] at hpo116 hpo118
                        have hr_v124 : 0 ≤ v124.toInt ∧ v124.toInt ≤ 400 := hIF.at hf123
                        obtain ⟨v126, hf125⟩ : ∃ z : Int32, F 29 = z := ⟨_, rfl⟩
                        have hq_v126 := tk_rng v126
                        rw [hf125] at hpo116 hpo117
                        have hr_v126 : 0 ≤ v126.toInt ∧ v126.toInt ≤ 400 := hIF.at hf125
                        have hs9 := hx119 (by omega)
                        rw [hf123, hf125] at hs9
                        have hPI : PI (R 24) (R 25) (R 27) (R 28) zs v124.toInt.toNat v126.toInt.toNat 1 := hs9.1
                        have hLo := And.intro (hLo.1.trans hs9.2.1 (Nat.le_refl _)) (hLo.2.trans hs9.2.2 (Nat.le_refl _))
                        rw [hf125] at hx120 hx121
                        have hsb := hx120
                        have hst := hx121
                        have hSq := hSq.to (pd1 := v126.toInt.toNat) (hrr9 27 (by decide)) (by omega)
                        have hinn0 := hinn
                        have hinn : inn (R 27) gd.toInt.toNat v41.toInt := by rw [hrr9 27 (by decide)]; exact hinn0
                        refine lv_aload_n hx hb dX13_behindSum_239 rfl (lv_at hl 2 rfl) ?_
                        refine lv_iload_n hx hb dX13_behindSum_240 rfl (lv_at hl 0 rfl) ?_
                        refine lv_iconst (v := 0) hx hb dX13_behindSum_241 (by decide) ?_
                        have hk_27 : (27 : Int32).toInt = 27 := by decide
                        have hk_0 : (0 : Int32).toInt = 0 := by decide
                        refine mz_Vv (As := [.int 27, .int 0]) (rest := []) ⟨hx, hb, hml, hown, hts⟩ hK hM hS (k_X13_push l D cy ld ad am hD _ _ _ _ 27 0 v126 hIF hIG hIR hf125 (by omega) (by omega) (by omega)) ⟨callB_of 2 hts (wl_in mw_728) rfl rfl rfl (htl _ mw_5) (htl _ mw_725) hd_yX13_push ⟨(Nat.le_of_ble_eq_true rfl), (Nat.le_of_ble_eq_true rfl)⟩, htl _ mw_726, htl _ mw_727⟩ rfl hl.1 rfl (Nat.le_of_ble_eq_true rfl) dX13_behindSum_242 ⟨(Nat.le_of_ble_eq_true rfl), (Nat.le_of_ble_eq_true rfl)⟩ (fun H locs F G R S hpo hM hS => ?_)
                        obtain ⟨hIF, hIG, hIR, hfr9, hrr9, hgr9, hpo127, hx128, hx129⟩ := hpo
                        have hFF := mz_fr (K := [14, 15, 16, 18, 19, 23, 29, 30]) (Fa := Fa) hfr9 hFF (by decide)
                        have hRR := mz_fr (K := [24, 25, 27, 28]) (Fa := Ra) hrr9 hRR (by decide)
                        have hGG := mz_fr (K := [17]) (Fa := Ga) hgr9 hGG (by decide)
                        have hg_3 := (hfr9 13 (by decide)).trans hg_3
                        have hf106 := (hfr9 14 (by decide)).trans hf106
                        have hf108 := (hfr9 15 (by decide)).trans hf108
                        have hf110 := (hfr9 16 (by decide)).trans hf110
                        have hf112 := (hgr9 17 (by decide)).trans hf112
                        have hf114 := (hfr9 19 (by decide)).trans hf114
                        have hf123 := (hfr9 23 (by decide)).trans hf123
                        obtain ⟨v132, hf131⟩ : ∃ z : Int32, F 29 = z := ⟨_, rfl⟩
                        have hq_v132 := tk_rng v132
                        rw [hf131] at hpo127
                        have hr_v132 : 0 ≤ v132.toInt ∧ v132.toInt ≤ 400 := hIF.at hf131
                        have hPI : PI (R 24) (R 25) (R 27) (R 28) zs v124.toInt.toNat v132.toInt.toNat 0 := (PI.push (o := 27) hPI (by decide) (by decide) (by decide) (by decide) (Or.inr (Or.inr hSq)) hx128 hx129).to (hrr9 24 (by decide)) (hrr9 25 (by decide)) rfl rfl rfl (by omega)
                        have hLo := And.intro (hLo.1.to (hrr9 24 (by decide))) (hLo.2.to (hrr9 25 (by decide)))
                        have hSq : nSq (R 27) v132.toInt.toNat := (hSq.push hx128 (by decide)).to rfl (by omega)
                        refine lv_iconst (v := 1) hx hb dX13_behindSum_245 (by decide) ?_
                        have hk_1 : (1 : Int32).toInt = 1 := by decide
                        exact mz_iret (v := 1) hx hb hr rfl hlocks ⟨hIF, hIG, hIR, hFF, hRR, hGG, (by rw [hf106, hf108]; omega), (by rw [hf108]; omega), (by rw [hf106, hf108, hf110]; omega), (by rw [hf106, hf108, hf110, hf112]; omega), (by rw [hf106]; omega), (by rw [hf106, hf123, hf131]; omega), (by rw [hf123]; omega), (by rw [hf106, hf114]; omega), (by rw [hf106, hf114]; omega), (by omega), (by omega), (fun _ => ⟨PT.mk hPI (by decide) (fun h9 => absurd h9 (by decide)) (fun h9 => absurd h9 (by decide)) rfl rfl rfl rfl (by rw [hf123]) (by rw [hf131]), hLo⟩)⟩ hM hS dX13_behindSum_246
                    · have hc68 : ¬ (v61.toInt = 0) := fun h9 => c9 ((fi_eq rfl (show (0 : Int32).toInt = 0 by decide)).mpr h9)
                      refine lv_bipush (v := 26) hx hb dX13_behindSum_195 (by decide) ?_
                      refine lv_goto (tgt := 202) hx hb dX13_behindSum_197 (by decide) ?_
                      refine lv_istore_n (lv' := [(2, .int 26), (3, .int v41), (0, .ref am), (1, .int p1)]) hx hb dX13_behindSum_202 rfl hl (by decide) rfl (fun ls hl => ?_)
                      refine lv_aload_n hx hb dX13_behindSum_203 rfl (lv_at hl 2 rfl) ?_
                      refine lv_iload_n hx hb dX13_behindSum_204 rfl (lv_at hl 0 rfl) ?_
                      refine lv_bipush (v := 27) hx hb dX13_behindSum_205 (by decide) ?_
                      refine lv_icmp_ne (tgt := 219) hx hb dX13_behindSum_207 (by decide) (fun _ => ?_) (fun c9 => absurd c9 (by decide))
                      refine lv_iconst (v := 1) hx hb dX13_behindSum_219 (by decide) ?_
                      refine lv_goto (tgt := 224) hx hb dX13_behindSum_220 (by decide) ?_
                      have hk_1 : (1 : Int32).toInt = 1 := by decide
                      refine mz_Vv (As := [.int 1]) (rest := []) ⟨hx, hb, hml, hown, hts⟩ hK hM hS (k_X13_must l D cy ld ad am hD _ _ _ _ 1 gf gt gs gp gw gb hIF hIG hIR hg_0 hg_1 hg_2 hg_3 hg_4 hg_5 (by omega) (by omega) (by omega) (by omega) (by omega) (by omega)) ⟨callB_of 1 hts (wl_in mw_713) rfl rfl rfl (htl _ mw_5) (htl _ mw_710) hd_yX13_must ⟨(Nat.le_of_ble_eq_true rfl), (Nat.le_of_ble_eq_true rfl)⟩, htl _ mw_711, htl _ mw_712⟩ rfl hl.1 rfl (Nat.le_of_ble_eq_true rfl) dX13_behindSum_224 ⟨(Nat.le_of_ble_eq_true rfl), (Nat.le_of_ble_eq_true rfl)⟩ (fun H locs F G R S hpo hM hS => ?_)
                      obtain ⟨hIF, hIG, hIR, hfr9, hrr9, hgr9, hpo133, hpo134, hpo135, hpo136, hpo137, hpo138, hpo139, hpo140⟩ := hpo
                      have hFF := mz_fr (K := [14, 15, 16, 18, 19, 23, 29, 30]) (Fa := Fa) hfr9 (fun _ _ => rfl) (by decide)
                      have hRR := mz_fr (K := [24, 25, 27, 28]) (Fa := Ra) hrr9 (fun _ _ => rfl) (by decide)
                      have hGG := mz_fr (K := [17]) (Fa := Ga) hgr9 (fun _ _ => rfl) (by decide)
                      have hg_3 := (hfr9 13 (by decide)).trans hg_3
                      have hg_6 := (hfr9 23 (by decide)).trans hg_6
                      have hg_7 := (hfr9 29 (by decide)).trans hg_7
                      obtain ⟨v143, hf142⟩ : ∃ z : Int32, F 14 = z := ⟨_, rfl⟩
                      have hq_v143 := tk_rng v143
                      rw [hf142] at hpo133 hpo135 hpo136 hpo137 hpo139
                      have hr_v143 : 0 ≤ v143.toInt ∧ v143.toInt ≤ 400 := hIF.at hf142
                      obtain ⟨v145, hf144⟩ : ∃ z : Int32, F 15 = z := ⟨_, rfl⟩
                      have hq_v145 := tk_rng v145
                      rw [hf144] at hpo133 hpo134 hpo135 hpo136
                      have hr_v145 : 0 ≤ v145.toInt ∧ v145.toInt ≤ 400 := hIF.at hf144
                      obtain ⟨v147, hf146⟩ : ∃ z : Int32, F 16 = z := ⟨_, rfl⟩
                      have hq_v147 := tk_rng v147
                      rw [hf146] at hpo135 hpo136
                      have hr_v147 : 0 ≤ v147.toInt ∧ v147.toInt ≤ 3 := hIF.at hf146
                      obtain ⟨w149, hf148⟩ : ∃ z : Int64, G 17 = z := ⟨_, rfl⟩
                      have hq_w149 := tk_rngL w149
                      rw [hf148] at hpo136
                      obtain ⟨v151, hf150⟩ : ∃ z : Int32, F 19 = z := ⟨_, rfl⟩
                      have hq_v151 := tk_rng v151
                      rw [hf150] at hpo138 hpo139 hpo140
                      have hr_v151 : 0 ≤ v151.toInt ∧ v151.toInt ≤ 1 := hIF.at hf150
                      have hPI := hPI.to (hrr9 24 (by decide)) (hrr9 25 (by decide)) (hrr9 27 (by decide)) (hrr9 28 (by decide)) rfl rfl
                      have hLo := And.intro (hLo.1.to (hrr9 24 (by decide))) (hLo.2.to (hrr9 25 (by decide)))
                      have hSq := hSq.to (hrr9 27 (by decide)) (Nat.le_refl _)
                      have hinn0 := hinn
                      have hinn : inn (R 27) gd.toInt.toNat v41.toInt := by rw [hrr9 27 (by decide)]; exact hinn0
                      refine lv_aload_n hx hb dX13_behindSum_227 rfl (lv_at hl 2 rfl) ?_
                      refine mz_getI hx hb htl hown hK hM 19 (Nat.le_of_ble_eq_true rfl) rfl (htl _ mw_668) (fun _ h9 => h9) dX13_behindSum_228 (fun v9 e9 => ?_)
                      refine fx_ti (v := v151) (e9.symm.trans hf150) ?_
                      refine lv_if_ne (tgt := 245) hx hb dX13_behindSum_231 (by decide) (fun c9 => absurd ((fi_eq rfl (show (0 : Int32).toInt = 0 by decide)).mpr (show v151.toInt = 0 by omega)) c9) (fun _ => ?_)
                      refine lv_aload_n hx hb dX13_behindSum_234 rfl (lv_at hl 2 rfl) ?_
                      refine lv_iconst (v := 5) hx hb dX13_behindSum_235 (by decide) ?_
                      have hk_5 : (5 : Int32).toInt = 5 := by decide
                      refine mz_Vv (As := [.int 5]) (rest := []) ⟨hx, hb, hml, hown, hts⟩ hK hM hS (k_X13_settle l D cy ld ad am hD _ _ _ _ 5 gc gd v151 zs hIF hIG hIR hg_6 hg_7 hf150 (by omega) (by omega) (by omega) (fun _ => hPI)) ⟨callB_of 1 hts (wl_in mw_773) rfl rfl rfl (htl _ mw_5) (htl _ mw_770) hd_yX13_settle ⟨(Nat.le_of_ble_eq_true rfl), (Nat.le_of_ble_eq_true rfl)⟩, htl _ mw_771, htl _ mw_772⟩ rfl hl.1 rfl (Nat.le_of_ble_eq_true rfl) dX13_behindSum_236 ⟨(Nat.le_of_ble_eq_true rfl), (Nat.le_of_ble_eq_true rfl)⟩ (fun H locs F G R S hpo hM hS => ?_)
                      obtain ⟨hIF, hIG, hIR, hfr9, hrr9, hgr9, hpo152, hpo153, hpo154, hx155, hx156, hx157⟩ := hpo
                      have hFF := mz_fr (K := [14, 15, 16, 18, 19, 23, 29, 30]) (Fa := Fa) hfr9 hFF (by decide)
                      have hRR := mz_fr (K := [24, 25, 27, 28]) (Fa := Ra) hrr9 hRR (by decide)
                      have hGG := mz_fr (K := [17]) (Fa := Ga) hgr9 hGG (by decide)
                      have hg_3 := (hfr9 13 (by decide)).trans hg_3
                      have hf142 := (hfr9 14 (by decide)).trans hf142
                      have hf144 := (hfr9 15 (by decide)).trans hf144
                      have hf146 := (hfr9 16 (by decide)).trans hf146
                      have hf148 := (hgr9 17 (by decide)).trans hf148
                      have hf150 := (hfr9 19 (by decide)).trans hf150
                      obtain ⟨v160, hf159⟩ : ∃ z : Int32, F 23 = z := ⟨_, rfl⟩
                      have hq_v160 := tk_rng v160
                      rw [hf159] at hpo152 hpo154
                      have hr_v160 : 0 ≤ v160.toInt ∧ v160.toInt ≤ 400 := hIF.at hf159
                      obtain ⟨v162, hf161⟩ : ∃ z : Int32, F 29 = z := ⟨_, rfl⟩
                      have hq_v162 := tk_rng v162
                      rw [hf161] at hpo152 hpo153
                      have hr_v162 : 0 ≤ v162.toInt ∧ v162.toInt ≤ 400 := hIF.at hf161
                      have hs9 := hx155 (by omega)
                      rw [hf159, hf161] at hs9
                      have hPI : PI (R 24) (R 25) (R 27) (R 28) zs v160.toInt.toNat v162.toInt.toNat 1 := hs9.1
                      have hLo := And.intro (hLo.1.trans hs9.2.1 (Nat.le_refl _)) (hLo.2.trans hs9.2.2 (Nat.le_refl _))
                      rw [hf161] at hx156 hx157
                      have hsb := hx156
                      have hst := hx157
                      have hSq := hSq.to (pd1 := v162.toInt.toNat) (hrr9 27 (by decide)) (by omega)
                      have hinn0 := hinn
                      have hinn : inn (R 27) gd.toInt.toNat v41.toInt := by rw [hrr9 27 (by decide)]; exact hinn0
                      refine lv_aload_n hx hb dX13_behindSum_239 rfl (lv_at hl 2 rfl) ?_
                      refine lv_iload_n hx hb dX13_behindSum_240 rfl (lv_at hl 0 rfl) ?_
                      refine lv_iconst (v := 0) hx hb dX13_behindSum_241 (by decide) ?_
                      have hk_26 : (26 : Int32).toInt = 26 := by decide
                      have hk_0 : (0 : Int32).toInt = 0 := by decide
                      refine mz_Vv (As := [.int 26, .int 0]) (rest := []) ⟨hx, hb, hml, hown, hts⟩ hK hM hS (k_X13_push l D cy ld ad am hD _ _ _ _ 26 0 v162 hIF hIG hIR hf161 (by omega) (by omega) (by omega)) ⟨callB_of 2 hts (wl_in mw_728) rfl rfl rfl (htl _ mw_5) (htl _ mw_725) hd_yX13_push ⟨(Nat.le_of_ble_eq_true rfl), (Nat.le_of_ble_eq_true rfl)⟩, htl _ mw_726, htl _ mw_727⟩ rfl hl.1 rfl (Nat.le_of_ble_eq_true rfl) dX13_behindSum_242 ⟨(Nat.le_of_ble_eq_true rfl), (Nat.le_of_ble_eq_true rfl)⟩ (fun H locs F G R S hpo hM hS => ?_)
                      obtain ⟨hIF, hIG, hIR, hfr9, hrr9, hgr9, hpo163, hx164, hx165⟩ := hpo
                      have hFF := mz_fr (K := [14, 15, 16, 18, 19, 23, 29, 30]) (Fa := Fa) hfr9 hFF (by decide)
                      have hRR := mz_fr (K := [24, 25, 27, 28]) (Fa := Ra) hrr9 hRR (by decide)
                      have hGG := mz_fr (K := [17]) (Fa := Ga) hgr9 hGG (by decide)
                      have hg_3 := (hfr9 13 (by decide)).trans hg_3
                      have hf142 := (hfr9 14 (by decide)).trans hf142
                      have hf144 := (hfr9 15 (by decide)).trans hf144
                      have hf146 := (hfr9 16 (by decide)).trans hf146
                      have hf148 := (hgr9 17 (by decide)).trans hf148
                      have hf150 := (hfr9 19 (by decide)).trans hf150
                      have hf159 := (hfr9 23 (by decide)).trans hf159
                      obtain ⟨v168, hf167⟩ : ∃ z : Int32, F 29 = z := ⟨_, rfl⟩
                      have hq_v168 := tk_rng v168
                      rw [hf167] at hpo163
                      have hr_v168 : 0 ≤ v168.toInt ∧ v168.toInt ≤ 400 := hIF.at hf167
                      have hPI : PI (R 24) (R 25) (R 27) (R 28) zs v160.toInt.toNat v168.toInt.toNat 0 := (PI.push (o := 26) hPI (by decide) (by decide) (by decide) (by decide) (Or.inr (Or.inr hSq)) hx164 hx165).to (hrr9 24 (by decide)) (hrr9 25 (by decide)) rfl rfl rfl (by omega)
                      have hLo := And.intro (hLo.1.to (hrr9 24 (by decide))) (hLo.2.to (hrr9 25 (by decide)))
                      have hSq : nSq (R 27) v168.toInt.toNat := (hSq.push hx164 (by decide)).to rfl (by omega)
                      refine lv_iconst (v := 1) hx hb dX13_behindSum_245 (by decide) ?_
                      have hk_1 : (1 : Int32).toInt = 1 := by decide
                      exact mz_iret (v := 1) hx hb hr rfl hlocks ⟨hIF, hIG, hIR, hFF, hRR, hGG, (by rw [hf142, hf144]; omega), (by rw [hf144]; omega), (by rw [hf142, hf144, hf146]; omega), (by rw [hf142, hf144, hf146, hf148]; omega), (by rw [hf142]; omega), (by rw [hf142, hf159, hf167]; omega), (by rw [hf159]; omega), (by rw [hf142, hf150]; omega), (by rw [hf142, hf150]; omega), (by omega), (by omega), (fun _ => ⟨PT.mk hPI (by decide) (fun h9 => absurd h9 (by decide)) (fun h9 => absurd h9 (by decide)) rfl rfl rfl rfl (by rw [hf159]) (by rw [hf167]), hLo⟩)⟩ hM hS dX13_behindSum_246
                  · have hc60 : ¬ (v53.toInt = 0) := fun h9 => c9 ((fi_eq rfl (show (0 : Int32).toInt = 0 by decide)).mpr h9)
                    refine lv_bipush (v := 25) hx hb dX13_behindSum_181 (by decide) ?_
                    refine lv_goto (tgt := 202) hx hb dX13_behindSum_183 (by decide) ?_
                    refine lv_istore_n (lv' := [(2, .int 25), (3, .int v41), (0, .ref am), (1, .int p1)]) hx hb dX13_behindSum_202 rfl hl (by decide) rfl (fun ls hl => ?_)
                    refine lv_aload_n hx hb dX13_behindSum_203 rfl (lv_at hl 2 rfl) ?_
                    refine lv_iload_n hx hb dX13_behindSum_204 rfl (lv_at hl 0 rfl) ?_
                    refine lv_bipush (v := 27) hx hb dX13_behindSum_205 (by decide) ?_
                    refine lv_icmp_ne (tgt := 219) hx hb dX13_behindSum_207 (by decide) (fun _ => ?_) (fun c9 => absurd c9 (by decide))
                    refine lv_iconst (v := 1) hx hb dX13_behindSum_219 (by decide) ?_
                    refine lv_goto (tgt := 224) hx hb dX13_behindSum_220 (by decide) ?_
                    have hk_1 : (1 : Int32).toInt = 1 := by decide
                    refine mz_Vv (As := [.int 1]) (rest := []) ⟨hx, hb, hml, hown, hts⟩ hK hM hS (k_X13_must l D cy ld ad am hD _ _ _ _ 1 gf gt gs gp gw gb hIF hIG hIR hg_0 hg_1 hg_2 hg_3 hg_4 hg_5 (by omega) (by omega) (by omega) (by omega) (by omega) (by omega)) ⟨callB_of 1 hts (wl_in mw_713) rfl rfl rfl (htl _ mw_5) (htl _ mw_710) hd_yX13_must ⟨(Nat.le_of_ble_eq_true rfl), (Nat.le_of_ble_eq_true rfl)⟩, htl _ mw_711, htl _ mw_712⟩ rfl hl.1 rfl (Nat.le_of_ble_eq_true rfl) dX13_behindSum_224 ⟨(Nat.le_of_ble_eq_true rfl), (Nat.le_of_ble_eq_true rfl)⟩ (fun H locs F G R S hpo hM hS => ?_)
                    obtain ⟨hIF, hIG, hIR, hfr9, hrr9, hgr9, hpo169, hpo170, hpo171, hpo172, hpo173, hpo174, hpo175, hpo176⟩ := hpo
                    have hFF := mz_fr (K := [14, 15, 16, 18, 19, 23, 29, 30]) (Fa := Fa) hfr9 (fun _ _ => rfl) (by decide)
                    have hRR := mz_fr (K := [24, 25, 27, 28]) (Fa := Ra) hrr9 (fun _ _ => rfl) (by decide)
                    have hGG := mz_fr (K := [17]) (Fa := Ga) hgr9 (fun _ _ => rfl) (by decide)
                    have hg_3 := (hfr9 13 (by decide)).trans hg_3
                    have hg_6 := (hfr9 23 (by decide)).trans hg_6
                    have hg_7 := (hfr9 29 (by decide)).trans hg_7
                    obtain ⟨v179, hf178⟩ : ∃ z : Int32, F 14 = z := ⟨_, rfl⟩
                    have hq_v179 := tk_rng v179
                    rw [hf178] at hpo169 hpo171 hpo172 hpo173 hpo175
                    have hr_v179 : 0 ≤ v179.toInt ∧ v179.toInt ≤ 400 := hIF.at hf178
                    obtain ⟨v181, hf180⟩ : ∃ z : Int32, F 15 = z := ⟨_, rfl⟩
                    have hq_v181 := tk_rng v181
                    rw [hf180] at hpo169 hpo170 hpo171 hpo172
                    have hr_v181 : 0 ≤ v181.toInt ∧ v181.toInt ≤ 400 := hIF.at hf180
                    obtain ⟨v183, hf182⟩ : ∃ z : Int32, F 16 = z := ⟨_, rfl⟩
                    have hq_v183 := tk_rng v183
                    rw [hf182] at hpo171 hpo172
                    have hr_v183 : 0 ≤ v183.toInt ∧ v183.toInt ≤ 3 := hIF.at hf182
                    obtain ⟨w185, hf184⟩ : ∃ z : Int64, G 17 = z := ⟨_, rfl⟩
                    have hq_w185 := tk_rngL w185
                    rw [hf184] at hpo172
                    obtain ⟨v187, hf186⟩ : ∃ z : Int32, F 19 = z := ⟨_, rfl⟩
                    have hq_v187 := tk_rng v187
                    rw [hf186] at hpo174 hpo175 hpo176
                    have hr_v187 : 0 ≤ v187.toInt ∧ v187.toInt ≤ 1 := hIF.at hf186
                    have hPI := hPI.to (hrr9 24 (by decide)) (hrr9 25 (by decide)) (hrr9 27 (by decide)) (hrr9 28 (by decide)) rfl rfl
                    have hLo := And.intro (hLo.1.to (hrr9 24 (by decide))) (hLo.2.to (hrr9 25 (by decide)))
                    have hSq := hSq.to (hrr9 27 (by decide)) (Nat.le_refl _)
                    have hinn0 := hinn
                    have hinn : inn (R 27) gd.toInt.toNat v41.toInt := by rw [hrr9 27 (by decide)]; exact hinn0
                    refine lv_aload_n hx hb dX13_behindSum_227 rfl (lv_at hl 2 rfl) ?_
                    refine mz_getI hx hb htl hown hK hM 19 (Nat.le_of_ble_eq_true rfl) rfl (htl _ mw_668) (fun _ h9 => h9) dX13_behindSum_228 (fun v9 e9 => ?_)
                    refine fx_ti (v := v187) (e9.symm.trans hf186) ?_
                    refine lv_if_ne (tgt := 245) hx hb dX13_behindSum_231 (by decide) (fun c9 => absurd ((fi_eq rfl (show (0 : Int32).toInt = 0 by decide)).mpr (show v187.toInt = 0 by omega)) c9) (fun _ => ?_)
                    refine lv_aload_n hx hb dX13_behindSum_234 rfl (lv_at hl 2 rfl) ?_
                    refine lv_iconst (v := 5) hx hb dX13_behindSum_235 (by decide) ?_
                    have hk_5 : (5 : Int32).toInt = 5 := by decide
                    refine mz_Vv (As := [.int 5]) (rest := []) ⟨hx, hb, hml, hown, hts⟩ hK hM hS (k_X13_settle l D cy ld ad am hD _ _ _ _ 5 gc gd v187 zs hIF hIG hIR hg_6 hg_7 hf186 (by omega) (by omega) (by omega) (fun _ => hPI)) ⟨callB_of 1 hts (wl_in mw_773) rfl rfl rfl (htl _ mw_5) (htl _ mw_770) hd_yX13_settle ⟨(Nat.le_of_ble_eq_true rfl), (Nat.le_of_ble_eq_true rfl)⟩, htl _ mw_771, htl _ mw_772⟩ rfl hl.1 rfl (Nat.le_of_ble_eq_true rfl) dX13_behindSum_236 ⟨(Nat.le_of_ble_eq_true rfl), (Nat.le_of_ble_eq_true rfl)⟩ (fun H locs F G R S hpo hM hS => ?_)
                    obtain ⟨hIF, hIG, hIR, hfr9, hrr9, hgr9, hpo188, hpo189, hpo190, hx191, hx192, hx193⟩ := hpo
                    have hFF := mz_fr (K := [14, 15, 16, 18, 19, 23, 29, 30]) (Fa := Fa) hfr9 hFF (by decide)
                    have hRR := mz_fr (K := [24, 25, 27, 28]) (Fa := Ra) hrr9 hRR (by decide)
                    have hGG := mz_fr (K := [17]) (Fa := Ga) hgr9 hGG (by decide)
                    have hg_3 := (hfr9 13 (by decide)).trans hg_3
                    have hf178 := (hfr9 14 (by decide)).trans hf178
                    have hf180 := (hfr9 15 (by decide)).trans hf180
                    have hf182 := (hfr9 16 (by decide)).trans hf182
                    have hf184 := (hgr9 17 (by decide)).trans hf184
                    have hf186 := (hfr9 19 (by decide)).trans hf186
                    obtain ⟨v196, hf195⟩ : ∃ z : Int32, F 23 = z := ⟨_, rfl⟩
                    have hq_v196 := tk_rng v196
                    rw [hf195] at hpo188 hpo190
                    have hr_v196 : 0 ≤ v196.toInt ∧ v196.toInt ≤ 400 := hIF.at hf195
                    obtain ⟨v198, hf197⟩ : ∃ z : Int32, F 29 = z := ⟨_, rfl⟩
                    have hq_v198 := tk_rng v198
                    rw [hf197] at hpo188 hpo189
                    have hr_v198 : 0 ≤ v198.toInt ∧ v198.toInt ≤ 400 := hIF.at hf197
                    have hs9 := hx191 (by omega)
                    rw [hf195, hf197] at hs9
                    have hPI : PI (R 24) (R 25) (R 27) (R 28) zs v196.toInt.toNat v198.toInt.toNat 1 := hs9.1
                    have hLo := And.intro (hLo.1.trans hs9.2.1 (Nat.le_refl _)) (hLo.2.trans hs9.2.2 (Nat.le_refl _))
                    rw [hf197] at hx192 hx193
                    have hsb := hx192
                    have hst := hx193
                    have hSq := hSq.to (pd1 := v198.toInt.toNat) (hrr9 27 (by decide)) (by omega)
                    have hinn0 := hinn
                    have hinn : inn (R 27) gd.toInt.toNat v41.toInt := by rw [hrr9 27 (by decide)]; exact hinn0
                    refine lv_aload_n hx hb dX13_behindSum_239 rfl (lv_at hl 2 rfl) ?_
                    refine lv_iload_n hx hb dX13_behindSum_240 rfl (lv_at hl 0 rfl) ?_
                    refine lv_iconst (v := 0) hx hb dX13_behindSum_241 (by decide) ?_
                    have hk_25 : (25 : Int32).toInt = 25 := by decide
                    have hk_0 : (0 : Int32).toInt = 0 := by decide
                    refine mz_Vv (As := [.int 25, .int 0]) (rest := []) ⟨hx, hb, hml, hown, hts⟩ hK hM hS (k_X13_push l D cy ld ad am hD _ _ _ _ 25 0 v198 hIF hIG hIR hf197 (by omega) (by omega) (by omega)) ⟨callB_of 2 hts (wl_in mw_728) rfl rfl rfl (htl _ mw_5) (htl _ mw_725) hd_yX13_push ⟨(Nat.le_of_ble_eq_true rfl), (Nat.le_of_ble_eq_true rfl)⟩, htl _ mw_726, htl _ mw_727⟩ rfl hl.1 rfl (Nat.le_of_ble_eq_true rfl) dX13_behindSum_242 ⟨(Nat.le_of_ble_eq_true rfl), (Nat.le_of_ble_eq_true rfl)⟩ (fun H locs F G R S hpo hM hS => ?_)
                    obtain ⟨hIF, hIG, hIR, hfr9, hrr9, hgr9, hpo199, hx200, hx201⟩ := hpo
                    have hFF := mz_fr (K := [14, 15, 16, 18, 19, 23, 29, 30]) (Fa := Fa) hfr9 hFF (by decide)
                    have hRR := mz_fr (K := [24, 25, 27, 28]) (Fa := Ra) hrr9 hRR (by decide)
                    have hGG := mz_fr (K := [17]) (Fa := Ga) hgr9 hGG (by decide)
                    have hg_3 := (hfr9 13 (by decide)).trans hg_3
                    have hf178 := (hfr9 14 (by decide)).trans hf178
                    have hf180 := (hfr9 15 (by decide)).trans hf180
                    have hf182 := (hfr9 16 (by decide)).trans hf182
                    have hf184 := (hgr9 17 (by decide)).trans hf184
                    have hf186 := (hfr9 19 (by decide)).trans hf186
                    have hf195 := (hfr9 23 (by decide)).trans hf195
                    obtain ⟨v204, hf203⟩ : ∃ z : Int32, F 29 = z := ⟨_, rfl⟩
                    have hq_v204 := tk_rng v204
                    rw [hf203] at hpo199
                    have hr_v204 : 0 ≤ v204.toInt ∧ v204.toInt ≤ 400 := hIF.at hf203
                    have hPI : PI (R 24) (R 25) (R 27) (R 28) zs v196.toInt.toNat v204.toInt.toNat 0 := (PI.push (o := 25) hPI (by decide) (by decide) (by decide) (by decide) (Or.inr (Or.inr hSq)) hx200 hx201).to (hrr9 24 (by decide)) (hrr9 25 (by decide)) rfl rfl rfl (by omega)
                    have hLo := And.intro (hLo.1.to (hrr9 24 (by decide))) (hLo.2.to (hrr9 25 (by decide)))
                    have hSq : nSq (R 27) v204.toInt.toNat := (hSq.push hx200 (by decide)).to rfl (by omega)
                    refine lv_iconst (v := 1) hx hb dX13_behindSum_245 (by decide) ?_
                    have hk_1 : (1 : Int32).toInt = 1 := by decide
                    exact mz_iret (v := 1) hx hb hr rfl hlocks ⟨hIF, hIG, hIR, hFF, hRR, hGG, (by rw [hf178, hf180]; omega), (by rw [hf180]; omega), (by rw [hf178, hf180, hf182]; omega), (by rw [hf178, hf180, hf182, hf184]; omega), (by rw [hf178]; omega), (by rw [hf178, hf195, hf203]; omega), (by rw [hf195]; omega), (by rw [hf178, hf186]; omega), (by rw [hf178, hf186]; omega), (by omega), (by omega), (fun _ => ⟨PT.mk hPI (by decide) (fun h9 => absurd h9 (by decide)) (fun h9 => absurd h9 (by decide)) rfl rfl rfl rfl (by rw [hf195]) (by rw [hf203]), hLo⟩)⟩ hM hS dX13_behindSum_246
                · have hc52 : ¬ (v46.toInt = 0) := fun h9 => c9 ((fi_eq rfl (show (0 : Int32).toInt = 0 by decide)).mpr h9)
                  refine lv_iconst (v := 2) hx hb dX13_behindSum_170 (by decide) ?_
                  have hk_2 : (2 : Int32).toInt = 2 := by decide
                  exact mz_iret (v := 2) hx hb hr rfl hlocks ⟨hIF, hIG, hIR, (fun _ _ => rfl), (fun _ _ => rfl), (fun _ _ => rfl), (by rw [hg_0, hg_1]; omega), (by rw [hg_1]; omega), (by rw [hg_0, hg_1, hg_2]; omega), (by rw [hg_0, hg_1, hg_2, hg_4]; omega), (by rw [hg_0]; omega), (by rw [hg_0, hg_6, hg_7]; omega), (by rw [hg_6]; omega), (by rw [hg_0, hg_5]; omega), (by rw [hg_0, hg_5]; omega), (by omega), (by omega), (fun _ => ⟨PT.mk hPI (by decide) (fun _ => hSq) (fun h9 => absurd h9 (by decide)) rfl rfl rfl rfl (by rw [hg_6]) (by rw [hg_7]), hLo⟩)⟩ hM hS dX13_behindSum_171
              · have hc45 : v41.toInt = (-1) := (fi_eq rfl (show ((-1) : Int32).toInt = (-1) by decide)).mp c9
                refine lv_iload_n hx hb dX13_behindSum_157 rfl (lv_at hl 3 rfl) ?_
                refine lv_if_ne (tgt := 163) hx hb dX13_behindSum_158 (by decide) (fun c9 => ?_) (fun c9 => ?_)
                · have hc205 : ¬ (p1.toInt = 0) := fun h9 => c9 ((fi_eq rfl (show (0 : Int32).toInt = 0 by decide)).mpr h9)
                  refine lv_aload_n hx hb dX13_behindSum_163 rfl (lv_at hl 2 rfl) ?_
                  refine mz_Vj (As := []) (rest := []) ⟨hx, hb, hml, hown, hts⟩ hK hM hS (k_X13_isCompared l D cy ld ad am hD _ _ _ _ hIF hIG hIR) ⟨callB_of 0 hts (wl_in mw_781) rfl rfl rfl (htl _ mw_5) (htl _ mw_778) hd_yX13_isCompared ⟨(Nat.le_of_ble_eq_true rfl), (Nat.le_of_ble_eq_true rfl)⟩, htl _ mw_779, htl _ mw_780⟩ rfl hl.1 rfl (Nat.le_of_ble_eq_true rfl) dX13_behindSum_164 ⟨(Nat.le_of_ble_eq_true rfl), (Nat.le_of_ble_eq_true rfl)⟩ (fun v206 H locs hpo hM hS => ?_)
                  obtain ⟨hpo207, hpo208, hpo209, hpo210⟩ := hpo
                  have hq_v206 := tk_rng v206
                  have hSq := hinn.nsq hPI (by omega)
                  refine lv_if_eq (tgt := 172) hx hb dX13_behindSum_167 (by decide) (fun c9 => ?_) (fun c9 => ?_)
                  · have hc212 : v206.toInt = 0 := (fi_eq rfl (show (0 : Int32).toInt = 0 by decide)).mp c9
                    refine lv_aload_n hx hb dX13_behindSum_172 rfl (lv_at hl 2 rfl) ?_
                    refine lv_bipush (v := 60) hx hb dX13_behindSum_173 (by decide) ?_
                    have hk_60 : (60 : Int32).toInt = 60 := by decide
                    refine mz_Vj (As := [.int 60]) (rest := []) ⟨hx, hb, hml, hown, hts⟩ hK hM hS (k_X13_isSign l D cy ld ad am hD _ _ _ _ 60 gs hIF hIG hIR hg_2) ⟨callB_of 1 hts (wl_in mw_732) rfl rfl rfl (htl _ mw_5) (htl _ mw_729) hd_yX13_isSign ⟨(Nat.le_of_ble_eq_true rfl), (Nat.le_of_ble_eq_true rfl)⟩, htl _ mw_730, htl _ mw_731⟩ rfl hl.1 rfl (Nat.le_of_ble_eq_true rfl) dX13_behindSum_175 ⟨(Nat.le_of_ble_eq_true rfl), (Nat.le_of_ble_eq_true rfl)⟩ (fun v213 H locs hpo hM hS => ?_)
                    obtain ⟨hpo214, hpo215, hpo216, hpo217, hpo218⟩ := hpo
                    have hq_v213 := tk_rng v213
                    refine lv_if_eq (tgt := 186) hx hb dX13_behindSum_178 (by decide) (fun c9 => ?_) (fun c9 => ?_)
                    · have hc220 : v213.toInt = 0 := (fi_eq rfl (show (0 : Int32).toInt = 0 by decide)).mp c9
                      refine lv_aload_n hx hb dX13_behindSum_186 rfl (lv_at hl 2 rfl) ?_
                      refine lv_bipush (v := 62) hx hb dX13_behindSum_187 (by decide) ?_
                      have hk_62 : (62 : Int32).toInt = 62 := by decide
                      refine mz_Vj (As := [.int 62]) (rest := []) ⟨hx, hb, hml, hown, hts⟩ hK hM hS (k_X13_isSign l D cy ld ad am hD _ _ _ _ 62 gs hIF hIG hIR hg_2) ⟨callB_of 1 hts (wl_in mw_732) rfl rfl rfl (htl _ mw_5) (htl _ mw_729) hd_yX13_isSign ⟨(Nat.le_of_ble_eq_true rfl), (Nat.le_of_ble_eq_true rfl)⟩, htl _ mw_730, htl _ mw_731⟩ rfl hl.1 rfl (Nat.le_of_ble_eq_true rfl) dX13_behindSum_189 ⟨(Nat.le_of_ble_eq_true rfl), (Nat.le_of_ble_eq_true rfl)⟩ (fun v221 H locs hpo hM hS => ?_)
                      obtain ⟨hpo222, hpo223, hpo224, hpo225, hpo226⟩ := hpo
                      have hq_v221 := tk_rng v221
                      refine lv_if_eq (tgt := 200) hx hb dX13_behindSum_192 (by decide) (fun c9 => ?_) (fun c9 => ?_)
                      · have hc228 : v221.toInt = 0 := (fi_eq rfl (show (0 : Int32).toInt = 0 by decide)).mp c9
                        refine lv_bipush (v := 27) hx hb dX13_behindSum_200 (by decide) ?_
                        refine lv_istore_n (lv' := [(2, .int 27), (3, .int v41), (0, .ref am), (1, .int p1)]) hx hb dX13_behindSum_202 rfl hl (by decide) rfl (fun ls hl => ?_)
                        refine lv_aload_n hx hb dX13_behindSum_203 rfl (lv_at hl 2 rfl) ?_
                        refine lv_iload_n hx hb dX13_behindSum_204 rfl (lv_at hl 0 rfl) ?_
                        refine lv_bipush (v := 27) hx hb dX13_behindSum_205 (by decide) ?_
                        refine lv_icmp_ne (tgt := 219) hx hb dX13_behindSum_207 (by decide) (fun c9 => absurd (by decide) c9) (fun _ => ?_)
                        refine lv_aload_n hx hb dX13_behindSum_210 rfl (lv_at hl 2 rfl) ?_
                        refine lv_bipush (v := 61) hx hb dX13_behindSum_211 (by decide) ?_
                        have hk_61 : (61 : Int32).toInt = 61 := by decide
                        refine mz_Vj (As := [.int 61]) (rest := [.ref am]) ⟨hx, hb, hml, hown, hts⟩ hK hM hS (k_X13_isSign l D cy ld ad am hD _ _ _ _ 61 gs hIF hIG hIR hg_2) ⟨callB_of 1 hts (wl_in mw_732) rfl rfl rfl (htl _ mw_5) (htl _ mw_729) hd_yX13_isSign ⟨(Nat.le_of_ble_eq_true rfl), (Nat.le_of_ble_eq_true rfl)⟩, htl _ mw_730, htl _ mw_731⟩ rfl hl.1 rfl (Nat.le_of_ble_eq_true rfl) dX13_behindSum_213 ⟨(Nat.le_of_ble_eq_true rfl), (Nat.le_of_ble_eq_true rfl)⟩ (fun v229 H locs hpo hM hS => ?_)
                        obtain ⟨hpo230, hpo231, hpo232, hpo233, hpo234⟩ := hpo
                        have hq_v229 := tk_rng v229
                        refine lv_if_eq (tgt := 223) hx hb dX13_behindSum_216 (by decide) (fun c9 => ?_) (fun c9 => ?_)
                        · have hc236 : v229.toInt = 0 := (fi_eq rfl (show (0 : Int32).toInt = 0 by decide)).mp c9
                          refine lv_iconst (v := 0) hx hb dX13_behindSum_223 (by decide) ?_
                          have hk_0 : (0 : Int32).toInt = 0 := by decide
                          refine mz_Vv (As := [.int 0]) (rest := []) ⟨hx, hb, hml, hown, hts⟩ hK hM hS (k_X13_must l D cy ld ad am hD _ _ _ _ 0 gf gt gs gp gw gb hIF hIG hIR hg_0 hg_1 hg_2 hg_3 hg_4 hg_5 (by omega) (by omega) (by omega) (by omega) (by omega) (by omega)) ⟨callB_of 1 hts (wl_in mw_713) rfl rfl rfl (htl _ mw_5) (htl _ mw_710) hd_yX13_must ⟨(Nat.le_of_ble_eq_true rfl), (Nat.le_of_ble_eq_true rfl)⟩, htl _ mw_711, htl _ mw_712⟩ rfl hl.1 rfl (Nat.le_of_ble_eq_true rfl) dX13_behindSum_224 ⟨(Nat.le_of_ble_eq_true rfl), (Nat.le_of_ble_eq_true rfl)⟩ (fun H locs F G R S hpo hM hS => ?_)
                          obtain ⟨hIF, hIG, hIR, hfr9, hrr9, hgr9, hpo237, hpo238, hpo239, hpo240, hpo241, hpo242, hpo243, hpo244⟩ := hpo
                          have hFF := mz_fr (K := [14, 15, 16, 18, 19, 23, 29, 30]) (Fa := Fa) hfr9 (fun _ _ => rfl) (by decide)
                          have hRR := mz_fr (K := [24, 25, 27, 28]) (Fa := Ra) hrr9 (fun _ _ => rfl) (by decide)
                          have hGG := mz_fr (K := [17]) (Fa := Ga) hgr9 (fun _ _ => rfl) (by decide)
                          have hg_3 := (hfr9 13 (by decide)).trans hg_3
                          have hg_6 := (hfr9 23 (by decide)).trans hg_6
                          have hg_7 := (hfr9 29 (by decide)).trans hg_7
                          obtain ⟨v247, hf246⟩ : ∃ z : Int32, F 14 = z := ⟨_, rfl⟩
                          have hq_v247 := tk_rng v247
                          rw [hf246] at hpo237 hpo239 hpo240 hpo241 hpo243
                          have hr_v247 : 0 ≤ v247.toInt ∧ v247.toInt ≤ 400 := hIF.at hf246
                          obtain ⟨v249, hf248⟩ : ∃ z : Int32, F 15 = z := ⟨_, rfl⟩
                          have hq_v249 := tk_rng v249
                          rw [hf248] at hpo237 hpo238 hpo239 hpo240
                          have hr_v249 : 0 ≤ v249.toInt ∧ v249.toInt ≤ 400 := hIF.at hf248
                          obtain ⟨v251, hf250⟩ : ∃ z : Int32, F 16 = z := ⟨_, rfl⟩
                          have hq_v251 := tk_rng v251
                          rw [hf250] at hpo239 hpo240
                          have hr_v251 : 0 ≤ v251.toInt ∧ v251.toInt ≤ 3 := hIF.at hf250
                          obtain ⟨w253, hf252⟩ : ∃ z : Int64, G 17 = z := ⟨_, rfl⟩
                          have hq_w253 := tk_rngL w253
                          rw [hf252] at hpo240
                          obtain ⟨v255, hf254⟩ : ∃ z : Int32, F 19 = z := ⟨_, rfl⟩
                          have hq_v255 := tk_rng v255
                          rw [hf254] at hpo242 hpo243 hpo244
                          have hr_v255 : 0 ≤ v255.toInt ∧ v255.toInt ≤ 1 := hIF.at hf254
                          have hPI := hPI.to (hrr9 24 (by decide)) (hrr9 25 (by decide)) (hrr9 27 (by decide)) (hrr9 28 (by decide)) rfl rfl
                          have hLo := And.intro (hLo.1.to (hrr9 24 (by decide))) (hLo.2.to (hrr9 25 (by decide)))
                          have hSq := hSq.to (hrr9 27 (by decide)) (Nat.le_refl _)
                          have hinn0 := hinn
                          have hinn : inn (R 27) gd.toInt.toNat v41.toInt := by rw [hrr9 27 (by decide)]; exact hinn0
                          refine lv_aload_n hx hb dX13_behindSum_227 rfl (lv_at hl 2 rfl) ?_
                          refine mz_getI hx hb htl hown hK hM 19 (Nat.le_of_ble_eq_true rfl) rfl (htl _ mw_668) (fun _ h9 => h9) dX13_behindSum_228 (fun v9 e9 => ?_)
                          refine fx_ti (v := v255) (e9.symm.trans hf254) ?_
                          refine lv_if_ne (tgt := 245) hx hb dX13_behindSum_231 (by decide) (fun c9 => ?_) (fun c9 => ?_)
                          · have hc256 : ¬ (v255.toInt = 0) := fun h9 => c9 ((fi_eq rfl (show (0 : Int32).toInt = 0 by decide)).mpr h9)
                            refine lv_iconst (v := 1) hx hb dX13_behindSum_245 (by decide) ?_
                            have hk_1 : (1 : Int32).toInt = 1 := by decide
                            exact mz_iret (v := 1) hx hb hr rfl hlocks ⟨hIF, hIG, hIR, hFF, hRR, hGG, (by rw [hf246, hf248]; omega), (by rw [hf248]; omega), (by rw [hf246, hf248, hf250]; omega), (by rw [hf246, hf248, hf250, hf252]; omega), (by rw [hf246]; omega), (by rw [hf246, hg_6, hg_7]; omega), (by rw [hg_6]; omega), (by rw [hf246, hf254]; omega), (by rw [hf246, hf254]; omega), (by omega), (by omega), (by rw [hf254]; exact fun h9 => absurd h9 (by omega))⟩ hM hS dX13_behindSum_246
                          · have hc256 : v255.toInt = 0 := (fi_eq rfl (show (0 : Int32).toInt = 0 by decide)).mp c9
                            exfalso
                            omega
                        · have hc236 : ¬ (v229.toInt = 0) := fun h9 => c9 ((fi_eq rfl (show (0 : Int32).toInt = 0 by decide)).mpr h9)
                          refine lv_iconst (v := 1) hx hb dX13_behindSum_219 (by decide) ?_
                          refine lv_goto (tgt := 224) hx hb dX13_behindSum_220 (by decide) ?_
                          have hk_1 : (1 : Int32).toInt = 1 := by decide
                          refine mz_Vv (As := [.int 1]) (rest := []) ⟨hx, hb, hml, hown, hts⟩ hK hM hS (k_X13_must l D cy ld ad am hD _ _ _ _ 1 gf gt gs gp gw gb hIF hIG hIR hg_0 hg_1 hg_2 hg_3 hg_4 hg_5 (by omega) (by omega) (by omega) (by omega) (by omega) (by omega)) ⟨callB_of 1 hts (wl_in mw_713) rfl rfl rfl (htl _ mw_5) (htl _ mw_710) hd_yX13_must ⟨(Nat.le_of_ble_eq_true rfl), (Nat.le_of_ble_eq_true rfl)⟩, htl _ mw_711, htl _ mw_712⟩ rfl hl.1 rfl (Nat.le_of_ble_eq_true rfl) dX13_behindSum_224 ⟨(Nat.le_of_ble_eq_true rfl), (Nat.le_of_ble_eq_true rfl)⟩ (fun H locs F G R S hpo hM hS => ?_)
                          obtain ⟨hIF, hIG, hIR, hfr9, hrr9, hgr9, hpo257, hpo258, hpo259, hpo260, hpo261, hpo262, hpo263, hpo264⟩ := hpo
                          have hFF := mz_fr (K := [14, 15, 16, 18, 19, 23, 29, 30]) (Fa := Fa) hfr9 (fun _ _ => rfl) (by decide)
                          have hRR := mz_fr (K := [24, 25, 27, 28]) (Fa := Ra) hrr9 (fun _ _ => rfl) (by decide)
                          have hGG := mz_fr (K := [17]) (Fa := Ga) hgr9 (fun _ _ => rfl) (by decide)
                          have hg_3 := (hfr9 13 (by decide)).trans hg_3
                          have hg_6 := (hfr9 23 (by decide)).trans hg_6
                          have hg_7 := (hfr9 29 (by decide)).trans hg_7
                          obtain ⟨v267, hf266⟩ : ∃ z : Int32, F 14 = z := ⟨_, rfl⟩
                          have hq_v267 := tk_rng v267
                          rw [hf266] at hpo257 hpo259 hpo260 hpo261 hpo263
                          have hr_v267 : 0 ≤ v267.toInt ∧ v267.toInt ≤ 400 := hIF.at hf266
                          obtain ⟨v269, hf268⟩ : ∃ z : Int32, F 15 = z := ⟨_, rfl⟩
                          have hq_v269 := tk_rng v269
                          rw [hf268] at hpo257 hpo258 hpo259 hpo260
                          have hr_v269 : 0 ≤ v269.toInt ∧ v269.toInt ≤ 400 := hIF.at hf268
                          obtain ⟨v271, hf270⟩ : ∃ z : Int32, F 16 = z := ⟨_, rfl⟩
                          have hq_v271 := tk_rng v271
                          rw [hf270] at hpo259 hpo260
                          have hr_v271 : 0 ≤ v271.toInt ∧ v271.toInt ≤ 3 := hIF.at hf270
                          obtain ⟨w273, hf272⟩ : ∃ z : Int64, G 17 = z := ⟨_, rfl⟩
                          have hq_w273 := tk_rngL w273
                          rw [hf272] at hpo260
                          obtain ⟨v275, hf274⟩ : ∃ z : Int32, F 19 = z := ⟨_, rfl⟩
                          have hq_v275 := tk_rng v275
                          rw [hf274] at hpo262 hpo263 hpo264
                          have hr_v275 : 0 ≤ v275.toInt ∧ v275.toInt ≤ 1 := hIF.at hf274
                          have hPI := hPI.to (hrr9 24 (by decide)) (hrr9 25 (by decide)) (hrr9 27 (by decide)) (hrr9 28 (by decide)) rfl rfl
                          have hLo := And.intro (hLo.1.to (hrr9 24 (by decide))) (hLo.2.to (hrr9 25 (by decide)))
                          have hSq := hSq.to (hrr9 27 (by decide)) (Nat.le_refl _)
                          have hinn0 := hinn
                          have hinn : inn (R 27) gd.toInt.toNat v41.toInt := by rw [hrr9 27 (by decide)]; exact hinn0
                          refine lv_aload_n hx hb dX13_behindSum_227 rfl (lv_at hl 2 rfl) ?_
                          refine mz_getI hx hb htl hown hK hM 19 (Nat.le_of_ble_eq_true rfl) rfl (htl _ mw_668) (fun _ h9 => h9) dX13_behindSum_228 (fun v9 e9 => ?_)
                          refine fx_ti (v := v275) (e9.symm.trans hf274) ?_
                          refine lv_if_ne (tgt := 245) hx hb dX13_behindSum_231 (by decide) (fun c9 => absurd ((fi_eq rfl (show (0 : Int32).toInt = 0 by decide)).mpr (show v275.toInt = 0 by omega)) c9) (fun _ => ?_)
                          refine lv_aload_n hx hb dX13_behindSum_234 rfl (lv_at hl 2 rfl) ?_
                          refine lv_iconst (v := 5) hx hb dX13_behindSum_235 (by decide) ?_
                          have hk_5 : (5 : Int32).toInt = 5 := by decide
                          refine mz_Vv (As := [.int 5]) (rest := []) ⟨hx, hb, hml, hown, hts⟩ hK hM hS (k_X13_settle l D cy ld ad am hD _ _ _ _ 5 gc gd v275 zs hIF hIG hIR hg_6 hg_7 hf274 (by omega) (by omega) (by omega) (fun _ => hPI)) ⟨callB_of 1 hts (wl_in mw_773) rfl rfl rfl (htl _ mw_5) (htl _ mw_770) hd_yX13_settle ⟨(Nat.le_of_ble_eq_true rfl), (Nat.le_of_ble_eq_true rfl)⟩, htl _ mw_771, htl _ mw_772⟩ rfl hl.1 rfl (Nat.le_of_ble_eq_true rfl) dX13_behindSum_236 ⟨(Nat.le_of_ble_eq_true rfl), (Nat.le_of_ble_eq_true rfl)⟩ (fun H locs F G R S hpo hM hS => ?_)
                          obtain ⟨hIF, hIG, hIR, hfr9, hrr9, hgr9, hpo276, hpo277, hpo278, hx279, hx280, hx281⟩ := hpo
                          have hFF := mz_fr (K := [14, 15, 16, 18, 19, 23, 29, 30]) (Fa := Fa) hfr9 hFF (by decide)
                          have hRR := mz_fr (K := [24, 25, 27, 28]) (Fa := Ra) hrr9 hRR (by decide)
                          have hGG := mz_fr (K := [17]) (Fa := Ga) hgr9 hGG (by decide)
                          have hg_3 := (hfr9 13 (by decide)).trans hg_3
                          have hf266 := (hfr9 14 (by decide)).trans hf266
                          have hf268 := (hfr9 15 (by decide)).trans hf268
                          have hf270 := (hfr9 16 (by decide)).trans hf270
                          have hf272 := (hgr9 17 (by decide)).trans hf272
                          have hf274 := (hfr9 19 (by decide)).trans hf274
                          obtain ⟨v284, hf283⟩ : ∃ z : Int32, F 23 = z := ⟨_, rfl⟩
                          have hq_v284 := tk_rng v284
                          rw [hf283] at hpo276 hpo278
                          have hr_v284 : 0 ≤ v284.toInt ∧ v284.toInt ≤ 400 := hIF.at hf283
                          obtain ⟨v286, hf285⟩ : ∃ z : Int32, F 29 = z := ⟨_, rfl⟩
                          have hq_v286 := tk_rng v286
                          rw [hf285] at hpo276 hpo277
                          have hr_v286 : 0 ≤ v286.toInt ∧ v286.toInt ≤ 400 := hIF.at hf285
                          have hs9 := hx279 (by omega)
                          rw [hf283, hf285] at hs9
                          have hPI : PI (R 24) (R 25) (R 27) (R 28) zs v284.toInt.toNat v286.toInt.toNat 1 := hs9.1
                          have hLo := And.intro (hLo.1.trans hs9.2.1 (Nat.le_refl _)) (hLo.2.trans hs9.2.2 (Nat.le_refl _))
                          rw [hf285] at hx280 hx281
                          have hsb := hx280
                          have hst := hx281
                          have hSq := hSq.to (pd1 := v286.toInt.toNat) (hrr9 27 (by decide)) (by omega)
                          have hinn0 := hinn
                          have hinn : inn (R 27) gd.toInt.toNat v41.toInt := by rw [hrr9 27 (by decide)]; exact hinn0
                          refine lv_aload_n hx hb dX13_behindSum_239 rfl (lv_at hl 2 rfl) ?_
                          refine lv_iload_n hx hb dX13_behindSum_240 rfl (lv_at hl 0 rfl) ?_
                          refine lv_iconst (v := 0) hx hb dX13_behindSum_241 (by decide) ?_
                          have hk_27 : (27 : Int32).toInt = 27 := by decide
                          have hk_0 : (0 : Int32).toInt = 0 := by decide
                          refine mz_Vv (As := [.int 27, .int 0]) (rest := []) ⟨hx, hb, hml, hown, hts⟩ hK hM hS (k_X13_push l D cy ld ad am hD _ _ _ _ 27 0 v286 hIF hIG hIR hf285 (by omega) (by omega) (by omega)) ⟨callB_of 2 hts (wl_in mw_728) rfl rfl rfl (htl _ mw_5) (htl _ mw_725) hd_yX13_push ⟨(Nat.le_of_ble_eq_true rfl), (Nat.le_of_ble_eq_true rfl)⟩, htl _ mw_726, htl _ mw_727⟩ rfl hl.1 rfl (Nat.le_of_ble_eq_true rfl) dX13_behindSum_242 ⟨(Nat.le_of_ble_eq_true rfl), (Nat.le_of_ble_eq_true rfl)⟩ (fun H locs F G R S hpo hM hS => ?_)
                          obtain ⟨hIF, hIG, hIR, hfr9, hrr9, hgr9, hpo287, hx288, hx289⟩ := hpo
                          have hFF := mz_fr (K := [14, 15, 16, 18, 19, 23, 29, 30]) (Fa := Fa) hfr9 hFF (by decide)
                          have hRR := mz_fr (K := [24, 25, 27, 28]) (Fa := Ra) hrr9 hRR (by decide)
                          have hGG := mz_fr (K := [17]) (Fa := Ga) hgr9 hGG (by decide)
                          have hg_3 := (hfr9 13 (by decide)).trans hg_3
                          have hf266 := (hfr9 14 (by decide)).trans hf266
                          have hf268 := (hfr9 15 (by decide)).trans hf268
                          have hf270 := (hfr9 16 (by decide)).trans hf270
                          have hf272 := (hgr9 17 (by decide)).trans hf272
                          have hf274 := (hfr9 19 (by decide)).trans hf274
                          have hf283 := (hfr9 23 (by decide)).trans hf283
                          obtain ⟨v292, hf291⟩ : ∃ z : Int32, F 29 = z := ⟨_, rfl⟩
                          have hq_v292 := tk_rng v292
                          rw [hf291] at hpo287
                          have hr_v292 : 0 ≤ v292.toInt ∧ v292.toInt ≤ 400 := hIF.at hf291
                          have hPI : PI (R 24) (R 25) (R 27) (R 28) zs v284.toInt.toNat v292.toInt.toNat 0 := (PI.push (o := 27) hPI (by decide) (by decide) (by decide) (by decide) (Or.inr (Or.inr hSq)) hx288 hx289).to (hrr9 24 (by decide)) (hrr9 25 (by decide)) rfl rfl rfl (by omega)
                          have hLo := And.intro (hLo.1.to (hrr9 24 (by decide))) (hLo.2.to (hrr9 25 (by decide)))
                          have hSq : nSq (R 27) v292.toInt.toNat := (hSq.push hx288 (by decide)).to rfl (by omega)
                          refine lv_iconst (v := 1) hx hb dX13_behindSum_245 (by decide) ?_
                          have hk_1 : (1 : Int32).toInt = 1 := by decide
                          exact mz_iret (v := 1) hx hb hr rfl hlocks ⟨hIF, hIG, hIR, hFF, hRR, hGG, (by rw [hf266, hf268]; omega), (by rw [hf268]; omega), (by rw [hf266, hf268, hf270]; omega), (by rw [hf266, hf268, hf270, hf272]; omega), (by rw [hf266]; omega), (by rw [hf266, hf283, hf291]; omega), (by rw [hf283]; omega), (by rw [hf266, hf274]; omega), (by rw [hf266, hf274]; omega), (by omega), (by omega), (fun _ => ⟨PT.mk hPI (by decide) (fun h9 => absurd h9 (by decide)) (fun h9 => absurd h9 (by decide)) rfl rfl rfl rfl (by rw [hf283]) (by rw [hf291]), hLo⟩)⟩ hM hS dX13_behindSum_246
                      · have hc228 : ¬ (v221.toInt = 0) := fun h9 => c9 ((fi_eq rfl (show (0 : Int32).toInt = 0 by decide)).mpr h9)
                        refine lv_bipush (v := 26) hx hb dX13_behindSum_195 (by decide) ?_
                        refine lv_goto (tgt := 202) hx hb dX13_behindSum_197 (by decide) ?_
                        refine lv_istore_n (lv' := [(2, .int 26), (3, .int v41), (0, .ref am), (1, .int p1)]) hx hb dX13_behindSum_202 rfl hl (by decide) rfl (fun ls hl => ?_)
                        refine lv_aload_n hx hb dX13_behindSum_203 rfl (lv_at hl 2 rfl) ?_
                        refine lv_iload_n hx hb dX13_behindSum_204 rfl (lv_at hl 0 rfl) ?_
                        refine lv_bipush (v := 27) hx hb dX13_behindSum_205 (by decide) ?_
                        refine lv_icmp_ne (tgt := 219) hx hb dX13_behindSum_207 (by decide) (fun _ => ?_) (fun c9 => absurd c9 (by decide))
                        refine lv_iconst (v := 1) hx hb dX13_behindSum_219 (by decide) ?_
                        refine lv_goto (tgt := 224) hx hb dX13_behindSum_220 (by decide) ?_
                        have hk_1 : (1 : Int32).toInt = 1 := by decide
                        refine mz_Vv (As := [.int 1]) (rest := []) ⟨hx, hb, hml, hown, hts⟩ hK hM hS (k_X13_must l D cy ld ad am hD _ _ _ _ 1 gf gt gs gp gw gb hIF hIG hIR hg_0 hg_1 hg_2 hg_3 hg_4 hg_5 (by omega) (by omega) (by omega) (by omega) (by omega) (by omega)) ⟨callB_of 1 hts (wl_in mw_713) rfl rfl rfl (htl _ mw_5) (htl _ mw_710) hd_yX13_must ⟨(Nat.le_of_ble_eq_true rfl), (Nat.le_of_ble_eq_true rfl)⟩, htl _ mw_711, htl _ mw_712⟩ rfl hl.1 rfl (Nat.le_of_ble_eq_true rfl) dX13_behindSum_224 ⟨(Nat.le_of_ble_eq_true rfl), (Nat.le_of_ble_eq_true rfl)⟩ (fun H locs F G R S hpo hM hS => ?_)
                        obtain ⟨hIF, hIG, hIR, hfr9, hrr9, hgr9, hpo293, hpo294, hpo295, hpo296, hpo297, hpo298, hpo299, hpo300⟩ := hpo
                        have hFF := mz_fr (K := [14, 15, 16, 18, 19, 23, 29, 30]) (Fa := Fa) hfr9 (fun _ _ => rfl) (by decide)
                        have hRR := mz_fr (K := [24, 25, 27, 28]) (Fa := Ra) hrr9 (fun _ _ => rfl) (by decide)
                        have hGG := mz_fr (K := [17]) (Fa := Ga) hgr9 (fun _ _ => rfl) (by decide)
                        have hg_3 := (hfr9 13 (by decide)).trans hg_3
                        have hg_6 := (hfr9 23 (by decide)).trans hg_6
                        have hg_7 := (hfr9 29 (by decide)).trans hg_7
                        obtain ⟨v303, hf302⟩ : ∃ z : Int32, F 14 = z := ⟨_, rfl⟩
                        have hq_v303 := tk_rng v303
                        rw [hf302] at hpo293 hpo295 hpo296 hpo297 hpo299
                        have hr_v303 : 0 ≤ v303.toInt ∧ v303.toInt ≤ 400 := hIF.at hf302
                        obtain ⟨v305, hf304⟩ : ∃ z : Int32, F 15 = z := ⟨_, rfl⟩
                        have hq_v305 := tk_rng v305
                        rw [hf304] at hpo293 hpo294 hpo295 hpo296
                        have hr_v305 : 0 ≤ v305.toInt ∧ v305.toInt ≤ 400 := hIF.at hf304
                        obtain ⟨v307, hf306⟩ : ∃ z : Int32, F 16 = z := ⟨_, rfl⟩
                        have hq_v307 := tk_rng v307
                        rw [hf306] at hpo295 hpo296
                        have hr_v307 : 0 ≤ v307.toInt ∧ v307.toInt ≤ 3 := hIF.at hf306
                        obtain ⟨w309, hf308⟩ : ∃ z : Int64, G 17 = z := ⟨_, rfl⟩
                        have hq_w309 := tk_rngL w309
                        rw [hf308] at hpo296
                        obtain ⟨v311, hf310⟩ : ∃ z : Int32, F 19 = z := ⟨_, rfl⟩
                        have hq_v311 := tk_rng v311
                        rw [hf310] at hpo298 hpo299 hpo300
                        have hr_v311 : 0 ≤ v311.toInt ∧ v311.toInt ≤ 1 := hIF.at hf310
                        have hPI := hPI.to (hrr9 24 (by decide)) (hrr9 25 (by decide)) (hrr9 27 (by decide)) (hrr9 28 (by decide)) rfl rfl
                        have hLo := And.intro (hLo.1.to (hrr9 24 (by decide))) (hLo.2.to (hrr9 25 (by decide)))
                        have hSq := hSq.to (hrr9 27 (by decide)) (Nat.le_refl _)
                        have hinn0 := hinn
                        have hinn : inn (R 27) gd.toInt.toNat v41.toInt := by rw [hrr9 27 (by decide)]; exact hinn0
                        refine lv_aload_n hx hb dX13_behindSum_227 rfl (lv_at hl 2 rfl) ?_
                        refine mz_getI hx hb htl hown hK hM 19 (Nat.le_of_ble_eq_true rfl) rfl (htl _ mw_668) (fun _ h9 => h9) dX13_behindSum_228 (fun v9 e9 => ?_)
                        refine fx_ti (v := v311) (e9.symm.trans hf310) ?_
                        refine lv_if_ne (tgt := 245) hx hb dX13_behindSum_231 (by decide) (fun c9 => absurd ((fi_eq rfl (show (0 : Int32).toInt = 0 by decide)).mpr (show v311.toInt = 0 by omega)) c9) (fun _ => ?_)
                        refine lv_aload_n hx hb dX13_behindSum_234 rfl (lv_at hl 2 rfl) ?_
                        refine lv_iconst (v := 5) hx hb dX13_behindSum_235 (by decide) ?_
                        have hk_5 : (5 : Int32).toInt = 5 := by decide
                        refine mz_Vv (As := [.int 5]) (rest := []) ⟨hx, hb, hml, hown, hts⟩ hK hM hS (k_X13_settle l D cy ld ad am hD _ _ _ _ 5 gc gd v311 zs hIF hIG hIR hg_6 hg_7 hf310 (by omega) (by omega) (by omega) (fun _ => hPI)) ⟨callB_of 1 hts (wl_in mw_773) rfl rfl rfl (htl _ mw_5) (htl _ mw_770) hd_yX13_settle ⟨(Nat.le_of_ble_eq_true rfl), (Nat.le_of_ble_eq_true rfl)⟩, htl _ mw_771, htl _ mw_772⟩ rfl hl.1 rfl (Nat.le_of_ble_eq_true rfl) dX13_behindSum_236 ⟨(Nat.le_of_ble_eq_true rfl), (Nat.le_of_ble_eq_true rfl)⟩ (fun H locs F G R S hpo hM hS => ?_)
                        obtain ⟨hIF, hIG, hIR, hfr9, hrr9, hgr9, hpo312, hpo313, hpo314, hx315, hx316, hx317⟩ := hpo
                        have hFF := mz_fr (K := [14, 15, 16, 18, 19, 23, 29, 30]) (Fa := Fa) hfr9 hFF (by decide)
                        have hRR := mz_fr (K := [24, 25, 27, 28]) (Fa := Ra) hrr9 hRR (by decide)
                        have hGG := mz_fr (K := [17]) (Fa := Ga) hgr9 hGG (by decide)
                        have hg_3 := (hfr9 13 (by decide)).trans hg_3
                        have hf302 := (hfr9 14 (by decide)).trans hf302
                        have hf304 := (hfr9 15 (by decide)).trans hf304
                        have hf306 := (hfr9 16 (by decide)).trans hf306
                        have hf308 := (hgr9 17 (by decide)).trans hf308
                        have hf310 := (hfr9 19 (by decide)).trans hf310
                        obtain ⟨v320, hf319⟩ : ∃ z : Int32, F 23 = z := ⟨_, rfl⟩
                        have hq_v320 := tk_rng v320
                        rw [hf319] at hpo312 hpo314
                        have hr_v320 : 0 ≤ v320.toInt ∧ v320.toInt ≤ 400 := hIF.at hf319
                        obtain ⟨v322, hf321⟩ : ∃ z : Int32, F 29 = z := ⟨_, rfl⟩
                        have hq_v322 := tk_rng v322
                        rw [hf321] at hpo312 hpo313
                        have hr_v322 : 0 ≤ v322.toInt ∧ v322.toInt ≤ 400 := hIF.at hf321
                        have hs9 := hx315 (by omega)
                        rw [hf319, hf321] at hs9
                        have hPI : PI (R 24) (R 25) (R 27) (R 28) zs v320.toInt.toNat v322.toInt.toNat 1 := hs9.1
                        have hLo := And.intro (hLo.1.trans hs9.2.1 (Nat.le_refl _)) (hLo.2.trans hs9.2.2 (Nat.le_refl _))
                        rw [hf321] at hx316 hx317
                        have hsb := hx316
                        have hst := hx317
                        have hSq := hSq.to (pd1 := v322.toInt.toNat) (hrr9 27 (by decide)) (by omega)
                        have hinn0 := hinn
                        have hinn : inn (R 27) gd.toInt.toNat v41.toInt := by rw [hrr9 27 (by decide)]; exact hinn0
                        refine lv_aload_n hx hb dX13_behindSum_239 rfl (lv_at hl 2 rfl) ?_
                        refine lv_iload_n hx hb dX13_behindSum_240 rfl (lv_at hl 0 rfl) ?_
                        refine lv_iconst (v := 0) hx hb dX13_behindSum_241 (by decide) ?_
                        have hk_26 : (26 : Int32).toInt = 26 := by decide
                        have hk_0 : (0 : Int32).toInt = 0 := by decide
                        refine mz_Vv (As := [.int 26, .int 0]) (rest := []) ⟨hx, hb, hml, hown, hts⟩ hK hM hS (k_X13_push l D cy ld ad am hD _ _ _ _ 26 0 v322 hIF hIG hIR hf321 (by omega) (by omega) (by omega)) ⟨callB_of 2 hts (wl_in mw_728) rfl rfl rfl (htl _ mw_5) (htl _ mw_725) hd_yX13_push ⟨(Nat.le_of_ble_eq_true rfl), (Nat.le_of_ble_eq_true rfl)⟩, htl _ mw_726, htl _ mw_727⟩ rfl hl.1 rfl (Nat.le_of_ble_eq_true rfl) dX13_behindSum_242 ⟨(Nat.le_of_ble_eq_true rfl), (Nat.le_of_ble_eq_true rfl)⟩ (fun H locs F G R S hpo hM hS => ?_)
                        obtain ⟨hIF, hIG, hIR, hfr9, hrr9, hgr9, hpo323, hx324, hx325⟩ := hpo
                        have hFF := mz_fr (K := [14, 15, 16, 18, 19, 23, 29, 30]) (Fa := Fa) hfr9 hFF (by decide)
                        have hRR := mz_fr (K := [24, 25, 27, 28]) (Fa := Ra) hrr9 hRR (by decide)
                        have hGG := mz_fr (K := [17]) (Fa := Ga) hgr9 hGG (by decide)
                        have hg_3 := (hfr9 13 (by decide)).trans hg_3
                        have hf302 := (hfr9 14 (by decide)).trans hf302
                        have hf304 := (hfr9 15 (by decide)).trans hf304
                        have hf306 := (hfr9 16 (by decide)).trans hf306
                        have hf308 := (hgr9 17 (by decide)).trans hf308
                        have hf310 := (hfr9 19 (by decide)).trans hf310
                        have hf319 := (hfr9 23 (by decide)).trans hf319
                        obtain ⟨v328, hf327⟩ : ∃ z : Int32, F 29 = z := ⟨_, rfl⟩
                        have hq_v328 := tk_rng v328
                        rw [hf327] at hpo323
                        have hr_v328 : 0 ≤ v328.toInt ∧ v328.toInt ≤ 400 := hIF.at hf327
                        have hPI : PI (R 24) (R 25) (R 27) (R 28) zs v320.toInt.toNat v328.toInt.toNat 0 := (PI.push (o := 26) hPI (by decide) (by decide) (by decide) (by decide) (Or.inr (Or.inr hSq)) hx324 hx325).to (hrr9 24 (by decide)) (hrr9 25 (by decide)) rfl rfl rfl (by omega)
                        have hLo := And.intro (hLo.1.to (hrr9 24 (by decide))) (hLo.2.to (hrr9 25 (by decide)))
                        have hSq : nSq (R 27) v328.toInt.toNat := (hSq.push hx324 (by decide)).to rfl (by omega)
                        refine lv_iconst (v := 1) hx hb dX13_behindSum_245 (by decide) ?_
                        have hk_1 : (1 : Int32).toInt = 1 := by decide
                        exact mz_iret (v := 1) hx hb hr rfl hlocks ⟨hIF, hIG, hIR, hFF, hRR, hGG, (by rw [hf302, hf304]; omega), (by rw [hf304]; omega), (by rw [hf302, hf304, hf306]; omega), (by rw [hf302, hf304, hf306, hf308]; omega), (by rw [hf302]; omega), (by rw [hf302, hf319, hf327]; omega), (by rw [hf319]; omega), (by rw [hf302, hf310]; omega), (by rw [hf302, hf310]; omega), (by omega), (by omega), (fun _ => ⟨PT.mk hPI (by decide) (fun h9 => absurd h9 (by decide)) (fun h9 => absurd h9 (by decide)) rfl rfl rfl rfl (by rw [hf319]) (by rw [hf327]), hLo⟩)⟩ hM hS dX13_behindSum_246
                    · have hc220 : ¬ (v213.toInt = 0) := fun h9 => c9 ((fi_eq rfl (show (0 : Int32).toInt = 0 by decide)).mpr h9)
                      refine lv_bipush (v := 25) hx hb dX13_behindSum_181 (by decide) ?_
                      refine lv_goto (tgt := 202) hx hb dX13_behindSum_183 (by decide) ?_
                      refine lv_istore_n (lv' := [(2, .int 25), (3, .int v41), (0, .ref am), (1, .int p1)]) hx hb dX13_behindSum_202 rfl hl (by decide) rfl (fun ls hl => ?_)
                      refine lv_aload_n hx hb dX13_behindSum_203 rfl (lv_at hl 2 rfl) ?_
                      refine lv_iload_n hx hb dX13_behindSum_204 rfl (lv_at hl 0 rfl) ?_
                      refine lv_bipush (v := 27) hx hb dX13_behindSum_205 (by decide) ?_
                      refine lv_icmp_ne (tgt := 219) hx hb dX13_behindSum_207 (by decide) (fun _ => ?_) (fun c9 => absurd c9 (by decide))
                      refine lv_iconst (v := 1) hx hb dX13_behindSum_219 (by decide) ?_
                      refine lv_goto (tgt := 224) hx hb dX13_behindSum_220 (by decide) ?_
                      have hk_1 : (1 : Int32).toInt = 1 := by decide
                      refine mz_Vv (As := [.int 1]) (rest := []) ⟨hx, hb, hml, hown, hts⟩ hK hM hS (k_X13_must l D cy ld ad am hD _ _ _ _ 1 gf gt gs gp gw gb hIF hIG hIR hg_0 hg_1 hg_2 hg_3 hg_4 hg_5 (by omega) (by omega) (by omega) (by omega) (by omega) (by omega)) ⟨callB_of 1 hts (wl_in mw_713) rfl rfl rfl (htl _ mw_5) (htl _ mw_710) hd_yX13_must ⟨(Nat.le_of_ble_eq_true rfl), (Nat.le_of_ble_eq_true rfl)⟩, htl _ mw_711, htl _ mw_712⟩ rfl hl.1 rfl (Nat.le_of_ble_eq_true rfl) dX13_behindSum_224 ⟨(Nat.le_of_ble_eq_true rfl), (Nat.le_of_ble_eq_true rfl)⟩ (fun H locs F G R S hpo hM hS => ?_)
                      obtain ⟨hIF, hIG, hIR, hfr9, hrr9, hgr9, hpo329, hpo330, hpo331, hpo332, hpo333, hpo334, hpo335, hpo336⟩ := hpo
                      have hFF := mz_fr (K := [14, 15, 16, 18, 19, 23, 29, 30]) (Fa := Fa) hfr9 (fun _ _ => rfl) (by decide)
                      have hRR := mz_fr (K := [24, 25, 27, 28]) (Fa := Ra) hrr9 (fun _ _ => rfl) (by decide)
                      have hGG := mz_fr (K := [17]) (Fa := Ga) hgr9 (fun _ _ => rfl) (by decide)
                      have hg_3 := (hfr9 13 (by decide)).trans hg_3
                      have hg_6 := (hfr9 23 (by decide)).trans hg_6
                      have hg_7 := (hfr9 29 (by decide)).trans hg_7
                      obtain ⟨v339, hf338⟩ : ∃ z : Int32, F 14 = z := ⟨_, rfl⟩
                      have hq_v339 := tk_rng v339
                      rw [hf338] at hpo329 hpo331 hpo332 hpo333 hpo335
                      have hr_v339 : 0 ≤ v339.toInt ∧ v339.toInt ≤ 400 := hIF.at hf338
                      obtain ⟨v341, hf340⟩ : ∃ z : Int32, F 15 = z := ⟨_, rfl⟩
                      have hq_v341 := tk_rng v341
                      rw [hf340] at hpo329 hpo330 hpo331 hpo332
                      have hr_v341 : 0 ≤ v341.toInt ∧ v341.toInt ≤ 400 := hIF.at hf340
                      obtain ⟨v343, hf342⟩ : ∃ z : Int32, F 16 = z := ⟨_, rfl⟩
                      have hq_v343 := tk_rng v343
                      rw [hf342] at hpo331 hpo332
                      have hr_v343 : 0 ≤ v343.toInt ∧ v343.toInt ≤ 3 := hIF.at hf342
                      obtain ⟨w345, hf344⟩ : ∃ z : Int64, G 17 = z := ⟨_, rfl⟩
                      have hq_w345 := tk_rngL w345
                      rw [hf344] at hpo332
                      obtain ⟨v347, hf346⟩ : ∃ z : Int32, F 19 = z := ⟨_, rfl⟩
                      have hq_v347 := tk_rng v347
                      rw [hf346] at hpo334 hpo335 hpo336
                      have hr_v347 : 0 ≤ v347.toInt ∧ v347.toInt ≤ 1 := hIF.at hf346
                      have hPI := hPI.to (hrr9 24 (by decide)) (hrr9 25 (by decide)) (hrr9 27 (by decide)) (hrr9 28 (by decide)) rfl rfl
                      have hLo := And.intro (hLo.1.to (hrr9 24 (by decide))) (hLo.2.to (hrr9 25 (by decide)))
                      have hSq := hSq.to (hrr9 27 (by decide)) (Nat.le_refl _)
                      have hinn0 := hinn
                      have hinn : inn (R 27) gd.toInt.toNat v41.toInt := by rw [hrr9 27 (by decide)]; exact hinn0
                      refine lv_aload_n hx hb dX13_behindSum_227 rfl (lv_at hl 2 rfl) ?_
                      refine mz_getI hx hb htl hown hK hM 19 (Nat.le_of_ble_eq_true rfl) rfl (htl _ mw_668) (fun _ h9 => h9) dX13_behindSum_228 (fun v9 e9 => ?_)
                      refine fx_ti (v := v347) (e9.symm.trans hf346) ?_
                      refine lv_if_ne (tgt := 245) hx hb dX13_behindSum_231 (by decide) (fun c9 => absurd ((fi_eq rfl (show (0 : Int32).toInt = 0 by decide)).mpr (show v347.toInt = 0 by omega)) c9) (fun _ => ?_)
                      refine lv_aload_n hx hb dX13_behindSum_234 rfl (lv_at hl 2 rfl) ?_
                      refine lv_iconst (v := 5) hx hb dX13_behindSum_235 (by decide) ?_
                      have hk_5 : (5 : Int32).toInt = 5 := by decide
                      refine mz_Vv (As := [.int 5]) (rest := []) ⟨hx, hb, hml, hown, hts⟩ hK hM hS (k_X13_settle l D cy ld ad am hD _ _ _ _ 5 gc gd v347 zs hIF hIG hIR hg_6 hg_7 hf346 (by omega) (by omega) (by omega) (fun _ => hPI)) ⟨callB_of 1 hts (wl_in mw_773) rfl rfl rfl (htl _ mw_5) (htl _ mw_770) hd_yX13_settle ⟨(Nat.le_of_ble_eq_true rfl), (Nat.le_of_ble_eq_true rfl)⟩, htl _ mw_771, htl _ mw_772⟩ rfl hl.1 rfl (Nat.le_of_ble_eq_true rfl) dX13_behindSum_236 ⟨(Nat.le_of_ble_eq_true rfl), (Nat.le_of_ble_eq_true rfl)⟩ (fun H locs F G R S hpo hM hS => ?_)
                      obtain ⟨hIF, hIG, hIR, hfr9, hrr9, hgr9, hpo348, hpo349, hpo350, hx351, hx352, hx353⟩ := hpo
                      have hFF := mz_fr (K := [14, 15, 16, 18, 19, 23, 29, 30]) (Fa := Fa) hfr9 hFF (by decide)
                      have hRR := mz_fr (K := [24, 25, 27, 28]) (Fa := Ra) hrr9 hRR (by decide)
                      have hGG := mz_fr (K := [17]) (Fa := Ga) hgr9 hGG (by decide)
                      have hg_3 := (hfr9 13 (by decide)).trans hg_3
                      have hf338 := (hfr9 14 (by decide)).trans hf338
                      have hf340 := (hfr9 15 (by decide)).trans hf340
                      have hf342 := (hfr9 16 (by decide)).trans hf342
                      have hf344 := (hgr9 17 (by decide)).trans hf344
                      have hf346 := (hfr9 19 (by decide)).trans hf346
                      obtain ⟨v356, hf355⟩ : ∃ z : Int32, F 23 = z := ⟨_, rfl⟩
                      have hq_v356 := tk_rng v356
                      rw [hf355] at hpo348 hpo350
                      have hr_v356 : 0 ≤ v356.toInt ∧ v356.toInt ≤ 400 := hIF.at hf355
                      obtain ⟨v358, hf357⟩ : ∃ z : Int32, F 29 = z := ⟨_, rfl⟩
                      have hq_v358 := tk_rng v358
                      rw [hf357] at hpo348 hpo349
                      have hr_v358 : 0 ≤ v358.toInt ∧ v358.toInt ≤ 400 := hIF.at hf357
                      have hs9 := hx351 (by omega)
                      rw [hf355, hf357] at hs9
                      have hPI : PI (R 24) (R 25) (R 27) (R 28) zs v356.toInt.toNat v358.toInt.toNat 1 := hs9.1
                      have hLo := And.intro (hLo.1.trans hs9.2.1 (Nat.le_refl _)) (hLo.2.trans hs9.2.2 (Nat.le_refl _))
                      rw [hf357] at hx352 hx353
                      have hsb := hx352
                      have hst := hx353
                      have hSq := hSq.to (pd1 := v358.toInt.toNat) (hrr9 27 (by decide)) (by omega)
                      have hinn0 := hinn
                      have hinn : inn (R 27) gd.toInt.toNat v41.toInt := by rw [hrr9 27 (by decide)]; exact hinn0
                      refine lv_aload_n hx hb dX13_behindSum_239 rfl (lv_at hl 2 rfl) ?_
                      refine lv_iload_n hx hb dX13_behindSum_240 rfl (lv_at hl 0 rfl) ?_
                      refine lv_iconst (v := 0) hx hb dX13_behindSum_241 (by decide) ?_
                      have hk_25 : (25 : Int32).toInt = 25 := by decide
                      have hk_0 : (0 : Int32).toInt = 0 := by decide
                      refine mz_Vv (As := [.int 25, .int 0]) (rest := []) ⟨hx, hb, hml, hown, hts⟩ hK hM hS (k_X13_push l D cy ld ad am hD _ _ _ _ 25 0 v358 hIF hIG hIR hf357 (by omega) (by omega) (by omega)) ⟨callB_of 2 hts (wl_in mw_728) rfl rfl rfl (htl _ mw_5) (htl _ mw_725) hd_yX13_push ⟨(Nat.le_of_ble_eq_true rfl), (Nat.le_of_ble_eq_true rfl)⟩, htl _ mw_726, htl _ mw_727⟩ rfl hl.1 rfl (Nat.le_of_ble_eq_true rfl) dX13_behindSum_242 ⟨(Nat.le_of_ble_eq_true rfl), (Nat.le_of_ble_eq_true rfl)⟩ (fun H locs F G R S hpo hM hS => ?_)
                      obtain ⟨hIF, hIG, hIR, hfr9, hrr9, hgr9, hpo359, hx360, hx361⟩ := hpo
                      have hFF := mz_fr (K := [14, 15, 16, 18, 19, 23, 29, 30]) (Fa := Fa) hfr9 hFF (by decide)
                      have hRR := mz_fr (K := [24, 25, 27, 28]) (Fa := Ra) hrr9 hRR (by decide)
                      have hGG := mz_fr (K := [17]) (Fa := Ga) hgr9 hGG (by decide)
                      have hg_3 := (hfr9 13 (by decide)).trans hg_3
                      have hf338 := (hfr9 14 (by decide)).trans hf338
                      have hf340 := (hfr9 15 (by decide)).trans hf340
                      have hf342 := (hfr9 16 (by decide)).trans hf342
                      have hf344 := (hgr9 17 (by decide)).trans hf344
                      have hf346 := (hfr9 19 (by decide)).trans hf346
                      have hf355 := (hfr9 23 (by decide)).trans hf355
                      obtain ⟨v364, hf363⟩ : ∃ z : Int32, F 29 = z := ⟨_, rfl⟩
                      have hq_v364 := tk_rng v364
                      rw [hf363] at hpo359
                      have hr_v364 : 0 ≤ v364.toInt ∧ v364.toInt ≤ 400 := hIF.at hf363
                      have hPI : PI (R 24) (R 25) (R 27) (R 28) zs v356.toInt.toNat v364.toInt.toNat 0 := (PI.push (o := 25) hPI (by decide) (by decide) (by decide) (by decide) (Or.inr (Or.inr hSq)) hx360 hx361).to (hrr9 24 (by decide)) (hrr9 25 (by decide)) rfl rfl rfl (by omega)
                      have hLo := And.intro (hLo.1.to (hrr9 24 (by decide))) (hLo.2.to (hrr9 25 (by decide)))
                      have hSq : nSq (R 27) v364.toInt.toNat := (hSq.push hx360 (by decide)).to rfl (by omega)
                      refine lv_iconst (v := 1) hx hb dX13_behindSum_245 (by decide) ?_
                      have hk_1 : (1 : Int32).toInt = 1 := by decide
                      exact mz_iret (v := 1) hx hb hr rfl hlocks ⟨hIF, hIG, hIR, hFF, hRR, hGG, (by rw [hf338, hf340]; omega), (by rw [hf340]; omega), (by rw [hf338, hf340, hf342]; omega), (by rw [hf338, hf340, hf342, hf344]; omega), (by rw [hf338]; omega), (by rw [hf338, hf355, hf363]; omega), (by rw [hf355]; omega), (by rw [hf338, hf346]; omega), (by rw [hf338, hf346]; omega), (by omega), (by omega), (fun _ => ⟨PT.mk hPI (by decide) (fun h9 => absurd h9 (by decide)) (fun h9 => absurd h9 (by decide)) rfl rfl rfl rfl (by rw [hf355]) (by rw [hf363]), hLo⟩)⟩ hM hS dX13_behindSum_246
                  · have hc212 : ¬ (v206.toInt = 0) := fun h9 => c9 ((fi_eq rfl (show (0 : Int32).toInt = 0 by decide)).mpr h9)
                    refine lv_iconst (v := 2) hx hb dX13_behindSum_170 (by decide) ?_
                    have hk_2 : (2 : Int32).toInt = 2 := by decide
                    exact mz_iret (v := 2) hx hb hr rfl hlocks ⟨hIF, hIG, hIR, (fun _ _ => rfl), (fun _ _ => rfl), (fun _ _ => rfl), (by rw [hg_0, hg_1]; omega), (by rw [hg_1]; omega), (by rw [hg_0, hg_1, hg_2]; omega), (by rw [hg_0, hg_1, hg_2, hg_4]; omega), (by rw [hg_0]; omega), (by rw [hg_0, hg_6, hg_7]; omega), (by rw [hg_6]; omega), (by rw [hg_0, hg_5]; omega), (by rw [hg_0, hg_5]; omega), (by omega), (by omega), (fun _ => ⟨PT.mk hPI (by decide) (fun _ => hSq) (fun h9 => absurd h9 (by decide)) rfl rfl rfl rfl (by rw [hg_6]) (by rw [hg_7]), hLo⟩)⟩ hM hS dX13_behindSum_171
                · have hc205 : p1.toInt = 0 := (fi_eq rfl (show (0 : Int32).toInt = 0 by decide)).mp c9
                  refine lv_iconst (v := 4) hx hb dX13_behindSum_161 (by decide) ?_
                  have hk_4 : (4 : Int32).toInt = 4 := by decide
                  have hBr := hinn.1 (by omega)
                  exact mz_iret (v := 4) hx hb hr rfl hlocks ⟨hIF, hIG, hIR, (fun _ _ => rfl), (fun _ _ => rfl), (fun _ _ => rfl), (by rw [hg_0, hg_1]; omega), (by rw [hg_1]; omega), (by rw [hg_0, hg_1, hg_2]; omega), (by rw [hg_0, hg_1, hg_2, hg_4]; omega), (by rw [hg_0]; omega), (by rw [hg_0, hg_6, hg_7]; omega), (by rw [hg_6]; omega), (by rw [hg_0, hg_5]; omega), (by rw [hg_0, hg_5]; omega), (by omega), (by omega), (fun _ => ⟨PT.mk hPI (by decide) (fun h9 => absurd h9 (by decide)) (fun _ => hBr) rfl rfl rfl rfl (by rw [hg_6]) (by rw [hg_7]), hLo⟩)⟩ hM hS dX13_behindSum_162
            · have hc44 : v41.toInt = 32 := (fi_eq rfl (show (32 : Int32).toInt = 32 by decide)).mp c9
              refine lv_aload_n hx hb dX13_behindSum_108 rfl (lv_at hl 2 rfl) ?_
              refine lv_aload_n hx hb dX13_behindSum_109 rfl (lv_at hl 2 rfl) ?_
              refine lv_bipush (v := 93) hx hb dX13_behindSum_110 (by decide) ?_
              have hk_93 : (93 : Int32).toInt = 93 := by decide
              refine mz_Vj (As := [.int 93]) (rest := [.ref am]) ⟨hx, hb, hml, hown, hts⟩ hK hM hS (k_X13_isSign l D cy ld ad am hD _ _ _ _ 93 gs hIF hIG hIR hg_2) ⟨callB_of 1 hts (wl_in mw_732) rfl rfl rfl (htl _ mw_5) (htl _ mw_729) hd_yX13_isSign ⟨(Nat.le_of_ble_eq_true rfl), (Nat.le_of_ble_eq_true rfl)⟩, htl _ mw_730, htl _ mw_731⟩ rfl hl.1 rfl (Nat.le_of_ble_eq_true rfl) dX13_behindSum_112 ⟨(Nat.le_of_ble_eq_true rfl), (Nat.le_of_ble_eq_true rfl)⟩ (fun v365 H locs hpo hM hS => ?_)
              obtain ⟨hpo366, hpo367, hpo368, hpo369, hpo370⟩ := hpo
              have hq_v365 := tk_rng v365
              refine mz_Vv (As := [.int v365]) (rest := []) ⟨hx, hb, hml, hown, hts⟩ hK hM hS (k_X13_must l D cy ld ad am hD _ _ _ _ v365 gf gt gs gp gw gb hIF hIG hIR hg_0 hg_1 hg_2 hg_3 hg_4 hg_5 (by omega) (by omega) (by omega) (by omega) (by omega) (by omega)) ⟨callB_of 1 hts (wl_in mw_713) rfl rfl rfl (htl _ mw_5) (htl _ mw_710) hd_yX13_must ⟨(Nat.le_of_ble_eq_true rfl), (Nat.le_of_ble_eq_true rfl)⟩, htl _ mw_711, htl _ mw_712⟩ rfl hl.1 rfl (Nat.le_of_ble_eq_true rfl) dX13_behindSum_115 ⟨(Nat.le_of_ble_eq_true rfl), (Nat.le_of_ble_eq_true rfl)⟩ (fun H locs F G R S hpo hM hS => ?_)
              obtain ⟨hIF, hIG, hIR, hfr9, hrr9, hgr9, hpo372, hpo373, hpo374, hpo375, hpo376, hpo377, hpo378, hpo379⟩ := hpo
              have hFF := mz_fr (K := [14, 15, 16, 18, 19, 23, 29, 30]) (Fa := Fa) hfr9 (fun _ _ => rfl) (by decide)
              have hRR := mz_fr (K := [24, 25, 27, 28]) (Fa := Ra) hrr9 (fun _ _ => rfl) (by decide)
              have hGG := mz_fr (K := [17]) (Fa := Ga) hgr9 (fun _ _ => rfl) (by decide)
              have hg_3 := (hfr9 13 (by decide)).trans hg_3
              have hg_6 := (hfr9 23 (by decide)).trans hg_6
              have hg_7 := (hfr9 29 (by decide)).trans hg_7
              obtain ⟨v382, hf381⟩ : ∃ z : Int32, F 14 = z := ⟨_, rfl⟩
              have hq_v382 := tk_rng v382
              rw [hf381] at hpo372 hpo374 hpo375 hpo376 hpo378
              have hr_v382 : 0 ≤ v382.toInt ∧ v382.toInt ≤ 400 := hIF.at hf381
              obtain ⟨v384, hf383⟩ : ∃ z : Int32, F 15 = z := ⟨_, rfl⟩
              have hq_v384 := tk_rng v384
              rw [hf383] at hpo372 hpo373 hpo374 hpo375
              have hr_v384 : 0 ≤ v384.toInt ∧ v384.toInt ≤ 400 := hIF.at hf383
              obtain ⟨v386, hf385⟩ : ∃ z : Int32, F 16 = z := ⟨_, rfl⟩
              have hq_v386 := tk_rng v386
              rw [hf385] at hpo374 hpo375
              have hr_v386 : 0 ≤ v386.toInt ∧ v386.toInt ≤ 3 := hIF.at hf385
              obtain ⟨w388, hf387⟩ : ∃ z : Int64, G 17 = z := ⟨_, rfl⟩
              have hq_w388 := tk_rngL w388
              rw [hf387] at hpo375
              obtain ⟨v390, hf389⟩ : ∃ z : Int32, F 19 = z := ⟨_, rfl⟩
              have hq_v390 := tk_rng v390
              rw [hf389] at hpo377 hpo378 hpo379
              have hr_v390 : 0 ≤ v390.toInt ∧ v390.toInt ≤ 1 := hIF.at hf389
              have hPI := hPI.to (hrr9 24 (by decide)) (hrr9 25 (by decide)) (hrr9 27 (by decide)) (hrr9 28 (by decide)) rfl rfl
              have hLo := And.intro (hLo.1.to (hrr9 24 (by decide))) (hLo.2.to (hrr9 25 (by decide)))
              have hinn0 := hinn
              have hinn : inn (R 27) gd.toInt.toNat v41.toInt := by rw [hrr9 27 (by decide)]; exact hinn0
              refine lv_aload_n hx hb dX13_behindSum_118 rfl (lv_at hl 2 rfl) ?_
              refine mz_getI hx hb htl hown hK hM 19 (Nat.le_of_ble_eq_true rfl) rfl (htl _ mw_668) (fun _ h9 => h9) dX13_behindSum_119 (fun v9 e9 => ?_)
              refine fx_ti (v := v390) (e9.symm.trans hf389) ?_
              refine lv_if_ne (tgt := 150) hx hb dX13_behindSum_122 (by decide) (fun c9 => ?_) (fun c9 => ?_)
              · have hc391 : ¬ (v390.toInt = 0) := fun h9 => c9 ((fi_eq rfl (show (0 : Int32).toInt = 0 by decide)).mpr h9)
                refine lv_iconst (v := 3) hx hb dX13_behindSum_150 (by decide) ?_
                have hk_3 : (3 : Int32).toInt = 3 := by decide
                exact mz_iret (v := 3) hx hb hr rfl hlocks ⟨hIF, hIG, hIR, hFF, hRR, hGG, (by rw [hf381, hf383]; omega), (by rw [hf383]; omega), (by rw [hf381, hf383, hf385]; omega), (by rw [hf381, hf383, hf385, hf387]; omega), (by rw [hf381]; omega), (by rw [hf381, hg_6, hg_7]; omega), (by rw [hg_6]; omega), (by rw [hf381, hf389]; omega), (by rw [hf381, hf389]; omega), (by omega), (by omega), (by rw [hf389]; exact fun h9 => absurd h9 (by omega))⟩ hM hS dX13_behindSum_151
              · have hc391 : v390.toInt = 0 := (fi_eq rfl (show (0 : Int32).toInt = 0 by decide)).mp c9
                refine lv_aload_n hx hb dX13_behindSum_125 rfl (lv_at hl 2 rfl) ?_
                refine lv_iconst (v := 5) hx hb dX13_behindSum_126 (by decide) ?_
                have hk_5 : (5 : Int32).toInt = 5 := by decide
                refine mz_Vv (As := [.int 5]) (rest := []) ⟨hx, hb, hml, hown, hts⟩ hK hM hS (k_X13_settle l D cy ld ad am hD _ _ _ _ 5 gc gd v390 zs hIF hIG hIR hg_6 hg_7 hf389 (by omega) (by omega) (by omega) (fun _ => hPI)) ⟨callB_of 1 hts (wl_in mw_773) rfl rfl rfl (htl _ mw_5) (htl _ mw_770) hd_yX13_settle ⟨(Nat.le_of_ble_eq_true rfl), (Nat.le_of_ble_eq_true rfl)⟩, htl _ mw_771, htl _ mw_772⟩ rfl hl.1 rfl (Nat.le_of_ble_eq_true rfl) dX13_behindSum_127 ⟨(Nat.le_of_ble_eq_true rfl), (Nat.le_of_ble_eq_true rfl)⟩ (fun H locs F G R S hpo hM hS => ?_)
                obtain ⟨hIF, hIG, hIR, hfr9, hrr9, hgr9, hpo392, hpo393, hpo394, hx395, hx396, hx397⟩ := hpo
                have hFF := mz_fr (K := [14, 15, 16, 18, 19, 23, 29, 30]) (Fa := Fa) hfr9 hFF (by decide)
                have hRR := mz_fr (K := [24, 25, 27, 28]) (Fa := Ra) hrr9 hRR (by decide)
                have hGG := mz_fr (K := [17]) (Fa := Ga) hgr9 hGG (by decide)
                have hg_3 := (hfr9 13 (by decide)).trans hg_3
                have hf381 := (hfr9 14 (by decide)).trans hf381
                have hf383 := (hfr9 15 (by decide)).trans hf383
                have hf385 := (hfr9 16 (by decide)).trans hf385
                have hf387 := (hgr9 17 (by decide)).trans hf387
                have hf389 := (hfr9 19 (by decide)).trans hf389
                obtain ⟨v400, hf399⟩ : ∃ z : Int32, F 23 = z := ⟨_, rfl⟩
                have hq_v400 := tk_rng v400
                rw [hf399] at hpo392 hpo394
                have hr_v400 : 0 ≤ v400.toInt ∧ v400.toInt ≤ 400 := hIF.at hf399
                obtain ⟨v402, hf401⟩ : ∃ z : Int32, F 29 = z := ⟨_, rfl⟩
                have hq_v402 := tk_rng v402
                rw [hf401] at hpo392 hpo393
                have hr_v402 : 0 ≤ v402.toInt ∧ v402.toInt ≤ 400 := hIF.at hf401
                have hs9 := hx395 (by omega)
                rw [hf399, hf401] at hs9
                have hPI : PI (R 24) (R 25) (R 27) (R 28) zs v400.toInt.toNat v402.toInt.toNat 1 := hs9.1
                have hLo := And.intro (hLo.1.trans hs9.2.1 (Nat.le_refl _)) (hLo.2.trans hs9.2.2 (Nat.le_refl _))
                rw [hf401] at hx396 hx397
                have hsb := hx396
                have hst := hx397
                have hinn0 := hinn
                have hinn : inn (R 27) gd.toInt.toNat v41.toInt := by rw [hrr9 27 (by decide)]; exact hinn0
                have e27 := hrr9 27 (by decide)
                obtain ⟨g1, j9, g2, g3, g4⟩ := hinn0.2 (by omega)
                have h1 := hsb j9 (by omega) (by omega)
                have hd1 : 1 ≤ v402.toInt := by omega
                have htp : 31 ≤ (R 27 (v402.toInt - 1).toNat).toInt := PI.top5 (j := j9) (hPI.to rfl rfl rfl rfl rfl (by omega)) (by omega) (by rw [e27]; omega) (by rw [e27]; exact (hst hd1).2 (by decide))
                have hPI := PI.popbr (pd := (v402.toInt - 1).toNat) (hPI.to rfl rfl rfl rfl rfl (by omega)) htp
                refine lv_aload_n hx hb dX13_behindSum_130 rfl (lv_at hl 2 rfl) ?_
                refine lv_dup hx hb dX13_behindSum_131 rfl ?_
                refine mz_getI hx hb htl hown hK hM 29 (Nat.le_of_ble_eq_true rfl) rfl (htl _ mw_718) (fun _ h9 => h9) dX13_behindSum_132 (fun v9 e9 => ?_)
                refine fx_ti (v := v402) (e9.symm.trans hf401) ?_
                refine lv_iconst (v := 1) hx hb dX13_behindSum_135 (by decide) ?_
                refine lv_isub hx hb dX13_behindSum_136 ?_
                refine tk_sub rfl (show (1 : Int32).toInt = 1 by decide) (by omega) (by omega) (fun v403 h_v403 => ?_)
                refine mz_putI (ty := .int) (x := v403) hx hb htl hown hK hD hM hS 29 (Nat.le_of_ble_eq_true rfl) rfl (htl _ mw_718) (fun _ h9 => h9) rfl (tyX13_ok 29 (by decide)) rfl rfl dX13_behindSum_137 (fun H locs F hM hS hf9 hj9 => ?_)
                have hIF := hIF.put hf9 hj9 (show 0 ≤ (v403 : Int32).toInt by omega) (show (v403 : Int32).toInt ≤ 400 by omega) (by decide)
                have hFF := mz_frp (K := [14, 15, 16, 18, 19, 23, 29, 30]) (Fa := Fa) hj9 hFF (by decide)
                have hg_3 := (hj9 13 (by decide)).trans hg_3
                have hf381 := (hj9 14 (by decide)).trans hf381
                have hf383 := (hj9 15 (by decide)).trans hf383
                have hf385 := (hj9 16 (by decide)).trans hf385
                have hf389 := (hj9 19 (by decide)).trans hf389
                have hf399 := (hj9 23 (by decide)).trans hf399
                have hf405 := hf9
                have hPI : PI (R 24) (R 25) (R 27) (R 28) zs v400.toInt.toNat v403.toInt.toNat 1 := hPI.to rfl rfl rfl rfl rfl (by omega)
                refine lv_aload_n hx hb dX13_behindSum_140 rfl (lv_at hl 2 rfl) ?_
                refine lv_dup hx hb dX13_behindSum_141 rfl ?_
                refine mz_getI hx hb htl hown hK hM 30 (Nat.le_of_ble_eq_true rfl) rfl (htl _ mw_719) (fun _ h9 => h9) dX13_behindSum_142 (fun v407 hf406 => ?_)
                have hq_v407 := tk_rng v407
                refine lv_iconst (v := 1) hx hb dX13_behindSum_145 (by decide) ?_
                refine lv_isub hx hb dX13_behindSum_146 ?_
                obtain ⟨v408, hm_v408⟩ : ∃ z : Int32, v407 - 1 = z := ⟨_, rfl⟩
                refine fx_ti hm_v408 ?_
                refine mz_putI (ty := .int) (x := v408) hx hb htl hown hK hD hM hS 30 (Nat.le_of_ble_eq_true rfl) rfl (htl _ mw_719) (fun _ h9 => h9) rfl (tyX13_ok 30 (by decide)) rfl rfl dX13_behindSum_147 (fun H locs F hM hS hf9 hj9 => ?_)
                have hIF := hIF.put hf9 hj9 (tk_rng _).1 (tk_rng _).2 (by decide)
                have hFF := mz_frp (K := [14, 15, 16, 18, 19, 23, 29, 30]) (Fa := Fa) hj9 hFF (by decide)
                have hg_3 := (hj9 13 (by decide)).trans hg_3
                have hf381 := (hj9 14 (by decide)).trans hf381
                have hf383 := (hj9 15 (by decide)).trans hf383
                have hf385 := (hj9 16 (by decide)).trans hf385
                have hf389 := (hj9 19 (by decide)).trans hf389
                have hf399 := (hj9 23 (by decide)).trans hf399
                have hf405 := (hj9 29 (by decide)).trans hf405
                have hf410 := hf9
                refine lv_iconst (v := 3) hx hb dX13_behindSum_150 (by decide) ?_
                have hk_3 : (3 : Int32).toInt = 3 := by decide
                exact mz_iret (v := 3) hx hb hr rfl hlocks ⟨hIF, hIG, hIR, hFF, hRR, hGG, (by rw [hf381, hf383]; omega), (by rw [hf383]; omega), (by rw [hf381, hf383, hf385]; omega), (by rw [hf381, hf383, hf385, hf387]; omega), (by rw [hf381]; omega), (by rw [hf381, hf399, hf405]; omega), (by rw [hf399]; omega), (by rw [hf381, hf389]; omega), (by rw [hf381, hf389]; omega), (by omega), (by omega), (fun _ => ⟨PT.mk hPI (by decide) (fun h9 => absurd h9 (by decide)) (fun h9 => absurd h9 (by decide)) rfl rfl rfl rfl (by rw [hf399]) (by rw [hf405]), hLo⟩)⟩ hM hS dX13_behindSum_151
          · have hc40 : ¬ (v33.toInt = 0) := fun h9 => c9 ((fi_eq rfl (show (0 : Int32).toInt = 0 by decide)).mpr h9)
            refine lv_bipush (v := 24) hx hb dX13_behindSum_65 (by decide) ?_
            refine lv_goto (tgt := 71) hx hb dX13_behindSum_67 (by decide) ?_
            refine lv_istore_n (lv' := [(2, .int 24), (0, .ref am), (1, .int p1)]) hx hb dX13_behindSum_71 rfl hl (by decide) rfl (fun ls hl => ?_)
            refine lv_iload_n hx hb dX13_behindSum_72 rfl (lv_at hl 0 rfl) ?_
            refine lv_iconst (v := (-1)) hx hb dX13_behindSum_73 (by decide) ?_
            refine lv_icmp_eq (tgt := 97) hx hb dX13_behindSum_74 (by decide) (fun c9 => absurd c9 (by decide)) (fun _ => ?_)
            refine lv_aload_n hx hb dX13_behindSum_77 rfl (lv_at hl 1 rfl) ?_
            refine lv_iload_n hx hb dX13_behindSum_78 rfl (lv_at hl 0 rfl) ?_
            have hk_24 : (24 : Int32).toInt = 24 := by decide
            refine mz_Sj (As := [.int 24]) (rest := [.ref am]) ⟨hx, hb, hml, hown, hts⟩ hK hM hS (k_X13_binds l D cy ld ad am hD _ _ _ _ 24) ⟨callB_of 1 hts (wl_in mw_769) rfl rfl rfl (htl _ mw_5) (htl _ mw_767) hd_yX13_binds ⟨(Nat.le_of_ble_eq_true rfl), (Nat.le_of_ble_eq_true rfl)⟩, htl _ mw_768⟩ rfl hl.1 rfl (Nat.le_of_ble_eq_true rfl) dX13_behindSum_79 ⟨(Nat.le_of_ble_eq_true rfl), (Nat.le_of_ble_eq_true rfl)⟩ (fun v411 H locs hpo hM hS => ?_)
            obtain ⟨hpo412, hpo413, hpo414, hpo415, hpo416, hpo417⟩ := hpo
            have hq_v411 := tk_rng v411
            refine mz_Vv (As := [.int v411]) (rest := []) ⟨hx, hb, hml, hown, hts⟩ hK hM hS (k_X13_settle l D cy ld ad am hD _ _ _ _ v411 gc gd gb zs hIF hIG hIR hg_6 hg_7 hg_5 (by omega) (by omega) (by omega) (fun _ => hPI)) ⟨callB_of 1 hts (wl_in mw_773) rfl rfl rfl (htl _ mw_5) (htl _ mw_770) hd_yX13_settle ⟨(Nat.le_of_ble_eq_true rfl), (Nat.le_of_ble_eq_true rfl)⟩, htl _ mw_771, htl _ mw_772⟩ rfl hl.1 rfl (Nat.le_of_ble_eq_true rfl) dX13_behindSum_82 ⟨(Nat.le_of_ble_eq_true rfl), (Nat.le_of_ble_eq_true rfl)⟩ (fun H locs F G R S hpo hM hS => ?_)
            obtain ⟨hIF, hIG, hIR, hfr9, hrr9, hgr9, hpo419, hpo420, hpo421, hx422, hx423, hx424⟩ := hpo
            have hFF := mz_fr (K := [14, 15, 16, 18, 19, 23, 29, 30]) (Fa := Fa) hfr9 (fun _ _ => rfl) (by decide)
            have hRR := mz_fr (K := [24, 25, 27, 28]) (Fa := Ra) hrr9 (fun _ _ => rfl) (by decide)
            have hGG := mz_fr (K := [17]) (Fa := Ga) hgr9 (fun _ _ => rfl) (by decide)
            have hg_0 := (hfr9 14 (by decide)).trans hg_0
            have hg_1 := (hfr9 15 (by decide)).trans hg_1
            have hg_2 := (hfr9 16 (by decide)).trans hg_2
            have hg_3 := (hfr9 13 (by decide)).trans hg_3
            have hg_4 := (hgr9 17 (by decide)).trans hg_4
            have hg_5 := (hfr9 19 (by decide)).trans hg_5
            obtain ⟨v427, hf426⟩ : ∃ z : Int32, F 23 = z := ⟨_, rfl⟩
            have hq_v427 := tk_rng v427
            rw [hf426] at hpo419 hpo421
            have hr_v427 : 0 ≤ v427.toInt ∧ v427.toInt ≤ 400 := hIF.at hf426
            obtain ⟨v429, hf428⟩ : ∃ z : Int32, F 29 = z := ⟨_, rfl⟩
            have hq_v429 := tk_rng v429
            rw [hf428] at hpo419 hpo420
            have hr_v429 : 0 ≤ v429.toInt ∧ v429.toInt ≤ 400 := hIF.at hf428
            have hs9 := hx422 (by omega)
            rw [hf426, hf428] at hs9
            have hPI : PI (R 24) (R 25) (R 27) (R 28) zs v427.toInt.toNat v429.toInt.toNat 1 := hs9.1
            have hLo := And.intro (hLo.1.trans hs9.2.1 (Nat.le_refl _)) (hLo.2.trans hs9.2.2 (Nat.le_refl _))
            rw [hf428] at hx423 hx424
            have hsb := hx423
            have hst := hx424
            refine lv_aload_n hx hb dX13_behindSum_85 rfl (lv_at hl 1 rfl) ?_
            refine lv_iload_n hx hb dX13_behindSum_86 rfl (lv_at hl 0 rfl) ?_
            refine lv_iconst (v := 0) hx hb dX13_behindSum_87 (by decide) ?_
            have hk_24 : (24 : Int32).toInt = 24 := by decide
            have hk_0 : (0 : Int32).toInt = 0 := by decide
            refine mz_Vv (As := [.int 24, .int 0]) (rest := []) ⟨hx, hb, hml, hown, hts⟩ hK hM hS (k_X13_push l D cy ld ad am hD _ _ _ _ 24 0 v429 hIF hIG hIR hf428 (by omega) (by omega) (by omega)) ⟨callB_of 2 hts (wl_in mw_728) rfl rfl rfl (htl _ mw_5) (htl _ mw_725) hd_yX13_push ⟨(Nat.le_of_ble_eq_true rfl), (Nat.le_of_ble_eq_true rfl)⟩, htl _ mw_726, htl _ mw_727⟩ rfl hl.1 rfl (Nat.le_of_ble_eq_true rfl) dX13_behindSum_88 ⟨(Nat.le_of_ble_eq_true rfl), (Nat.le_of_ble_eq_true rfl)⟩ (fun H locs F G R S hpo hM hS => ?_)
            obtain ⟨hIF, hIG, hIR, hfr9, hrr9, hgr9, hpo430, hx431, hx432⟩ := hpo
            have hFF := mz_fr (K := [14, 15, 16, 18, 19, 23, 29, 30]) (Fa := Fa) hfr9 hFF (by decide)
            have hRR := mz_fr (K := [24, 25, 27, 28]) (Fa := Ra) hrr9 hRR (by decide)
            have hGG := mz_fr (K := [17]) (Fa := Ga) hgr9 hGG (by decide)
            have hg_0 := (hfr9 14 (by decide)).trans hg_0
            have hg_1 := (hfr9 15 (by decide)).trans hg_1
            have hg_2 := (hfr9 16 (by decide)).trans hg_2
            have hg_3 := (hfr9 13 (by decide)).trans hg_3
            have hg_4 := (hgr9 17 (by decide)).trans hg_4
            have hg_5 := (hfr9 19 (by decide)).trans hg_5
            have hf426 := (hfr9 23 (by decide)).trans hf426
            obtain ⟨v435, hf434⟩ : ∃ z : Int32, F 29 = z := ⟨_, rfl⟩
            have hq_v435 := tk_rng v435
            rw [hf434] at hpo430
            have hr_v435 : 0 ≤ v435.toInt ∧ v435.toInt ≤ 400 := hIF.at hf434
            have hPI : PI (R 24) (R 25) (R 27) (R 28) zs v427.toInt.toNat v435.toInt.toNat 0 := (PI.push (o := 24) hPI (by decide) (by decide) (by decide) (by decide) (Or.inl (by decide)) hx431 hx432).to (hrr9 24 (by decide)) (hrr9 25 (by decide)) rfl rfl rfl (by omega)
            have hLo := And.intro (hLo.1.to (hrr9 24 (by decide))) (hLo.2.to (hrr9 25 (by decide)))
            refine lv_aload_n hx hb dX13_behindSum_91 rfl (lv_at hl 1 rfl) ?_
            refine mz_Vv (As := []) (rest := []) ⟨hx, hb, hml, hown, hts⟩ hK hM hS (k_X13_next l D cy ld ad am hD _ _ _ _ gt gp hIF hIG hIR hg_1 hg_3 (by omega)) ⟨callB_of 0 hts (wl_in mw_685) rfl rfl rfl (htl _ mw_5) (htl _ mw_682) hd_yX13_next ⟨(Nat.le_of_ble_eq_true rfl), (Nat.le_of_ble_eq_true rfl)⟩, htl _ mw_683, htl _ mw_684⟩ rfl hl.1 rfl (Nat.le_of_ble_eq_true rfl) dX13_behindSum_92 ⟨(Nat.le_of_ble_eq_true rfl), (Nat.le_of_ble_eq_true rfl)⟩ (fun H locs F G R S hpo hM hS => ?_)
            obtain ⟨hIF, hIG, hIR, hfr9, hrr9, hgr9, hpo436, hpo437, hpo438, hpo439, hpo440⟩ := hpo
            have hFF := mz_fr (K := [14, 15, 16, 18, 19, 23, 29, 30]) (Fa := Fa) hfr9 hFF (by decide)
            have hRR := mz_fr (K := [24, 25, 27, 28]) (Fa := Ra) hrr9 hRR (by decide)
            have hGG := mz_fr (K := [17]) (Fa := Ga) hgr9 hGG (by decide)
            have hg_3 := (hfr9 13 (by decide)).trans hg_3
            have hg_5 := (hfr9 19 (by decide)).trans hg_5
            have hf426 := (hfr9 23 (by decide)).trans hf426
            have hf434 := (hfr9 29 (by decide)).trans hf434
            obtain ⟨v443, hf442⟩ : ∃ z : Int32, F 14 = z := ⟨_, rfl⟩
            have hq_v443 := tk_rng v443
            rw [hf442] at hpo436 hpo437 hpo439 hpo440
            have hr_v443 : 0 ≤ v443.toInt ∧ v443.toInt ≤ 400 := hIF.at hf442
            obtain ⟨v445, hf444⟩ : ∃ z : Int32, F 15 = z := ⟨_, rfl⟩
            have hq_v445 := tk_rng v445
            rw [hf444] at hpo437 hpo438 hpo439 hpo440
            have hr_v445 : 0 ≤ v445.toInt ∧ v445.toInt ≤ 400 := hIF.at hf444
            obtain ⟨v447, hf446⟩ : ∃ z : Int32, F 16 = z := ⟨_, rfl⟩
            have hq_v447 := tk_rng v447
            rw [hf446] at hpo439 hpo440
            have hr_v447 : 0 ≤ v447.toInt ∧ v447.toInt ≤ 3 := hIF.at hf446
            obtain ⟨w449, hf448⟩ : ∃ z : Int64, G 17 = z := ⟨_, rfl⟩
            have hq_w449 := tk_rngL w449
            rw [hf448] at hpo440
            have hPI := hPI.to (hrr9 24 (by decide)) (hrr9 25 (by decide)) (hrr9 27 (by decide)) (hrr9 28 (by decide)) rfl rfl
            have hLo := And.intro (hLo.1.to (hrr9 24 (by decide))) (hLo.2.to (hrr9 25 (by decide)))
            refine lv_iconst (v := 1) hx hb dX13_behindSum_95 (by decide) ?_
            have hk_1 : (1 : Int32).toInt = 1 := by decide
            exact mz_iret (v := 1) hx hb hr rfl hlocks ⟨hIF, hIG, hIR, hFF, hRR, hGG, (by rw [hf442, hf444]; omega), (by rw [hf444]; omega), (by rw [hf442, hf444, hf446]; omega), (by rw [hf442, hf444, hf446, hf448]; omega), (by rw [hf442]; omega), (by rw [hf442, hf426, hf434]; omega), (by rw [hf426]; omega), (by rw [hf442, hg_5]; omega), (by rw [hf442, hg_5]; omega), (by omega), (by omega), (fun _ => ⟨PT.mk hPI (by decide) (fun h9 => absurd h9 (by decide)) (fun h9 => absurd h9 (by decide)) rfl rfl rfl rfl (by rw [hf426]) (by rw [hf434]), hLo⟩)⟩ hM hS dX13_behindSum_96
        · have hc32 : ¬ (v25.toInt = 0) := fun h9 => c9 ((fi_eq rfl (show (0 : Int32).toInt = 0 by decide)).mpr h9)
          refine lv_bipush (v := 23) hx hb dX13_behindSum_51 (by decide) ?_
          refine lv_goto (tgt := 71) hx hb dX13_behindSum_53 (by decide) ?_
          refine lv_istore_n (lv' := [(2, .int 23), (0, .ref am), (1, .int p1)]) hx hb dX13_behindSum_71 rfl hl (by decide) rfl (fun ls hl => ?_)
          refine lv_iload_n hx hb dX13_behindSum_72 rfl (lv_at hl 0 rfl) ?_
          refine lv_iconst (v := (-1)) hx hb dX13_behindSum_73 (by decide) ?_
          refine lv_icmp_eq (tgt := 97) hx hb dX13_behindSum_74 (by decide) (fun c9 => absurd c9 (by decide)) (fun _ => ?_)
          refine lv_aload_n hx hb dX13_behindSum_77 rfl (lv_at hl 1 rfl) ?_
          refine lv_iload_n hx hb dX13_behindSum_78 rfl (lv_at hl 0 rfl) ?_
          have hk_23 : (23 : Int32).toInt = 23 := by decide
          refine mz_Sj (As := [.int 23]) (rest := [.ref am]) ⟨hx, hb, hml, hown, hts⟩ hK hM hS (k_X13_binds l D cy ld ad am hD _ _ _ _ 23) ⟨callB_of 1 hts (wl_in mw_769) rfl rfl rfl (htl _ mw_5) (htl _ mw_767) hd_yX13_binds ⟨(Nat.le_of_ble_eq_true rfl), (Nat.le_of_ble_eq_true rfl)⟩, htl _ mw_768⟩ rfl hl.1 rfl (Nat.le_of_ble_eq_true rfl) dX13_behindSum_79 ⟨(Nat.le_of_ble_eq_true rfl), (Nat.le_of_ble_eq_true rfl)⟩ (fun v450 H locs hpo hM hS => ?_)
          obtain ⟨hpo451, hpo452, hpo453, hpo454, hpo455, hpo456⟩ := hpo
          have hq_v450 := tk_rng v450
          refine mz_Vv (As := [.int v450]) (rest := []) ⟨hx, hb, hml, hown, hts⟩ hK hM hS (k_X13_settle l D cy ld ad am hD _ _ _ _ v450 gc gd gb zs hIF hIG hIR hg_6 hg_7 hg_5 (by omega) (by omega) (by omega) (fun _ => hPI)) ⟨callB_of 1 hts (wl_in mw_773) rfl rfl rfl (htl _ mw_5) (htl _ mw_770) hd_yX13_settle ⟨(Nat.le_of_ble_eq_true rfl), (Nat.le_of_ble_eq_true rfl)⟩, htl _ mw_771, htl _ mw_772⟩ rfl hl.1 rfl (Nat.le_of_ble_eq_true rfl) dX13_behindSum_82 ⟨(Nat.le_of_ble_eq_true rfl), (Nat.le_of_ble_eq_true rfl)⟩ (fun H locs F G R S hpo hM hS => ?_)
          obtain ⟨hIF, hIG, hIR, hfr9, hrr9, hgr9, hpo458, hpo459, hpo460, hx461, hx462, hx463⟩ := hpo
          have hFF := mz_fr (K := [14, 15, 16, 18, 19, 23, 29, 30]) (Fa := Fa) hfr9 (fun _ _ => rfl) (by decide)
          have hRR := mz_fr (K := [24, 25, 27, 28]) (Fa := Ra) hrr9 (fun _ _ => rfl) (by decide)
          have hGG := mz_fr (K := [17]) (Fa := Ga) hgr9 (fun _ _ => rfl) (by decide)
          have hg_0 := (hfr9 14 (by decide)).trans hg_0
          have hg_1 := (hfr9 15 (by decide)).trans hg_1
          have hg_2 := (hfr9 16 (by decide)).trans hg_2
          have hg_3 := (hfr9 13 (by decide)).trans hg_3
          have hg_4 := (hgr9 17 (by decide)).trans hg_4
          have hg_5 := (hfr9 19 (by decide)).trans hg_5
          obtain ⟨v466, hf465⟩ : ∃ z : Int32, F 23 = z := ⟨_, rfl⟩
          have hq_v466 := tk_rng v466
          rw [hf465] at hpo458 hpo460
          have hr_v466 : 0 ≤ v466.toInt ∧ v466.toInt ≤ 400 := hIF.at hf465
          obtain ⟨v468, hf467⟩ : ∃ z : Int32, F 29 = z := ⟨_, rfl⟩
          have hq_v468 := tk_rng v468
          rw [hf467] at hpo458 hpo459
          have hr_v468 : 0 ≤ v468.toInt ∧ v468.toInt ≤ 400 := hIF.at hf467
          have hs9 := hx461 (by omega)
          rw [hf465, hf467] at hs9
          have hPI : PI (R 24) (R 25) (R 27) (R 28) zs v466.toInt.toNat v468.toInt.toNat 1 := hs9.1
          have hLo := And.intro (hLo.1.trans hs9.2.1 (Nat.le_refl _)) (hLo.2.trans hs9.2.2 (Nat.le_refl _))
          rw [hf467] at hx462 hx463
          have hsb := hx462
          have hst := hx463
          refine lv_aload_n hx hb dX13_behindSum_85 rfl (lv_at hl 1 rfl) ?_
          refine lv_iload_n hx hb dX13_behindSum_86 rfl (lv_at hl 0 rfl) ?_
          refine lv_iconst (v := 0) hx hb dX13_behindSum_87 (by decide) ?_
          have hk_23 : (23 : Int32).toInt = 23 := by decide
          have hk_0 : (0 : Int32).toInt = 0 := by decide
          refine mz_Vv (As := [.int 23, .int 0]) (rest := []) ⟨hx, hb, hml, hown, hts⟩ hK hM hS (k_X13_push l D cy ld ad am hD _ _ _ _ 23 0 v468 hIF hIG hIR hf467 (by omega) (by omega) (by omega)) ⟨callB_of 2 hts (wl_in mw_728) rfl rfl rfl (htl _ mw_5) (htl _ mw_725) hd_yX13_push ⟨(Nat.le_of_ble_eq_true rfl), (Nat.le_of_ble_eq_true rfl)⟩, htl _ mw_726, htl _ mw_727⟩ rfl hl.1 rfl (Nat.le_of_ble_eq_true rfl) dX13_behindSum_88 ⟨(Nat.le_of_ble_eq_true rfl), (Nat.le_of_ble_eq_true rfl)⟩ (fun H locs F G R S hpo hM hS => ?_)
          obtain ⟨hIF, hIG, hIR, hfr9, hrr9, hgr9, hpo469, hx470, hx471⟩ := hpo
          have hFF := mz_fr (K := [14, 15, 16, 18, 19, 23, 29, 30]) (Fa := Fa) hfr9 hFF (by decide)
          have hRR := mz_fr (K := [24, 25, 27, 28]) (Fa := Ra) hrr9 hRR (by decide)
          have hGG := mz_fr (K := [17]) (Fa := Ga) hgr9 hGG (by decide)
          have hg_0 := (hfr9 14 (by decide)).trans hg_0
          have hg_1 := (hfr9 15 (by decide)).trans hg_1
          have hg_2 := (hfr9 16 (by decide)).trans hg_2
          have hg_3 := (hfr9 13 (by decide)).trans hg_3
          have hg_4 := (hgr9 17 (by decide)).trans hg_4
          have hg_5 := (hfr9 19 (by decide)).trans hg_5
          have hf465 := (hfr9 23 (by decide)).trans hf465
          obtain ⟨v474, hf473⟩ : ∃ z : Int32, F 29 = z := ⟨_, rfl⟩
          have hq_v474 := tk_rng v474
          rw [hf473] at hpo469
          have hr_v474 : 0 ≤ v474.toInt ∧ v474.toInt ≤ 400 := hIF.at hf473
          have hPI : PI (R 24) (R 25) (R 27) (R 28) zs v466.toInt.toNat v474.toInt.toNat 0 := (PI.push (o := 23) hPI (by decide) (by decide) (by decide) (by decide) (Or.inl (by decide)) hx470 hx471).to (hrr9 24 (by decide)) (hrr9 25 (by decide)) rfl rfl rfl (by omega)
          have hLo := And.intro (hLo.1.to (hrr9 24 (by decide))) (hLo.2.to (hrr9 25 (by decide)))
          refine lv_aload_n hx hb dX13_behindSum_91 rfl (lv_at hl 1 rfl) ?_
          refine mz_Vv (As := []) (rest := []) ⟨hx, hb, hml, hown, hts⟩ hK hM hS (k_X13_next l D cy ld ad am hD _ _ _ _ gt gp hIF hIG hIR hg_1 hg_3 (by omega)) ⟨callB_of 0 hts (wl_in mw_685) rfl rfl rfl (htl _ mw_5) (htl _ mw_682) hd_yX13_next ⟨(Nat.le_of_ble_eq_true rfl), (Nat.le_of_ble_eq_true rfl)⟩, htl _ mw_683, htl _ mw_684⟩ rfl hl.1 rfl (Nat.le_of_ble_eq_true rfl) dX13_behindSum_92 ⟨(Nat.le_of_ble_eq_true rfl), (Nat.le_of_ble_eq_true rfl)⟩ (fun H locs F G R S hpo hM hS => ?_)
          obtain ⟨hIF, hIG, hIR, hfr9, hrr9, hgr9, hpo475, hpo476, hpo477, hpo478, hpo479⟩ := hpo
          have hFF := mz_fr (K := [14, 15, 16, 18, 19, 23, 29, 30]) (Fa := Fa) hfr9 hFF (by decide)
          have hRR := mz_fr (K := [24, 25, 27, 28]) (Fa := Ra) hrr9 hRR (by decide)
          have hGG := mz_fr (K := [17]) (Fa := Ga) hgr9 hGG (by decide)
          have hg_3 := (hfr9 13 (by decide)).trans hg_3
          have hg_5 := (hfr9 19 (by decide)).trans hg_5
          have hf465 := (hfr9 23 (by decide)).trans hf465
          have hf473 := (hfr9 29 (by decide)).trans hf473
          obtain ⟨v482, hf481⟩ : ∃ z : Int32, F 14 = z := ⟨_, rfl⟩
          have hq_v482 := tk_rng v482
          rw [hf481] at hpo475 hpo476 hpo478 hpo479
          have hr_v482 : 0 ≤ v482.toInt ∧ v482.toInt ≤ 400 := hIF.at hf481
          obtain ⟨v484, hf483⟩ : ∃ z : Int32, F 15 = z := ⟨_, rfl⟩
          have hq_v484 := tk_rng v484
          rw [hf483] at hpo476 hpo477 hpo478 hpo479
          have hr_v484 : 0 ≤ v484.toInt ∧ v484.toInt ≤ 400 := hIF.at hf483
          obtain ⟨v486, hf485⟩ : ∃ z : Int32, F 16 = z := ⟨_, rfl⟩
          have hq_v486 := tk_rng v486
          rw [hf485] at hpo478 hpo479
          have hr_v486 : 0 ≤ v486.toInt ∧ v486.toInt ≤ 3 := hIF.at hf485
          obtain ⟨w488, hf487⟩ : ∃ z : Int64, G 17 = z := ⟨_, rfl⟩
          have hq_w488 := tk_rngL w488
          rw [hf487] at hpo479
          have hPI := hPI.to (hrr9 24 (by decide)) (hrr9 25 (by decide)) (hrr9 27 (by decide)) (hrr9 28 (by decide)) rfl rfl
          have hLo := And.intro (hLo.1.to (hrr9 24 (by decide))) (hLo.2.to (hrr9 25 (by decide)))
          refine lv_iconst (v := 1) hx hb dX13_behindSum_95 (by decide) ?_
          have hk_1 : (1 : Int32).toInt = 1 := by decide
          exact mz_iret (v := 1) hx hb hr rfl hlocks ⟨hIF, hIG, hIR, hFF, hRR, hGG, (by rw [hf481, hf483]; omega), (by rw [hf483]; omega), (by rw [hf481, hf483, hf485]; omega), (by rw [hf481, hf483, hf485, hf487]; omega), (by rw [hf481]; omega), (by rw [hf481, hf465, hf473]; omega), (by rw [hf465]; omega), (by rw [hf481, hg_5]; omega), (by rw [hf481, hg_5]; omega), (by omega), (by omega), (fun _ => ⟨PT.mk hPI (by decide) (fun h9 => absurd h9 (by decide)) (fun h9 => absurd h9 (by decide)) rfl rfl rfl rfl (by rw [hf465]) (by rw [hf473]), hLo⟩)⟩ hM hS dX13_behindSum_96
      · have hc24 : ¬ (v17.toInt = 0) := fun h9 => c9 ((fi_eq rfl (show (0 : Int32).toInt = 0 by decide)).mpr h9)
        refine lv_bipush (v := 22) hx hb dX13_behindSum_37 (by decide) ?_
        refine lv_goto (tgt := 71) hx hb dX13_behindSum_39 (by decide) ?_
        refine lv_istore_n (lv' := [(2, .int 22), (0, .ref am), (1, .int p1)]) hx hb dX13_behindSum_71 rfl hl (by decide) rfl (fun ls hl => ?_)
        refine lv_iload_n hx hb dX13_behindSum_72 rfl (lv_at hl 0 rfl) ?_
        refine lv_iconst (v := (-1)) hx hb dX13_behindSum_73 (by decide) ?_
        refine lv_icmp_eq (tgt := 97) hx hb dX13_behindSum_74 (by decide) (fun c9 => absurd c9 (by decide)) (fun _ => ?_)
        refine lv_aload_n hx hb dX13_behindSum_77 rfl (lv_at hl 1 rfl) ?_
        refine lv_iload_n hx hb dX13_behindSum_78 rfl (lv_at hl 0 rfl) ?_
        have hk_22 : (22 : Int32).toInt = 22 := by decide
        refine mz_Sj (As := [.int 22]) (rest := [.ref am]) ⟨hx, hb, hml, hown, hts⟩ hK hM hS (k_X13_binds l D cy ld ad am hD _ _ _ _ 22) ⟨callB_of 1 hts (wl_in mw_769) rfl rfl rfl (htl _ mw_5) (htl _ mw_767) hd_yX13_binds ⟨(Nat.le_of_ble_eq_true rfl), (Nat.le_of_ble_eq_true rfl)⟩, htl _ mw_768⟩ rfl hl.1 rfl (Nat.le_of_ble_eq_true rfl) dX13_behindSum_79 ⟨(Nat.le_of_ble_eq_true rfl), (Nat.le_of_ble_eq_true rfl)⟩ (fun v489 H locs hpo hM hS => ?_)
        obtain ⟨hpo490, hpo491, hpo492, hpo493, hpo494, hpo495⟩ := hpo
        have hq_v489 := tk_rng v489
        refine mz_Vv (As := [.int v489]) (rest := []) ⟨hx, hb, hml, hown, hts⟩ hK hM hS (k_X13_settle l D cy ld ad am hD _ _ _ _ v489 gc gd gb zs hIF hIG hIR hg_6 hg_7 hg_5 (by omega) (by omega) (by omega) (fun _ => hPI)) ⟨callB_of 1 hts (wl_in mw_773) rfl rfl rfl (htl _ mw_5) (htl _ mw_770) hd_yX13_settle ⟨(Nat.le_of_ble_eq_true rfl), (Nat.le_of_ble_eq_true rfl)⟩, htl _ mw_771, htl _ mw_772⟩ rfl hl.1 rfl (Nat.le_of_ble_eq_true rfl) dX13_behindSum_82 ⟨(Nat.le_of_ble_eq_true rfl), (Nat.le_of_ble_eq_true rfl)⟩ (fun H locs F G R S hpo hM hS => ?_)
        obtain ⟨hIF, hIG, hIR, hfr9, hrr9, hgr9, hpo497, hpo498, hpo499, hx500, hx501, hx502⟩ := hpo
        have hFF := mz_fr (K := [14, 15, 16, 18, 19, 23, 29, 30]) (Fa := Fa) hfr9 (fun _ _ => rfl) (by decide)
        have hRR := mz_fr (K := [24, 25, 27, 28]) (Fa := Ra) hrr9 (fun _ _ => rfl) (by decide)
        have hGG := mz_fr (K := [17]) (Fa := Ga) hgr9 (fun _ _ => rfl) (by decide)
        have hg_0 := (hfr9 14 (by decide)).trans hg_0
        have hg_1 := (hfr9 15 (by decide)).trans hg_1
        have hg_2 := (hfr9 16 (by decide)).trans hg_2
        have hg_3 := (hfr9 13 (by decide)).trans hg_3
        have hg_4 := (hgr9 17 (by decide)).trans hg_4
        have hg_5 := (hfr9 19 (by decide)).trans hg_5
        obtain ⟨v505, hf504⟩ : ∃ z : Int32, F 23 = z := ⟨_, rfl⟩
        have hq_v505 := tk_rng v505
        rw [hf504] at hpo497 hpo499
        have hr_v505 : 0 ≤ v505.toInt ∧ v505.toInt ≤ 400 := hIF.at hf504
        obtain ⟨v507, hf506⟩ : ∃ z : Int32, F 29 = z := ⟨_, rfl⟩
        have hq_v507 := tk_rng v507
        rw [hf506] at hpo497 hpo498
        have hr_v507 : 0 ≤ v507.toInt ∧ v507.toInt ≤ 400 := hIF.at hf506
        have hs9 := hx500 (by omega)
        rw [hf504, hf506] at hs9
        have hPI : PI (R 24) (R 25) (R 27) (R 28) zs v505.toInt.toNat v507.toInt.toNat 1 := hs9.1
        have hLo := And.intro (hLo.1.trans hs9.2.1 (Nat.le_refl _)) (hLo.2.trans hs9.2.2 (Nat.le_refl _))
        rw [hf506] at hx501 hx502
        have hsb := hx501
        have hst := hx502
        refine lv_aload_n hx hb dX13_behindSum_85 rfl (lv_at hl 1 rfl) ?_
        refine lv_iload_n hx hb dX13_behindSum_86 rfl (lv_at hl 0 rfl) ?_
        refine lv_iconst (v := 0) hx hb dX13_behindSum_87 (by decide) ?_
        have hk_22 : (22 : Int32).toInt = 22 := by decide
        have hk_0 : (0 : Int32).toInt = 0 := by decide
        refine mz_Vv (As := [.int 22, .int 0]) (rest := []) ⟨hx, hb, hml, hown, hts⟩ hK hM hS (k_X13_push l D cy ld ad am hD _ _ _ _ 22 0 v507 hIF hIG hIR hf506 (by omega) (by omega) (by omega)) ⟨callB_of 2 hts (wl_in mw_728) rfl rfl rfl (htl _ mw_5) (htl _ mw_725) hd_yX13_push ⟨(Nat.le_of_ble_eq_true rfl), (Nat.le_of_ble_eq_true rfl)⟩, htl _ mw_726, htl _ mw_727⟩ rfl hl.1 rfl (Nat.le_of_ble_eq_true rfl) dX13_behindSum_88 ⟨(Nat.le_of_ble_eq_true rfl), (Nat.le_of_ble_eq_true rfl)⟩ (fun H locs F G R S hpo hM hS => ?_)
        obtain ⟨hIF, hIG, hIR, hfr9, hrr9, hgr9, hpo508, hx509, hx510⟩ := hpo
        have hFF := mz_fr (K := [14, 15, 16, 18, 19, 23, 29, 30]) (Fa := Fa) hfr9 hFF (by decide)
        have hRR := mz_fr (K := [24, 25, 27, 28]) (Fa := Ra) hrr9 hRR (by decide)
        have hGG := mz_fr (K := [17]) (Fa := Ga) hgr9 hGG (by decide)
        have hg_0 := (hfr9 14 (by decide)).trans hg_0
        have hg_1 := (hfr9 15 (by decide)).trans hg_1
        have hg_2 := (hfr9 16 (by decide)).trans hg_2
        have hg_3 := (hfr9 13 (by decide)).trans hg_3
        have hg_4 := (hgr9 17 (by decide)).trans hg_4
        have hg_5 := (hfr9 19 (by decide)).trans hg_5
        have hf504 := (hfr9 23 (by decide)).trans hf504
        obtain ⟨v513, hf512⟩ : ∃ z : Int32, F 29 = z := ⟨_, rfl⟩
        have hq_v513 := tk_rng v513
        rw [hf512] at hpo508
        have hr_v513 : 0 ≤ v513.toInt ∧ v513.toInt ≤ 400 := hIF.at hf512
        have hPI : PI (R 24) (R 25) (R 27) (R 28) zs v505.toInt.toNat v513.toInt.toNat 0 := (PI.push (o := 22) hPI (by decide) (by decide) (by decide) (by decide) (Or.inl (by decide)) hx509 hx510).to (hrr9 24 (by decide)) (hrr9 25 (by decide)) rfl rfl rfl (by omega)
        have hLo := And.intro (hLo.1.to (hrr9 24 (by decide))) (hLo.2.to (hrr9 25 (by decide)))
        refine lv_aload_n hx hb dX13_behindSum_91 rfl (lv_at hl 1 rfl) ?_
        refine mz_Vv (As := []) (rest := []) ⟨hx, hb, hml, hown, hts⟩ hK hM hS (k_X13_next l D cy ld ad am hD _ _ _ _ gt gp hIF hIG hIR hg_1 hg_3 (by omega)) ⟨callB_of 0 hts (wl_in mw_685) rfl rfl rfl (htl _ mw_5) (htl _ mw_682) hd_yX13_next ⟨(Nat.le_of_ble_eq_true rfl), (Nat.le_of_ble_eq_true rfl)⟩, htl _ mw_683, htl _ mw_684⟩ rfl hl.1 rfl (Nat.le_of_ble_eq_true rfl) dX13_behindSum_92 ⟨(Nat.le_of_ble_eq_true rfl), (Nat.le_of_ble_eq_true rfl)⟩ (fun H locs F G R S hpo hM hS => ?_)
        obtain ⟨hIF, hIG, hIR, hfr9, hrr9, hgr9, hpo514, hpo515, hpo516, hpo517, hpo518⟩ := hpo
        have hFF := mz_fr (K := [14, 15, 16, 18, 19, 23, 29, 30]) (Fa := Fa) hfr9 hFF (by decide)
        have hRR := mz_fr (K := [24, 25, 27, 28]) (Fa := Ra) hrr9 hRR (by decide)
        have hGG := mz_fr (K := [17]) (Fa := Ga) hgr9 hGG (by decide)
        have hg_3 := (hfr9 13 (by decide)).trans hg_3
        have hg_5 := (hfr9 19 (by decide)).trans hg_5
        have hf504 := (hfr9 23 (by decide)).trans hf504
        have hf512 := (hfr9 29 (by decide)).trans hf512
        obtain ⟨v521, hf520⟩ : ∃ z : Int32, F 14 = z := ⟨_, rfl⟩
        have hq_v521 := tk_rng v521
        rw [hf520] at hpo514 hpo515 hpo517 hpo518
        have hr_v521 : 0 ≤ v521.toInt ∧ v521.toInt ≤ 400 := hIF.at hf520
        obtain ⟨v523, hf522⟩ : ∃ z : Int32, F 15 = z := ⟨_, rfl⟩
        have hq_v523 := tk_rng v523
        rw [hf522] at hpo515 hpo516 hpo517 hpo518
        have hr_v523 : 0 ≤ v523.toInt ∧ v523.toInt ≤ 400 := hIF.at hf522
        obtain ⟨v525, hf524⟩ : ∃ z : Int32, F 16 = z := ⟨_, rfl⟩
        have hq_v525 := tk_rng v525
        rw [hf524] at hpo517 hpo518
        have hr_v525 : 0 ≤ v525.toInt ∧ v525.toInt ≤ 3 := hIF.at hf524
        obtain ⟨w527, hf526⟩ : ∃ z : Int64, G 17 = z := ⟨_, rfl⟩
        have hq_w527 := tk_rngL w527
        rw [hf526] at hpo518
        have hPI := hPI.to (hrr9 24 (by decide)) (hrr9 25 (by decide)) (hrr9 27 (by decide)) (hrr9 28 (by decide)) rfl rfl
        have hLo := And.intro (hLo.1.to (hrr9 24 (by decide))) (hLo.2.to (hrr9 25 (by decide)))
        refine lv_iconst (v := 1) hx hb dX13_behindSum_95 (by decide) ?_
        have hk_1 : (1 : Int32).toInt = 1 := by decide
        exact mz_iret (v := 1) hx hb hr rfl hlocks ⟨hIF, hIG, hIR, hFF, hRR, hGG, (by rw [hf520, hf522]; omega), (by rw [hf522]; omega), (by rw [hf520, hf522, hf524]; omega), (by rw [hf520, hf522, hf524, hf526]; omega), (by rw [hf520]; omega), (by rw [hf520, hf504, hf512]; omega), (by rw [hf504]; omega), (by rw [hf520, hg_5]; omega), (by rw [hf520, hg_5]; omega), (by omega), (by omega), (fun _ => ⟨PT.mk hPI (by decide) (fun h9 => absurd h9 (by decide)) (fun h9 => absurd h9 (by decide)) rfl rfl rfl rfl (by rw [hf504]) (by rw [hf512]), hLo⟩)⟩ hM hS dX13_behindSum_96
    · have hc16 : ¬ (v9.toInt = 0) := fun h9 => c9 ((fi_eq rfl (show (0 : Int32).toInt = 0 by decide)).mpr h9)
      refine lv_bipush (v := 21) hx hb dX13_behindSum_23 (by decide) ?_
      refine lv_goto (tgt := 71) hx hb dX13_behindSum_25 (by decide) ?_
      refine lv_istore_n (lv' := [(2, .int 21), (0, .ref am), (1, .int p1)]) hx hb dX13_behindSum_71 rfl hl (by decide) rfl (fun ls hl => ?_)
      refine lv_iload_n hx hb dX13_behindSum_72 rfl (lv_at hl 0 rfl) ?_
      refine lv_iconst (v := (-1)) hx hb dX13_behindSum_73 (by decide) ?_
      refine lv_icmp_eq (tgt := 97) hx hb dX13_behindSum_74 (by decide) (fun c9 => absurd c9 (by decide)) (fun _ => ?_)
      refine lv_aload_n hx hb dX13_behindSum_77 rfl (lv_at hl 1 rfl) ?_
      refine lv_iload_n hx hb dX13_behindSum_78 rfl (lv_at hl 0 rfl) ?_
      have hk_21 : (21 : Int32).toInt = 21 := by decide
      refine mz_Sj (As := [.int 21]) (rest := [.ref am]) ⟨hx, hb, hml, hown, hts⟩ hK hM hS (k_X13_binds l D cy ld ad am hD _ _ _ _ 21) ⟨callB_of 1 hts (wl_in mw_769) rfl rfl rfl (htl _ mw_5) (htl _ mw_767) hd_yX13_binds ⟨(Nat.le_of_ble_eq_true rfl), (Nat.le_of_ble_eq_true rfl)⟩, htl _ mw_768⟩ rfl hl.1 rfl (Nat.le_of_ble_eq_true rfl) dX13_behindSum_79 ⟨(Nat.le_of_ble_eq_true rfl), (Nat.le_of_ble_eq_true rfl)⟩ (fun v528 H locs hpo hM hS => ?_)
      obtain ⟨hpo529, hpo530, hpo531, hpo532, hpo533, hpo534⟩ := hpo
      have hq_v528 := tk_rng v528
      refine mz_Vv (As := [.int v528]) (rest := []) ⟨hx, hb, hml, hown, hts⟩ hK hM hS (k_X13_settle l D cy ld ad am hD _ _ _ _ v528 gc gd gb zs hIF hIG hIR hg_6 hg_7 hg_5 (by omega) (by omega) (by omega) (fun _ => hPI)) ⟨callB_of 1 hts (wl_in mw_773) rfl rfl rfl (htl _ mw_5) (htl _ mw_770) hd_yX13_settle ⟨(Nat.le_of_ble_eq_true rfl), (Nat.le_of_ble_eq_true rfl)⟩, htl _ mw_771, htl _ mw_772⟩ rfl hl.1 rfl (Nat.le_of_ble_eq_true rfl) dX13_behindSum_82 ⟨(Nat.le_of_ble_eq_true rfl), (Nat.le_of_ble_eq_true rfl)⟩ (fun H locs F G R S hpo hM hS => ?_)
      obtain ⟨hIF, hIG, hIR, hfr9, hrr9, hgr9, hpo536, hpo537, hpo538, hx539, hx540, hx541⟩ := hpo
      have hFF := mz_fr (K := [14, 15, 16, 18, 19, 23, 29, 30]) (Fa := Fa) hfr9 (fun _ _ => rfl) (by decide)
      have hRR := mz_fr (K := [24, 25, 27, 28]) (Fa := Ra) hrr9 (fun _ _ => rfl) (by decide)
      have hGG := mz_fr (K := [17]) (Fa := Ga) hgr9 (fun _ _ => rfl) (by decide)
      have hg_0 := (hfr9 14 (by decide)).trans hg_0
      have hg_1 := (hfr9 15 (by decide)).trans hg_1
      have hg_2 := (hfr9 16 (by decide)).trans hg_2
      have hg_3 := (hfr9 13 (by decide)).trans hg_3
      have hg_4 := (hgr9 17 (by decide)).trans hg_4
      have hg_5 := (hfr9 19 (by decide)).trans hg_5
      obtain ⟨v544, hf543⟩ : ∃ z : Int32, F 23 = z := ⟨_, rfl⟩
      have hq_v544 := tk_rng v544
      rw [hf543] at hpo536 hpo538
      have hr_v544 : 0 ≤ v544.toInt ∧ v544.toInt ≤ 400 := hIF.at hf543
      obtain ⟨v546, hf545⟩ : ∃ z : Int32, F 29 = z := ⟨_, rfl⟩
      have hq_v546 := tk_rng v546
      rw [hf545] at hpo536 hpo537
      have hr_v546 : 0 ≤ v546.toInt ∧ v546.toInt ≤ 400 := hIF.at hf545
      have hs9 := hx539 (by omega)
      rw [hf543, hf545] at hs9
      have hPI : PI (R 24) (R 25) (R 27) (R 28) zs v544.toInt.toNat v546.toInt.toNat 1 := hs9.1
      have hLo := And.intro (hLo.1.trans hs9.2.1 (Nat.le_refl _)) (hLo.2.trans hs9.2.2 (Nat.le_refl _))
      rw [hf545] at hx540 hx541
      have hsb := hx540
      have hst := hx541
      refine lv_aload_n hx hb dX13_behindSum_85 rfl (lv_at hl 1 rfl) ?_
      refine lv_iload_n hx hb dX13_behindSum_86 rfl (lv_at hl 0 rfl) ?_
      refine lv_iconst (v := 0) hx hb dX13_behindSum_87 (by decide) ?_
      have hk_21 : (21 : Int32).toInt = 21 := by decide
      have hk_0 : (0 : Int32).toInt = 0 := by decide
      refine mz_Vv (As := [.int 21, .int 0]) (rest := []) ⟨hx, hb, hml, hown, hts⟩ hK hM hS (k_X13_push l D cy ld ad am hD _ _ _ _ 21 0 v546 hIF hIG hIR hf545 (by omega) (by omega) (by omega)) ⟨callB_of 2 hts (wl_in mw_728) rfl rfl rfl (htl _ mw_5) (htl _ mw_725) hd_yX13_push ⟨(Nat.le_of_ble_eq_true rfl), (Nat.le_of_ble_eq_true rfl)⟩, htl _ mw_726, htl _ mw_727⟩ rfl hl.1 rfl (Nat.le_of_ble_eq_true rfl) dX13_behindSum_88 ⟨(Nat.le_of_ble_eq_true rfl), (Nat.le_of_ble_eq_true rfl)⟩ (fun H locs F G R S hpo hM hS => ?_)
      obtain ⟨hIF, hIG, hIR, hfr9, hrr9, hgr9, hpo547, hx548, hx549⟩ := hpo
      have hFF := mz_fr (K := [14, 15, 16, 18, 19, 23, 29, 30]) (Fa := Fa) hfr9 hFF (by decide)
      have hRR := mz_fr (K := [24, 25, 27, 28]) (Fa := Ra) hrr9 hRR (by decide)
      have hGG := mz_fr (K := [17]) (Fa := Ga) hgr9 hGG (by decide)
      have hg_0 := (hfr9 14 (by decide)).trans hg_0
      have hg_1 := (hfr9 15 (by decide)).trans hg_1
      have hg_2 := (hfr9 16 (by decide)).trans hg_2
      have hg_3 := (hfr9 13 (by decide)).trans hg_3
      have hg_4 := (hgr9 17 (by decide)).trans hg_4
      have hg_5 := (hfr9 19 (by decide)).trans hg_5
      have hf543 := (hfr9 23 (by decide)).trans hf543
      obtain ⟨v552, hf551⟩ : ∃ z : Int32, F 29 = z := ⟨_, rfl⟩
      have hq_v552 := tk_rng v552
      rw [hf551] at hpo547
      have hr_v552 : 0 ≤ v552.toInt ∧ v552.toInt ≤ 400 := hIF.at hf551
      have hPI : PI (R 24) (R 25) (R 27) (R 28) zs v544.toInt.toNat v552.toInt.toNat 0 := (PI.push (o := 21) hPI (by decide) (by decide) (by decide) (by decide) (Or.inl (by decide)) hx548 hx549).to (hrr9 24 (by decide)) (hrr9 25 (by decide)) rfl rfl rfl (by omega)
      have hLo := And.intro (hLo.1.to (hrr9 24 (by decide))) (hLo.2.to (hrr9 25 (by decide)))
      refine lv_aload_n hx hb dX13_behindSum_91 rfl (lv_at hl 1 rfl) ?_
      refine mz_Vv (As := []) (rest := []) ⟨hx, hb, hml, hown, hts⟩ hK hM hS (k_X13_next l D cy ld ad am hD _ _ _ _ gt gp hIF hIG hIR hg_1 hg_3 (by omega)) ⟨callB_of 0 hts (wl_in mw_685) rfl rfl rfl (htl _ mw_5) (htl _ mw_682) hd_yX13_next ⟨(Nat.le_of_ble_eq_true rfl), (Nat.le_of_ble_eq_true rfl)⟩, htl _ mw_683, htl _ mw_684⟩ rfl hl.1 rfl (Nat.le_of_ble_eq_true rfl) dX13_behindSum_92 ⟨(Nat.le_of_ble_eq_true rfl), (Nat.le_of_ble_eq_true rfl)⟩ (fun H locs F G R S hpo hM hS => ?_)
      obtain ⟨hIF, hIG, hIR, hfr9, hrr9, hgr9, hpo553, hpo554, hpo555, hpo556, hpo557⟩ := hpo
      have hFF := mz_fr (K := [14, 15, 16, 18, 19, 23, 29, 30]) (Fa := Fa) hfr9 hFF (by decide)
      have hRR := mz_fr (K := [24, 25, 27, 28]) (Fa := Ra) hrr9 hRR (by decide)
      have hGG := mz_fr (K := [17]) (Fa := Ga) hgr9 hGG (by decide)
      have hg_3 := (hfr9 13 (by decide)).trans hg_3
      have hg_5 := (hfr9 19 (by decide)).trans hg_5
      have hf543 := (hfr9 23 (by decide)).trans hf543
      have hf551 := (hfr9 29 (by decide)).trans hf551
      obtain ⟨v560, hf559⟩ : ∃ z : Int32, F 14 = z := ⟨_, rfl⟩
      have hq_v560 := tk_rng v560
      rw [hf559] at hpo553 hpo554 hpo556 hpo557
      have hr_v560 : 0 ≤ v560.toInt ∧ v560.toInt ≤ 400 := hIF.at hf559
      obtain ⟨v562, hf561⟩ : ∃ z : Int32, F 15 = z := ⟨_, rfl⟩
      have hq_v562 := tk_rng v562
      rw [hf561] at hpo554 hpo555 hpo556 hpo557
      have hr_v562 : 0 ≤ v562.toInt ∧ v562.toInt ≤ 400 := hIF.at hf561
      obtain ⟨v564, hf563⟩ : ∃ z : Int32, F 16 = z := ⟨_, rfl⟩
      have hq_v564 := tk_rng v564
      rw [hf563] at hpo556 hpo557
      have hr_v564 : 0 ≤ v564.toInt ∧ v564.toInt ≤ 3 := hIF.at hf563
      obtain ⟨w566, hf565⟩ : ∃ z : Int64, G 17 = z := ⟨_, rfl⟩
      have hq_w566 := tk_rngL w566
      rw [hf565] at hpo557
      have hPI := hPI.to (hrr9 24 (by decide)) (hrr9 25 (by decide)) (hrr9 27 (by decide)) (hrr9 28 (by decide)) rfl rfl
      have hLo := And.intro (hLo.1.to (hrr9 24 (by decide))) (hLo.2.to (hrr9 25 (by decide)))
      refine lv_iconst (v := 1) hx hb dX13_behindSum_95 (by decide) ?_
      have hk_1 : (1 : Int32).toInt = 1 := by decide
      exact mz_iret (v := 1) hx hb hr rfl hlocks ⟨hIF, hIG, hIR, hFF, hRR, hGG, (by rw [hf559, hf561]; omega), (by rw [hf561]; omega), (by rw [hf559, hf561, hf563]; omega), (by rw [hf559, hf561, hf563, hf565]; omega), (by rw [hf559]; omega), (by rw [hf559, hf543, hf551]; omega), (by rw [hf543]; omega), (by rw [hf559, hg_5]; omega), (by rw [hf559, hg_5]; omega), (by omega), (by omega), (fun _ => ⟨PT.mk hPI (by decide) (fun h9 => absurd h9 (by decide)) (fun h9 => absurd h9 (by decide)) rfl rfl rfl rfl (by rw [hf543]) (by rw [hf551]), hLo⟩)⟩ hM hS dX13_behindSum_96
  · have hc8 : ¬ (v1.toInt = 0) := fun h9 => c9 ((fi_eq rfl (show (0 : Int32).toInt = 0 by decide)).mpr h9)
    refine lv_bipush (v := 20) hx hb dX13_behindSum_9 (by decide) ?_
    refine lv_goto (tgt := 71) hx hb dX13_behindSum_11 (by decide) ?_
    refine lv_istore_n (lv' := [(2, .int 20), (0, .ref am), (1, .int p1)]) hx hb dX13_behindSum_71 rfl hl (by decide) rfl (fun ls hl => ?_)
    refine lv_iload_n hx hb dX13_behindSum_72 rfl (lv_at hl 0 rfl) ?_
    refine lv_iconst (v := (-1)) hx hb dX13_behindSum_73 (by decide) ?_
    refine lv_icmp_eq (tgt := 97) hx hb dX13_behindSum_74 (by decide) (fun c9 => absurd c9 (by decide)) (fun _ => ?_)
    refine lv_aload_n hx hb dX13_behindSum_77 rfl (lv_at hl 1 rfl) ?_
    refine lv_iload_n hx hb dX13_behindSum_78 rfl (lv_at hl 0 rfl) ?_
    have hk_20 : (20 : Int32).toInt = 20 := by decide
    refine mz_Sj (As := [.int 20]) (rest := [.ref am]) ⟨hx, hb, hml, hown, hts⟩ hK hM hS (k_X13_binds l D cy ld ad am hD _ _ _ _ 20) ⟨callB_of 1 hts (wl_in mw_769) rfl rfl rfl (htl _ mw_5) (htl _ mw_767) hd_yX13_binds ⟨(Nat.le_of_ble_eq_true rfl), (Nat.le_of_ble_eq_true rfl)⟩, htl _ mw_768⟩ rfl hl.1 rfl (Nat.le_of_ble_eq_true rfl) dX13_behindSum_79 ⟨(Nat.le_of_ble_eq_true rfl), (Nat.le_of_ble_eq_true rfl)⟩ (fun v567 H locs hpo hM hS => ?_)
    obtain ⟨hpo568, hpo569, hpo570, hpo571, hpo572, hpo573⟩ := hpo
    have hq_v567 := tk_rng v567
    refine mz_Vv (As := [.int v567]) (rest := []) ⟨hx, hb, hml, hown, hts⟩ hK hM hS (k_X13_settle l D cy ld ad am hD _ _ _ _ v567 gc gd gb zs hIF hIG hIR hg_6 hg_7 hg_5 (by omega) (by omega) (by omega) (fun _ => hPI)) ⟨callB_of 1 hts (wl_in mw_773) rfl rfl rfl (htl _ mw_5) (htl _ mw_770) hd_yX13_settle ⟨(Nat.le_of_ble_eq_true rfl), (Nat.le_of_ble_eq_true rfl)⟩, htl _ mw_771, htl _ mw_772⟩ rfl hl.1 rfl (Nat.le_of_ble_eq_true rfl) dX13_behindSum_82 ⟨(Nat.le_of_ble_eq_true rfl), (Nat.le_of_ble_eq_true rfl)⟩ (fun H locs F G R S hpo hM hS => ?_)
    obtain ⟨hIF, hIG, hIR, hfr9, hrr9, hgr9, hpo575, hpo576, hpo577, hx578, hx579, hx580⟩ := hpo
    have hFF := mz_fr (K := [14, 15, 16, 18, 19, 23, 29, 30]) (Fa := Fa) hfr9 (fun _ _ => rfl) (by decide)
    have hRR := mz_fr (K := [24, 25, 27, 28]) (Fa := Ra) hrr9 (fun _ _ => rfl) (by decide)
    have hGG := mz_fr (K := [17]) (Fa := Ga) hgr9 (fun _ _ => rfl) (by decide)
    have hg_0 := (hfr9 14 (by decide)).trans hg_0
    have hg_1 := (hfr9 15 (by decide)).trans hg_1
    have hg_2 := (hfr9 16 (by decide)).trans hg_2
    have hg_3 := (hfr9 13 (by decide)).trans hg_3
    have hg_4 := (hgr9 17 (by decide)).trans hg_4
    have hg_5 := (hfr9 19 (by decide)).trans hg_5
    obtain ⟨v583, hf582⟩ : ∃ z : Int32, F 23 = z := ⟨_, rfl⟩
    have hq_v583 := tk_rng v583
    rw [hf582] at hpo575 hpo577
    have hr_v583 : 0 ≤ v583.toInt ∧ v583.toInt ≤ 400 := hIF.at hf582
    obtain ⟨v585, hf584⟩ : ∃ z : Int32, F 29 = z := ⟨_, rfl⟩
    have hq_v585 := tk_rng v585
    rw [hf584] at hpo575 hpo576
    have hr_v585 : 0 ≤ v585.toInt ∧ v585.toInt ≤ 400 := hIF.at hf584
    have hs9 := hx578 (by omega)
    rw [hf582, hf584] at hs9
    have hPI : PI (R 24) (R 25) (R 27) (R 28) zs v583.toInt.toNat v585.toInt.toNat 1 := hs9.1
    have hLo := And.intro (hLo.1.trans hs9.2.1 (Nat.le_refl _)) (hLo.2.trans hs9.2.2 (Nat.le_refl _))
    rw [hf584] at hx579 hx580
    have hsb := hx579
    have hst := hx580
    refine lv_aload_n hx hb dX13_behindSum_85 rfl (lv_at hl 1 rfl) ?_
    refine lv_iload_n hx hb dX13_behindSum_86 rfl (lv_at hl 0 rfl) ?_
    refine lv_iconst (v := 0) hx hb dX13_behindSum_87 (by decide) ?_
    have hk_20 : (20 : Int32).toInt = 20 := by decide
    have hk_0 : (0 : Int32).toInt = 0 := by decide
    refine mz_Vv (As := [.int 20, .int 0]) (rest := []) ⟨hx, hb, hml, hown, hts⟩ hK hM hS (k_X13_push l D cy ld ad am hD _ _ _ _ 20 0 v585 hIF hIG hIR hf584 (by omega) (by omega) (by omega)) ⟨callB_of 2 hts (wl_in mw_728) rfl rfl rfl (htl _ mw_5) (htl _ mw_725) hd_yX13_push ⟨(Nat.le_of_ble_eq_true rfl), (Nat.le_of_ble_eq_true rfl)⟩, htl _ mw_726, htl _ mw_727⟩ rfl hl.1 rfl (Nat.le_of_ble_eq_true rfl) dX13_behindSum_88 ⟨(Nat.le_of_ble_eq_true rfl), (Nat.le_of_ble_eq_true rfl)⟩ (fun H locs F G R S hpo hM hS => ?_)
    obtain ⟨hIF, hIG, hIR, hfr9, hrr9, hgr9, hpo586, hx587, hx588⟩ := hpo
    have hFF := mz_fr (K := [14, 15, 16, 18, 19, 23, 29, 30]) (Fa := Fa) hfr9 hFF (by decide)
    have hRR := mz_fr (K := [24, 25, 27, 28]) (Fa := Ra) hrr9 hRR (by decide)
    have hGG := mz_fr (K := [17]) (Fa := Ga) hgr9 hGG (by decide)
    have hg_0 := (hfr9 14 (by decide)).trans hg_0
    have hg_1 := (hfr9 15 (by decide)).trans hg_1
    have hg_2 := (hfr9 16 (by decide)).trans hg_2
    have hg_3 := (hfr9 13 (by decide)).trans hg_3
    have hg_4 := (hgr9 17 (by decide)).trans hg_4
    have hg_5 := (hfr9 19 (by decide)).trans hg_5
    have hf582 := (hfr9 23 (by decide)).trans hf582
    obtain ⟨v591, hf590⟩ : ∃ z : Int32, F 29 = z := ⟨_, rfl⟩
    have hq_v591 := tk_rng v591
    rw [hf590] at hpo586
    have hr_v591 : 0 ≤ v591.toInt ∧ v591.toInt ≤ 400 := hIF.at hf590
    have hPI : PI (R 24) (R 25) (R 27) (R 28) zs v583.toInt.toNat v591.toInt.toNat 0 := (PI.push (o := 20) hPI (by decide) (by decide) (by decide) (by decide) (Or.inl (by decide)) hx587 hx588).to (hrr9 24 (by decide)) (hrr9 25 (by decide)) rfl rfl rfl (by omega)
    have hLo := And.intro (hLo.1.to (hrr9 24 (by decide))) (hLo.2.to (hrr9 25 (by decide)))
    refine lv_aload_n hx hb dX13_behindSum_91 rfl (lv_at hl 1 rfl) ?_
    refine mz_Vv (As := []) (rest := []) ⟨hx, hb, hml, hown, hts⟩ hK hM hS (k_X13_next l D cy ld ad am hD _ _ _ _ gt gp hIF hIG hIR hg_1 hg_3 (by omega)) ⟨callB_of 0 hts (wl_in mw_685) rfl rfl rfl (htl _ mw_5) (htl _ mw_682) hd_yX13_next ⟨(Nat.le_of_ble_eq_true rfl), (Nat.le_of_ble_eq_true rfl)⟩, htl _ mw_683, htl _ mw_684⟩ rfl hl.1 rfl (Nat.le_of_ble_eq_true rfl) dX13_behindSum_92 ⟨(Nat.le_of_ble_eq_true rfl), (Nat.le_of_ble_eq_true rfl)⟩ (fun H locs F G R S hpo hM hS => ?_)
    obtain ⟨hIF, hIG, hIR, hfr9, hrr9, hgr9, hpo592, hpo593, hpo594, hpo595, hpo596⟩ := hpo
    have hFF := mz_fr (K := [14, 15, 16, 18, 19, 23, 29, 30]) (Fa := Fa) hfr9 hFF (by decide)
    have hRR := mz_fr (K := [24, 25, 27, 28]) (Fa := Ra) hrr9 hRR (by decide)
    have hGG := mz_fr (K := [17]) (Fa := Ga) hgr9 hGG (by decide)
    have hg_3 := (hfr9 13 (by decide)).trans hg_3
    have hg_5 := (hfr9 19 (by decide)).trans hg_5
    have hf582 := (hfr9 23 (by decide)).trans hf582
    have hf590 := (hfr9 29 (by decide)).trans hf590
    obtain ⟨v599, hf598⟩ : ∃ z : Int32, F 14 = z := ⟨_, rfl⟩
    have hq_v599 := tk_rng v599
    rw [hf598] at hpo592 hpo593 hpo595 hpo596
    have hr_v599 : 0 ≤ v599.toInt ∧ v599.toInt ≤ 400 := hIF.at hf598
    obtain ⟨v601, hf600⟩ : ∃ z : Int32, F 15 = z := ⟨_, rfl⟩
    have hq_v601 := tk_rng v601
    rw [hf600] at hpo593 hpo594 hpo595 hpo596
    have hr_v601 : 0 ≤ v601.toInt ∧ v601.toInt ≤ 400 := hIF.at hf600
    obtain ⟨v603, hf602⟩ : ∃ z : Int32, F 16 = z := ⟨_, rfl⟩
    have hq_v603 := tk_rng v603
    rw [hf602] at hpo595 hpo596
    have hr_v603 : 0 ≤ v603.toInt ∧ v603.toInt ≤ 3 := hIF.at hf602
    obtain ⟨w605, hf604⟩ : ∃ z : Int64, G 17 = z := ⟨_, rfl⟩
    have hq_w605 := tk_rngL w605
    rw [hf604] at hpo596
    have hPI := hPI.to (hrr9 24 (by decide)) (hrr9 25 (by decide)) (hrr9 27 (by decide)) (hrr9 28 (by decide)) rfl rfl
    have hLo := And.intro (hLo.1.to (hrr9 24 (by decide))) (hLo.2.to (hrr9 25 (by decide)))
    refine lv_iconst (v := 1) hx hb dX13_behindSum_95 (by decide) ?_
    have hk_1 : (1 : Int32).toInt = 1 := by decide
    exact mz_iret (v := 1) hx hb hr rfl hlocks ⟨hIF, hIG, hIR, hFF, hRR, hGG, (by rw [hf598, hf600]; omega), (by rw [hf600]; omega), (by rw [hf598, hf600, hf602]; omega), (by rw [hf598, hf600, hf602, hf604]; omega), (by rw [hf598]; omega), (by rw [hf598, hf582, hf590]; omega), (by rw [hf582]; omega), (by rw [hf598, hg_5]; omega), (by rw [hf598, hg_5]; omega), (by omega), (by omega), (fun _ => ⟨PT.mk hPI (by decide) (fun h9 => absurd h9 (by decide)) (fun h9 => absurd h9 (by decide)) rfl rfl rfl rfl (by rw [hf582]) (by rw [hf590]), hLo⟩)⟩ hM hS dX13_behindSum_96
