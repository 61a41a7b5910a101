theorem hd_yX13_inner : yX13_inner.cls ≠ "java/lang/invoke/MethodHandle" ∧ yX13_inner.cls ≠ "java/lang/invoke/VarHandle" ∧ (parseMethodDescriptor yX13_inner.desc).map (fun d => d.parameters.length) = some 0 := by decide +kernel
theorem hd_yX13_isCompared : yX13_isCompared.cls ≠ "java/lang/invoke/MethodHandle" ∧ yX13_isCompared.cls ≠ "java/lang/invoke/VarHandle" ∧ (parseMethodDescriptor yX13_isCompared.desc).map (fun d => d.parameters.length) = some 0 := by decide +kernel
theorem hd_yX13_settle : yX13_settle.cls ≠ "java/lang/invoke/MethodHandle" ∧ yX13_settle.cls ≠ "java/lang/invoke/VarHandle" ∧ (parseMethodDescriptor yX13_settle.desc).map (fun d => d.parameters.length) = some 1 := by decide +kernel
theorem dX13_behindSum_0 : decode cX13_behindSum 0 = .ok (.aload_n 0, 1) := by decide +kernel
theorem dX13_behindSum_1 : decode cX13_behindSum 1 = .ok (.bipush 43, 2) := by decide +kernel
theorem dX13_behindSum_3 : decode cX13_behindSum 3 = .ok (.invokevirtual 309, 3) := by decide +kernel
theorem dX13_behindSum_71 : decode cX13_behindSum 71 = .ok (.istore_n 2, 1) := by decide +kernel
theorem dX13_behindSum_72 : decode cX13_behindSum 72 = .ok (.iload_n 2, 1) := by decide +kernel
theorem dX13_behindSum_73 : decode cX13_behindSum 73 = .ok (.iconst (-1), 1) := by decide +kernel
theorem dX13_behindSum_74 : decode cX13_behindSum 74 = .ok (.if_icmp .eq 23, 3) := by decide +kernel
theorem dX13_behindSum_97 : decode cX13_behindSum 97 = .ok (.aload_n 0, 1) := by decide +kernel
theorem dX13_behindSum_98 : decode cX13_behindSum 98 = .ok (.invokevirtual 345, 3) := by decide +kernel
theorem dX13_behindSum_101 : decode cX13_behindSum 101 = .ok (.istore_n 3, 1) := by decide +kernel
theorem dX13_behindSum_102 : decode cX13_behindSum 102 = .ok (.iload_n 3, 1) := by decide +kernel
theorem dX13_behindSum_103 : decode cX13_behindSum 103 = .ok (.bipush 32, 2) := by decide +kernel
theorem dX13_behindSum_105 : decode cX13_behindSum 105 = .ok (.if_icmp .ne 47, 3) := by decide +kernel
theorem dX13_behindSum_152 : decode cX13_behindSum 152 = .ok (.iload_n 3, 1) := by decide +kernel
theorem dX13_behindSum_153 : decode cX13_behindSum 153 = .ok (.iconst (-1), 1) := by decide +kernel
theorem dX13_behindSum_154 : decode cX13_behindSum 154 = .ok (.if_icmp .ne 9, 3) := by decide +kernel
theorem dX13_behindSum_163 : decode cX13_behindSum 163 = .ok (.aload_n 0, 1) := by decide +kernel
theorem dX13_behindSum_164 : decode cX13_behindSum 164 = .ok (.invokevirtual 348, 3) := by decide +kernel
theorem dX13_behindSum_167 : decode cX13_behindSum 167 = .ok (.ifCond .eq 5, 3) := by decide +kernel
theorem dX13_behindSum_172 : decode cX13_behindSum 172 = .ok (.aload_n 0, 1) := by decide +kernel
theorem dX13_behindSum_173 : decode cX13_behindSum 173 = .ok (.bipush 60, 2) := by decide +kernel
theorem dX13_behindSum_175 : decode cX13_behindSum 175 = .ok (.invokevirtual 309, 3) := by decide +kernel
theorem dX13_behindSum_202 : decode cX13_behindSum 202 = .ok (.istore_n 2, 1) := by decide +kernel
theorem dX13_behindSum_203 : decode cX13_behindSum 203 = .ok (.aload_n 0, 1) := by decide +kernel
theorem dX13_behindSum_204 : decode cX13_behindSum 204 = .ok (.iload_n 2, 1) := by decide +kernel
theorem dX13_behindSum_205 : decode cX13_behindSum 205 = .ok (.bipush 27, 2) := by decide +kernel
theorem dX13_behindSum_224 : decode cX13_behindSum 224 = .ok (.invokevirtual 271, 3) := by decide +kernel
theorem dX13_behindSum_227 : decode cX13_behindSum 227 = .ok (.aload_n 0, 1) := by decide +kernel
theorem dX13_behindSum_228 : decode cX13_behindSum 228 = .ok (.getfield 236, 3) := by decide +kernel
theorem dX13_behindSum_231 : decode cX13_behindSum 231 = .ok (.ifCond .ne 14, 3) := by decide +kernel
theorem dX13_behindSum_245 : decode cX13_behindSum 245 = .ok (.iconst 1, 1) := by decide +kernel
theorem dX13_behindSum_246 : decode cX13_behindSum 246 = .ok (.ireturn, 1) := by decide +kernel
theorem dX13_behindSum_234 : decode cX13_behindSum 234 = .ok (.aload_n 0, 1) := by decide +kernel
theorem dX13_behindSum_235 : decode cX13_behindSum 235 = .ok (.iconst 5, 1) := by decide +kernel
theorem dX13_behindSum_236 : decode cX13_behindSum 236 = .ok (.invokevirtual 342, 3) := by decide +kernel
theorem dX13_behindSum_239 : decode cX13_behindSum 239 = .ok (.aload_n 0, 1) := by decide +kernel
theorem dX13_behindSum_240 : decode cX13_behindSum 240 = .ok (.iload_n 2, 1) := by decide +kernel
theorem dX13_behindSum_241 : decode cX13_behindSum 241 = .ok (.iconst 0, 1) := by decide +kernel
theorem dX13_behindSum_242 : decode cX13_behindSum 242 = .ok (.invokevirtual 303, 3) := by decide +kernel
theorem dX13_behindSum_207 : decode cX13_behindSum 207 = .ok (.if_icmp .ne 12, 3) := by decide +kernel
theorem dX13_behindSum_219 : decode cX13_behindSum 219 = .ok (.iconst 1, 1) := by decide +kernel
theorem dX13_behindSum_220 : decode cX13_behindSum 220 = .ok (.goto 4, 3) := by decide +kernel
theorem dX13_behindSum_210 : decode cX13_behindSum 210 = .ok (.aload_n 0, 1) := by decide +kernel
theorem dX13_behindSum_211 : decode cX13_behindSum 211 = .ok (.bipush 61, 2) := by decide +kernel
theorem dX13_behindSum_213 : decode cX13_behindSum 213 = .ok (.invokevirtual 309, 3) := by decide +kernel
theorem dX13_behindSum_216 : decode cX13_behindSum 216 = .ok (.ifCond .eq 7, 3) := by decide +kernel
theorem dX13_behindSum_223 : decode cX13_behindSum 223 = .ok (.iconst 0, 1) := by decide +kernel
theorem dX13_behindSum_178 : decode cX13_behindSum 178 = .ok (.ifCond .eq 8, 3) := by decide +kernel
theorem dX13_behindSum_186 : decode cX13_behindSum 186 = .ok (.aload_n 0, 1) := by decide +kernel
theorem dX13_behindSum_187 : decode cX13_behindSum 187 = .ok (.bipush 62, 2) := by decide +kernel
theorem dX13_behindSum_189 : decode cX13_behindSum 189 = .ok (.invokevirtual 309, 3) := by decide +kernel
theorem dX13_behindSum_192 : decode cX13_behindSum 192 = .ok (.ifCond .eq 8, 3) := by decide +kernel
theorem dX13_behindSum_200 : decode cX13_behindSum 200 = .ok (.bipush 27, 2) := by decide +kernel
theorem dX13_behindSum_195 : decode cX13_behindSum 195 = .ok (.bipush 26, 2) := by decide +kernel
theorem dX13_behindSum_197 : decode cX13_behindSum 197 = .ok (.goto 5, 3) := by decide +kernel
theorem dX13_behindSum_181 : decode cX13_behindSum 181 = .ok (.bipush 25, 2) := by decide +kernel
theorem dX13_behindSum_183 : decode cX13_behindSum 183 = .ok (.goto 19, 3) := by decide +kernel
theorem dX13_behindSum_170 : decode cX13_behindSum 170 = .ok (.iconst 2, 1) := by decide +kernel
theorem dX13_behindSum_171 : decode cX13_behindSum 171 = .ok (.ireturn, 1) := by decide +kernel
theorem dX13_behindSum_157 : decode cX13_behindSum 157 = .ok (.iload_n 1, 1) := by decide +kernel
theorem dX13_behindSum_158 : decode cX13_behindSum 158 = .ok (.ifCond .ne 5, 3) := by decide +kernel
theorem dX13_behindSum_161 : decode cX13_behindSum 161 = .ok (.iconst 4, 1) := by decide +kernel
theorem dX13_behindSum_162 : decode cX13_behindSum 162 = .ok (.ireturn, 1) := by decide +kernel
theorem dX13_behindSum_108 : decode cX13_behindSum 108 = .ok (.aload_n 0, 1) := by decide +kernel
theorem dX13_behindSum_109 : decode cX13_behindSum 109 = .ok (.aload_n 0, 1) := by decide +kernel
theorem dX13_behindSum_110 : decode cX13_behindSum 110 = .ok (.bipush 93, 2) := by decide +kernel
theorem dX13_behindSum_112 : decode cX13_behindSum 112 = .ok (.invokevirtual 309, 3) := by decide +kernel
theorem dX13_behindSum_115 : decode cX13_behindSum 115 = .ok (.invokevirtual 271, 3) := by decide +kernel
theorem dX13_behindSum_118 : decode cX13_behindSum 118 = .ok (.aload_n 0, 1) := by decide +kernel
theorem dX13_behindSum_119 : decode cX13_behindSum 119 = .ok (.getfield 236, 3) := by decide +kernel
theorem dX13_behindSum_122 : decode cX13_behindSum 122 = .ok (.ifCond .ne 28, 3) := by decide +kernel
theorem dX13_behindSum_150 : decode cX13_behindSum 150 = .ok (.iconst 3, 1) := by decide +kernel
theorem dX13_behindSum_151 : decode cX13_behindSum 151 = .ok (.ireturn, 1) := by decide +kernel
theorem dX13_behindSum_125 : decode cX13_behindSum 125 = .ok (.aload_n 0, 1) := by decide +kernel
theorem dX13_behindSum_126 : decode cX13_behindSum 126 = .ok (.iconst 5, 1) := by decide +kernel
theorem dX13_behindSum_127 : decode cX13_behindSum 127 = .ok (.invokevirtual 342, 3) := by decide +kernel
theorem dX13_behindSum_130 : decode cX13_behindSum 130 = .ok (.aload_n 0, 1) := by decide +kernel
theorem dX13_behindSum_131 : decode cX13_behindSum 131 = .ok (.dup, 1) := by decide +kernel
theorem dX13_behindSum_132 : decode cX13_behindSum 132 = .ok (.getfield 278, 3) := by decide +kernel
theorem dX13_behindSum_135 : decode cX13_behindSum 135 = .ok (.iconst 1, 1) := by decide +kernel
theorem dX13_behindSum_136 : decode cX13_behindSum 136 = .ok (.isub, 1) := by decide +kernel
theorem dX13_behindSum_137 : decode cX13_behindSum 137 = .ok (.putfield 278, 3) := by decide +kernel
theorem dX13_behindSum_140 : decode cX13_behindSum 140 = .ok (.aload_n 0, 1) := by decide +kernel
theorem dX13_behindSum_141 : decode cX13_behindSum 141 = .ok (.dup, 1) := by decide +kernel
theorem dX13_behindSum_142 : decode cX13_behindSum 142 = .ok (.getfield 300, 3) := by decide +kernel
theorem dX13_behindSum_145 : decode cX13_behindSum 145 = .ok (.iconst 1, 1) := by decide +kernel
theorem dX13_behindSum_146 : decode cX13_behindSum 146 = .ok (.isub, 1) := by decide +kernel
theorem dX13_behindSum_147 : decode cX13_behindSum 147 = .ok (.putfield 300, 3) := by decide +kernel
theorem dX13_behindSum_77 : decode cX13_behindSum 77 = .ok (.aload_n 0, 1) := by decide +kernel
theorem dX13_behindSum_78 : decode cX13_behindSum 78 = .ok (.iload_n 2, 1) := by decide +kernel
theorem dX13_behindSum_79 : decode cX13_behindSum 79 = .ok (.invokestatic 281, 3) := by decide +kernel
theorem dX13_behindSum_82 : decode cX13_behindSum 82 = .ok (.invokevirtual 342, 3) := by decide +kernel
theorem dX13_behindSum_85 : decode cX13_behindSum 85 = .ok (.aload_n 0, 1) := by decide +kernel
theorem dX13_behindSum_86 : decode cX13_behindSum 86 = .ok (.iload_n 2, 1) := by decide +kernel
theorem dX13_behindSum_87 : decode cX13_behindSum 87 = .ok (.iconst 0, 1) := by decide +kernel
theorem dX13_behindSum_88 : decode cX13_behindSum 88 = .ok (.invokevirtual 303, 3) := by decide +kernel
theorem dX13_behindSum_91 : decode cX13_behindSum 91 = .ok (.aload_n 0, 1) := by decide +kernel
theorem dX13_behindSum_92 : decode cX13_behindSum 92 = .ok (.invokevirtual 240, 3) := by decide +kernel
theorem dX13_behindSum_95 : decode cX13_behindSum 95 = .ok (.iconst 1, 1) := by decide +kernel
theorem dX13_behindSum_96 : decode cX13_behindSum 96 = .ok (.ireturn, 1) := by decide +kernel
theorem dX13_behindSum_6 : decode cX13_behindSum 6 = .ok (.ifCond .eq 8, 3) := by decide +kernel
theorem dX13_behindSum_14 : decode cX13_behindSum 14 = .ok (.aload_n 0, 1) := by decide +kernel
theorem dX13_behindSum_15 : decode cX13_behindSum 15 = .ok (.bipush 45, 2) := by decide +kernel
theorem dX13_behindSum_17 : decode cX13_behindSum 17 = .ok (.invokevirtual 309, 3) := by decide +kernel
theorem dX13_behindSum_20 : decode cX13_behindSum 20 = .ok (.ifCond .eq 8, 3) := by decide +kernel
theorem dX13_behindSum_28 : decode cX13_behindSum 28 = .ok (.aload_n 0, 1) := by decide +kernel
theorem dX13_behindSum_29 : decode cX13_behindSum 29 = .ok (.bipush 42, 2) := by decide +kernel
theorem dX13_behindSum_31 : decode cX13_behindSum 31 = .ok (.invokevirtual 309, 3) := by decide +kernel
theorem dX13_behindSum_34 : decode cX13_behindSum 34 = .ok (.ifCond .eq 8, 3) := by decide +kernel
theorem dX13_behindSum_42 : decode cX13_behindSum 42 = .ok (.aload_n 0, 1) := by decide +kernel
theorem dX13_behindSum_43 : decode cX13_behindSum 43 = .ok (.bipush 47, 2) := by decide +kernel
theorem dX13_behindSum_45 : decode cX13_behindSum 45 = .ok (.invokevirtual 309, 3) := by decide +kernel
theorem dX13_behindSum_48 : decode cX13_behindSum 48 = .ok (.ifCond .eq 8, 3) := by decide +kernel
theorem dX13_behindSum_56 : decode cX13_behindSum 56 = .ok (.aload_n 0, 1) := by decide +kernel
theorem dX13_behindSum_57 : decode cX13_behindSum 57 = .ok (.bipush 37, 2) := by decide +kernel
theorem dX13_behindSum_59 : decode cX13_behindSum 59 = .ok (.invokevirtual 309, 3) := by decide +kernel
theorem dX13_behindSum_62 : decode cX13_behindSum 62 = .ok (.ifCond .eq 8, 3) := by decide +kernel
theorem dX13_behindSum_70 : decode cX13_behindSum 70 = .ok (.iconst (-1), 1) := by decide +kernel
theorem dX13_behindSum_65 : decode cX13_behindSum 65 = .ok (.bipush 24, 2) := by decide +kernel
theorem dX13_behindSum_67 : decode cX13_behindSum 67 = .ok (.goto 4, 3) := by decide +kernel
theorem dX13_behindSum_51 : decode cX13_behindSum 51 = .ok (.bipush 23, 2) := by decide +kernel
theorem dX13_behindSum_53 : decode cX13_behindSum 53 = .ok (.goto 18, 3) := by decide +kernel
theorem dX13_behindSum_37 : decode cX13_behindSum 37 = .ok (.bipush 22, 2) := by decide +kernel
theorem dX13_behindSum_39 : decode cX13_behindSum 39 = .ok (.goto 32, 3) := by decide +kernel
theorem dX13_behindSum_23 : decode cX13_behindSum 23 = .ok (.bipush 21, 2) := by decide +kernel
theorem dX13_behindSum_25 : decode cX13_behindSum 25 = .ok (.goto 46, 3) := by decide +kernel
theorem dX13_behindSum_9 : decode cX13_behindSum 9 = .ok (.bipush 20, 2) := by decide +kernel
theorem dX13_behindSum_11 : decode cX13_behindSum 11 = .ok (.goto 60, 3) := by decide +kernel
set_option maxHeartbeats 4000000 in
set_option maxRecDepth 100000 in
theorem k_X13_behindSum (l : Launch) (D : va_G) (cy : Nat → ClassId) (ld ad : Nat → Nat) (am : Nat) (hD : mz_D ad am) (Fa : Nat → Int32) (Ga : Nat → Int64) (Ra : Nat → Nat → Int32) (Sa : Nat → Nat → Int64) (p1 : Int32) (gf : Int32) (gt : Int32) (gs : Int32) (gp : Int32) (gw : Int64) (gb : Int32) (gc : Int32) (gd : Int32) (zs : Nat) (hIF : mz_IF false Fa) (hIG : mz_IG Ga) (hIR : mz_IR [] true Ra) (hg_0 : Fa 14 = gf) (hg_1 : Fa 15 = gt) (hg_2 : Fa 16 = gs) (hg_3 : Fa 13 = gp) (hg_4 : Ga 17 = gw) (hg_5 : Fa 19 = gb) (hg_6 : Fa 23 = gc) (hg_7 : Fa 29 = gd) (hp_0 : 0 ≤ p1.toInt) (hp_1 : p1.toInt ≤ 1) (hp_2 : 0 ≤ (-1) * gf.toInt + gt.toInt) (hp_3 : 0 ≤ gp.toInt + (-1) * gt.toInt) (hp_4 : (1 ≤ gs.toInt → 0 ≤ (-1) * gf.toInt + gt.toInt + (-1))) (hp_5 : (27 ≤ gw.toInt → 1 ≤ gs.toInt → gs.toInt ≤ 1 → 0 ≤ (-1) * gf.toInt + gt.toInt + (-2))) (hp_6 : 0 ≤ (-1) * gc.toInt + (-1) * gd.toInt + gf.toInt) (hp_7 : gb.toInt ≤ 0) (hx_0 : PT (Ra 24) (Ra 25) (Ra 27) (Ra 28) zs gc.toInt.toNat gd.toInt.toNat 3) : Met l yX13_behindSum (wl yX13_behindSum cX13_behindSum 4 (some .int)) ({ frames := 6, cells := 0, slots := 0, locals := 350 }) (mz_p D cy ld ad am Fa Ga Ra Sa [.ref am, .int p1]) (mz_i D cy ad am (fun r F G R S => mz_IF false F ∧ mz_IG G ∧ mz_IR [] true R ∧ (∀ k : Nat, k ∉ ([14, 15, 16, 18, 19, 23, 29, 30] : List Nat) → F k = Fa k) ∧ (∀ k : Nat, k ∉ ([24, 25, 27, 28] : List Nat) → R k = Ra k) ∧ (∀ k : Nat, k ∉ ([17] : List Nat) → G k = Ga k) ∧ 0 ≤ (-1) * (F 14).toInt + (F 15).toInt ∧ 0 ≤ gp.toInt + (-1) * (F 15).toInt ∧ (1 ≤ (F 16).toInt → 0 ≤ (-1) * (F 14).toInt + (F 15).toInt + (-1)) ∧ (27 ≤ (G 17).toInt → 1 ≤ (F 16).toInt → (F 16).toInt ≤ 1 → 0 ≤ (-1) * (F 14).toInt + (F 15).toInt + (-2)) ∧ 0 ≤ (-1) * gf.toInt + (F 14).toInt ∧ 0 ≤ (-1) * (F 23).toInt + (-1) * (F 29).toInt + (F 14).toInt ∧ 0 ≤ (-1) * gc.toInt + (F 23).toInt ∧ ((F 19).toInt ≤ 0 → r.toInt ≤ 1 → 0 ≤ (-1) * gf.toInt + (F 14).toInt + (-1)) ∧ ((F 19).toInt ≤ 0 → 3 ≤ r.toInt → r.toInt ≤ 3 → 0 ≤ (-1) * gf.toInt + (F 14).toInt + (-1)) ∧ 1 ≤ r.toInt ∧ r.toInt ≤ 4 ∧ ((F 19).toInt = 0 → PT (R 24) (R 25) (R 27) (R 28) zs (F 23).toInt.toNat (F 29).toInt.toNat r.toInt ∧ low zs (Ra 24) (R 24) ∧ low zs (Ra 25) (R 25)))) 0 0 (mz_W ad am) := by
  refine mz_met (y := yX13_behindSum) (cc := cX13_behindSum) (maxL := 4) (ret := (some .int)) (av := [.ref am, .int p1]) _ (by decide) (Nat.le_of_ble_eq_true rfl) ?_
  intro p e s m args below meth c hx hb hr hml hts htl hown hlocks hK H locs hM hS ls hl
  have hown : s.vm.findClass RX13 = some m.cls := hown
  have hl : lv_has ls 4 [(0, .ref am), (1, .int p1)] := hl
  have hr_p1 := tk_rng p1
  have hq_gf := tk_rng gf
  have hq_gt := tk_rng gt
  have hq_gs := tk_rng gs
  have hq_gp := tk_rng gp
  have hq_gw := tk_rngL gw
  have hq_gb := tk_rng gb
  have hq_gc := tk_rng gc
  have hq_gd := tk_rng gd
  have hr_gf : 0 ≤ gf.toInt ∧ gf.toInt ≤ 400 := hIF.at hg_0
  have hr_gt : 0 ≤ gt.toInt ∧ gt.toInt ≤ 400 := hIF.at hg_1
  have hr_gs : 0 ≤ gs.toInt ∧ gs.toInt ≤ 3 := hIF.at hg_2
  have hr_gp : 0 ≤ gp.toInt ∧ gp.toInt ≤ 400 := hIF.at hg_3
  have hr_gb : 0 ≤ gb.toInt ∧ gb.toInt ≤ 1 := hIF.at hg_5
  have hr_gc : 0 ≤ gc.toInt ∧ gc.toInt ≤ 400 := hIF.at hg_6
  have hr_gd : 0 ≤ gd.toInt ∧ gd.toInt ≤ 400 := hIF.at hg_7
  have hPI : PI (Ra 24) (Ra 25) (Ra 27) (Ra 28) zs gc.toInt.toNat gd.toInt.toNat 1 := hx_0.p (by decide)
  have hLo := And.intro (low.refl zs (Ra 24)) (low.refl zs (Ra 25))
  refine lv_aload_n hx hb dX13_behindSum_0 rfl (lv_at hl 0 rfl) ?_
  refine lv_bipush (v := 43) hx hb dX13_behindSum_1 (by decide) ?_
  have hk_43 : (43 : Int32).toInt = 43 := by decide
  refine mz_Vj (As := [.int 43]) (rest := []) ⟨hx, hb, hml, hown, hts⟩ hK hM hS (k_X13_isSign l D cy ld ad am hD _ _ _ _ 43 gs hIF hIG hIR hg_2) ⟨callB_of 1 hts (wl_in mw_732) rfl rfl rfl (htl _ mw_5) (htl _ mw_729) hd_yX13_isSign ⟨(Nat.le_of_ble_eq_true rfl), (Nat.le_of_ble_eq_true rfl)⟩, htl _ mw_730, htl _ mw_731⟩ rfl hl.1 rfl (Nat.le_of_ble_eq_true rfl) dX13_behindSum_3 ⟨(Nat.le_of_ble_eq_true rfl), (Nat.le_of_ble_eq_true rfl)⟩ (fun v1 H locs hpo hM hS => ?_)
  obtain ⟨hpo2, hpo3, hpo4, hpo5, hpo6⟩ := hpo
  have hq_v1 := tk_rng v1
  have hj45 : ∀ (v43 : Int32) (H : Heap) (locs : List Loc), (v43.toInt ≤ 24) → (0 ≤ (-1) * gb.toInt + v43.toInt + 1) → (mz_S D cy ad am Fa Ga Ra Sa H) → (va_S (mz_W ad am) s.heap H locs) → ((0 ≤ v43.toInt → 20 ≤ v43.toInt ∧ gs.toInt + (-3) = 0)) → ∀ ls : Array Slot, lv_has ls 4 [(0, .ref am), (1, .int p1)] → W p l e ({ frames := 6, cells := 0, slots := 0, locals := 350 }) s m args below meth c H locs 0 0 (MQ below (mz_i D cy ad am (fun r F G R S => mz_IF false F ∧ mz_IG G ∧ mz_IR [] true R ∧ (∀ k : Nat, k ∉ ([14, 15, 16, 18, 19, 23, 29, 30] : List Nat) → F k = Fa k) ∧ (∀ k : Nat, k ∉ ([24, 25, 27, 28] : List Nat) → R k = Ra k) ∧ (∀ k : Nat, k ∉ ([17] : List Nat) → G k = Ga k) ∧ 0 ≤ (-1) * (F 14).toInt + (F 15).toInt ∧ 0 ≤ gp.toInt + (-1) * (F 15).toInt ∧ (1 ≤ (F 16).toInt → 0 ≤ (-1) * (F 14).toInt + (F 15).toInt + (-1)) ∧ (27 ≤ (G 17).toInt → 1 ≤ (F 16).toInt → (F 16).toInt ≤ 1 → 0 ≤ (-1) * (F 14).toInt + (F 15).toInt + (-2)) ∧ 0 ≤ (-1) * gf.toInt + (F 14).toInt ∧ 0 ≤ (-1) * (F 23).toInt + (-1) * (F 29).toInt + (F 14).toInt ∧ 0 ≤ (-1) * gc.toInt + (F 23).toInt ∧ ((F 19).toInt ≤ 0 → r.toInt ≤ 1 → 0 ≤ (-1) * gf.toInt + (F 14).toInt + (-1)) ∧ ((F 19).toInt ≤ 0 → 3 ≤ r.toInt → r.toInt ≤ 3 → 0 ≤ (-1) * gf.toInt + (F 14).toInt + (-1)) ∧ 1 ≤ r.toInt ∧ r.toInt ≤ 4 ∧ ((F 19).toInt = 0 → PT (R 24) (R 25) (R 27) (R 28) zs (F 23).toInt.toNat (F 29).toInt.toNat r.toInt ∧ low zs (Ra 24) (R 24) ∧ low zs (Ra 25) (R 25)))) args s 0 0 (mz_W ad am)) (F0 m 71 ls [.int v43]) := by
    intro v43 H locs hq0_j45 hq1_j45 hM hS hc0_j45 ls hl
    refine lv_istore_n (lv' := [(2, .int v43), (0, .ref am), (1, .int p1)]) hx hb dX13_behindSum_71 rfl hl (by decide) rfl (fun ls hl => ?_)
    refine lv_iload_n hx hb dX13_behindSum_72 rfl (lv_at hl 0 rfl) ?_
    refine lv_iconst (v := (-1)) hx hb dX13_behindSum_73 (by decide) ?_
    refine lv_icmp_eq (tgt := 97) hx hb dX13_behindSum_74 (by decide) (fun c9 => ?_) (fun c9 => ?_)
    · have hc46 : v43.toInt = (-1) := (fi_eq rfl (show ((-1) : Int32).toInt = (-1) by decide)).mp c9
      refine lv_aload_n hx hb dX13_behindSum_97 rfl (lv_at hl 1 rfl) ?_
      refine mz_Vj (As := []) (rest := []) ⟨hx, hb, hml, hown, hts⟩ hK hM hS (k_X13_inner l D cy ld ad am hD _ _ _ _ gd hIF hIG hIR hg_7) ⟨callB_of 0 hts (wl_in mw_777) rfl rfl rfl (htl _ mw_5) (htl _ mw_774) hd_yX13_inner ⟨(Nat.le_of_ble_eq_true rfl), (Nat.le_of_ble_eq_true rfl)⟩, htl _ mw_775, htl _ mw_776⟩ rfl hl.1 rfl (Nat.le_of_ble_eq_true rfl) dX13_behindSum_98 ⟨(Nat.le_of_ble_eq_true rfl), (Nat.le_of_ble_eq_true rfl)⟩ (fun v47 H locs hpo hM hS => ?_)
      have hx48 := hpo
      have hq_v47 := tk_rng v47
      have hinn := hx48
      refine lv_istore_n (lv' := [(3, .int v47), (2, .int v43), (0, .ref am), (1, .int p1)]) hx hb dX13_behindSum_101 rfl hl (by decide) rfl (fun ls hl => ?_)
      refine lv_iload_n hx hb dX13_behindSum_102 rfl (lv_at hl 0 rfl) ?_
      refine lv_bipush (v := 32) hx hb dX13_behindSum_103 (by decide) ?_
      refine lv_icmp_ne (tgt := 152) hx hb dX13_behindSum_105 (by decide) (fun c9 => ?_) (fun c9 => ?_)
      · have hc50 : ¬ (v47.toInt = 32) := fun h9 => c9 ((fi_eq rfl (show (32 : Int32).toInt = 32 by decide)).mpr h9)
        refine lv_iload_n hx hb dX13_behindSum_152 rfl (lv_at hl 0 rfl) ?_
        refine lv_iconst (v := (-1)) hx hb dX13_behindSum_153 (by decide) ?_
        refine lv_icmp_ne (tgt := 163) hx hb dX13_behindSum_154 (by decide) (fun c9 => ?_) (fun c9 => ?_)
        · have hc51 : ¬ (v47.toInt = (-1)) := fun h9 => c9 ((fi_eq rfl (show ((-1) : Int32).toInt = (-1) by decide)).mpr h9)
          refine lv_aload_n hx hb dX13_behindSum_163 rfl (lv_at hl 2 rfl) ?_
          refine mz_Vj (As := []) (rest := []) ⟨hx, hb, hml, hown, hts⟩ hK hM hS (k_X13_isCompared l D cy ld ad am hD _ _ _ _ hIF hIG hIR) ⟨callB_of 0 hts (wl_in mw_781) rfl rfl rfl (htl _ mw_5) (htl _ mw_778) hd_yX13_isCompared ⟨(Nat.le_of_ble_eq_true rfl), (Nat.le_of_ble_eq_true rfl)⟩, htl _ mw_779, htl _ mw_780⟩ rfl hl.1 rfl (Nat.le_of_ble_eq_true rfl) dX13_behindSum_164 ⟨(Nat.le_of_ble_eq_true rfl), (Nat.le_of_ble_eq_true rfl)⟩ (fun v52 H locs hpo hM hS => ?_)
          obtain ⟨hpo53, hpo54, hpo55, hpo56⟩ := hpo
          have hq_v52 := tk_rng v52
          have hSq := hinn.nsq hPI (by omega)
          refine lv_if_eq (tgt := 172) hx hb dX13_behindSum_167 (by decide) (fun c9 => ?_) (fun c9 => ?_)
          · have hc58 : v52.toInt = 0 := (fi_eq rfl (show (0 : Int32).toInt = 0 by decide)).mp c9
            refine lv_aload_n hx hb dX13_behindSum_172 rfl (lv_at hl 2 rfl) ?_
            refine lv_bipush (v := 60) hx hb dX13_behindSum_173 (by decide) ?_
            have hk_60 : (60 : Int32).toInt = 60 := by decide
            refine mz_Vj (As := [.int 60]) (rest := []) ⟨hx, hb, hml, hown, hts⟩ hK hM hS (k_X13_isSign l D cy ld ad am hD _ _ _ _ 60 gs hIF hIG hIR hg_2) ⟨callB_of 1 hts (wl_in mw_732) rfl rfl rfl (htl _ mw_5) (htl _ mw_729) hd_yX13_isSign ⟨(Nat.le_of_ble_eq_true rfl), (Nat.le_of_ble_eq_true rfl)⟩, htl _ mw_730, htl _ mw_731⟩ rfl hl.1 rfl (Nat.le_of_ble_eq_true rfl) dX13_behindSum_175 ⟨(Nat.le_of_ble_eq_true rfl), (Nat.le_of_ble_eq_true rfl)⟩ (fun v59 H locs hpo hM hS => ?_)
            obtain ⟨hpo60, hpo61, hpo62, hpo63, hpo64⟩ := hpo
            have hq_v59 := tk_rng v59
            have hj79 : ∀ (v77 : Int32) (H : Heap) (locs : List Loc), (25 ≤ v77.toInt) → (v77.toInt ≤ 27) → (mz_S D cy ad am Fa Ga Ra Sa H) → (va_S (mz_W ad am) s.heap H locs) → ((v77.toInt ≤ 26 → gs.toInt + (-3) = 0)) → ∀ ls : Array Slot, lv_has ls 4 [(0, .ref am)] → W p l e ({ frames := 6, cells := 0, slots := 0, locals := 350 }) s m args below meth c H locs 0 0 (MQ below (mz_i D cy ad am (fun r F G R S => mz_IF false F ∧ mz_IG G ∧ mz_IR [] true R ∧ (∀ k : Nat, k ∉ ([14, 15, 16, 18, 19, 23, 29, 30] : List Nat) → F k = Fa k) ∧ (∀ k : Nat, k ∉ ([24, 25, 27, 28] : List Nat) → R k = Ra k) ∧ (∀ k : Nat, k ∉ ([17] : List Nat) → G k = Ga k) ∧ 0 ≤ (-1) * (F 14).toInt + (F 15).toInt ∧ 0 ≤ gp.toInt + (-1) * (F 15).toInt ∧ (1 ≤ (F 16).toInt → 0 ≤ (-1) * (F 14).toInt + (F 15).toInt + (-1)) ∧ (27 ≤ (G 17).toInt → 1 ≤ (F 16).toInt → (F 16).toInt ≤ 1 → 0 ≤ (-1) * (F 14).toInt + (F 15).toInt + (-2)) ∧ 0 ≤ (-1) * gf.toInt + (F 14).toInt ∧ 0 ≤ (-1) * (F 23).toInt + (-1) * (F 29).toInt + (F 14).toInt ∧ 0 ≤ (-1) * gc.toInt + (F 23).toInt ∧ ((F 19).toInt ≤ 0 → r.toInt ≤ 1 → 0 ≤ (-1) * gf.toInt + (F 14).toInt + (-1)) ∧ ((F 19).toInt ≤ 0 → 3 ≤ r.toInt → r.toInt ≤ 3 → 0 ≤ (-1) * gf.toInt + (F 14).toInt + (-1)) ∧ 1 ≤ r.toInt ∧ r.toInt ≤ 4 ∧ ((F 19).toInt = 0 → PT (R 24) (R 25) (R 27) (R 28) zs (F 23).toInt.toNat (F 29).toInt.toNat r.toInt ∧ low zs (Ra 24) (R 24) ∧ low zs (Ra 25) (R 25)))) args s 0 0 (mz_W ad am)) (F0 m 202 ls [.int v77]) := by
              intro v77 H locs hq0_j79 hq1_j79 hM hS hc0_j79 ls hl
              refine lv_istore_n (lv' := [(2, .int v77), (0, .ref am)]) hx hb dX13_behindSum_202 rfl hl (by decide) rfl (fun ls hl => ?_)
              refine lv_aload_n hx hb dX13_behindSum_203 rfl (lv_at hl 1 rfl) ?_
              refine lv_iload_n hx hb dX13_behindSum_204 rfl (lv_at hl 0 rfl) ?_
              refine lv_bipush (v := 27) hx hb dX13_behindSum_205 (by decide) ?_
              have hj93 : ∀ (v91 : Int32) (H : Heap) (locs : List Loc), (0 ≤ gt.toInt + (-1) * v91.toInt) → (0 ≤ gs.toInt + (-1) * v91.toInt) → (0 ≤ gb.toInt + (-1) * v91.toInt + 1) → (0 ≤ (-1) * gb.toInt + v91.toInt) → (mz_S D cy ad am Fa Ga Ra Sa H) → (va_S (mz_W ad am) s.heap H locs) → ((1 ≤ v91.toInt → gs.toInt + (-3) = 0)) → ∀ ls : Array Slot, lv_has ls 4 [(2, .int v77), (0, .ref am)] → W p l e ({ frames := 6, cells := 0, slots := 0, locals := 350 }) s m args below meth c H locs 0 0 (MQ below (mz_i D cy ad am (fun r F G R S => mz_IF false F ∧ mz_IG G ∧ mz_IR [] true R ∧ (∀ k : Nat, k ∉ ([14, 15, 16, 18, 19, 23, 29, 30] : List Nat) → F k = Fa k) ∧ (∀ k : Nat, k ∉ ([24, 25, 27, 28] : List Nat) → R k = Ra k) ∧ (∀ k : Nat, k ∉ ([17] : List Nat) → G k = Ga k) ∧ 0 ≤ (-1) * (F 14).toInt + (F 15).toInt ∧ 0 ≤ gp.toInt + (-1) * (F 15).toInt ∧ (1 ≤ (F 16).toInt → 0 ≤ (-1) * (F 14).toInt + (F 15).toInt + (-1)) ∧ (27 ≤ (G 17).toInt → 1 ≤ (F 16).toInt → (F 16).toInt ≤ 1 → 0 ≤ (-1) * (F 14).toInt + (F 15).toInt + (-2)) ∧ 0 ≤ (-1) * gf.toInt + (F 14).toInt ∧ 0 ≤ (-1) * (F 23).toInt + (-1) * (F 29).toInt + (F 14).toInt ∧ 0 ≤ (-1) * gc.toInt + (F 23).toInt ∧ ((F 19).toInt ≤ 0 → r.toInt ≤ 1 → 0 ≤ (-1) * gf.toInt + (F 14).toInt + (-1)) ∧ ((F 19).toInt ≤ 0 → 3 ≤ r.toInt → r.toInt ≤ 3 → 0 ≤ (-1) * gf.toInt + (F 14).toInt + (-1)) ∧ 1 ≤ r.toInt ∧ r.toInt ≤ 4 ∧ ((F 19).toInt = 0 → PT (R 24) (R 25) (R 27) (R 28) zs (F 23).toInt.toNat (F 29).toInt.toNat r.toInt ∧ low zs (Ra 24) (R 24) ∧ low zs (Ra 25) (R 25)))) args s 0 0 (mz_W ad am)) (F0 m 224 ls [.int v91, .ref am]) := by
                intro v91 H locs hq0_j93 hq1_j93 hq2_j93 hq3_j93 hM hS hc0_j93 ls hl
                refine mz_Vv (As := [.int v91]) (rest := []) ⟨hx, hb, hml, hown, hts⟩ hK hM hS (k_X13_must l D cy ld ad am hD _ _ _ _ v91 gf gt gs gp gw gb hIF hIG hIR hg_0 hg_1 hg_2 hg_3 hg_4 hg_5 (by omega) (by omega) (by omega) (by omega) (by omega) (by omega)) ⟨callB_of 1 hts (wl_in mw_713) rfl rfl rfl (htl _ mw_5) (htl _ mw_710) hd_yX13_must ⟨(Nat.le_of_ble_eq_true rfl), (Nat.le_of_ble_eq_true rfl)⟩, htl _ mw_711, htl _ mw_712⟩ rfl hl.1 rfl (Nat.le_of_ble_eq_true rfl) dX13_behindSum_224 ⟨(Nat.le_of_ble_eq_true rfl), (Nat.le_of_ble_eq_true rfl)⟩ (fun H locs F G R S hpo hM hS => ?_)
                obtain ⟨hIF, hIG, hIR, hfr9, hrr9, hgr9, hpo94, hpo95, hpo96, hpo97, hpo98, hpo99, hpo100, hpo101⟩ := hpo
                have hFF := mz_fr (K := [14, 15, 16, 18, 19, 23, 29, 30]) (Fa := Fa) hfr9 (fun _ _ => rfl) (by decide)
                have hRR := mz_fr (K := [24, 25, 27, 28]) (Fa := Ra) hrr9 (fun _ _ => rfl) (by decide)
                have hGG := mz_fr (K := [17]) (Fa := Ga) hgr9 (fun _ _ => rfl) (by decide)
                have hg_3 := (hfr9 13 (by decide)).trans hg_3
                have hg_6 := (hfr9 23 (by decide)).trans hg_6
                have hg_7 := (hfr9 29 (by decide)).trans hg_7
                obtain ⟨v104, hf103⟩ : ∃ z : Int32, F 14 = z := ⟨_, rfl⟩
                have hq_v104 := tk_rng v104
                rw [hf103] at hpo94 hpo96 hpo97 hpo98 hpo100
                have hr_v104 : 0 ≤ v104.toInt ∧ v104.toInt ≤ 400 := hIF.at hf103
                obtain ⟨v106, hf105⟩ : ∃ z : Int32, F 15 = z := ⟨_, rfl⟩
                have hq_v106 := tk_rng v106
                rw [hf105] at hpo94 hpo95 hpo96 hpo97
                have hr_v106 : 0 ≤ v106.toInt ∧ v106.toInt ≤ 400 := hIF.at hf105
                obtain ⟨v108, hf107⟩ : ∃ z : Int32, F 16 = z := ⟨_, rfl⟩
                have hq_v108 := tk_rng v108
                rw [hf107] at hpo96 hpo97
                have hr_v108 : 0 ≤ v108.toInt ∧ v108.toInt ≤ 3 := hIF.at hf107
                obtain ⟨w110, hf109⟩ : ∃ z : Int64, G 17 = z := ⟨_, rfl⟩
                have hq_w110 := tk_rngL w110
                rw [hf109] at hpo97
                obtain ⟨v112, hf111⟩ : ∃ z : Int32, F 19 = z := ⟨_, rfl⟩
                have hq_v112 := tk_rng v112
                rw [hf111] at hpo99 hpo100 hpo101
                have hr_v112 : 0 ≤ v112.toInt ∧ v112.toInt ≤ 1 := hIF.at hf111
                have hPI := hPI.to (hrr9 24 (by decide)) (hrr9 25 (by decide)) (hrr9 27 (by decide)) (hrr9 28 (by decide)) rfl rfl
                have hLo := And.intro (hLo.1.to (hrr9 24 (by decide))) (hLo.2.to (hrr9 25 (by decide)))
                have hSq := hSq.to (hrr9 27 (by decide)) (Nat.le_refl _)
                have hinn0 := hinn
                have hinn : inn (R 27) gd.toInt.toNat v47.toInt := by rw [hrr9 27 (by decide)]; exact hinn0
                refine lv_aload_n hx hb dX13_behindSum_227 rfl (lv_at hl 1 rfl) ?_
                refine mz_getI hx hb htl hown hK hM 19 (Nat.le_of_ble_eq_true rfl) rfl (htl _ mw_668) (fun _ h9 => h9) dX13_behindSum_228 (fun v9 e9 => ?_)
                refine fx_ti (v := v112) (e9.symm.trans hf111) ?_
                refine lv_if_ne (tgt := 245) hx hb dX13_behindSum_231 (by decide) (fun c9 => ?_) (fun c9 => ?_)
                · have hc113 : ¬ (v112.toInt = 0) := fun h9 => c9 ((fi_eq rfl (show (0 : Int32).toInt = 0 by decide)).mpr h9)
                  refine lv_iconst (v := 1) hx hb dX13_behindSum_245 (by decide) ?_
                  have hk_1 : (1 : Int32).toInt = 1 := by decide
                  exact mz_iret (v := 1) hx hb hr rfl hlocks ⟨hIF, hIG, hIR, hFF, hRR, hGG, (by rw [hf103, hf105]; omega), (by rw [hf105]; omega), (by rw [hf103, hf105, hf107]; omega), (by rw [hf103, hf105, hf107, hf109]; omega), (by rw [hf103]; omega), (by rw [hf103, hg_6, hg_7]; omega), (by rw [hg_6]; omega), (by rw [hf103, hf111]; omega), (by rw [hf103, hf111]; omega), (by omega), (by omega), (by rw [hf111]; exact fun h9 => absurd h9 (by omega))⟩ hM hS dX13_behindSum_246
                · have hc113 : v112.toInt = 0 := (fi_eq rfl (show (0 : Int32).toInt = 0 by decide)).mp c9
                  have hwk_114 : 0 ≤ (-1) * gt.toInt + v104.toInt ∧ 1 ≤ v91.toInt := by omega
                  have hwk_115 : 0 ≤ (-1) * gf.toInt + gt.toInt + (-1) := by omega
                  have hwk_116 : gs.toInt + (-3) = 0 := by omega
                  refine lv_aload_n hx hb dX13_behindSum_234 rfl (lv_at hl 1 rfl) ?_
                  refine lv_iconst (v := 5) hx hb dX13_behindSum_235 (by decide) ?_
                  have hk_5 : (5 : Int32).toInt = 5 := by decide
                  refine mz_Vv (As := [.int 5]) (rest := []) ⟨hx, hb, hml, hown, hts⟩ hK hM hS (k_X13_settle l D cy ld ad am hD _ _ _ _ 5 gc gd v112 zs hIF hIG hIR hg_6 hg_7 hf111 (by omega) (by omega) (by omega) (fun _ => hPI)) ⟨callB_of 1 hts (wl_in mw_773) rfl rfl rfl (htl _ mw_5) (htl _ mw_770) hd_yX13_settle ⟨(Nat.le_of_ble_eq_true rfl), (Nat.le_of_ble_eq_true rfl)⟩, htl _ mw_771, htl _ mw_772⟩ rfl hl.1 rfl (Nat.le_of_ble_eq_true rfl) dX13_behindSum_236 ⟨(Nat.le_of_ble_eq_true rfl), (Nat.le_of_ble_eq_true rfl)⟩ (fun H locs F G R S hpo hM hS => ?_)
                  obtain ⟨hIF, hIG, hIR, hfr9, hrr9, hgr9, hpo117, hpo118, hpo119, hx120, hx121, hx122⟩ := hpo
                  have hFF := mz_fr (K := [14, 15, 16, 18, 19, 23, 29, 30]) (Fa := Fa) hfr9 hFF (by decide)
                  have hRR := mz_fr (K := [24, 25, 27, 28]) (Fa := Ra) hrr9 hRR (by decide)
                  have hGG := mz_fr (K := [17]) (Fa := Ga) hgr9 hGG (by decide)
                  have hg_3 := (hfr9 13 (by decide)).trans hg_3
                  have hf103 := (hfr9 14 (by decide)).trans hf103
                  have hf105 := (hfr9 15 (by decide)).trans hf105
                  have hf107 := (hfr9 16 (by decide)).trans hf107
                  have hf109 := (hgr9 17 (by decide)).trans hf109
                  have hf111 := (hfr9 19 (by decide)).trans hf111
                  obtain ⟨v125, hf124⟩ : ∃ z : Int32, F 23 = z := ⟨_, rfl⟩
                  have hq_v125 := tk_rng v125
                  rw [hf124] at hpo117 hpo119
                  have hr_v125 : 0 ≤ v125.toInt ∧ v125.toInt ≤ 400 := hIF.at hf124
                  obtain ⟨v127, hf126⟩ : ∃ z : Int32, F 29 = z := ⟨_, rfl⟩
                  have hq_v127 := tk_rng v127
                  rw [hf126] at hpo117 hpo118
                  have hr_v127 : 0 ≤ v127.toInt ∧ v127.toInt ≤ 400 := hIF.at hf126
                  have hs9 := hx120 (by omega)
                  rw [hf124, hf126] at hs9
                  have hPI : PI (R 24) (R 25) (R 27) (R 28) zs v125.toInt.toNat v127.toInt.toNat 1 := hs9.1
                  have hLo := And.intro (hLo.1.trans hs9.2.1 (Nat.le_refl _)) (hLo.2.trans hs9.2.2 (Nat.le_refl _))
                  rw [hf126] at hx121 hx122
                  have hsb := hx121
                  have hst := hx122
                  have hSq := hSq.to (pd1 := v127.toInt.toNat) (hrr9 27 (by decide)) (by omega)
                  have hinn0 := hinn
                  have hinn : inn (R 27) gd.toInt.toNat v47.toInt := by rw [hrr9 27 (by decide)]; exact hinn0
                  refine lv_aload_n hx hb dX13_behindSum_239 rfl (lv_at hl 1 rfl) ?_
                  refine lv_iload_n hx hb dX13_behindSum_240 rfl (lv_at hl 0 rfl) ?_
                  refine lv_iconst (v := 0) hx hb dX13_behindSum_241 (by decide) ?_
                  have hk_0 : (0 : Int32).toInt = 0 := by decide
                  refine mz_Vv (As := [.int v77, .int 0]) (rest := []) ⟨hx, hb, hml, hown, hts⟩ hK hM hS (k_X13_push l D cy ld ad am hD _ _ _ _ v77 0 v127 hIF hIG hIR hf126 (by omega) (by omega) (by omega)) ⟨callB_of 2 hts (wl_in mw_728) rfl rfl rfl (htl _ mw_5) (htl _ mw_725) hd_yX13_push ⟨(Nat.le_of_ble_eq_true rfl), (Nat.le_of_ble_eq_true rfl)⟩, htl _ mw_726, htl _ mw_727⟩ rfl hl.1 rfl (Nat.le_of_ble_eq_true rfl) dX13_behindSum_242 ⟨(Nat.le_of_ble_eq_true rfl), (Nat.le_of_ble_eq_true rfl)⟩ (fun H locs F G R S hpo hM hS => ?_)
                  obtain ⟨hIF, hIG, hIR, hfr9, hrr9, hgr9, hpo128, hx129, hx130⟩ := hpo
                  have hFF := mz_fr (K := [14, 15, 16, 18, 19, 23, 29, 30]) (Fa := Fa) hfr9 hFF (by decide)
                  have hRR := mz_fr (K := [24, 25, 27, 28]) (Fa := Ra) hrr9 hRR (by decide)
                  have hGG := mz_fr (K := [17]) (Fa := Ga) hgr9 hGG (by decide)
                  have hg_3 := (hfr9 13 (by decide)).trans hg_3
                  have hf103 := (hfr9 14 (by decide)).trans hf103
                  have hf105 := (hfr9 15 (by decide)).trans hf105
                  have hf107 := (hfr9 16 (by decide)).trans hf107
                  have hf109 := (hgr9 17 (by decide)).trans hf109
                  have hf111 := (hfr9 19 (by decide)).trans hf111
                  have hf124 := (hfr9 23 (by decide)).trans hf124
                  obtain ⟨v133, hf132⟩ : ∃ z : Int32, F 29 = z := ⟨_, rfl⟩
                  have hq_v133 := tk_rng v133
                  rw [hf132] at hpo128
                  have hr_v133 : 0 ≤ v133.toInt ∧ v133.toInt ≤ 400 := hIF.at hf132
                  have hPI : PI (R 24) (R 25) (R 27) (R 28) zs v125.toInt.toNat v133.toInt.toNat 0 := (PI.push (o := v77) hPI (by omega) (by omega) ⟨by omega, by omega⟩ (by rw [if_pos (by omega)]; rfl) (Or.inr (Or.inr hSq)) hx129 hx130).to (hrr9 24 (by decide)) (hrr9 25 (by decide)) rfl rfl rfl (by omega)
                  have hLo := And.intro (hLo.1.to (hrr9 24 (by decide))) (hLo.2.to (hrr9 25 (by decide)))
                  have hSq : nSq (R 27) v133.toInt.toNat := (hSq.push hx129 (by omega)).to rfl (by omega)
                  refine lv_iconst (v := 1) hx hb dX13_behindSum_245 (by decide) ?_
                  have hk_1 : (1 : Int32).toInt = 1 := by decide
                  exact mz_iret (v := 1) hx hb hr rfl hlocks ⟨hIF, hIG, hIR, hFF, hRR, hGG, (by rw [hf103, hf105]; omega), (by rw [hf105]; omega), (by rw [hf103, hf105, hf107]; omega), (by rw [hf103, hf105, hf107, hf109]; omega), (by rw [hf103]; omega), (by rw [hf103, hf124, hf132]; omega), (by rw [hf124]; omega), (by rw [hf103, hf111]; omega), (by rw [hf103, hf111]; omega), (by omega), (by omega), (fun _ => ⟨PT.mk hPI (by decide) (fun h9 => absurd h9 (by decide)) (fun h9 => absurd h9 (by decide)) rfl rfl rfl rfl (by rw [hf124]) (by rw [hf132]), hLo⟩)⟩ hM hS dX13_behindSum_246
              refine lv_icmp_ne (tgt := 219) hx hb dX13_behindSum_207 (by decide) (fun c9 => ?_) (fun c9 => ?_)
              · have hc80 : ¬ (v77.toInt = 27) := fun h9 => c9 ((fi_eq rfl (show (27 : Int32).toInt = 27 by decide)).mpr h9)
                have hwk_134 : gs.toInt + (-3) = 0 := by omega
                have hwk_135 : 0 ≤ (-1) * gf.toInt + gt.toInt + (-1) := by omega
                refine lv_iconst (v := 1) hx hb dX13_behindSum_219 (by decide) ?_
                refine lv_goto (tgt := 224) hx hb dX13_behindSum_220 (by decide) ?_
                have hk_1 : (1 : Int32).toInt = 1 := by decide
                exact hj93 1 _ _ (by omega) (by omega) (by omega) (by omega) hM hS (by omega) _ (lv_sub hl [0, 1] rfl)
              · have hc80 : v77.toInt = 27 := (fi_eq rfl (show (27 : Int32).toInt = 27 by decide)).mp c9
                refine lv_aload_n hx hb dX13_behindSum_210 rfl (lv_at hl 1 rfl) ?_
                refine lv_bipush (v := 61) hx hb dX13_behindSum_211 (by decide) ?_
                have hk_61 : (61 : Int32).toInt = 61 := by decide
                refine mz_Vj (As := [.int 61]) (rest := [.ref am]) ⟨hx, hb, hml, hown, hts⟩ hK hM hS (k_X13_isSign l D cy ld ad am hD _ _ _ _ 61 gs hIF hIG hIR hg_2) ⟨callB_of 1 hts (wl_in mw_732) rfl rfl rfl (htl _ mw_5) (htl _ mw_729) hd_yX13_isSign ⟨(Nat.le_of_ble_eq_true rfl), (Nat.le_of_ble_eq_true rfl)⟩, htl _ mw_730, htl _ mw_731⟩ rfl hl.1 rfl (Nat.le_of_ble_eq_true rfl) dX13_behindSum_213 ⟨(Nat.le_of_ble_eq_true rfl), (Nat.le_of_ble_eq_true rfl)⟩ (fun v136 H locs hpo hM hS => ?_)
                obtain ⟨hpo137, hpo138, hpo139, hpo140, hpo141⟩ := hpo
                have hq_v136 := tk_rng v136
                refine lv_if_eq (tgt := 223) hx hb dX13_behindSum_216 (by decide) (fun c9 => ?_) (fun c9 => ?_)
                · have hc143 : v136.toInt = 0 := (fi_eq rfl (show (0 : Int32).toInt = 0 by decide)).mp c9
                  refine lv_iconst (v := 0) hx hb dX13_behindSum_223 (by decide) ?_
                  have hk_0 : (0 : Int32).toInt = 0 := by decide
                  exact hj93 0 _ _ (by omega) (by omega) (by omega) (by omega) hM hS (by omega) _ (lv_sub hl [0, 1] rfl)
                · have hc143 : ¬ (v136.toInt = 0) := fun h9 => c9 ((fi_eq rfl (show (0 : Int32).toInt = 0 by decide)).mpr h9)
                  have hwk_144 : gs.toInt + (-3) = 0 := by omega
                  have hwk_145 : 0 ≤ (-1) * gf.toInt + gt.toInt + (-1) := by omega
                  refine lv_iconst (v := 1) hx hb dX13_behindSum_219 (by decide) ?_
                  refine lv_goto (tgt := 224) hx hb dX13_behindSum_220 (by decide) ?_
                  have hk_1 : (1 : Int32).toInt = 1 := by decide
                  exact hj93 1 _ _ (by omega) (by omega) (by omega) (by omega) hM hS (by omega) _ (lv_sub hl [0, 1] rfl)
            refine lv_if_eq (tgt := 186) hx hb dX13_behindSum_178 (by decide) (fun c9 => ?_) (fun c9 => ?_)
            · have hc66 : v59.toInt = 0 := (fi_eq rfl (show (0 : Int32).toInt = 0 by decide)).mp c9
              refine lv_aload_n hx hb dX13_behindSum_186 rfl (lv_at hl 2 rfl) ?_
              refine lv_bipush (v := 62) hx hb dX13_behindSum_187 (by decide) ?_
              have hk_62 : (62 : Int32).toInt = 62 := by decide
              refine mz_Vj (As := [.int 62]) (rest := []) ⟨hx, hb, hml, hown, hts⟩ hK hM hS (k_X13_isSign l D cy ld ad am hD _ _ _ _ 62 gs hIF hIG hIR hg_2) ⟨callB_of 1 hts (wl_in mw_732) rfl rfl rfl (htl _ mw_5) (htl _ mw_729) hd_yX13_isSign ⟨(Nat.le_of_ble_eq_true rfl), (Nat.le_of_ble_eq_true rfl)⟩, htl _ mw_730, htl _ mw_731⟩ rfl hl.1 rfl (Nat.le_of_ble_eq_true rfl) dX13_behindSum_189 ⟨(Nat.le_of_ble_eq_true rfl), (Nat.le_of_ble_eq_true rfl)⟩ (fun v146 H locs hpo hM hS => ?_)
              obtain ⟨hpo147, hpo148, hpo149, hpo150, hpo151⟩ := hpo
              have hq_v146 := tk_rng v146
              refine lv_if_eq (tgt := 200) hx hb dX13_behindSum_192 (by decide) (fun c9 => ?_) (fun c9 => ?_)
              · have hc153 : v146.toInt = 0 := (fi_eq rfl (show (0 : Int32).toInt = 0 by decide)).mp c9
                refine lv_bipush (v := 27) hx hb dX13_behindSum_200 (by decide) ?_
                have hk_27 : (27 : Int32).toInt = 27 := by decide
                exact hj79 27 _ _ (by omega) (by omega) hM hS (by omega) _ (lv_sub hl [2] rfl)
              · have hc153 : ¬ (v146.toInt = 0) := fun h9 => c9 ((fi_eq rfl (show (0 : Int32).toInt = 0 by decide)).mpr h9)
                have hwk_154 : gs.toInt + (-3) = 0 := by omega
                have hwk_155 : 0 ≤ (-1) * gf.toInt + gt.toInt + (-1) := by omega
                refine lv_bipush (v := 26) hx hb dX13_behindSum_195 (by decide) ?_
                refine lv_goto (tgt := 202) hx hb dX13_behindSum_197 (by decide) ?_
                have hk_26 : (26 : Int32).toInt = 26 := by decide
                exact hj79 26 _ _ (by omega) (by omega) hM hS (by omega) _ (lv_sub hl [2] rfl)
            · have hc66 : ¬ (v59.toInt = 0) := fun h9 => c9 ((fi_eq rfl (show (0 : Int32).toInt = 0 by decide)).mpr h9)
              have hwk_156 : gs.toInt + (-3) = 0 := by omega
              have hwk_157 : 0 ≤ (-1) * gf.toInt + gt.toInt + (-1) := by omega
              refine lv_bipush (v := 25) hx hb dX13_behindSum_181 (by decide) ?_
              refine lv_goto (tgt := 202) hx hb dX13_behindSum_183 (by decide) ?_
              have hk_25 : (25 : Int32).toInt = 25 := by decide
              exact hj79 25 _ _ (by omega) (by omega) hM hS (by omega) _ (lv_sub hl [2] rfl)
          · have hc58 : ¬ (v52.toInt = 0) := fun h9 => c9 ((fi_eq rfl (show (0 : Int32).toInt = 0 by decide)).mpr h9)
            refine lv_iconst (v := 2) hx hb dX13_behindSum_170 (by decide) ?_
            have hk_2 : (2 : Int32).toInt = 2 := by decide
            exact mz_iret (v := 2) hx hb hr rfl hlocks ⟨hIF, hIG, hIR, (fun _ _ => rfl), (fun _ _ => rfl), (fun _ _ => rfl), (by rw [hg_0, hg_1]; omega), (by rw [hg_1]; omega), (by rw [hg_0, hg_1, hg_2]; omega), (by rw [hg_0, hg_1, hg_2, hg_4]; omega), (by rw [hg_0]; omega), (by rw [hg_0, hg_6, hg_7]; omega), (by rw [hg_6]; omega), (by rw [hg_0, hg_5]; omega), (by rw [hg_0, hg_5]; omega), (by omega), (by omega), (fun _ => ⟨PT.mk hPI (by decide) (fun _ => hSq) (fun h9 => absurd h9 (by decide)) rfl rfl rfl rfl (by rw [hg_6]) (by rw [hg_7]), hLo⟩)⟩ hM hS dX13_behindSum_171
        · have hc51 : v47.toInt = (-1) := (fi_eq rfl (show ((-1) : Int32).toInt = (-1) by decide)).mp c9
          refine lv_iload_n hx hb dX13_behindSum_157 rfl (lv_at hl 3 rfl) ?_
          refine lv_if_ne (tgt := 163) hx hb dX13_behindSum_158 (by decide) (fun c9 => ?_) (fun c9 => ?_)
          · have hc158 : ¬ (p1.toInt = 0) := fun h9 => c9 ((fi_eq rfl (show (0 : Int32).toInt = 0 by decide)).mpr h9)
            refine lv_aload_n hx hb dX13_behindSum_163 rfl (lv_at hl 2 rfl) ?_
            refine mz_Vj (As := []) (rest := []) ⟨hx, hb, hml, hown, hts⟩ hK hM hS (k_X13_isCompared l D cy ld ad am hD _ _ _ _ hIF hIG hIR) ⟨callB_of 0 hts (wl_in mw_781) rfl rfl rfl (htl _ mw_5) (htl _ mw_778) hd_yX13_isCompared ⟨(Nat.le_of_ble_eq_true rfl), (Nat.le_of_ble_eq_true rfl)⟩, htl _ mw_779, htl _ mw_780⟩ rfl hl.1 rfl (Nat.le_of_ble_eq_true rfl) dX13_behindSum_164 ⟨(Nat.le_of_ble_eq_true rfl), (Nat.le_of_ble_eq_true rfl)⟩ (fun v159 H locs hpo hM hS => ?_)
            obtain ⟨hpo160, hpo161, hpo162, hpo163⟩ := hpo
            have hq_v159 := tk_rng v159
            have hSq := hinn.nsq hPI (by omega)
            refine lv_if_eq (tgt := 172) hx hb dX13_behindSum_167 (by decide) (fun c9 => ?_) (fun c9 => ?_)
            · have hc165 : v159.toInt = 0 := (fi_eq rfl (show (0 : Int32).toInt = 0 by decide)).mp c9
              refine lv_aload_n hx hb dX13_behindSum_172 rfl (lv_at hl 2 rfl) ?_
              refine lv_bipush (v := 60) hx hb dX13_behindSum_173 (by decide) ?_
              have hk_60 : (60 : Int32).toInt = 60 := by decide
              refine mz_Vj (As := [.int 60]) (rest := []) ⟨hx, hb, hml, hown, hts⟩ hK hM hS (k_X13_isSign l D cy ld ad am hD _ _ _ _ 60 gs hIF hIG hIR hg_2) ⟨callB_of 1 hts (wl_in mw_732) rfl rfl rfl (htl _ mw_5) (htl _ mw_729) hd_yX13_isSign ⟨(Nat.le_of_ble_eq_true rfl), (Nat.le_of_ble_eq_true rfl)⟩, htl _ mw_730, htl _ mw_731⟩ rfl hl.1 rfl (Nat.le_of_ble_eq_true rfl) dX13_behindSum_175 ⟨(Nat.le_of_ble_eq_true rfl), (Nat.le_of_ble_eq_true rfl)⟩ (fun v166 H locs hpo hM hS => ?_)
              obtain ⟨hpo167, hpo168, hpo169, hpo170, hpo171⟩ := hpo
              have hq_v166 := tk_rng v166
              have hj186 : ∀ (v184 : Int32) (H : Heap) (locs : List Loc), (25 ≤ v184.toInt) → (v184.toInt ≤ 27) → (mz_S D cy ad am Fa Ga Ra Sa H) → (va_S (mz_W ad am) s.heap H locs) → ((v184.toInt ≤ 26 → gs.toInt + (-3) = 0)) → ∀ ls : Array Slot, lv_has ls 4 [(0, .ref am)] → W p l e ({ frames := 6, cells := 0, slots := 0, locals := 350 }) s m args below meth c H locs 0 0 (MQ below (mz_i D cy ad am (fun r F G R S => mz_IF false F ∧ mz_IG G ∧ mz_IR [] true R ∧ (∀ k : Nat, k ∉ ([14, 15, 16, 18, 19, 23, 29, 30] : List Nat) → F k = Fa k) ∧ (∀ k : Nat, k ∉ ([24, 25, 27, 28] : List Nat) → R k = Ra k) ∧ (∀ k : Nat, k ∉ ([17] : List Nat) → G k = Ga k) ∧ 0 ≤ (-1) * (F 14).toInt + (F 15).toInt ∧ 0 ≤ gp.toInt + (-1) * (F 15).toInt ∧ (1 ≤ (F 16).toInt → 0 ≤ (-1) * (F 14).toInt + (F 15).toInt + (-1)) ∧ (27 ≤ (G 17).toInt → 1 ≤ (F 16).toInt → (F 16).toInt ≤ 1 → 0 ≤ (-1) * (F 14).toInt + (F 15).toInt + (-2)) ∧ 0 ≤ (-1) * gf.toInt + (F 14).toInt ∧ 0 ≤ (-1) * (F 23).toInt + (-1) * (F 29).toInt + (F 14).toInt ∧ 0 ≤ (-1) * gc.toInt + (F 23).toInt ∧ ((F 19).toInt ≤ 0 → r.toInt ≤ 1 → 0 ≤ (-1) * gf.toInt + (F 14).toInt + (-1)) ∧ ((F 19).toInt ≤ 0 → 3 ≤ r.toInt → r.toInt ≤ 3 → 0 ≤ (-1) * gf.toInt + (F 14).toInt + (-1)) ∧ 1 ≤ r.toInt ∧ r.toInt ≤ 4 ∧ ((F 19).toInt = 0 → PT (R 24) (R 25) (R 27) (R 28) zs (F 23).toInt.toNat (F 29).toInt.toNat r.toInt ∧ low zs (Ra 24) (R 24) ∧ low zs (Ra 25) (R 25)))) args s 0 0 (mz_W ad am)) (F0 m 202 ls [.int v184]) := by
                intro v184 H locs hq0_j186 hq1_j186 hM hS hc0_j186 ls hl
                refine lv_istore_n (lv' := [(2, .int v184), (0, .ref am)]) hx hb dX13_behindSum_202 rfl hl (by decide) rfl (fun ls hl => ?_)
                refine lv_aload_n hx hb dX13_behindSum_203 rfl (lv_at hl 1 rfl) ?_
                refine lv_iload_n hx hb dX13_behindSum_204 rfl (lv_at hl 0 rfl) ?_
                refine lv_bipush (v := 27) hx hb dX13_behindSum_205 (by decide) ?_
                have hj200 : ∀ (v198 : Int32) (H : Heap) (locs : List Loc), (0 ≤ gt.toInt + (-1) * v198.toInt) → (0 ≤ gs.toInt + (-1) * v198.toInt) → (0 ≤ gb.toInt + (-1) * v198.toInt + 1) → (0 ≤ (-1) * gb.toInt + v198.toInt) → (mz_S D cy ad am Fa Ga Ra Sa H) → (va_S (mz_W ad am) s.heap H locs) → ((1 ≤ v198.toInt → gs.toInt + (-3) = 0)) → ∀ ls : Array Slot, lv_has ls 4 [(2, .int v184), (0, .ref am)] → W p l e ({ frames := 6, cells := 0, slots := 0, locals := 350 }) s m args below meth c H locs 0 0 (MQ below (mz_i D cy ad am (fun r F G R S => mz_IF false F ∧ mz_IG G ∧ mz_IR [] true R ∧ (∀ k : Nat, k ∉ ([14, 15, 16, 18, 19, 23, 29, 30] : List Nat) → F k = Fa k) ∧ (∀ k : Nat, k ∉ ([24, 25, 27, 28] : List Nat) → R k = Ra k) ∧ (∀ k : Nat, k ∉ ([17] : List Nat) → G k = Ga k) ∧ 0 ≤ (-1) * (F 14).toInt + (F 15).toInt ∧ 0 ≤ gp.toInt + (-1) * (F 15).toInt ∧ (1 ≤ (F 16).toInt → 0 ≤ (-1) * (F 14).toInt + (F 15).toInt + (-1)) ∧ (27 ≤ (G 17).toInt → 1 ≤ (F 16).toInt → (F 16).toInt ≤ 1 → 0 ≤ (-1) * (F 14).toInt + (F 15).toInt + (-2)) ∧ 0 ≤ (-1) * gf.toInt + (F 14).toInt ∧ 0 ≤ (-1) * (F 23).toInt + (-1) * (F 29).toInt + (F 14).toInt ∧ 0 ≤ (-1) * gc.toInt + (F 23).toInt ∧ ((F 19).toInt ≤ 0 → r.toInt ≤ 1 → 0 ≤ (-1) * gf.toInt + (F 14).toInt + (-1)) ∧ ((F 19).toInt ≤ 0 → 3 ≤ r.toInt → r.toInt ≤ 3 → 0 ≤ (-1) * gf.toInt + (F 14).toInt + (-1)) ∧ 1 ≤ r.toInt ∧ r.toInt ≤ 4 ∧ ((F 19).toInt = 0 → PT (R 24) (R 25) (R 27) (R 28) zs (F 23).toInt.toNat (F 29).toInt.toNat r.toInt ∧ low zs (Ra 24) (R 24) ∧ low zs (Ra 25) (R 25)))) args s 0 0 (mz_W ad am)) (F0 m 224 ls [.int v198, .ref am]) := by
                  intro v198 H locs hq0_j200 hq1_j200 hq2_j200 hq3_j200 hM hS hc0_j200 ls hl
                  refine mz_Vv (As := [.int v198]) (rest := []) ⟨hx, hb, hml, hown, hts⟩ hK hM hS (k_X13_must l D cy ld ad am hD _ _ _ _ v198 gf gt gs gp gw gb hIF hIG hIR hg_0 hg_1 hg_2 hg_3 hg_4 hg_5 (by omega) (by omega) (by omega) (by omega) (by omega) (by omega)) ⟨callB_of 1 hts (wl_in mw_713) rfl rfl rfl (htl _ mw_5) (htl _ mw_710) hd_yX13_must ⟨(Nat.le_of_ble_eq_true rfl), (Nat.le_of_ble_eq_true rfl)⟩, htl _ mw_711, htl _ mw_712⟩ rfl hl.1 rfl (Nat.le_of_ble_eq_true rfl) dX13_behindSum_224 ⟨(Nat.le_of_ble_eq_true rfl), (Nat.le_of_ble_eq_true rfl)⟩ (fun H locs F G R S hpo hM hS => ?_)
                  obtain ⟨hIF, hIG, hIR, hfr9, hrr9, hgr9, hpo201, hpo202, hpo203, hpo204, hpo205, hpo206, hpo207, hpo208⟩ := hpo
                  have hFF := mz_fr (K := [14, 15, 16, 18, 19, 23, 29, 30]) (Fa := Fa) hfr9 (fun _ _ => rfl) (by decide)
                  have hRR := mz_fr (K := [24, 25, 27, 28]) (Fa := Ra) hrr9 (fun _ _ => rfl) (by decide)
                  have hGG := mz_fr (K := [17]) (Fa := Ga) hgr9 (fun _ _ => rfl) (by decide)
                  have hg_3 := (hfr9 13 (by decide)).trans hg_3
                  have hg_6 := (hfr9 23 (by decide)).trans hg_6
                  have hg_7 := (hfr9 29 (by decide)).trans hg_7
                  obtain ⟨v211, hf210⟩ : ∃ z : Int32, F 14 = z := ⟨_, rfl⟩
                  have hq_v211 := tk_rng v211
                  rw [hf210] at hpo201 hpo203 hpo204 hpo205 hpo207
                  have hr_v211 : 0 ≤ v211.toInt ∧ v211.toInt ≤ 400 := hIF.at hf210
                  obtain ⟨v213, hf212⟩ : ∃ z : Int32, F 15 = z := ⟨_, rfl⟩
                  have hq_v213 := tk_rng v213
                  rw [hf212] at hpo201 hpo202 hpo203 hpo204
                  have hr_v213 : 0 ≤ v213.toInt ∧ v213.toInt ≤ 400 := hIF.at hf212
                  obtain ⟨v215, hf214⟩ : ∃ z : Int32, F 16 = z := ⟨_, rfl⟩
                  have hq_v215 := tk_rng v215
                  rw [hf214] at hpo203 hpo204
                  have hr_v215 : 0 ≤ v215.toInt ∧ v215.toInt ≤ 3 := hIF.at hf214
                  obtain ⟨w217, hf216⟩ : ∃ z : Int64, G 17 = z := ⟨_, rfl⟩
                  have hq_w217 := tk_rngL w217
                  rw [hf216] at hpo204
                  obtain ⟨v219, hf218⟩ : ∃ z : Int32, F 19 = z := ⟨_, rfl⟩
                  have hq_v219 := tk_rng v219
                  rw [hf218] at hpo206 hpo207 hpo208
                  have hr_v219 : 0 ≤ v219.toInt ∧ v219.toInt ≤ 1 := hIF.at hf218
                  have hPI := hPI.to (hrr9 24 (by decide)) (hrr9 25 (by decide)) (hrr9 27 (by decide)) (hrr9 28 (by decide)) rfl rfl
                  have hLo := And.intro (hLo.1.to (hrr9 24 (by decide))) (hLo.2.to (hrr9 25 (by decide)))
                  have hSq := hSq.to (hrr9 27 (by decide)) (Nat.le_refl _)
                  have hinn0 := hinn
                  have hinn : inn (R 27) gd.toInt.toNat v47.toInt := by rw [hrr9 27 (by decide)]; exact hinn0
                  refine lv_aload_n hx hb dX13_behindSum_227 rfl (lv_at hl 1 rfl) ?_
                  refine mz_getI hx hb htl hown hK hM 19 (Nat.le_of_ble_eq_true rfl) rfl (htl _ mw_668) (fun _ h9 => h9) dX13_behindSum_228 (fun v9 e9 => ?_)
                  refine fx_ti (v := v219) (e9.symm.trans hf218) ?_
                  refine lv_if_ne (tgt := 245) hx hb dX13_behindSum_231 (by decide) (fun c9 => ?_) (fun c9 => ?_)
                  · have hc220 : ¬ (v219.toInt = 0) := fun h9 => c9 ((fi_eq rfl (show (0 : Int32).toInt = 0 by decide)).mpr h9)
                    refine lv_iconst (v := 1) hx hb dX13_behindSum_245 (by decide) ?_
                    have hk_1 : (1 : Int32).toInt = 1 := by decide
                    exact mz_iret (v := 1) hx hb hr rfl hlocks ⟨hIF, hIG, hIR, hFF, hRR, hGG, (by rw [hf210, hf212]; omega), (by rw [hf212]; omega), (by rw [hf210, hf212, hf214]; omega), (by rw [hf210, hf212, hf214, hf216]; omega), (by rw [hf210]; omega), (by rw [hf210, hg_6, hg_7]; omega), (by rw [hg_6]; omega), (by rw [hf210, hf218]; omega), (by rw [hf210, hf218]; omega), (by omega), (by omega), (by rw [hf218]; exact fun h9 => absurd h9 (by omega))⟩ hM hS dX13_behindSum_246
                  · have hc220 : v219.toInt = 0 := (fi_eq rfl (show (0 : Int32).toInt = 0 by decide)).mp c9
                    have hwk_221 : 0 ≤ (-1) * gt.toInt + v211.toInt ∧ 1 ≤ v198.toInt := by omega
                    have hwk_222 : 0 ≤ (-1) * gf.toInt + gt.toInt + (-1) := by omega
                    have hwk_223 : gs.toInt + (-3) = 0 := by omega
                    refine lv_aload_n hx hb dX13_behindSum_234 rfl (lv_at hl 1 rfl) ?_
                    refine lv_iconst (v := 5) hx hb dX13_behindSum_235 (by decide) ?_
                    have hk_5 : (5 : Int32).toInt = 5 := by decide
                    refine mz_Vv (As := [.int 5]) (rest := []) ⟨hx, hb, hml, hown, hts⟩ hK hM hS (k_X13_settle l D cy ld ad am hD _ _ _ _ 5 gc gd v219 zs hIF hIG hIR hg_6 hg_7 hf218 (by omega) (by omega) (by omega) (fun _ => hPI)) ⟨callB_of 1 hts (wl_in mw_773) rfl rfl rfl (htl _ mw_5) (htl _ mw_770) hd_yX13_settle ⟨(Nat.le_of_ble_eq_true rfl), (Nat.le_of_ble_eq_true rfl)⟩, htl _ mw_771, htl _ mw_772⟩ rfl hl.1 rfl (Nat.le_of_ble_eq_true rfl) dX13_behindSum_236 ⟨(Nat.le_of_ble_eq_true rfl), (Nat.le_of_ble_eq_true rfl)⟩ (fun H locs F G R S hpo hM hS => ?_)
                    obtain ⟨hIF, hIG, hIR, hfr9, hrr9, hgr9, hpo224, hpo225, hpo226, hx227, hx228, hx229⟩ := hpo
                    have hFF := mz_fr (K := [14, 15, 16, 18, 19, 23, 29, 30]) (Fa := Fa) hfr9 hFF (by decide)
                    have hRR := mz_fr (K := [24, 25, 27, 28]) (Fa := Ra) hrr9 hRR (by decide)
                    have hGG := mz_fr (K := [17]) (Fa := Ga) hgr9 hGG (by decide)
                    have hg_3 := (hfr9 13 (by decide)).trans hg_3
                    have hf210 := (hfr9 14 (by decide)).trans hf210
                    have hf212 := (hfr9 15 (by decide)).trans hf212
                    have hf214 := (hfr9 16 (by decide)).trans hf214
                    have hf216 := (hgr9 17 (by decide)).trans hf216
                    have hf218 := (hfr9 19 (by decide)).trans hf218
                    obtain ⟨v232, hf231⟩ : ∃ z : Int32, F 23 = z := ⟨_, rfl⟩
                    have hq_v232 := tk_rng v232
                    rw [hf231] at hpo224 hpo226
                    have hr_v232 : 0 ≤ v232.toInt ∧ v232.toInt ≤ 400 := hIF.at hf231
                    obtain ⟨v234, hf233⟩ : ∃ z : Int32, F 29 = z := ⟨_, rfl⟩
                    have hq_v234 := tk_rng v234
                    rw [hf233] at hpo224 hpo225
                    have hr_v234 : 0 ≤ v234.toInt ∧ v234.toInt ≤ 400 := hIF.at hf233
                    have hs9 := hx227 (by omega)
                    rw [hf231, hf233] at hs9
                    have hPI : PI (R 24) (R 25) (R 27) (R 28) zs v232.toInt.toNat v234.toInt.toNat 1 := hs9.1
                    have hLo := And.intro (hLo.1.trans hs9.2.1 (Nat.le_refl _)) (hLo.2.trans hs9.2.2 (Nat.le_refl _))
                    rw [hf233] at hx228 hx229
                    have hsb := hx228
                    have hst := hx229
                    have hSq := hSq.to (pd1 := v234.toInt.toNat) (hrr9 27 (by decide)) (by omega)
                    have hinn0 := hinn
                    have hinn : inn (R 27) gd.toInt.toNat v47.toInt := by rw [hrr9 27 (by decide)]; exact hinn0
                    refine lv_aload_n hx hb dX13_behindSum_239 rfl (lv_at hl 1 rfl) ?_
                    refine lv_iload_n hx hb dX13_behindSum_240 rfl (lv_at hl 0 rfl) ?_
                    refine lv_iconst (v := 0) hx hb dX13_behindSum_241 (by decide) ?_
                    have hk_0 : (0 : Int32).toInt = 0 := by decide
                    refine mz_Vv (As := [.int v184, .int 0]) (rest := []) ⟨hx, hb, hml, hown, hts⟩ hK hM hS (k_X13_push l D cy ld ad am hD _ _ _ _ v184 0 v234 hIF hIG hIR hf233 (by omega) (by omega) (by omega)) ⟨callB_of 2 hts (wl_in mw_728) rfl rfl rfl (htl _ mw_5) (htl _ mw_725) hd_yX13_push ⟨(Nat.le_of_ble_eq_true rfl), (Nat.le_of_ble_eq_true rfl)⟩, htl _ mw_726, htl _ mw_727⟩ rfl hl.1 rfl (Nat.le_of_ble_eq_true rfl) dX13_behindSum_242 ⟨(Nat.le_of_ble_eq_true rfl), (Nat.le_of_ble_eq_true rfl)⟩ (fun H locs F G R S hpo hM hS => ?_)
                    obtain ⟨hIF, hIG, hIR, hfr9, hrr9, hgr9, hpo235, hx236, hx237⟩ := hpo
                    have hFF := mz_fr (K := [14, 15, 16, 18, 19, 23, 29, 30]) (Fa := Fa) hfr9 hFF (by decide)
                    have hRR := mz_fr (K := [24, 25, 27, 28]) (Fa := Ra) hrr9 hRR (by decide)
                    have hGG := mz_fr (K := [17]) (Fa := Ga) hgr9 hGG (by decide)
                    have hg_3 := (hfr9 13 (by decide)).trans hg_3
                    have hf210 := (hfr9 14 (by decide)).trans hf210
                    have hf212 := (hfr9 15 (by decide)).trans hf212
                    have hf214 := (hfr9 16 (by decide)).trans hf214
                    have hf216 := (hgr9 17 (by decide)).trans hf216
                    have hf218 := (hfr9 19 (by decide)).trans hf218
                    have hf231 := (hfr9 23 (by decide)).trans hf231
                    obtain ⟨v240, hf239⟩ : ∃ z : Int32, F 29 = z := ⟨_, rfl⟩
                    have hq_v240 := tk_rng v240
                    rw [hf239] at hpo235
                    have hr_v240 : 0 ≤ v240.toInt ∧ v240.toInt ≤ 400 := hIF.at hf239
                    have hPI : PI (R 24) (R 25) (R 27) (R 28) zs v232.toInt.toNat v240.toInt.toNat 0 := (PI.push (o := v184) hPI (by omega) (by omega) ⟨by omega, by omega⟩ (by rw [if_pos (by omega)]; rfl) (Or.inr (Or.inr hSq)) hx236 hx237).to (hrr9 24 (by decide)) (hrr9 25 (by decide)) rfl rfl rfl (by omega)
                    have hLo := And.intro (hLo.1.to (hrr9 24 (by decide))) (hLo.2.to (hrr9 25 (by decide)))
                    have hSq : nSq (R 27) v240.toInt.toNat := (hSq.push hx236 (by omega)).to rfl (by omega)
                    refine lv_iconst (v := 1) hx hb dX13_behindSum_245 (by decide) ?_
                    have hk_1 : (1 : Int32).toInt = 1 := by decide
                    exact mz_iret (v := 1) hx hb hr rfl hlocks ⟨hIF, hIG, hIR, hFF, hRR, hGG, (by rw [hf210, hf212]; omega), (by rw [hf212]; omega), (by rw [hf210, hf212, hf214]; omega), (by rw [hf210, hf212, hf214, hf216]; omega), (by rw [hf210]; omega), (by rw [hf210, hf231, hf239]; omega), (by rw [hf231]; omega), (by rw [hf210, hf218]; omega), (by rw [hf210, hf218]; omega), (by omega), (by omega), (fun _ => ⟨PT.mk hPI (by decide) (fun h9 => absurd h9 (by decide)) (fun h9 => absurd h9 (by decide)) rfl rfl rfl rfl (by rw [hf231]) (by rw [hf239]), hLo⟩)⟩ hM hS dX13_behindSum_246
                refine lv_icmp_ne (tgt := 219) hx hb dX13_behindSum_207 (by decide) (fun c9 => ?_) (fun c9 => ?_)
                · have hc187 : ¬ (v184.toInt = 27) := fun h9 => c9 ((fi_eq rfl (show (27 : Int32).toInt = 27 by decide)).mpr h9)
                  have hwk_241 : gs.toInt + (-3) = 0 := by omega
                  have hwk_242 : 0 ≤ (-1) * gf.toInt + gt.toInt + (-1) := by omega
                  refine lv_iconst (v := 1) hx hb dX13_behindSum_219 (by decide) ?_
                  refine lv_goto (tgt := 224) hx hb dX13_behindSum_220 (by decide) ?_
                  have hk_1 : (1 : Int32).toInt = 1 := by decide
                  exact hj200 1 _ _ (by omega) (by omega) (by omega) (by omega) hM hS (by omega) _ (lv_sub hl [0, 1] rfl)
                · have hc187 : v184.toInt = 27 := (fi_eq rfl (show (27 : Int32).toInt = 27 by decide)).mp c9
                  refine lv_aload_n hx hb dX13_behindSum_210 rfl (lv_at hl 1 rfl) ?_
                  refine lv_bipush (v := 61) hx hb dX13_behindSum_211 (by decide) ?_
                  have hk_61 : (61 : Int32).toInt = 61 := by decide
                  refine mz_Vj (As := [.int 61]) (rest := [.ref am]) ⟨hx, hb, hml, hown, hts⟩ hK hM hS (k_X13_isSign l D cy ld ad am hD _ _ _ _ 61 gs hIF hIG hIR hg_2) ⟨callB_of 1 hts (wl_in mw_732) rfl rfl rfl (htl _ mw_5) (htl _ mw_729) hd_yX13_isSign ⟨(Nat.le_of_ble_eq_true rfl), (Nat.le_of_ble_eq_true rfl)⟩, htl _ mw_730, htl _ mw_731⟩ rfl hl.1 rfl (Nat.le_of_ble_eq_true rfl) dX13_behindSum_213 ⟨(Nat.le_of_ble_eq_true rfl), (Nat.le_of_ble_eq_true rfl)⟩ (fun v243 H locs hpo hM hS => ?_)
                  obtain ⟨hpo244, hpo245, hpo246, hpo247, hpo248⟩ := hpo
                  have hq_v243 := tk_rng v243
                  refine lv_if_eq (tgt := 223) hx hb dX13_behindSum_216 (by decide) (fun c9 => ?_) (fun c9 => ?_)
                  · have hc250 : v243.toInt = 0 := (fi_eq rfl (show (0 : Int32).toInt = 0 by decide)).mp c9
                    refine lv_iconst (v := 0) hx hb dX13_behindSum_223 (by decide) ?_
                    have hk_0 : (0 : Int32).toInt = 0 := by decide
                    exact hj200 0 _ _ (by omega) (by omega) (by omega) (by omega) hM hS (by omega) _ (lv_sub hl [0, 1] rfl)
                  · have hc250 : ¬ (v243.toInt = 0) := fun h9 => c9 ((fi_eq rfl (show (0 : Int32).toInt = 0 by decide)).mpr h9)
                    have hwk_251 : gs.toInt + (-3) = 0 := by omega
                    have hwk_252 : 0 ≤ (-1) * gf.toInt + gt.toInt + (-1) := by omega
                    refine lv_iconst (v := 1) hx hb dX13_behindSum_219 (by decide) ?_
                    refine lv_goto (tgt := 224) hx hb dX13_behindSum_220 (by decide) ?_
                    have hk_1 : (1 : Int32).toInt = 1 := by decide
                    exact hj200 1 _ _ (by omega) (by omega) (by omega) (by omega) hM hS (by omega) _ (lv_sub hl [0, 1] rfl)
              refine lv_if_eq (tgt := 186) hx hb dX13_behindSum_178 (by decide) (fun c9 => ?_) (fun c9 => ?_)
              · have hc173 : v166.toInt = 0 := (fi_eq rfl (show (0 : Int32).toInt = 0 by decide)).mp c9
                refine lv_aload_n hx hb dX13_behindSum_186 rfl (lv_at hl 2 rfl) ?_
                refine lv_bipush (v := 62) hx hb dX13_behindSum_187 (by decide) ?_
                have hk_62 : (62 : Int32).toInt = 62 := by decide
                refine mz_Vj (As := [.int 62]) (rest := []) ⟨hx, hb, hml, hown, hts⟩ hK hM hS (k_X13_isSign l D cy ld ad am hD _ _ _ _ 62 gs hIF hIG hIR hg_2) ⟨callB_of 1 hts (wl_in mw_732) rfl rfl rfl (htl _ mw_5) (htl _ mw_729) hd_yX13_isSign ⟨(Nat.le_of_ble_eq_true rfl), (Nat.le_of_ble_eq_true rfl)⟩, htl _ mw_730, htl _ mw_731⟩ rfl hl.1 rfl (Nat.le_of_ble_eq_true rfl) dX13_behindSum_189 ⟨(Nat.le_of_ble_eq_true rfl), (Nat.le_of_ble_eq_true rfl)⟩ (fun v253 H locs hpo hM hS => ?_)
                obtain ⟨hpo254, hpo255, hpo256, hpo257, hpo258⟩ := hpo
                have hq_v253 := tk_rng v253
                refine lv_if_eq (tgt := 200) hx hb dX13_behindSum_192 (by decide) (fun c9 => ?_) (fun c9 => ?_)
                · have hc260 : v253.toInt = 0 := (fi_eq rfl (show (0 : Int32).toInt = 0 by decide)).mp c9
                  refine lv_bipush (v := 27) hx hb dX13_behindSum_200 (by decide) ?_
                  have hk_27 : (27 : Int32).toInt = 27 := by decide
                  exact hj186 27 _ _ (by omega) (by omega) hM hS (by omega) _ (lv_sub hl [2] rfl)
                · have hc260 : ¬ (v253.toInt = 0) := fun h9 => c9 ((fi_eq rfl (show (0 : Int32).toInt = 0 by decide)).mpr h9)
                  have hwk_261 : gs.toInt + (-3) = 0 := by omega
                  have hwk_262 : 0 ≤ (-1) * gf.toInt + gt.toInt + (-1) := by omega
                  refine lv_bipush (v := 26) hx hb dX13_behindSum_195 (by decide) ?_
                  refine lv_goto (tgt := 202) hx hb dX13_behindSum_197 (by decide) ?_
                  have hk_26 : (26 : Int32).toInt = 26 := by decide
                  exact hj186 26 _ _ (by omega) (by omega) hM hS (by omega) _ (lv_sub hl [2] rfl)
              · have hc173 : ¬ (v166.toInt = 0) := fun h9 => c9 ((fi_eq rfl (show (0 : Int32).toInt = 0 by decide)).mpr h9)
                have hwk_263 : gs.toInt + (-3) = 0 := by omega
                have hwk_264 : 0 ≤ (-1) * gf.toInt + gt.toInt + (-1) := by omega
                refine lv_bipush (v := 25) hx hb dX13_behindSum_181 (by decide) ?_
                refine lv_goto (tgt := 202) hx hb dX13_behindSum_183 (by decide) ?_
                have hk_25 : (25 : Int32).toInt = 25 := by decide
                exact hj186 25 _ _ (by omega) (by omega) hM hS (by omega) _ (lv_sub hl [2] rfl)
            · have hc165 : ¬ (v159.toInt = 0) := fun h9 => c9 ((fi_eq rfl (show (0 : Int32).toInt = 0 by decide)).mpr h9)
              refine lv_iconst (v := 2) hx hb dX13_behindSum_170 (by decide) ?_
              have hk_2 : (2 : Int32).toInt = 2 := by decide
              exact mz_iret (v := 2) hx hb hr rfl hlocks ⟨hIF, hIG, hIR, (fun _ _ => rfl), (fun _ _ => rfl), (fun _ _ => rfl), (by rw [hg_0, hg_1]; omega), (by rw [hg_1]; omega), (by rw [hg_0, hg_1, hg_2]; omega), (by rw [hg_0, hg_1, hg_2, hg_4]; omega), (by rw [hg_0]; omega), (by rw [hg_0, hg_6, hg_7]; omega), (by rw [hg_6]; omega), (by rw [hg_0, hg_5]; omega), (by rw [hg_0, hg_5]; omega), (by omega), (by omega), (fun _ => ⟨PT.mk hPI (by decide) (fun _ => hSq) (fun h9 => absurd h9 (by decide)) rfl rfl rfl rfl (by rw [hg_6]) (by rw [hg_7]), hLo⟩)⟩ hM hS dX13_behindSum_171
          · have hc158 : p1.toInt = 0 := (fi_eq rfl (show (0 : Int32).toInt = 0 by decide)).mp c9
            refine lv_iconst (v := 4) hx hb dX13_behindSum_161 (by decide) ?_
            have hk_4 : (4 : Int32).toInt = 4 := by decide
            have hBr := hinn.1 (by omega)
            exact mz_iret (v := 4) hx hb hr rfl hlocks ⟨hIF, hIG, hIR, (fun _ _ => rfl), (fun _ _ => rfl), (fun _ _ => rfl), (by rw [hg_0, hg_1]; omega), (by rw [hg_1]; omega), (by rw [hg_0, hg_1, hg_2]; omega), (by rw [hg_0, hg_1, hg_2, hg_4]; omega), (by rw [hg_0]; omega), (by rw [hg_0, hg_6, hg_7]; omega), (by rw [hg_6]; omega), (by rw [hg_0, hg_5]; omega), (by rw [hg_0, hg_5]; omega), (by omega), (by omega), (fun _ => ⟨PT.mk hPI (by decide) (fun h9 => absurd h9 (by decide)) (fun _ => hBr) rfl rfl rfl rfl (by rw [hg_6]) (by rw [hg_7]), hLo⟩)⟩ hM hS dX13_behindSum_162
      · have hc50 : v47.toInt = 32 := (fi_eq rfl (show (32 : Int32).toInt = 32 by decide)).mp c9
        refine lv_aload_n hx hb dX13_behindSum_108 rfl (lv_at hl 2 rfl) ?_
        refine lv_aload_n hx hb dX13_behindSum_109 rfl (lv_at hl 2 rfl) ?_
        refine lv_bipush (v := 93) hx hb dX13_behindSum_110 (by decide) ?_
        have hk_93 : (93 : Int32).toInt = 93 := by decide
        refine mz_Vj (As := [.int 93]) (rest := [.ref am]) ⟨hx, hb, hml, hown, hts⟩ hK hM hS (k_X13_isSign l D cy ld ad am hD _ _ _ _ 93 gs hIF hIG hIR hg_2) ⟨callB_of 1 hts (wl_in mw_732) rfl rfl rfl (htl _ mw_5) (htl _ mw_729) hd_yX13_isSign ⟨(Nat.le_of_ble_eq_true rfl), (Nat.le_of_ble_eq_true rfl)⟩, htl _ mw_730, htl _ mw_731⟩ rfl hl.1 rfl (Nat.le_of_ble_eq_true rfl) dX13_behindSum_112 ⟨(Nat.le_of_ble_eq_true rfl), (Nat.le_of_ble_eq_true rfl)⟩ (fun v265 H locs hpo hM hS => ?_)
        obtain ⟨hpo266, hpo267, hpo268, hpo269, hpo270⟩ := hpo
        have hq_v265 := tk_rng v265
        refine mz_Vv (As := [.int v265]) (rest := []) ⟨hx, hb, hml, hown, hts⟩ hK hM hS (k_X13_must l D cy ld ad am hD _ _ _ _ v265 gf gt gs gp gw gb hIF hIG hIR hg_0 hg_1 hg_2 hg_3 hg_4 hg_5 (by omega) (by omega) (by omega) (by omega) (by omega) (by omega)) ⟨callB_of 1 hts (wl_in mw_713) rfl rfl rfl (htl _ mw_5) (htl _ mw_710) hd_yX13_must ⟨(Nat.le_of_ble_eq_true rfl), (Nat.le_of_ble_eq_true rfl)⟩, htl _ mw_711, htl _ mw_712⟩ rfl hl.1 rfl (Nat.le_of_ble_eq_true rfl) dX13_behindSum_115 ⟨(Nat.le_of_ble_eq_true rfl), (Nat.le_of_ble_eq_true rfl)⟩ (fun H locs F G R S hpo hM hS => ?_)
        obtain ⟨hIF, hIG, hIR, hfr9, hrr9, hgr9, hpo272, hpo273, hpo274, hpo275, hpo276, hpo277, hpo278, hpo279⟩ := hpo
        have hFF := mz_fr (K := [14, 15, 16, 18, 19, 23, 29, 30]) (Fa := Fa) hfr9 (fun _ _ => rfl) (by decide)
        have hRR := mz_fr (K := [24, 25, 27, 28]) (Fa := Ra) hrr9 (fun _ _ => rfl) (by decide)
        have hGG := mz_fr (K := [17]) (Fa := Ga) hgr9 (fun _ _ => rfl) (by decide)
        have hg_3 := (hfr9 13 (by decide)).trans hg_3
        have hg_6 := (hfr9 23 (by decide)).trans hg_6
        have hg_7 := (hfr9 29 (by decide)).trans hg_7
        obtain ⟨v282, hf281⟩ : ∃ z : Int32, F 14 = z := ⟨_, rfl⟩
        have hq_v282 := tk_rng v282
        rw [hf281] at hpo272 hpo274 hpo275 hpo276 hpo278
        have hr_v282 : 0 ≤ v282.toInt ∧ v282.toInt ≤ 400 := hIF.at hf281
        obtain ⟨v284, hf283⟩ : ∃ z : Int32, F 15 = z := ⟨_, rfl⟩
        have hq_v284 := tk_rng v284
        rw [hf283] at hpo272 hpo273 hpo274 hpo275
        have hr_v284 : 0 ≤ v284.toInt ∧ v284.toInt ≤ 400 := hIF.at hf283
        obtain ⟨v286, hf285⟩ : ∃ z : Int32, F 16 = z := ⟨_, rfl⟩
        have hq_v286 := tk_rng v286
        rw [hf285] at hpo274 hpo275
        have hr_v286 : 0 ≤ v286.toInt ∧ v286.toInt ≤ 3 := hIF.at hf285
        obtain ⟨w288, hf287⟩ : ∃ z : Int64, G 17 = z := ⟨_, rfl⟩
        have hq_w288 := tk_rngL w288
        rw [hf287] at hpo275
        obtain ⟨v290, hf289⟩ : ∃ z : Int32, F 19 = z := ⟨_, rfl⟩
        have hq_v290 := tk_rng v290
        rw [hf289] at hpo277 hpo278 hpo279
        have hr_v290 : 0 ≤ v290.toInt ∧ v290.toInt ≤ 1 := hIF.at hf289
        have hPI := hPI.to (hrr9 24 (by decide)) (hrr9 25 (by decide)) (hrr9 27 (by decide)) (hrr9 28 (by decide)) rfl rfl
        have hLo := And.intro (hLo.1.to (hrr9 24 (by decide))) (hLo.2.to (hrr9 25 (by decide)))
        have hinn0 := hinn
        have hinn : inn (R 27) gd.toInt.toNat v47.toInt := by rw [hrr9 27 (by decide)]; exact hinn0
        refine lv_aload_n hx hb dX13_behindSum_118 rfl (lv_at hl 2 rfl) ?_
        refine mz_getI hx hb htl hown hK hM 19 (Nat.le_of_ble_eq_true rfl) rfl (htl _ mw_668) (fun _ h9 => h9) dX13_behindSum_119 (fun v9 e9 => ?_)
        refine fx_ti (v := v290) (e9.symm.trans hf289) ?_
        refine lv_if_ne (tgt := 150) hx hb dX13_behindSum_122 (by decide) (fun c9 => ?_) (fun c9 => ?_)
        · have hc291 : ¬ (v290.toInt = 0) := fun h9 => c9 ((fi_eq rfl (show (0 : Int32).toInt = 0 by decide)).mpr h9)
          refine lv_iconst (v := 3) hx hb dX13_behindSum_150 (by decide) ?_
          have hk_3 : (3 : Int32).toInt = 3 := by decide
          exact mz_iret (v := 3) hx hb hr rfl hlocks ⟨hIF, hIG, hIR, hFF, hRR, hGG, (by rw [hf281, hf283]; omega), (by rw [hf283]; omega), (by rw [hf281, hf283, hf285]; omega), (by rw [hf281, hf283, hf285, hf287]; omega), (by rw [hf281]; omega), (by rw [hf281, hg_6, hg_7]; omega), (by rw [hg_6]; omega), (by rw [hf281, hf289]; omega), (by rw [hf281, hf289]; omega), (by omega), (by omega), (by rw [hf289]; exact fun h9 => absurd h9 (by omega))⟩ hM hS dX13_behindSum_151
        · have hc291 : v290.toInt = 0 := (fi_eq rfl (show (0 : Int32).toInt = 0 by decide)).mp c9
          have hwk_292 : 0 ≤ (-1) * gt.toInt + v282.toInt ∧ 1 ≤ v265.toInt := by omega
          have hwk_293 : gs.toInt + (-3) = 0 := by omega
          have hwk_294 : 0 ≤ (-1) * gf.toInt + gt.toInt + (-1) := by omega
          refine lv_aload_n hx hb dX13_behindSum_125 rfl (lv_at hl 2 rfl) ?_
          refine lv_iconst (v := 5) hx hb dX13_behindSum_126 (by decide) ?_
          have hk_5 : (5 : Int32).toInt = 5 := by decide
          refine mz_Vv (As := [.int 5]) (rest := []) ⟨hx, hb, hml, hown, hts⟩ hK hM hS (k_X13_settle l D cy ld ad am hD _ _ _ _ 5 gc gd v290 zs hIF hIG hIR hg_6 hg_7 hf289 (by omega) (by omega) (by omega) (fun _ => hPI)) ⟨callB_of 1 hts (wl_in mw_773) rfl rfl rfl (htl _ mw_5) (htl _ mw_770) hd_yX13_settle ⟨(Nat.le_of_ble_eq_true rfl), (Nat.le_of_ble_eq_true rfl)⟩, htl _ mw_771, htl _ mw_772⟩ rfl hl.1 rfl (Nat.le_of_ble_eq_true rfl) dX13_behindSum_127 ⟨(Nat.le_of_ble_eq_true rfl), (Nat.le_of_ble_eq_true rfl)⟩ (fun H locs F G R S hpo hM hS => ?_)
          obtain ⟨hIF, hIG, hIR, hfr9, hrr9, hgr9, hpo295, hpo296, hpo297, hx298, hx299, hx300⟩ := hpo
          have hFF := mz_fr (K := [14, 15, 16, 18, 19, 23, 29, 30]) (Fa := Fa) hfr9 hFF (by decide)
          have hRR := mz_fr (K := [24, 25, 27, 28]) (Fa := Ra) hrr9 hRR (by decide)
          have hGG := mz_fr (K := [17]) (Fa := Ga) hgr9 hGG (by decide)
          have hg_3 := (hfr9 13 (by decide)).trans hg_3
          have hf281 := (hfr9 14 (by decide)).trans hf281
          have hf283 := (hfr9 15 (by decide)).trans hf283
          have hf285 := (hfr9 16 (by decide)).trans hf285
          have hf287 := (hgr9 17 (by decide)).trans hf287
          have hf289 := (hfr9 19 (by decide)).trans hf289
          obtain ⟨v303, hf302⟩ : ∃ z : Int32, F 23 = z := ⟨_, rfl⟩
          have hq_v303 := tk_rng v303
          rw [hf302] at hpo295 hpo297
          have hr_v303 : 0 ≤ v303.toInt ∧ v303.toInt ≤ 400 := hIF.at hf302
          obtain ⟨v305, hf304⟩ : ∃ z : Int32, F 29 = z := ⟨_, rfl⟩
          have hq_v305 := tk_rng v305
          rw [hf304] at hpo295 hpo296
          have hr_v305 : 0 ≤ v305.toInt ∧ v305.toInt ≤ 400 := hIF.at hf304
          have hs9 := hx298 (by omega)
          rw [hf302, hf304] at hs9
          have hPI : PI (R 24) (R 25) (R 27) (R 28) zs v303.toInt.toNat v305.toInt.toNat 1 := hs9.1
          have hLo := And.intro (hLo.1.trans hs9.2.1 (Nat.le_refl _)) (hLo.2.trans hs9.2.2 (Nat.le_refl _))
          rw [hf304] at hx299 hx300
          have hsb := hx299
          have hst := hx300
          have hinn0 := hinn
          have hinn : inn (R 27) gd.toInt.toNat v47.toInt := by rw [hrr9 27 (by decide)]; exact hinn0
          have e27 := hrr9 27 (by decide)
          obtain ⟨g1, j9, g2, g3, g4⟩ := hinn0.2 (by omega)
          have h1 := hsb j9 (by omega) (by omega)
          have hd1 : 1 ≤ v305.toInt := by omega
          have htp : 31 ≤ (R 27 (v305.toInt - 1).toNat).toInt := PI.top5 (j := j9) (hPI.to rfl rfl rfl rfl rfl (by omega)) (by omega) (by rw [e27]; omega) (by rw [e27]; exact (hst hd1).2 (by decide))
          have hPI := PI.popbr (pd := (v305.toInt - 1).toNat) (hPI.to rfl rfl rfl rfl rfl (by omega)) htp
          refine lv_aload_n hx hb dX13_behindSum_130 rfl (lv_at hl 2 rfl) ?_
          refine lv_dup hx hb dX13_behindSum_131 rfl ?_
          refine mz_getI hx hb htl hown hK hM 29 (Nat.le_of_ble_eq_true rfl) rfl (htl _ mw_718) (fun _ h9 => h9) dX13_behindSum_132 (fun v9 e9 => ?_)
          refine fx_ti (v := v305) (e9.symm.trans hf304) ?_
          refine lv_iconst (v := 1) hx hb dX13_behindSum_135 (by decide) ?_
          refine lv_isub hx hb dX13_behindSum_136 ?_
          refine tk_sub rfl (show (1 : Int32).toInt = 1 by decide) (by omega) (by omega) (fun v306 h_v306 => ?_)
          refine mz_putI (ty := .int) (x := v306) hx hb htl hown hK hD hM hS 29 (Nat.le_of_ble_eq_true rfl) rfl (htl _ mw_718) (fun _ h9 => h9) rfl (tyX13_ok 29 (by decide)) rfl rfl dX13_behindSum_137 (fun H locs F hM hS hf9 hj9 => ?_)
          have hIF := hIF.put hf9 hj9 (show 0 ≤ (v306 : Int32).toInt by omega) (show (v306 : Int32).toInt ≤ 400 by omega) (by decide)
          have hFF := mz_frp (K := [14, 15, 16, 18, 19, 23, 29, 30]) (Fa := Fa) hj9 hFF (by decide)
          have hg_3 := (hj9 13 (by decide)).trans hg_3
          have hf281 := (hj9 14 (by decide)).trans hf281
          have hf283 := (hj9 15 (by decide)).trans hf283
          have hf285 := (hj9 16 (by decide)).trans hf285
          have hf289 := (hj9 19 (by decide)).trans hf289
          have hf302 := (hj9 23 (by decide)).trans hf302
          have hf308 := hf9
          have hPI : PI (R 24) (R 25) (R 27) (R 28) zs v303.toInt.toNat v306.toInt.toNat 1 := hPI.to rfl rfl rfl rfl rfl (by omega)
          refine lv_aload_n hx hb dX13_behindSum_140 rfl (lv_at hl 2 rfl) ?_
          refine lv_dup hx hb dX13_behindSum_141 rfl ?_
          refine mz_getI hx hb htl hown hK hM 30 (Nat.le_of_ble_eq_true rfl) rfl (htl _ mw_719) (fun _ h9 => h9) dX13_behindSum_142 (fun v310 hf309 => ?_)
          have hq_v310 := tk_rng v310
          refine lv_iconst (v := 1) hx hb dX13_behindSum_145 (by decide) ?_
          refine lv_isub hx hb dX13_behindSum_146 ?_
          obtain ⟨v311, hm_v311⟩ : ∃ z : Int32, v310 - 1 = z := ⟨_, rfl⟩
          refine fx_ti hm_v311 ?_
          refine mz_putI (ty := .int) (x := v311) hx hb htl hown hK hD hM hS 30 (Nat.le_of_ble_eq_true rfl) rfl (htl _ mw_719) (fun _ h9 => h9) rfl (tyX13_ok 30 (by decide)) rfl rfl dX13_behindSum_147 (fun H locs F hM hS hf9 hj9 => ?_)
          have hIF := hIF.put hf9 hj9 (tk_rng _).1 (tk_rng _).2 (by decide)
          have hFF := mz_frp (K := [14, 15, 16, 18, 19, 23, 29, 30]) (Fa := Fa) hj9 hFF (by decide)
          have hg_3 := (hj9 13 (by decide)).trans hg_3
          have hf281 := (hj9 14 (by decide)).trans hf281
          have hf283 := (hj9 15 (by decide)).trans hf283
          have hf285 := (hj9 16 (by decide)).trans hf285
          have hf289 := (hj9 19 (by decide)).trans hf289
          have hf302 := (hj9 23 (by decide)).trans hf302
          have hf308 := (hj9 29 (by decide)).trans hf308
          have hf313 := hf9
          refine lv_iconst (v := 3) hx hb dX13_behindSum_150 (by decide) ?_
          have hk_3 : (3 : Int32).toInt = 3 := by decide
          exact mz_iret (v := 3) hx hb hr rfl hlocks ⟨hIF, hIG, hIR, hFF, hRR, hGG, (by rw [hf281, hf283]; omega), (by rw [hf283]; omega), (by rw [hf281, hf283, hf285]; omega), (by rw [hf281, hf283, hf285, hf287]; omega), (by rw [hf281]; omega), (by rw [hf281, hf302, hf308]; omega), (by rw [hf302]; omega), (by rw [hf281, hf289]; omega), (by rw [hf281, hf289]; omega), (by omega), (by omega), (fun _ => ⟨PT.mk hPI (by decide) (fun h9 => absurd h9 (by decide)) (fun h9 => absurd h9 (by decide)) rfl rfl rfl rfl (by rw [hf302]) (by rw [hf308]), hLo⟩)⟩ hM hS dX13_behindSum_151
    · have hc46 : ¬ (v43.toInt = (-1)) := fun h9 => c9 ((fi_eq rfl (show ((-1) : Int32).toInt = (-1) by decide)).mpr h9)
      have hwk_314 : 20 ≤ v43.toInt ∧ gs.toInt + (-3) = 0 := by omega
      have hwk_315 : 0 ≤ (-1) * gf.toInt + gt.toInt + (-1) := by omega
      refine lv_aload_n hx hb dX13_behindSum_77 rfl (lv_at hl 1 rfl) ?_
      refine lv_iload_n hx hb dX13_behindSum_78 rfl (lv_at hl 0 rfl) ?_
      refine mz_Sj (As := [.int v43]) (rest := [.ref am]) ⟨hx, hb, hml, hown, hts⟩ hK hM hS (k_X13_binds l D cy ld ad am hD _ _ _ _ v43) ⟨callB_of 1 hts (wl_in mw_769) rfl rfl rfl (htl _ mw_5) (htl _ mw_767) hd_yX13_binds ⟨(Nat.le_of_ble_eq_true rfl), (Nat.le_of_ble_eq_true rfl)⟩, htl _ mw_768⟩ rfl hl.1 rfl (Nat.le_of_ble_eq_true rfl) dX13_behindSum_79 ⟨(Nat.le_of_ble_eq_true rfl), (Nat.le_of_ble_eq_true rfl)⟩ (fun v316 H locs hpo hM hS => ?_)
      obtain ⟨hpo317, hpo318, hpo319, hpo320, hpo321, hpo322⟩ := hpo
      have hq_v316 := tk_rng v316
      have hwk_324 : 1 ≤ v316.toInt := by omega
      refine mz_Vv (As := [.int v316]) (rest := []) ⟨hx, hb, hml, hown, hts⟩ hK hM hS (k_X13_settle l D cy ld ad am hD _ _ _ _ v316 gc gd gb zs hIF hIG hIR hg_6 hg_7 hg_5 (by omega) (by omega) (by omega) (fun _ => hPI)) ⟨callB_of 1 hts (wl_in mw_773) rfl rfl rfl (htl _ mw_5) (htl _ mw_770) hd_yX13_settle ⟨(Nat.le_of_ble_eq_true rfl), (Nat.le_of_ble_eq_true rfl)⟩, htl _ mw_771, htl _ mw_772⟩ rfl hl.1 rfl (Nat.le_of_ble_eq_true rfl) dX13_behindSum_82 ⟨(Nat.le_of_ble_eq_true rfl), (Nat.le_of_ble_eq_true rfl)⟩ (fun H locs F G R S hpo hM hS => ?_)
      obtain ⟨hIF, hIG, hIR, hfr9, hrr9, hgr9, hpo325, hpo326, hpo327, hx328, hx329, hx330⟩ := hpo
      have hFF := mz_fr (K := [14, 15, 16, 18, 19, 23, 29, 30]) (Fa := Fa) hfr9 (fun _ _ => rfl) (by decide)
      have hRR := mz_fr (K := [24, 25, 27, 28]) (Fa := Ra) hrr9 (fun _ _ => rfl) (by decide)
      have hGG := mz_fr (K := [17]) (Fa := Ga) hgr9 (fun _ _ => rfl) (by decide)
      have hg_0 := (hfr9 14 (by decide)).trans hg_0
      have hg_1 := (hfr9 15 (by decide)).trans hg_1
      have hg_2 := (hfr9 16 (by decide)).trans hg_2
      have hg_3 := (hfr9 13 (by decide)).trans hg_3
      have hg_4 := (hgr9 17 (by decide)).trans hg_4
      have hg_5 := (hfr9 19 (by decide)).trans hg_5
      obtain ⟨v333, hf332⟩ : ∃ z : Int32, F 23 = z := ⟨_, rfl⟩
      have hq_v333 := tk_rng v333
      rw [hf332] at hpo325 hpo327
      have hr_v333 : 0 ≤ v333.toInt ∧ v333.toInt ≤ 400 := hIF.at hf332
      obtain ⟨v335, hf334⟩ : ∃ z : Int32, F 29 = z := ⟨_, rfl⟩
      have hq_v335 := tk_rng v335
      rw [hf334] at hpo325 hpo326
      have hr_v335 : 0 ≤ v335.toInt ∧ v335.toInt ≤ 400 := hIF.at hf334
      have hs9 := hx328 (by omega)
      rw [hf332, hf334] at hs9
      have hPI : PI (R 24) (R 25) (R 27) (R 28) zs v333.toInt.toNat v335.toInt.toNat 1 := hs9.1
      have hLo := And.intro (hLo.1.trans hs9.2.1 (Nat.le_refl _)) (hLo.2.trans hs9.2.2 (Nat.le_refl _))
      rw [hf334] at hx329 hx330
      have hsb := hx329
      have hst := hx330
      refine lv_aload_n hx hb dX13_behindSum_85 rfl (lv_at hl 1 rfl) ?_
      refine lv_iload_n hx hb dX13_behindSum_86 rfl (lv_at hl 0 rfl) ?_
      refine lv_iconst (v := 0) hx hb dX13_behindSum_87 (by decide) ?_
      have hk_0 : (0 : Int32).toInt = 0 := by decide
      refine mz_Vv (As := [.int v43, .int 0]) (rest := []) ⟨hx, hb, hml, hown, hts⟩ hK hM hS (k_X13_push l D cy ld ad am hD _ _ _ _ v43 0 v335 hIF hIG hIR hf334 (by omega) (by omega) (by omega)) ⟨callB_of 2 hts (wl_in mw_728) rfl rfl rfl (htl _ mw_5) (htl _ mw_725) hd_yX13_push ⟨(Nat.le_of_ble_eq_true rfl), (Nat.le_of_ble_eq_true rfl)⟩, htl _ mw_726, htl _ mw_727⟩ rfl hl.1 rfl (Nat.le_of_ble_eq_true rfl) dX13_behindSum_88 ⟨(Nat.le_of_ble_eq_true rfl), (Nat.le_of_ble_eq_true rfl)⟩ (fun H locs F G R S hpo hM hS => ?_)
      obtain ⟨hIF, hIG, hIR, hfr9, hrr9, hgr9, hpo336, hx337, hx338⟩ := hpo
      have hFF := mz_fr (K := [14, 15, 16, 18, 19, 23, 29, 30]) (Fa := Fa) hfr9 hFF (by decide)
      have hRR := mz_fr (K := [24, 25, 27, 28]) (Fa := Ra) hrr9 hRR (by decide)
      have hGG := mz_fr (K := [17]) (Fa := Ga) hgr9 hGG (by decide)
      have hg_0 := (hfr9 14 (by decide)).trans hg_0
      have hg_1 := (hfr9 15 (by decide)).trans hg_1
      have hg_2 := (hfr9 16 (by decide)).trans hg_2
      have hg_3 := (hfr9 13 (by decide)).trans hg_3
      have hg_4 := (hgr9 17 (by decide)).trans hg_4
      have hg_5 := (hfr9 19 (by decide)).trans hg_5
      have hf332 := (hfr9 23 (by decide)).trans hf332
      obtain ⟨v341, hf340⟩ : ∃ z : Int32, F 29 = z := ⟨_, rfl⟩
      have hq_v341 := tk_rng v341
      rw [hf340] at hpo336
      have hr_v341 : 0 ≤ v341.toInt ∧ v341.toInt ≤ 400 := hIF.at hf340
      have hPI : PI (R 24) (R 25) (R 27) (R 28) zs v333.toInt.toNat v341.toInt.toNat 0 := (PI.push (o := v43) hPI (by omega) (by omega) ⟨by omega, by omega⟩ (by rw [if_pos (by omega)]; rfl) (Or.inl ⟨by omega, by omega⟩) hx337 hx338).to (hrr9 24 (by decide)) (hrr9 25 (by decide)) rfl rfl rfl (by omega)
      have hLo := And.intro (hLo.1.to (hrr9 24 (by decide))) (hLo.2.to (hrr9 25 (by decide)))
      refine lv_aload_n hx hb dX13_behindSum_91 rfl (lv_at hl 1 rfl) ?_
      refine mz_Vv (As := []) (rest := []) ⟨hx, hb, hml, hown, hts⟩ hK hM hS (k_X13_next l D cy ld ad am hD _ _ _ _ gt gp hIF hIG hIR hg_1 hg_3 (by omega)) ⟨callB_of 0 hts (wl_in mw_685) rfl rfl rfl (htl _ mw_5) (htl _ mw_682) hd_yX13_next ⟨(Nat.le_of_ble_eq_true rfl), (Nat.le_of_ble_eq_true rfl)⟩, htl _ mw_683, htl _ mw_684⟩ rfl hl.1 rfl (Nat.le_of_ble_eq_true rfl) dX13_behindSum_92 ⟨(Nat.le_of_ble_eq_true rfl), (Nat.le_of_ble_eq_true rfl)⟩ (fun H locs F G R S hpo hM hS => ?_)
      obtain ⟨hIF, hIG, hIR, hfr9, hrr9, hgr9, hpo342, hpo343, hpo344, hpo345, hpo346⟩ := hpo
      have hFF := mz_fr (K := [14, 15, 16, 18, 19, 23, 29, 30]) (Fa := Fa) hfr9 hFF (by decide)
      have hRR := mz_fr (K := [24, 25, 27, 28]) (Fa := Ra) hrr9 hRR (by decide)
      have hGG := mz_fr (K := [17]) (Fa := Ga) hgr9 hGG (by decide)
      have hg_3 := (hfr9 13 (by decide)).trans hg_3
      have hg_5 := (hfr9 19 (by decide)).trans hg_5
      have hf332 := (hfr9 23 (by decide)).trans hf332
      have hf340 := (hfr9 29 (by decide)).trans hf340
      obtain ⟨v349, hf348⟩ : ∃ z : Int32, F 14 = z := ⟨_, rfl⟩
      have hq_v349 := tk_rng v349
      rw [hf348] at hpo342 hpo343 hpo345 hpo346
      have hr_v349 : 0 ≤ v349.toInt ∧ v349.toInt ≤ 400 := hIF.at hf348
      obtain ⟨v351, hf350⟩ : ∃ z : Int32, F 15 = z := ⟨_, rfl⟩
      have hq_v351 := tk_rng v351
      rw [hf350] at hpo343 hpo344 hpo345 hpo346
      have hr_v351 : 0 ≤ v351.toInt ∧ v351.toInt ≤ 400 := hIF.at hf350
      obtain ⟨v353, hf352⟩ : ∃ z : Int32, F 16 = z := ⟨_, rfl⟩
      have hq_v353 := tk_rng v353
      rw [hf352] at hpo345 hpo346
      have hr_v353 : 0 ≤ v353.toInt ∧ v353.toInt ≤ 3 := hIF.at hf352
      obtain ⟨w355, hf354⟩ : ∃ z : Int64, G 17 = z := ⟨_, rfl⟩
      have hq_w355 := tk_rngL w355
      rw [hf354] at hpo346
      have hPI := hPI.to (hrr9 24 (by decide)) (hrr9 25 (by decide)) (hrr9 27 (by decide)) (hrr9 28 (by decide)) rfl rfl
      have hLo := And.intro (hLo.1.to (hrr9 24 (by decide))) (hLo.2.to (hrr9 25 (by decide)))
      refine lv_iconst (v := 1) hx hb dX13_behindSum_95 (by decide) ?_
      have hk_1 : (1 : Int32).toInt = 1 := by decide
      exact mz_iret (v := 1) hx hb hr rfl hlocks ⟨hIF, hIG, hIR, hFF, hRR, hGG, (by rw [hf348, hf350]; omega), (by rw [hf350]; omega), (by rw [hf348, hf350, hf352]; omega), (by rw [hf348, hf350, hf352, hf354]; omega), (by rw [hf348]; omega), (by rw [hf348, hf332, hf340]; omega), (by rw [hf332]; omega), (by rw [hf348, hg_5]; omega), (by rw [hf348, hg_5]; omega), (by omega), (by omega), (fun _ => ⟨PT.mk hPI (by decide) (fun h9 => absurd h9 (by decide)) (fun h9 => absurd h9 (by decide)) rfl rfl rfl rfl (by rw [hf332]) (by rw [hf340]), hLo⟩)⟩ hM hS dX13_behindSum_96
  refine lv_if_eq (tgt := 14) hx hb dX13_behindSum_6 (by decide) (fun c9 => ?_) (fun c9 => ?_)
  · have hc8 : v1.toInt = 0 := (fi_eq rfl (show (0 : Int32).toInt = 0 by decide)).mp c9
    refine lv_aload_n hx hb dX13_behindSum_14 rfl (lv_at hl 0 rfl) ?_
    refine lv_bipush (v := 45) hx hb dX13_behindSum_15 (by decide) ?_
    have hk_45 : (45 : Int32).toInt = 45 := by decide
    refine mz_Vj (As := [.int 45]) (rest := []) ⟨hx, hb, hml, hown, hts⟩ hK hM hS (k_X13_isSign l D cy ld ad am hD _ _ _ _ 45 gs hIF hIG hIR hg_2) ⟨callB_of 1 hts (wl_in mw_732) rfl rfl rfl (htl _ mw_5) (htl _ mw_729) hd_yX13_isSign ⟨(Nat.le_of_ble_eq_true rfl), (Nat.le_of_ble_eq_true rfl)⟩, htl _ mw_730, htl _ mw_731⟩ rfl hl.1 rfl (Nat.le_of_ble_eq_true rfl) dX13_behindSum_17 ⟨(Nat.le_of_ble_eq_true rfl), (Nat.le_of_ble_eq_true rfl)⟩ (fun v356 H locs hpo hM hS => ?_)
    obtain ⟨hpo357, hpo358, hpo359, hpo360, hpo361⟩ := hpo
    have hq_v356 := tk_rng v356
    refine lv_if_eq (tgt := 28) hx hb dX13_behindSum_20 (by decide) (fun c9 => ?_) (fun c9 => ?_)
    · have hc363 : v356.toInt = 0 := (fi_eq rfl (show (0 : Int32).toInt = 0 by decide)).mp c9
      refine lv_aload_n hx hb dX13_behindSum_28 rfl (lv_at hl 0 rfl) ?_
      refine lv_bipush (v := 42) hx hb dX13_behindSum_29 (by decide) ?_
      have hk_42 : (42 : Int32).toInt = 42 := by decide
      refine mz_Vj (As := [.int 42]) (rest := []) ⟨hx, hb, hml, hown, hts⟩ hK hM hS (k_X13_isSign l D cy ld ad am hD _ _ _ _ 42 gs hIF hIG hIR hg_2) ⟨callB_of 1 hts (wl_in mw_732) rfl rfl rfl (htl _ mw_5) (htl _ mw_729) hd_yX13_isSign ⟨(Nat.le_of_ble_eq_true rfl), (Nat.le_of_ble_eq_true rfl)⟩, htl _ mw_730, htl _ mw_731⟩ rfl hl.1 rfl (Nat.le_of_ble_eq_true rfl) dX13_behindSum_31 ⟨(Nat.le_of_ble_eq_true rfl), (Nat.le_of_ble_eq_true rfl)⟩ (fun v364 H locs hpo hM hS => ?_)
      obtain ⟨hpo365, hpo366, hpo367, hpo368, hpo369⟩ := hpo
      have hq_v364 := tk_rng v364
      refine lv_if_eq (tgt := 42) hx hb dX13_behindSum_34 (by decide) (fun c9 => ?_) (fun c9 => ?_)
      · have hc371 : v364.toInt = 0 := (fi_eq rfl (show (0 : Int32).toInt = 0 by decide)).mp c9
        refine lv_aload_n hx hb dX13_behindSum_42 rfl (lv_at hl 0 rfl) ?_
        refine lv_bipush (v := 47) hx hb dX13_behindSum_43 (by decide) ?_
        have hk_47 : (47 : Int32).toInt = 47 := by decide
        refine mz_Vj (As := [.int 47]) (rest := []) ⟨hx, hb, hml, hown, hts⟩ hK hM hS (k_X13_isSign l D cy ld ad am hD _ _ _ _ 47 gs hIF hIG hIR hg_2) ⟨callB_of 1 hts (wl_in mw_732) rfl rfl rfl (htl _ mw_5) (htl _ mw_729) hd_yX13_isSign ⟨(Nat.le_of_ble_eq_true rfl), (Nat.le_of_ble_eq_true rfl)⟩, htl _ mw_730, htl _ mw_731⟩ rfl hl.1 rfl (Nat.le_of_ble_eq_true rfl) dX13_behindSum_45 ⟨(Nat.le_of_ble_eq_true rfl), (Nat.le_of_ble_eq_true rfl)⟩ (fun v372 H locs hpo hM hS => ?_)
        obtain ⟨hpo373, hpo374, hpo375, hpo376, hpo377⟩ := hpo
        have hq_v372 := tk_rng v372
        refine lv_if_eq (tgt := 56) hx hb dX13_behindSum_48 (by decide) (fun c9 => ?_) (fun c9 => ?_)
        · have hc379 : v372.toInt = 0 := (fi_eq rfl (show (0 : Int32).toInt = 0 by decide)).mp c9
          refine lv_aload_n hx hb dX13_behindSum_56 rfl (lv_at hl 0 rfl) ?_
          refine lv_bipush (v := 37) hx hb dX13_behindSum_57 (by decide) ?_
          have hk_37 : (37 : Int32).toInt = 37 := by decide
          refine mz_Vj (As := [.int 37]) (rest := []) ⟨hx, hb, hml, hown, hts⟩ hK hM hS (k_X13_isSign l D cy ld ad am hD _ _ _ _ 37 gs hIF hIG hIR hg_2) ⟨callB_of 1 hts (wl_in mw_732) rfl rfl rfl (htl _ mw_5) (htl _ mw_729) hd_yX13_isSign ⟨(Nat.le_of_ble_eq_true rfl), (Nat.le_of_ble_eq_true rfl)⟩, htl _ mw_730, htl _ mw_731⟩ rfl hl.1 rfl (Nat.le_of_ble_eq_true rfl) dX13_behindSum_59 ⟨(Nat.le_of_ble_eq_true rfl), (Nat.le_of_ble_eq_true rfl)⟩ (fun v380 H locs hpo hM hS => ?_)
          obtain ⟨hpo381, hpo382, hpo383, hpo384, hpo385⟩ := hpo
          have hq_v380 := tk_rng v380
          refine lv_if_eq (tgt := 70) hx hb dX13_behindSum_62 (by decide) (fun c9 => ?_) (fun c9 => ?_)
          · have hc387 : v380.toInt = 0 := (fi_eq rfl (show (0 : Int32).toInt = 0 by decide)).mp c9
            refine lv_iconst (v := (-1)) hx hb dX13_behindSum_70 (by decide) ?_
            have hk_m1 : ((-1) : Int32).toInt = (-1) := by decide
            exact hj45 (-1) _ _ (by omega) (by omega) hM hS (by omega) _ (lv_sub hl [0, 1] rfl)
          · have hc387 : ¬ (v380.toInt = 0) := fun h9 => c9 ((fi_eq rfl (show (0 : Int32).toInt = 0 by decide)).mpr h9)
            have hwk_388 : gs.toInt + (-3) = 0 := by omega
            have hwk_389 : 0 ≤ (-1) * gf.toInt + gt.toInt + (-1) := by omega
            refine lv_bipush (v := 24) hx hb dX13_behindSum_65 (by decide) ?_
            refine lv_goto (tgt := 71) hx hb dX13_behindSum_67 (by decide) ?_
            have hk_24 : (24 : Int32).toInt = 24 := by decide
            exact hj45 24 _ _ (by omega) (by omega) hM hS (by omega) _ (lv_sub hl [0, 1] rfl)
        · have hc379 : ¬ (v372.toInt = 0) := fun h9 => c9 ((fi_eq rfl (show (0 : Int32).toInt = 0 by decide)).mpr h9)
          have hwk_390 : gs.toInt + (-3) = 0 := by omega
          have hwk_391 : 0 ≤ (-1) * gf.toInt + gt.toInt + (-1) := by omega
          refine lv_bipush (v := 23) hx hb dX13_behindSum_51 (by decide) ?_
          refine lv_goto (tgt := 71) hx hb dX13_behindSum_53 (by decide) ?_
          have hk_23 : (23 : Int32).toInt = 23 := by decide
          exact hj45 23 _ _ (by omega) (by omega) hM hS (by omega) _ (lv_sub hl [0, 1] rfl)
      · have hc371 : ¬ (v364.toInt = 0) := fun h9 => c9 ((fi_eq rfl (show (0 : Int32).toInt = 0 by decide)).mpr h9)
        have hwk_392 : gs.toInt + (-3) = 0 := by omega
        have hwk_393 : 0 ≤ (-1) * gf.toInt + gt.toInt + (-1) := by omega
        refine lv_bipush (v := 22) hx hb dX13_behindSum_37 (by decide) ?_
        refine lv_goto (tgt := 71) hx hb dX13_behindSum_39 (by decide) ?_
        have hk_22 : (22 : Int32).toInt = 22 := by decide
        exact hj45 22 _ _ (by omega) (by omega) hM hS (by omega) _ (lv_sub hl [0, 1] rfl)
    · have hc363 : ¬ (v356.toInt = 0) := fun h9 => c9 ((fi_eq rfl (show (0 : Int32).toInt = 0 by decide)).mpr h9)
      have hwk_394 : gs.toInt + (-3) = 0 := by omega
      have hwk_395 : 0 ≤ (-1) * gf.toInt + gt.toInt + (-1) := by omega
      refine lv_bipush (v := 21) hx hb dX13_behindSum_23 (by decide) ?_
      refine lv_goto (tgt := 71) hx hb dX13_behindSum_25 (by decide) ?_
      have hk_21 : (21 : Int32).toInt = 21 := by decide
      exact hj45 21 _ _ (by omega) (by omega) hM hS (by omega) _ (lv_sub hl [0, 1] rfl)
  · have hc8 : ¬ (v1.toInt = 0) := fun h9 => c9 ((fi_eq rfl (show (0 : Int32).toInt = 0 by decide)).mpr h9)
    have hwk_396 : gs.toInt + (-3) = 0 := by omega
    have hwk_397 : 0 ≤ (-1) * gf.toInt + gt.toInt + (-1) := by omega
    refine lv_bipush (v := 20) hx hb dX13_behindSum_9 (by decide) ?_
    refine lv_goto (tgt := 71) hx hb dX13_behindSum_11 (by decide) ?_
    have hk_20 : (20 : Int32).toInt = 20 := by decide
    exact hj45 20 _ _ (by omega) (by omega) hM hS (by omega) _ (lv_sub hl [0, 1] rfl)
