theorem hd_yX13_inner : yX13_inner.cls ≠ "java/lang/invoke/MethodHandle" ∧ yX13_inner.cls ≠ "java/lang/invoke/VarHandle" ∧ (parseMethodDescriptor yX13_inner.desc).map (fun d => d.parameters.length) = some 0 := by decide +kernel
theorem hd_yX13_isCompared : yX13_isCompared.cls ≠ "java/lang/invoke/MethodHandle" ∧ yX13_isCompared.cls ≠ "java/lang/invoke/VarHandle" ∧ (parseMethodDescriptor yX13_isCompared.desc).map (fun d => d.parameters.length) = some 0 := by decide +kernel
theorem hd_yX13_settle : yX13_settle.cls ≠ "java/lang/invoke/MethodHandle" ∧ yX13_settle.cls ≠ "java/lang/invoke/VarHandle" ∧ (parseMethodDescriptor yX13_settle.desc).map (fun d => d.parameters.length) = some 1 := by decide +kernel
theorem dX13_behindSum_0 : decode cX13_behindSum 0 = .ok (.aload_n 0, 1) := by decide +kernel
theorem dX13_behindSum_1 : decode cX13_behindSum 1 = .ok (.bipush 43, 2) := by decide +kernel
theorem dX13_behindSum_3 : decode cX13_behindSum 3 = .ok (.invokevirtual 309, 3) := by decide +kernel
theorem dX13_behindSum_71 : decode cX13_behindSum 71 = .ok (.istore_n 2, 1) := by decide +kernel
theorem dX13_behindSum_72 : decode cX13_behindSum 72 = .ok (.iload_n 2, 1) := by decide +kernel
theorem dX13_behindSum_73 : decode cX13_behindSum 73 = .ok (.iconst (-1), 1) := by decide +kernel
theorem dX13_behindSum_74 : decode cX13_behindSum 74 = .ok (.if_icmp .eq 23, 3) := by decide +kernel
theorem dX13_behindSum_97 : decode cX13_behindSum 97 = .ok (.aload_n 0, 1) := by decide +kernel
theorem dX13_behindSum_98 : decode cX13_behindSum 98 = .ok (.invokevirtual 345, 3) := by decide +kernel
theorem dX13_behindSum_101 : decode cX13_behindSum 101 = .ok (.istore_n 3, 1) := by decide +kernel
theorem dX13_behindSum_102 : decode cX13_behindSum 102 = .ok (.iload_n 3, 1) := by decide +kernel
theorem dX13_behindSum_103 : decode cX13_behindSum 103 = .ok (.bipush 32, 2) := by decide +kernel
theorem dX13_behindSum_105 : decode cX13_behindSum 105 = .ok (.if_icmp .ne 47, 3) := by decide +kernel
theorem dX13_behindSum_152 : decode cX13_behindSum 152 = .ok (.iload_n 3, 1) := by decide +kernel
theorem dX13_behindSum_153 : decode cX13_behindSum 153 = .ok (.iconst (-1), 1) := by decide +kernel
theorem dX13_behindSum_154 : decode cX13_behindSum 154 = .ok (.if_icmp .ne 9, 3) := by decide +kernel
theorem dX13_behindSum_163 : decode cX13_behindSum 163 = .ok (.aload_n 0, 1) := by decide +kernel
theorem dX13_behindSum_164 : decode cX13_behindSum 164 = .ok (.invokevirtual 348, 3) := by decide +kernel
theorem dX13_behindSum_167 : decode cX13_behindSum 167 = .ok (.ifCond .eq 5, 3) := by decide +kernel
theorem dX13_behindSum_172 : decode cX13_behindSum 172 = .ok (.aload_n 0, 1) := by decide +kernel
theorem dX13_behindSum_173 : decode cX13_behindSum 173 = .ok (.bipush 60, 2) := by decide +kernel
theorem dX13_behindSum_175 : decode cX13_behindSum 175 = .ok (.invokevirtual 309, 3) := by decide +kernel
theorem dX13_behindSum_202 : decode cX13_behindSum 202 = .ok (.istore_n 2, 1) := by decide +kernel
theorem dX13_behindSum_203 : decode cX13_behindSum 203 = .ok (.aload_n 0, 1) := by decide +kernel
theorem dX13_behindSum_204 : decode cX13_behindSum 204 = .ok (.iload_n 2, 1) := by decide +kernel
theorem dX13_behindSum_205 : decode cX13_behindSum 205 = .ok (.bipush 27, 2) := by decide +kernel
theorem dX13_behindSum_224 : decode cX13_behindSum 224 = .ok (.invokevirtual 271, 3) := by decide +kernel
theorem dX13_behindSum_227 : decode cX13_behindSum 227 = .ok (.aload_n 0, 1) := by decide +kernel
theorem dX13_behindSum_228 : decode cX13_behindSum 228 = .ok (.getfield 236, 3) := by decide +kernel
theorem dX13_behindSum_231 : decode cX13_behindSum 231 = .ok (.ifCond .ne 14, 3) := by decide +kernel
theorem dX13_behindSum_245 : decode cX13_behindSum 245 = .ok (.iconst 1, 1) := by decide +kernel
theorem dX13_behindSum_246 : decode cX13_behindSum 246 = .ok (.ireturn, 1) := by decide +kernel
theorem dX13_behindSum_234 : decode cX13_behindSum 234 = .ok (.aload_n 0, 1) := by decide +kernel
theorem dX13_behindSum_235 : decode cX13_behindSum 235 = .ok (.iconst 5, 1) := by decide +kernel
theorem dX13_behindSum_236 : decode cX13_behindSum 236 = .ok (.invokevirtual 342, 3) := by decide +kernel
theorem dX13_behindSum_239 : decode cX13_behindSum 239 = .ok (.aload_n 0, 1) := by decide +kernel
theorem dX13_behindSum_240 : decode cX13_behindSum 240 = .ok (.iload_n 2, 1) := by decide +kernel
theorem dX13_behindSum_241 : decode cX13_behindSum 241 = .ok (.iconst 0, 1) := by decide +kernel
theorem dX13_behindSum_242 : decode cX13_behindSum 242 = .ok (.invokevirtual 303, 3) := by decide +kernel
theorem dX13_behindSum_207 : decode cX13_behindSum 207 = .ok (.if_icmp .ne 12, 3) := by decide +kernel
theorem dX13_behindSum_219 : decode cX13_behindSum 219 = .ok (.iconst 1, 1) := by decide +kernel
theorem dX13_behindSum_220 : decode cX13_behindSum 220 = .ok (.goto 4, 3) := by decide +kernel
theorem dX13_behindSum_210 : decode cX13_behindSum 210 = .ok (.aload_n 0, 1) := by decide +kernel
theorem dX13_behindSum_211 : decode cX13_behindSum 211 = .ok (.bipush 61, 2) := by decide +kernel
theorem dX13_behindSum_213 : decode cX13_behindSum 213 = .ok (.invokevirtual 309, 3) := by decide +kernel
theorem dX13_behindSum_216 : decode cX13_behindSum 216 = .ok (.ifCond .eq 7, 3) := by decide +kernel
theorem dX13_behindSum_223 : decode cX13_behindSum 223 = .ok (.iconst 0, 1) := by decide +kernel
theorem dX13_behindSum_178 : decode cX13_behindSum 178 = .ok (.ifCond .eq 8, 3) := by decide +kernel
theorem dX13_behindSum_186 : decode cX13_behindSum 186 = .ok (.aload_n 0, 1) := by decide +kernel
theorem dX13_behindSum_187 : decode cX13_behindSum 187 = .ok (.bipush 62, 2) := by decide +kernel
theorem dX13_behindSum_189 : decode cX13_behindSum 189 = .ok (.invokevirtual 309, 3) := by decide +kernel
theorem dX13_behindSum_192 : decode cX13_behindSum 192 = .ok (.ifCond .eq 8, 3) := by decide +kernel
theorem dX13_behindSum_200 : decode cX13_behindSum 200 = .ok (.bipush 27, 2) := by decide +kernel
theorem dX13_behindSum_195 : decode cX13_behindSum 195 = .ok (.bipush 26, 2) := by decide +kernel
theorem dX13_behindSum_197 : decode cX13_behindSum 197 = .ok (.goto 5, 3) := by decide +kernel
theorem dX13_behindSum_181 : decode cX13_behindSum 181 = .ok (.bipush 25, 2) := by decide +kernel
theorem dX13_behindSum_183 : decode cX13_behindSum 183 = .ok (.goto 19, 3) := by decide +kernel
theorem dX13_behindSum_170 : decode cX13_behindSum 170 = .ok (.iconst 2, 1) := by decide +kernel
theorem dX13_behindSum_171 : decode cX13_behindSum 171 = .ok (.ireturn, 1) := by decide +kernel
theorem dX13_behindSum_157 : decode cX13_behindSum 157 = .ok (.iload_n 1, 1) := by decide +kernel
theorem dX13_behindSum_158 : decode cX13_behindSum 158 = .ok (.ifCond .ne 5, 3) := by decide +kernel
theorem dX13_behindSum_161 : decode cX13_behindSum 161 = .ok (.iconst 4, 1) := by decide +kernel
theorem dX13_behindSum_162 : decode cX13_behindSum 162 = .ok (.ireturn, 1) := by decide +kernel
theorem dX13_behindSum_108 : decode cX13_behindSum 108 = .ok (.aload_n 0, 1) := by decide +kernel
theorem dX13_behindSum_109 : decode cX13_behindSum 109 = .ok (.aload_n 0, 1) := by decide +kernel
theorem dX13_behindSum_110 : decode cX13_behindSum 110 = .ok (.bipush 93, 2) := by decide +kernel
theorem dX13_behindSum_112 : decode cX13_behindSum 112 = .ok (.invokevirtual 309, 3) := by decide +kernel
theorem dX13_behindSum_115 : decode cX13_behindSum 115 = .ok (.invokevirtual 271, 3) := by decide +kernel
theorem dX13_behindSum_118 : decode cX13_behindSum 118 = .ok (.aload_n 0, 1) := by decide +kernel
theorem dX13_behindSum_119 : decode cX13_behindSum 119 = .ok (.getfield 236, 3) := by decide +kernel
theorem dX13_behindSum_122 : decode cX13_behindSum 122 = .ok (.ifCond .ne 28, 3) := by decide +kernel
theorem dX13_behindSum_150 : decode cX13_behindSum 150 = .ok (.iconst 3, 1) := by decide +kernel
theorem dX13_behindSum_151 : decode cX13_behindSum 151 = .ok (.ireturn, 1) := by decide +kernel
theorem dX13_behindSum_125 : decode cX13_behindSum 125 = .ok (.aload_n 0, 1) := by decide +kernel
theorem dX13_behindSum_126 : decode cX13_behindSum 126 = .ok (.iconst 5, 1) := by decide +kernel
theorem dX13_behindSum_127 : decode cX13_behindSum 127 = .ok (.invokevirtual 342, 3) := by decide +kernel
theorem dX13_behindSum_130 : decode cX13_behindSum 130 = .ok (.aload_n 0, 1) := by decide +kernel
theorem dX13_behindSum_131 : decode cX13_behindSum 131 = .ok (.dup, 1) := by decide +kernel
theorem dX13_behindSum_132 : decode cX13_behindSum 132 = .ok (.getfield 278, 3) := by decide +kernel
theorem dX13_behindSum_135 : decode cX13_behindSum 135 = .ok (.iconst 1, 1) := by decide +kernel
theorem dX13_behindSum_136 : decode cX13_behindSum 136 = .ok (.isub, 1) := by decide +kernel
theorem dX13_behindSum_137 : decode cX13_behindSum 137 = .ok (.putfield 278, 3) := by decide +kernel
theorem dX13_behindSum_140 : decode cX13_behindSum 140 = .ok (.aload_n 0, 1) := by decide +kernel
theorem dX13_behindSum_141 : decode cX13_behindSum 141 = .ok (.dup, 1) := by decide +kernel
theorem dX13_behindSum_142 : decode cX13_behindSum 142 = .ok (.getfield 300, 3) := by decide +kernel
theorem dX13_behindSum_145 : decode cX13_behindSum 145 = .ok (.iconst 1, 1) := by decide +kernel
theorem dX13_behindSum_146 : decode cX13_behindSum 146 = .ok (.isub, 1) := by decide +kernel
theorem dX13_behindSum_147 : decode cX13_behindSum 147 = .ok (.putfield 300, 3) := by decide +kernel
theorem dX13_behindSum_77 : decode cX13_behindSum 77 = .ok (.aload_n 0, 1) := by decide +kernel
theorem dX13_behindSum_78 : decode cX13_behindSum 78 = .ok (.iload_n 2, 1) := by decide +kernel
theorem dX13_behindSum_79 : decode cX13_behindSum 79 = .ok (.invokestatic 281, 3) := by decide +kernel
theorem dX13_behindSum_82 : decode cX13_behindSum 82 = .ok (.invokevirtual 342, 3) := by decide +kernel
theorem dX13_behindSum_85 : decode cX13_behindSum 85 = .ok (.aload_n 0, 1) := by decide +kernel
theorem dX13_behindSum_86 : decode cX13_behindSum 86 = .ok (.iload_n 2, 1) := by decide +kernel
theorem dX13_behindSum_87 : decode cX13_behindSum 87 = .ok (.iconst 0, 1) := by decide +kernel
theorem dX13_behindSum_88 : decode cX13_behindSum 88 = .ok (.invokevirtual 303, 3) := by decide +kernel
theorem dX13_behindSum_91 : decode cX13_behindSum 91 = .ok (.aload_n 0, 1) := by decide +kernel
theorem dX13_behindSum_92 : decode cX13_behindSum 92 = .ok (.invokevirtual 240, 3) := by decide +kernel
theorem dX13_behindSum_95 : decode cX13_behindSum 95 = .ok (.iconst 1, 1) := by decide +kernel
theorem dX13_behindSum_96 : decode cX13_behindSum 96 = .ok (.ireturn, 1) := by decide +kernel
theorem dX13_behindSum_6 : decode cX13_behindSum 6 = .ok (.ifCond .eq 8, 3) := by decide +kernel
theorem dX13_behindSum_14 : decode cX13_behindSum 14 = .ok (.aload_n 0, 1) := by decide +kernel
theorem dX13_behindSum_15 : decode cX13_behindSum 15 = .ok (.bipush 45, 2) := by decide +kernel
theorem dX13_behindSum_17 : decode cX13_behindSum 17 = .ok (.invokevirtual 309, 3) := by decide +kernel
theorem dX13_behindSum_20 : decode cX13_behindSum 20 = .ok (.ifCond .eq 8, 3) := by decide +kernel
theorem dX13_behindSum_28 : decode cX13_behindSum 28 = .ok (.aload_n 0, 1) := by decide +kernel
theorem dX13_behindSum_29 : decode cX13_behindSum 29 = .ok (.bipush 42, 2) := by decide +kernel
theorem dX13_behindSum_31 : decode cX13_behindSum 31 = .ok (.invokevirtual 309, 3) := by decide +kernel
theorem dX13_behindSum_34 : decode cX13_behindSum 34 = .ok (.ifCond .eq 8, 3) := by decide +kernel
theorem dX13_behindSum_42 : decode cX13_behindSum 42 = .ok (.aload_n 0, 1) := by decide +kernel
theorem dX13_behindSum_43 : decode cX13_behindSum 43 = .ok (.bipush 47, 2) := by decide +kernel
theorem dX13_behindSum_45 : decode cX13_behindSum 45 = .ok (.invokevirtual 309, 3) := by decide +kernel
theorem dX13_behindSum_48 : decode cX13_behindSum 48 = .ok (.ifCond .eq 8, 3) := by decide +kernel
theorem dX13_behindSum_56 : decode cX13_behindSum 56 = .ok (.aload_n 0, 1) := by decide +kernel
theorem dX13_behindSum_57 : decode cX13_behindSum 57 = .ok (.bipush 37, 2) := by decide +kernel
theorem dX13_behindSum_59 : decode cX13_behindSum 59 = .ok (.invokevirtual 309, 3) := by decide +kernel
theorem dX13_behindSum_62 : decode cX13_behindSum 62 = .ok (.ifCond .eq 8, 3) := by decide +kernel
theorem dX13_behindSum_70 : decode cX13_behindSum 70 = .ok (.iconst (-1), 1) := by decide +kernel
theorem dX13_behindSum_65 : decode cX13_behindSum 65 = .ok (.bipush 24, 2) := by decide +kernel
theorem dX13_behindSum_67 : decode cX13_behindSum 67 = .ok (.goto 4, 3) := by decide +kernel
theorem dX13_behindSum_51 : decode cX13_behindSum 51 = .ok (.bipush 23, 2) := by decide +kernel
theorem dX13_behindSum_53 : decode cX13_behindSum 53 = .ok (.goto 18, 3) := by decide +kernel
theorem dX13_behindSum_37 : decode cX13_behindSum 37 = .ok (.bipush 22, 2) := by decide +kernel
theorem dX13_behindSum_39 : decode cX13_behindSum 39 = .ok (.goto 32, 3) := by decide +kernel
theorem dX13_behindSum_23 : decode cX13_behindSum 23 = .ok (.bipush 21, 2) := by decide +kernel
theorem dX13_behindSum_25 : decode cX13_behindSum 25 = .ok (.goto 46, 3) := by decide +kernel
theorem dX13_behindSum_9 : decode cX13_behindSum 9 = .ok (.bipush 20, 2) := by decide +kernel
theorem dX13_behindSum_11 : decode cX13_behindSum 11 = .ok (.goto 60, 3) := by decide +kernel
set_option maxHeartbeats 4000000 in
set_option maxRecDepth 100000 in
theorem k_X13_behindSum (l : Launch) (D : va_G) (cy : Nat → ClassId) (ld ad : Nat → Nat) (am : Nat) (hD : mz_D ad am) (Fa : Nat → Int32) (Ga : Nat → Int64) (Ra : Nat → Nat → Int32) (Sa : Nat → Nat → Int64) (p1 : Int32) (gf : Int32) (gt : Int32) (gs : Int32) (gp : Int32) (gw : Int64) (gb : Int32) (gc : Int32) (gd : Int32) (zs : Nat) (hIF : mz_IF false Fa) (hIG : mz_IG Ga) (hIR : mz_IR [] true Ra) (hg_0 : Fa 14 = gf) (hg_1 : Fa 15 = gt) (hg_2 : Fa 16 = gs) (hg_3 : Fa 13 = gp) (hg_4 : Ga 17 = gw) (hg_5 : Fa 19 = gb) (hg_6 : Fa 23 = gc) (hg_7 : Fa 29 = gd) (hp_0 : 0 ≤ p1.toInt) (hp_1 : p1.toInt ≤ 1) (hp_2 : 0 ≤ (-1) * gf.toInt + gt.toInt) (hp_3 : 0 ≤ gp.toInt + (-1) * gt.toInt) (hp_4 : (1 ≤ gs.toInt → 0 ≤ (-1) * gf.toInt + gt.toInt + (-1))) (hp_5 : (27 ≤ gw.toInt → 1 ≤ gs.toInt → gs.toInt ≤ 1 → 0 ≤ (-1) * gf.toInt + gt.toInt + (-2))) (hp_6 : 0 ≤ (-1) * gc.toInt + (-1) * gd.toInt + gf.toInt) (hp_7 : gb.toInt ≤ 0) (hx_0 : PT (Ra 24) (Ra 25) (Ra 27) (Ra 28) zs gc.toInt.toNat gd.toInt.toNat 3) : Met l yX13_behindSum (wl yX13_behindSum cX13_behindSum 4 (some .int)) ({ frames := 6, cells := 0, slots := 0, locals := 350 }) (mz_p D cy ld ad am Fa Ga Ra Sa [.ref am, .int p1]) (mz_i D cy ad am (fun r F G R S => mz_IF false F ∧ mz_IG G ∧ mz_IR [] true R ∧ (∀ k : Nat, k ∉ ([14, 15, 16, 18, 19, 23, 29, 30] : List Nat) → F k = Fa k) ∧ (∀ k : Nat, k ∉ ([24, 25, 27, 28] : List Nat) → R k = Ra k) ∧ (∀ k : Nat, k ∉ ([17] : List Nat) → G k = Ga k) ∧ 0 ≤ (-1) * (F 14).toInt + (F 15).toInt ∧ 0 ≤ gp.toInt + (-1) * (F 15).toInt ∧ (1 ≤ (F 16).toInt → 0 ≤ (-1) * (F 14).toInt + (F 15).toInt + (-1)) ∧ (27 ≤ (G 17).toInt → 1 ≤ (F 16).toInt → (F 16).toInt ≤ 1 → 0 ≤ (-1) * (F 14).toInt + (F 15).toInt + (-2)) ∧ 0 ≤ (-1) * gf.toInt + (F 14).toInt ∧ 0 ≤ (-1) * (F 23).toInt + (-1) * (F 29).toInt + (F 14).toInt ∧ 0 ≤ (-1) * gc.toInt + (F 23).toInt ∧ ((F 19).toInt ≤ 0 → r.toInt ≤ 1 → 0 ≤ (-1) * gf.toInt + (F 14).toInt + (-1)) ∧ ((F 19).toInt ≤ 0 → 3 ≤ r.toInt → r.toInt ≤ 3 → 0 ≤ (-1) * gf.toInt + (F 14).toInt + (-1)) ∧ 1 ≤ r.toInt ∧ r.toInt ≤ 4 ∧ ((F 19).toInt = 0 → PT (R 24) (R 25) (R 27) (R 28) zs (F 23).toInt.toNat (F 29).toInt.toNat r.toInt ∧ low zs (Ra 24) (R 24) ∧ low zs (Ra 25) (R 25)))) 0 0 (mz_W ad am) := by
  refine mz_met (y := yX13_behindSum) (cc := cX13_behindSum) (maxL := 4) (ret := (some .int)) (av := [.ref am, .int p1]) _ (by decide) (Nat.le_of_ble_eq_true rfl) ?_
  intro p e s m args below meth c hx hb hr hml hts htl hown hlocks hK H locs hM hS ls hl
  have hown : s.vm.findClass RX13 = some m.cls := hown
  have hl : lv_has ls 4 [(0, .ref am), (1, .int p1)] := hl
  have hr_p1 := tk_rng p1
  have hq_gf := tk_rng gf
  have hq_gt := tk_rng gt
  have hq_gs := tk_rng gs
  have hq_gp := tk_rng gp
  have hq_gw := tk_rngL gw
  have hq_gb := tk_rng gb
  have hq_gc := tk_rng gc
  have hq_gd := tk_rng gd
  have hr_gf : 0 ≤ gf.toInt ∧ gf.toInt ≤ 400 := hIF.at hg_0
  have hr_gt : 0 ≤ gt.toInt ∧ gt.toInt ≤ 400 := hIF.at hg_1
  have hr_gs : 0 ≤ gs.toInt ∧ gs.toInt ≤ 3 := hIF.at hg_2
  have hr_gp : 0 ≤ gp.toInt ∧ gp.toInt ≤ 400 := hIF.at hg_3
  have hr_gb : 0 ≤ gb.toInt ∧ gb.toInt ≤ 1 := hIF.at hg_5
  have hr_gc : 0 ≤ gc.toInt ∧ gc.toInt ≤ 400 := hIF.at hg_6
  have hr_gd : 0 ≤ gd.toInt ∧ gd.toInt ≤ 400 := hIF.at hg_7
  have hPI : PI (Ra 24) (Ra 25) (Ra 27) (Ra 28) zs gc.toInt.toNat gd.toInt.toNat 1 := hx_0.p (by decide)
  have hLo := And.intro (low.refl zs (Ra 24)) (low.refl zs (Ra 25))
  refine lv_aload_n hx hb dX13_behindSum_0 rfl (lv_at hl 0 rfl) ?_
  refine lv_bipush (v := 43) hx hb dX13_behindSum_1 (by decide) ?_
  have hk_43 : (43 : Int32).toInt = 43 := by decide
  refine mz_Vj (As := [.int 43]) (rest := []) ⟨hx, hb, hml, hown, hts⟩ hK hM hS (k_X13_isSign l D cy ld ad am hD _ _ _ _ 43 gs hIF hIG hIR hg_2) ⟨callB_of 1 hts (wl_in mw_732) rfl rfl rfl (htl _ mw_5) (htl _ mw_729) hd_yX13_isSign ⟨(Nat.le_of_ble_eq_true rfl), (Nat.le_of_ble_eq_true rfl)⟩, htl _ mw_730, htl _ mw_731⟩ rfl hl.1 rfl (Nat.le_of_ble_eq_true rfl) dX13_behindSum_3 ⟨(Nat.le_of_ble_eq_true rfl), (Nat.le_of_ble_eq_true rfl)⟩ (fun v1 H locs hpo hM hS => ?_)
  obtain ⟨hpo2, hpo3, hpo4, hpo5, hpo6⟩ := hpo
  have hq_v1 := tk_rng v1
  have hj45 : ∀ (v43 : Int32) (H : Heap) (locs : List Loc), (v43.toInt ≤ 24) → (0 ≤ (-1) * gb.toInt + v43.toInt + 1) → (mz_S D cy ad am Fa Ga Ra Sa H) → (va_S (mz_W ad am) s.heap H locs) → ((0 ≤ v43.toInt → 20 ≤ v43.toInt ∧ gs.toInt + (-3) = 0)) → ∀ ls : Array Slot, lv_has ls 4 [(0, .ref am), (1, .int p1)] → W p l e ({ frames := 6, cells := 0, slots := 0, locals := 350 }) s m args below meth c H locs 0 0 (MQ below (mz_i D cy ad am (fun r F G R S => mz_IF false F ∧ mz_IG G ∧ mz_IR [] true R ∧ (∀ k : Nat, k ∉ ([14, 15, 16, 18, 19, 23, 29, 30] : List Nat) → F k = Fa k) ∧ (∀ k : Nat, k ∉ ([24, 25, 27, 28] : List Nat) → R k = Ra k) ∧ (∀ k : Nat, k ∉ ([17] : List Nat) → G k = Ga k) ∧ 0 ≤ (-1) * (F 14).toInt + (F 15).toInt ∧ 0 ≤ gp.toInt + (-1) * (F 15).toInt ∧ (1 ≤ (F 16).toInt → 0 ≤ (-1) * (F 14).toInt + (F 15).toInt + (-1)) ∧ (27 ≤ (G 17).toInt → 1 ≤ (F 16).toInt → (F 16).toInt ≤ 1 → 0 ≤ (-1) * (F 14).toInt + (F 15).toInt + (-2)) ∧ 0 ≤ (-1) * gf.toInt + (F 14).toInt ∧ 0 ≤ (-1) * (F 23).toInt + (-1) * (F 29).toInt + (F 14).toInt ∧ 0 ≤ (-1) * gc.toInt + (F 23).toInt ∧ ((F 19).toInt ≤ 0 → r.toInt ≤ 1 → 0 ≤ (-1) * gf.toInt + (F 14).toInt + (-1)) ∧ ((F 19).toInt ≤ 0 → 3 ≤ r.toInt → r.toInt ≤ 3 → 0 ≤ (-1) * gf.toInt + (F 14).toInt + (-1)) ∧ 1 ≤ r.toInt ∧ r.toInt ≤ 4 ∧ ((F 19).toInt = 0 → PT (R 24) (R 25) (R 27) (R 28) zs (F 23).toInt.toNat (F 29).toInt.toNat r.toInt ∧ low zs (Ra 24) (R 24) ∧ low zs (Ra 25) (R 25)))) args s 0 0 (mz_W ad am)) (F0 m 71 ls [.int v43]) := by
    intro v43 H locs hq0_j45 hq1_j45 hM hS hc0_j45 ls hl
    refine lv_istore_n (lv' := [(2, .int v43), (0, .ref am), (1, .int p1)]) hx hb dX13_behindSum_71 rfl hl (by decide) rfl (fun ls hl => ?_)
    refine lv_iload_n hx hb dX13_behindSum_72 rfl (lv_at hl 0 rfl) ?_
    refine lv_iconst (v := (-1)) hx hb dX13_behindSum_73 (by decide) ?_
    refine lv_icmp_eq (tgt := 97) hx hb dX13_behindSum_74 (by decide) (fun c9 => ?_) (fun c9 => ?_)
    · have hc46 : v43.toInt = (-1) := (fi_eq rfl (show ((-1) : Int32).toInt = (-1) by decide)).mp c9
      refine lv_aload_n hx hb dX13_behindSum_97 rfl (lv_at hl 1 rfl) ?_
      refine mz_Vj (As := []) (rest := []) ⟨hx, hb, hml, hown, hts⟩ hK hM hS (k_X13_inner l D cy ld ad am hD _ _ _ _ gd hIF hIG hIR hg_7) ⟨callB_of 0 hts (wl_in mw_777) rfl rfl rfl (htl _ mw_5) (htl _ mw_774) hd_yX13_inner ⟨(Nat.le_of_ble_eq_true rfl), (Nat.le_of_ble_eq_true rfl)⟩, htl _ mw_775, htl _ mw_776⟩ rfl hl.1 rfl (Nat.le_of_ble_eq_true rfl) dX13_behindSum_98 ⟨(Nat.le_of_ble_eq_true rfl), (Nat.le_of_ble_eq_true rfl)⟩ (fun v47 H locs hpo hM hS => ?_)
      have hx48 := hpo
      have hq_v47 := tk_rng v47
      have hinn := hx48
      refine lv_istore_n (lv' := [(3, .int v47), (2, .int v43), (0, .ref am), (1, .int p1)]) hx hb dX13_behindSum_101 rfl hl (by decide) rfl (fun ls hl => ?_)
      refine lv_iload_n hx hb dX13_behindSum_102 rfl (lv_at hl 0 rfl) ?_
      refine lv_bipush (v := 32) hx hb dX13_behindSum_103 (by decide) ?_
      refine lv_icmp_ne (tgt := 152) hx hb dX13_behindSum_105 (by decide) (fun c9 => ?_) (fun c9 => ?_)
      · have hc50 : ¬ (v47.toInt = 32) := fun h9 => c9 ((fi_eq rfl (show (32 : Int32).toInt = 32 by decide)).mpr h9)
        refine lv_iload_n hx hb dX13_behindSum_152 rfl (lv_at hl 0 rfl) ?_
        refine lv_iconst (v := (-1)) hx hb dX13_behindSum_153 (by decide) ?_
        refine lv_icmp_ne (tgt := 163) hx hb dX13_behindSum_154 (by decide) (fun c9 => ?_) (fun c9 => ?_)
        · have hc51 : ¬ (v47.toInt = (-1)) := fun h9 => c9 ((fi_eq rfl (show ((-1) : Int32).toInt = (-1) by decide)).mpr h9)
          refine lv_aload_n hx hb dX13_behindSum_163 rfl (lv_at hl 2 rfl) ?_
          refine mz_Vj (As := []) (rest := []) ⟨hx, hb, hml, hown, hts⟩ hK hM hS (k_X13_isCompared l D cy ld ad am hD _ _ _ _ hIF hIG hIR) ⟨callB_of 0 hts (wl_in mw_781) rfl rfl rfl (htl _ mw_5) (htl _ mw_778) hd_yX13_isCompared ⟨(Nat.le_of_ble_eq_true rfl), (Nat.le_of_ble_eq_true rfl)⟩, htl _ mw_779, htl _ mw_780⟩ rfl hl.1 rfl (Nat.le_of_ble_eq_true rfl) dX13_behindSum_164 ⟨(Nat.le_of_ble_eq_true rfl), (Nat.le_of_ble_eq_true rfl)⟩ (fun v52 H locs hpo hM hS => ?_)
          obtain ⟨hpo53, hpo54, hpo55, hpo56⟩ := hpo
          have hq_v52 := tk_rng v52
          have hSq := hinn.nsq hPI (by omega)
          refine lv_if_eq (tgt := 172) hx hb dX13_behindSum_167 (by decide) (fun c9 => ?_) (fun c9 => ?_)
          · have hc58 : v52.toInt = 0 := (fi_eq rfl (show (0 : Int32).toInt = 0 by decide)).mp c9
            refine lv_aload_n hx hb dX13_behindSum_172 rfl (lv_at hl 2 rfl) ?_
            refine lv_bipush (v := 60) hx hb dX13_behindSum_173 (by decide) ?_
            have hk_60 : (60 : Int32).toInt = 60 := by decide
            refine mz_Vj (As := [.int 60]) (rest := []) ⟨hx, hb, hml, hown, hts⟩ hK hM hS (k_X13_isSign l D cy ld ad am hD _ _ _ _ 60 gs hIF hIG hIR hg_2) ⟨callB_of 1 hts (wl_in mw_732) rfl rfl rfl (htl _ mw_5) (htl _ mw_729) hd_yX13_isSign ⟨(Nat.le_of_ble_eq_true rfl), (Nat.le_of_ble_eq_true rfl)⟩, htl _ mw_730, htl _ mw_731⟩ rfl hl.1 rfl (Nat.le_of_ble_eq_true rfl) dX13_behindSum_175 ⟨(Nat.le_of_ble_eq_true rfl), (Nat.le_of_ble_eq_true rfl)⟩ (fun v59 H locs hpo hM hS => ?_)
            obtain ⟨hpo60, hpo61, hpo62, hpo63, hpo64⟩ := hpo
            have hq_v59 := tk_rng v59
            have hj79 : ∀ (v77 : Int32) (H : Heap) (locs : List Loc), (25 ≤ v77.toInt) → (v77.toInt ≤ 27) → (mz_S D cy ad am Fa Ga Ra Sa H) → (va_S (mz_W ad am) s.heap H locs) → ((v77.toInt ≤ 26 → gs.toInt + (-3) = 0)) → ∀ ls : Array Slot, lv_has ls 4 [(0, .ref am)] → W p l e ({ frames := 6, cells := 0, slots := 0, locals := 350 }) s m args below meth c H locs 0 0 (MQ below (mz_i D cy ad am (fun r F G R S => mz_IF false F ∧ mz_IG G ∧ mz_IR [] true R ∧ (∀ k : Nat, k ∉ ([14, 15, 16, 18, 19, 23, 29, 30] : List Nat) → F k = Fa k) ∧ (∀ k : Nat, k ∉ ([24, 25, 27, 28] : List Nat) → R k = Ra k) ∧ (∀ k : Nat, k ∉ ([17] : List Nat) → G k = Ga k) ∧ 0 ≤ (-1) * (F 14).toInt + (F 15).toInt ∧ 0 ≤ gp.toInt + (-1) * (F 15).toInt ∧ (1 ≤ (F 16).toInt → 0 ≤ (-1) * (F 14).toInt + (F 15).toInt + (-1)) ∧ (27 ≤ (G 17).toInt → 1 ≤ (F 16).toInt → (F 16).toInt ≤ 1 → 0 ≤ (-1) * (F 14).toInt + (F 15).toInt + (-2)) ∧ 0 ≤ (-1) * gf.toInt + (F 14).toInt ∧ 0 ≤ (-1) * (F 23).toInt + (-1) * (F 29).toInt + (F 14).toInt ∧ 0 ≤ (-1) * gc.toInt + (F 23).toInt ∧ ((F 19).toInt ≤ 0 → r.toInt ≤ 1 → 0 ≤ (-1) * gf.toInt + (F 14).toInt + (-1)) ∧ ((F 19).toInt ≤ 0 → 3 ≤ r.toInt → r.toInt ≤ 3 → 0 ≤ (-1) * gf.toInt + (F 14).toInt + (-1)) ∧ 1 ≤ r.toInt ∧ r.toInt ≤ 4 ∧ ((F 19).toInt = 0 → PT (R 24) (R 25) (R 27) (R 28) zs (F 23).toInt.toNat (F 29).toInt.toNat r.toInt ∧ low zs (Ra 24) (R 24) ∧ low zs (Ra 25) (R 25)))) args s 0 0 (mz_W ad am)) (F0 m 202 ls [.int v77]) := by
              intro v77 H locs hq0_j79 hq1_j79 hM hS hc0_j79 ls hl
              refine lv_istore_n (lv' := [(2, .int v77), (0, .ref am)]) hx hb dX13_behindSum_202 rfl hl (by decide) rfl (fun ls hl => ?_)
              refine lv_aload_n hx hb dX13_behindSum_203 rfl (lv_at hl 1 rfl) ?_
              refine lv_iload_n hx hb dX13_behindSum_204 rfl (lv_at hl 0 rfl) ?_
              refine lv_bipush (v := 27) hx hb dX13_behindSum_205 (by decide) ?_
              have hj93 : ∀ (v91 : Int32) (H : Heap) (locs : List Loc), (0 ≤ gt.toInt + (-1) * v91.toInt) → (0 ≤ gs.toInt + (-1) * v91.toInt) → (0 ≤ gb.toInt + (-1) * v91.toInt + 1) → (0 ≤ (-1) * gb.toInt + v91.toInt) → (mz_S D cy ad am Fa Ga Ra Sa H) → (va_S (mz_W ad am) s.heap H locs) → ((1 ≤ v91.toInt → gs.toInt + (-3) = 0)) → ∀ ls : Array Slot, lv_has ls 4 [(2, .int v77), (0, .ref am)] → W p l e ({ frames := 6, cells := 0, slots := 0, locals := 350 }) s m args below meth c H locs 0 0 (MQ below (mz_i D cy ad am (fun r F G R S => mz_IF false F ∧ mz_IG G ∧ mz_IR [] true R ∧ (∀ k : Nat, k ∉ ([14, 15, 16, 18, 19, 23, 29, 30] : List Nat) → F k = Fa k) ∧ (∀ k : Nat, k ∉ ([24, 25, 27, 28] : List Nat) → R k = Ra k) ∧ (∀ k : Nat, k ∉ ([17] : List Nat) → G k = Ga k) ∧ 0 ≤ (-1) * (F 14).toInt + (F 15).toInt ∧ 0 ≤ gp.toInt + (-1) * (F 15).toInt ∧ (1 ≤ (F 16).toInt → 0 ≤ (-1) * (F 14).toInt + (F 15).toInt + (-1)) ∧ (27 ≤ (G 17).toInt → 1 ≤ (F 16).toInt → (F 16).toInt ≤ 1 → 0 ≤ (-1) * (F 14).toInt + (F 15).toInt + (-2)) ∧ 0 ≤ (-1) * gf.toInt + (F 14).toInt ∧ 0 ≤ (-1) * (F 23).toInt + (-1) * (F 29).toInt + (F 14).toInt ∧ 0 ≤ (-1) * gc.toInt + (F 23).toInt ∧ ((F 19).toInt ≤ 0 → r.toInt ≤ 1 → 0 ≤ (-1) * gf.toInt + (F 14).toInt + (-1)) ∧ ((F 19).toInt ≤ 0 → 3 ≤ r.toInt → r.toInt ≤ 3 → 0 ≤ (-1) * gf.toInt + (F 14).toInt + (-1)) ∧ 1 ≤ r.toInt ∧ r.toInt ≤ 4 ∧ ((F 19).toInt = 0 → PT (R 24) (R 25) (R 27) (R 28) zs (F 23).toInt.toNat (F 29).toInt.toNat r.toInt ∧ low zs (Ra 24) (R 24) ∧ low zs (Ra 25) (R 25)))) args s 0 0 (mz_W ad am)) (F0 m 224 ls [.int v91, .ref am]) := by
                intro v91 H locs hq0_j93 hq1_j93 hq2_j93 hq3_j93 hM hS hc0_j93 ls hl
                refine mz_Vv (As := [.int v91]) (rest := []) ⟨hx, hb, hml, hown, hts⟩ hK hM hS (k_X13_must l D cy ld ad am hD _ _ _ _ v91 gf gt gs gp gw gb hIF hIG hIR hg_0 hg_1 hg_2 hg_3 hg_4 hg_5 (by omega) (by omega) (by omega) (by omega) (by omega) (by omega)) ⟨callB_of 1 hts (wl_in mw_713) rfl rfl rfl (htl _ mw_5) (htl _ mw_710) hd_yX13_must ⟨(Nat.le_of_ble_eq_true rfl), (Nat.le_of_ble_eq_true rfl)⟩, htl _ mw_711, htl _ mw_712⟩ rfl hl.1 rfl (Nat.le_of_ble_eq_true rfl) dX13_behindSum_224 ⟨(Nat.le_of_ble_eq_true rfl), (Nat.le_of_ble_eq_true rfl)⟩ (fun H locs F G R S hpo hM hS => ?_)
                obtain ⟨hIF, hIG, hIR, hfr9, hrr9, hgr9, hpo94, hpo95, hpo96, hpo97, hpo98, hpo99, hpo100, hpo101⟩ := hpo
                have hFF := mz_fr (K := [14, 15, 16, 18, 19, 23, 29, 30]) (Fa := Fa) hfr9 (fun _ _ => rfl) (by decide)
                have hRR := mz_fr (K := [24, 25, 27, 28]) (Fa := Ra) hrr9 (fun _ _ => rfl) (by decide)
                have hGG := mz_fr (K := [17]) (Fa := Ga) hgr9 (fun _ _ => rfl) (by decide)
                have hg_3 := (hfr9 13 (by decide)).trans hg_3
                have hg_6 := (hfr9 23 (by decide)).trans hg_6
                have hg_7 := (hfr9 29 (by decide)).trans hg_7
                obtain ⟨v104, hf103⟩ : ∃ z : Int32, F 14 = z := ⟨_, rfl⟩
                have hq_v104 := tk_rng v104
                rw [hf103] at hpo94 hpo96 hpo97 hpo98 hpo100
                have hr_v104 : 0 ≤ v104.toInt ∧ v104.toInt ≤ 400 := hIF.at hf103
                obtain ⟨v106, hf105⟩ : ∃ z : Int32, F 15 = z := ⟨_, rfl⟩
                have hq_v106 := tk_rng v106
                rw [hf105] at hpo94 hpo95 hpo96 hpo97
                have hr_v106 : 0 ≤ v106.toInt ∧ v106.toInt ≤ 400 := hIF.at hf105
                obtain ⟨v108, hf107⟩ : ∃ z : Int32, F 16 = z := ⟨_, rfl⟩
                have hq_v108 := tk_rng v108
                rw [hf107] at hpo96 hpo97
                have hr_v108 : 0 ≤ v108.toInt ∧ v108.toInt ≤ 3 := hIF.at hf107
                obtain ⟨w110, hf109⟩ : ∃ z : Int64, G 17 = z := ⟨_, rfl⟩
                have hq_w110 := tk_rngL w110
                rw [hf109] at hpo97
                obtain ⟨v112, hf111⟩ : ∃ z : Int32, F 19 = z := ⟨_, rfl⟩
                have hq_v112 := tk_rng v112
                rw [hf111] at hpo99 hpo100 hpo101
                have hr_v112 : 0 ≤ v112.toInt ∧ v112.toInt ≤ 1 := hIF.at hf111
                have hPI := hPI.to (hrr9 24 (by decide)) (hrr9 25 (by decide)) (hrr9 27 (by decide)) (hrr9 28 (by decide)) rfl rfl
                have hLo := And.intro (hLo.1.to (hrr9 24 (by decide))) (hLo.2.to (hrr9 25 (by decide)))
                have hSq := hSq.to (hrr9 27 (by decide)) (Nat.le_refl _)
                have hinn0 := hinn
                have hinn : inn (R 27) gd.toInt.toNat v47.toInt := by rw [hrr9 27 (by decide)]; exact hinn0
                refine lv_aload_n hx hb dX13_behindSum_227 rfl (lv_at hl 1 rfl) ?_
                refine mz_getI hx hb htl hown hK hM 19 (Nat.le_of_ble_eq_true rfl) rfl (htl _ mw_668) (fun _ h9 => h9) dX13_behindSum_228 (fun v9 e9 => ?_)
                refine fx_ti (v := v112) (e9.symm.trans hf111) ?_
                refine lv_if_ne (tgt := 245) hx hb dX13_behindSum_231 (by decide) (fun c9 => ?_) (fun c9 => ?_)
                · have hc113 : ¬ (v112.toInt = 0) := fun h9 => c9 ((fi_eq rfl (show (0 : Int32).toInt = 0 by decide)).mpr h9)
                  refine lv_iconst (v := 1) hx hb dX13_behindSum_245 (by decide) ?_
                  have hk_1 : (1 : Int32).toInt = 1 := by decide
                  exact mz_iret (v := 1) hx hb hr rfl hlocks ⟨hIF, hIG, hIR, hFF, hRR, hGG, (by rw [hf103, hf105]; omega), (by rw [hf105]; omega), (by rw [hf103, hf105, hf107]; omega), (by rw [hf103, hf105, hf107, hf109]; omega), (by rw [hf103]; omega), (by rw [hf103, hg_6, hg_7]; omega), (by rw [hg_6]; omega), (by rw [hf103, hf111]; omega), (by rw [hf103, hf111]; omega), (by omega), (by omega), (by rw [hf111]; exact fun h9 => absurd h9 (by omega))⟩ hM hS dX13_behindSum_246
                · have hc113 : v112.toInt = 0 := (fi_eq rfl (show (0 : Int32).toInt = 0 by decide)).mp c9
                  refine lv_aload_n hx hb dX13_behindSum_234 rfl (lv_at hl 1 rfl) ?_
                  refine lv_iconst (v := 5) hx hb dX13_behindSum_235 (by decide) ?_
                  have hk_5 : (5 : Int32).toInt = 5 := by decide
                  refine mz_Vv (As := [.int 5]) (rest := []) ⟨hx, hb, hml, hown, hts⟩ hK hM hS (k_X13_settle l D cy ld ad am hD _ _ _ _ 5 gc gd v112 zs hIF hIG hIR hg_6 hg_7 hf111 (by omega) (by omega) (by omega) (fun _ => hPI)) ⟨callB_of 1 hts (wl_in mw_773) rfl rfl rfl (htl _ mw_5) (htl _ mw_770) hd_yX13_settle ⟨(Nat.le_of_ble_eq_true rfl), (Nat.le_of_ble_eq_true rfl)⟩, htl _ mw_771, htl _ mw_772⟩ rfl hl.1 rfl (Nat.le_of_ble_eq_true rfl) dX13_behindSum_236 ⟨(Nat.le_of_ble_eq_true rfl), (Nat.le_of_ble_eq_true rfl)⟩ (fun H locs F G R S hpo hM hS => ?_)
                  obtain ⟨hIF, hIG, hIR, hfr9, hrr9, hgr9, hpo114, hpo115, hpo116, hx117, hx118, hx119⟩ := hpo
                  have hFF := mz_fr (K := [14, 15, 16, 18, 19, 23, 29, 30]) (Fa := Fa) hfr9 hFF (by decide)
                  have hRR := mz_fr (K := [24, 25, 27, 28]) (Fa := Ra) hrr9 hRR (by decide)
                  have hGG := mz_fr (K := [17]) (Fa := Ga) hgr9 hGG (by decide)
                  have hg_3 := (hfr9 13 (by decide)).trans hg_3
                  have hf103 := (hfr9 14 (by decide)).trans hf103
                  have hf105 := (hfr9 15 (by decide)).trans hf105
                  have hf107 := (hfr9 16 (by decide)).trans hf107
                  have hf109 := (hgr9 17 (by decide)).trans hf109
                  have hf111 := (hfr9 19 (by decide)).trans hf111
                  obtain ⟨v122, hf121⟩ : ∃ z : Int32, F 23 = z := ⟨_, rfl⟩
                  have hq_v122 := tk_rng v122
                  rw [hf121] at hpo114 hpo116
                  have hr_v122 : 0 ≤ v122.toInt ∧ v122.toInt ≤ 400 := hIF.at hf121
                  obtain ⟨v124, hf123⟩ : ∃ z : Int32, F 29 = z := ⟨_, rfl⟩
                  have hq_v124 := tk_rng v124
                  rw [hf123] at hpo114 hpo115
                  have hr_v124 : 0 ≤ v124.toInt ∧ v124.toInt ≤ 400 := hIF.at hf123
                  have hs9 := hx117 (by omega)
                  rw [hf121, hf123] at hs9
                  have hPI : PI (R 24) (R 25) (R 27) (R 28) zs v122.toInt.toNat v124.toInt.toNat 1 := hs9.1
                  have hLo := And.intro (hLo.1.trans hs9.2.1 (Nat.le_refl _)) (hLo.2.trans hs9.2.2 (Nat.le_refl _))
                  rw [hf123] at hx118 hx119
                  have hsb := hx118
                  have hst := hx119
                  have hSq := hSq.to (pd1 := v124.toInt.toNat) (hrr9 27 (by decide)) (by omega)
                  have hinn0 := hinn
                  have hinn : inn (R 27) gd.toInt.toNat v47.toInt := by rw [hrr9 27 (by decide)]; exact hinn0
                  refine lv_aload_n hx hb dX13_behindSum_239 rfl (lv_at hl 1 rfl) ?_
                  refine lv_iload_n hx hb dX13_behindSum_240 rfl (lv_at hl 0 rfl) ?_
                  refine lv_iconst (v := 0) hx hb dX13_behindSum_241 (by decide) ?_
                  have hk_0 : (0 : Int32).toInt = 0 := by decide
                  refine mz_Vv (As := [.int v77, .int 0]) (rest := []) ⟨hx, hb, hml, hown, hts⟩ hK hM hS (k_X13_push l D cy ld ad am hD _ _ _ _ v77 0 v124 hIF hIG hIR hf123 (by omega) (by omega) (by omega)) ⟨callB_of 2 hts (wl_in mw_728) rfl rfl rfl (htl _ mw_5) (htl _ mw_725) hd_yX13_push ⟨(Nat.le_of_ble_eq_true rfl), (Nat.le_of_ble_eq_true rfl)⟩, htl _ mw_726, htl _ mw_727⟩ rfl hl.1 rfl (Nat.le_of_ble_eq_true rfl) dX13_behindSum_242 ⟨(Nat.le_of_ble_eq_true rfl), (Nat.le_of_ble_eq_true rfl)⟩ (fun H locs F G R S hpo hM hS => ?_)
                  obtain ⟨hIF, hIG, hIR, hfr9, hrr9, hgr9, hpo125, hx126, hx127⟩ := hpo
                  have hFF := mz_fr (K := [14, 15, 16, 18, 19, 23, 29, 30]) (Fa := Fa) hfr9 hFF (by decide)
                  have hRR := mz_fr (K := [24, 25, 27, 28]) (Fa := Ra) hrr9 hRR (by decide)
                  have hGG := mz_fr (K := [17]) (Fa := Ga) hgr9 hGG (by decide)
                  have hg_3 := (hfr9 13 (by decide)).trans hg_3
                  have hf103 := (hfr9 14 (by decide)).trans hf103
                  have hf105 := (hfr9 15 (by decide)).trans hf105
                  have hf107 := (hfr9 16 (by decide)).trans hf107
                  have hf109 := (hgr9 17 (by decide)).trans hf109
                  have hf111 := (hfr9 19 (by decide)).trans hf111
                  have hf121 := (hfr9 23 (by decide)).trans hf121
                  obtain ⟨v130, hf129⟩ : ∃ z : Int32, F 29 = z := ⟨_, rfl⟩
                  have hq_v130 := tk_rng v130
                  rw [hf129] at hpo125
                  have hr_v130 : 0 ≤ v130.toInt ∧ v130.toInt ≤ 400 := hIF.at hf129
                  have hPI : PI (R 24) (R 25) (R 27) (R 28) zs v122.toInt.toNat v130.toInt.toNat 0 := (PI.push (o := v77) hPI (by omega) (by omega) ⟨by omega, by omega⟩ (by rw [if_pos (by omega)]; rfl) (Or.inr (Or.inr hSq)) hx126 hx127).to (hrr9 24 (by decide)) (hrr9 25 (by decide)) rfl rfl rfl (by omega)
                  have hLo := And.intro (hLo.1.to (hrr9 24 (by decide))) (hLo.2.to (hrr9 25 (by decide)))
                  have hSq : nSq (R 27) v130.toInt.toNat := (hSq.push hx126 (by omega)).to rfl (by omega)
                  refine lv_iconst (v := 1) hx hb dX13_behindSum_245 (by decide) ?_
                  have hk_1 : (1 : Int32).toInt = 1 := by decide
                  exact mz_iret (v := 1) hx hb hr rfl hlocks ⟨hIF, hIG, hIR, hFF, hRR, hGG, (by rw [hf103, hf105]; omega), (by rw [hf105]; omega), (by rw [hf103, hf105, hf107]; omega), (by rw [hf103, hf105, hf107, hf109]; omega), (by rw [hf103]; omega), (by rw [hf103, hf121, hf129]; omega), (by rw [hf121]; omega), (by rw [hf103, hf111]; omega), (by rw [hf103, hf111]; omega), (by omega), (by omega), (fun _ => ⟨PT.mk hPI (by decide) (fun h9 => absurd h9 (by decide)) (fun h9 => absurd h9 (by decide)) rfl rfl rfl rfl (by rw [hf121]) (by rw [hf129]), hLo⟩)⟩ hM hS dX13_behindSum_246
              refine lv_icmp_ne (tgt := 219) hx hb dX13_behindSum_207 (by decide) (fun c9 => ?_) (fun c9 => ?_)
              · have hc80 : ¬ (v77.toInt = 27) := fun h9 => c9 ((fi_eq rfl (show (27 : Int32).toInt = 27 by decide)).mpr h9)
                refine lv_iconst (v := 1) hx hb dX13_behindSum_219 (by decide) ?_
                refine lv_goto (tgt := 224) hx hb dX13_behindSum_220 (by decide) ?_
                have hk_1 : (1 : Int32).toInt = 1 := by decide
                exact hj93 1 _ _ (by omega) (by omega) (by omega) (by omega) hM hS (by omega) _ (lv_sub hl [0, 1] rfl)
              · have hc80 : v77.toInt = 27 := (fi_eq rfl (show (27 : Int32).toInt = 27 by decide)).mp c9
                refine lv_aload_n hx hb dX13_behindSum_210 rfl (lv_at hl 1 rfl) ?_
                refine lv_bipush (v := 61) hx hb dX13_behindSum_211 (by decide) ?_
                have hk_61 : (61 : Int32).toInt = 61 := by decide
                refine mz_Vj (As := [.int 61]) (rest := [.ref am]) ⟨hx, hb, hml, hown, hts⟩ hK hM hS (k_X13_isSign l D cy ld ad am hD _ _ _ _ 61 gs hIF hIG hIR hg_2) ⟨callB_of 1 hts (wl_in mw_732) rfl rfl rfl (htl _ mw_5) (htl _ mw_729) hd_yX13_isSign ⟨(Nat.le_of_ble_eq_true rfl), (Nat.le_of_ble_eq_true rfl)⟩, htl _ mw_730, htl _ mw_731⟩ rfl hl.1 rfl (Nat.le_of_ble_eq_true rfl) dX13_behindSum_213 ⟨(Nat.le_of_ble_eq_true rfl), (Nat.le_of_ble_eq_true rfl)⟩ (fun v131 H locs hpo hM hS => ?_)
                obtain ⟨hpo132, hpo133, hpo134, hpo135, hpo136⟩ := hpo
                have hq_v131 := tk_rng v131
                refine lv_if_eq (tgt := 223) hx hb dX13_behindSum_216 (by decide) (fun c9 => ?_) (fun c9 => ?_)
                · have hc138 : v131.toInt = 0 := (fi_eq rfl (show (0 : Int32).toInt = 0 by decide)).mp c9
                  refine lv_iconst (v := 0) hx hb dX13_behindSum_223 (by decide) ?_
                  have hk_0 : (0 : Int32).toInt = 0 := by decide
                  exact hj93 0 _ _ (by omega) (by omega) (by omega) (by omega) hM hS (by omega) _ (lv_sub hl [0, 1] rfl)
                · have hc138 : ¬ (v131.toInt = 0) := fun h9 => c9 ((fi_eq rfl (show (0 : Int32).toInt = 0 by decide)).mpr h9)
                  refine lv_iconst (v := 1) hx hb dX13_behindSum_219 (by decide) ?_
                  refine lv_goto (tgt := 224) hx hb dX13_behindSum_220 (by decide) ?_
                  have hk_1 : (1 : Int32).toInt = 1 := by decide
                  exact hj93 1 _ _ (by omega) (by omega) (by omega) (by omega) hM hS (by omega) _ (lv_sub hl [0, 1] rfl)
            refine lv_if_eq (tgt := 186) hx hb dX13_behindSum_178 (by decide) (fun c9 => ?_) (fun c9 => ?_)
            · have hc66 : v59.toInt = 0 := (fi_eq rfl (show (0 : Int32).toInt = 0 by decide)).mp c9
              refine lv_aload_n hx hb dX13_behindSum_186 rfl (lv_at hl 2 rfl) ?_
              refine lv_bipush (v := 62) hx hb dX13_behindSum_187 (by decide) ?_
              have hk_62 : (62 : Int32).toInt = 62 := by decide
              refine mz_Vj (As := [.int 62]) (rest := []) ⟨hx, hb, hml, hown, hts⟩ hK hM hS (k_X13_isSign l D cy ld ad am hD _ _ _ _ 62 gs hIF hIG hIR hg_2) ⟨callB_of 1 hts (wl_in mw_732) rfl rfl rfl (htl _ mw_5) (htl _ mw_729) hd_yX13_isSign ⟨(Nat.le_of_ble_eq_true rfl), (Nat.le_of_ble_eq_true rfl)⟩, htl _ mw_730, htl _ mw_731⟩ rfl hl.1 rfl (Nat.le_of_ble_eq_true rfl) dX13_behindSum_189 ⟨(Nat.le_of_ble_eq_true rfl), (Nat.le_of_ble_eq_true rfl)⟩ (fun v139 H locs hpo hM hS => ?_)
              obtain ⟨hpo140, hpo141, hpo142, hpo143, hpo144⟩ := hpo
              have hq_v139 := tk_rng v139
              refine lv_if_eq (tgt := 200) hx hb dX13_behindSum_192 (by decide) (fun c9 => ?_) (fun c9 => ?_)
              · have hc146 : v139.toInt = 0 := (fi_eq rfl (show (0 : Int32).toInt = 0 by decide)).mp c9
                refine lv_bipush (v := 27) hx hb dX13_behindSum_200 (by decide) ?_
                have hk_27 : (27 : Int32).toInt = 27 := by decide
                exact hj79 27 _ _ (by omega) (by omega) hM hS (by omega) _ (lv_sub hl [2] rfl)
              · have hc146 : ¬ (v139.toInt = 0) := fun h9 => c9 ((fi_eq rfl (show (0 : Int32).toInt = 0 by decide)).mpr h9)
                refine lv_bipush (v := 26) hx hb dX13_behindSum_195 (by decide) ?_
                refine lv_goto (tgt := 202) hx hb dX13_behindSum_197 (by decide) ?_
                have hk_26 : (26 : Int32).toInt = 26 := by decide
                exact hj79 26 _ _ (by omega) (by omega) hM hS (by omega) _ (lv_sub hl [2] rfl)
            · have hc66 : ¬ (v59.toInt = 0) := fun h9 => c9 ((fi_eq rfl (show (0 : Int32).toInt = 0 by decide)).mpr h9)
              refine lv_bipush (v := 25) hx hb dX13_behindSum_181 (by decide) ?_
              refine lv_goto (tgt := 202) hx hb dX13_behindSum_183 (by decide) ?_
              have hk_25 : (25 : Int32).toInt = 25 := by decide
              exact hj79 25 _ _ (by omega) (by omega) hM hS (by omega) _ (lv_sub hl [2] rfl)
          · have hc58 : ¬ (v52.toInt = 0) := fun h9 => c9 ((fi_eq rfl (show (0 : Int32).toInt = 0 by decide)).mpr h9)
            refine lv_iconst (v := 2) hx hb dX13_behindSum_170 (by decide) ?_
            have hk_2 : (2 : Int32).toInt = 2 := by decide
            exact mz_iret (v := 2) hx hb hr rfl hlocks ⟨hIF, hIG, hIR, (fun _ _ => rfl), (fun _ _ => rfl), (fun _ _ => rfl), (by rw [hg_0, hg_1]; omega), (by rw [hg_1]; omega), (by rw [hg_0, hg_1, hg_2]; omega), (by rw [hg_0, hg_1, hg_2, hg_4]; omega), (by rw [hg_0]; omega), (by rw [hg_0, hg_6, hg_7]; omega), (by rw [hg_6]; omega), (by rw [hg_0, hg_5]; omega), (by rw [hg_0, hg_5]; omega), (by omega), (by omega), (fun _ => ⟨PT.mk hPI (by decide) (fun _ => hSq) (fun h9 => absurd h9 (by decide)) rfl rfl rfl rfl (by rw [hg_6]) (by rw [hg_7]), hLo⟩)⟩ hM hS dX13_behindSum_171
        · have hc51 : v47.toInt = (-1) := (fi_eq rfl (show ((-1) : Int32).toInt = (-1) by decide)).mp c9
          refine lv_iload_n hx hb dX13_behindSum_157 rfl (lv_at hl 3 rfl) ?_
          refine lv_if_ne (tgt := 163) hx hb dX13_behindSum_158 (by decide) (fun c9 => ?_) (fun c9 => ?_)
          · have hc147 : ¬ (p1.toInt = 0) := fun h9 => c9 ((fi_eq rfl (show (0 : Int32).toInt = 0 by decide)).mpr h9)
            refine lv_aload_n hx hb dX13_behindSum_163 rfl (lv_at hl 2 rfl) ?_
            refine mz_Vj (As := []) (rest := []) ⟨hx, hb, hml, hown, hts⟩ hK hM hS (k_X13_isCompared l D cy ld ad am hD _ _ _ _ hIF hIG hIR) ⟨callB_of 0 hts (wl_in mw_781) rfl rfl rfl (htl _ mw_5) (htl _ mw_778) hd_yX13_isCompared ⟨(Nat.le_of_ble_eq_true rfl), (Nat.le_of_ble_eq_true rfl)⟩, htl _ mw_779, htl _ mw_780⟩ rfl hl.1 rfl (Nat.le_of_ble_eq_true rfl) dX13_behindSum_164 ⟨(Nat.le_of_ble_eq_true rfl), (Nat.le_of_ble_eq_true rfl)⟩ (fun v148 H locs hpo hM hS => ?_)
            obtain ⟨hpo149, hpo150, hpo151, hpo152⟩ := hpo
            have hq_v148 := tk_rng v148
            have hSq := hinn.nsq hPI (by omega)
            refine lv_if_eq (tgt := 172) hx hb dX13_behindSum_167 (by decide) (fun c9 => ?_) (fun c9 => ?_)
            · have hc154 : v148.toInt = 0 := (fi_eq rfl (show (0 : Int32).toInt = 0 by decide)).mp c9
              refine lv_aload_n hx hb dX13_behindSum_172 rfl (lv_at hl 2 rfl) ?_
              refine lv_bipush (v := 60) hx hb dX13_behindSum_173 (by decide) ?_
              have hk_60 : (60 : Int32).toInt = 60 := by decide
              refine mz_Vj (As := [.int 60]) (rest := []) ⟨hx, hb, hml, hown, hts⟩ hK hM hS (k_X13_isSign l D cy ld ad am hD _ _ _ _ 60 gs hIF hIG hIR hg_2) ⟨callB_of 1 hts (wl_in mw_732) rfl rfl rfl (htl _ mw_5) (htl _ mw_729) hd_yX13_isSign ⟨(Nat.le_of_ble_eq_true rfl), (Nat.le_of_ble_eq_true rfl)⟩, htl _ mw_730, htl _ mw_731⟩ rfl hl.1 rfl (Nat.le_of_ble_eq_true rfl) dX13_behindSum_175 ⟨(Nat.le_of_ble_eq_true rfl), (Nat.le_of_ble_eq_true rfl)⟩ (fun v155 H locs hpo hM hS => ?_)
              obtain ⟨hpo156, hpo157, hpo158, hpo159, hpo160⟩ := hpo
              have hq_v155 := tk_rng v155
              have hj175 : ∀ (v173 : Int32) (H : Heap) (locs : List Loc), (25 ≤ v173.toInt) → (v173.toInt ≤ 27) → (mz_S D cy ad am Fa Ga Ra Sa H) → (va_S (mz_W ad am) s.heap H locs) → ((v173.toInt ≤ 26 → gs.toInt + (-3) = 0)) → ∀ ls : Array Slot, lv_has ls 4 [(0, .ref am)] → W p l e ({ frames := 6, cells := 0, slots := 0, locals := 350 }) s m args below meth c H locs 0 0 (MQ below (mz_i D cy ad am (fun r F G R S => mz_IF false F ∧ mz_IG G ∧ mz_IR [] true R ∧ (∀ k : Nat, k ∉ ([14, 15, 16, 18, 19, 23, 29, 30] : List Nat) → F k = Fa k) ∧ (∀ k : Nat, k ∉ ([24, 25, 27, 28] : List Nat) → R k = Ra k) ∧ (∀ k : Nat, k ∉ ([17] : List Nat) → G k = Ga k) ∧ 0 ≤ (-1) * (F 14).toInt + (F 15).toInt ∧ 0 ≤ gp.toInt + (-1) * (F 15).toInt ∧ (1 ≤ (F 16).toInt → 0 ≤ (-1) * (F 14).toInt + (F 15).toInt + (-1)) ∧ (27 ≤ (G 17).toInt → 1 ≤ (F 16).toInt → (F 16).toInt ≤ 1 → 0 ≤ (-1) * (F 14).toInt + (F 15).toInt + (-2)) ∧ 0 ≤ (-1) * gf.toInt + (F 14).toInt ∧ 0 ≤ (-1) * (F 23).toInt + (-1) * (F 29).toInt + (F 14).toInt ∧ 0 ≤ (-1) * gc.toInt + (F 23).toInt ∧ ((F 19).toInt ≤ 0 → r.toInt ≤ 1 → 0 ≤ (-1) * gf.toInt + (F 14).toInt + (-1)) ∧ ((F 19).toInt ≤ 0 → 3 ≤ r.toInt → r.toInt ≤ 3 → 0 ≤ (-1) * gf.toInt + (F 14).toInt + (-1)) ∧ 1 ≤ r.toInt ∧ r.toInt ≤ 4 ∧ ((F 19).toInt = 0 → PT (R 24) (R 25) (R 27) (R 28) zs (F 23).toInt.toNat (F 29).toInt.toNat r.toInt ∧ low zs (Ra 24) (R 24) ∧ low zs (Ra 25) (R 25)))) args s 0 0 (mz_W ad am)) (F0 m 202 ls [.int v173]) := by
                intro v173 H locs hq0_j175 hq1_j175 hM hS hc0_j175 ls hl
                refine lv_istore_n (lv' := [(2, .int v173), (0, .ref am)]) hx hb dX13_behindSum_202 rfl hl (by decide) rfl (fun ls hl => ?_)
                refine lv_aload_n hx hb dX13_behindSum_203 rfl (lv_at hl 1 rfl) ?_
                refine lv_iload_n hx hb dX13_behindSum_204 rfl (lv_at hl 0 rfl) ?_
                refine lv_bipush (v := 27) hx hb dX13_behindSum_205 (by decide) ?_
                have hj189 : ∀ (v187 : Int32) (H : Heap) (locs : List Loc), (0 ≤ gt.toInt + (-1) * v187.toInt) → (0 ≤ gs.toInt + (-1) * v187.toInt) → (0 ≤ gb.toInt + (-1) * v187.toInt + 1) → (0 ≤ (-1) * gb.toInt + v187.toInt) → (mz_S D cy ad am Fa Ga Ra Sa H) → (va_S (mz_W ad am) s.heap H locs) → ((1 ≤ v187.toInt → gs.toInt + (-3) = 0)) → ∀ ls : Array Slot, lv_has ls 4 [(2, .int v173), (0, .ref am)] → W p l e ({ frames := 6, cells := 0, slots := 0, locals := 350 }) s m args below meth c H locs 0 0 (MQ below (mz_i D cy ad am (fun r F G R S => mz_IF false F ∧ mz_IG G ∧ mz_IR [] true R ∧ (∀ k : Nat, k ∉ ([14, 15, 16, 18, 19, 23, 29, 30] : List Nat) → F k = Fa k) ∧ (∀ k : Nat, k ∉ ([24, 25, 27, 28] : List Nat) → R k = Ra k) ∧ (∀ k : Nat, k ∉ ([17] : List Nat) → G k = Ga k) ∧ 0 ≤ (-1) * (F 14).toInt + (F 15).toInt ∧ 0 ≤ gp.toInt + (-1) * (F 15).toInt ∧ (1 ≤ (F 16).toInt → 0 ≤ (-1) * (F 14).toInt + (F 15).toInt + (-1)) ∧ (27 ≤ (G 17).toInt → 1 ≤ (F 16).toInt → (F 16).toInt ≤ 1 → 0 ≤ (-1) * (F 14).toInt + (F 15).toInt + (-2)) ∧ 0 ≤ (-1) * gf.toInt + (F 14).toInt ∧ 0 ≤ (-1) * (F 23).toInt + (-1) * (F 29).toInt + (F 14).toInt ∧ 0 ≤ (-1) * gc.toInt + (F 23).toInt ∧ ((F 19).toInt ≤ 0 → r.toInt ≤ 1 → 0 ≤ (-1) * gf.toInt + (F 14).toInt + (-1)) ∧ ((F 19).toInt ≤ 0 → 3 ≤ r.toInt → r.toInt ≤ 3 → 0 ≤ (-1) * gf.toInt + (F 14).toInt + (-1)) ∧ 1 ≤ r.toInt ∧ r.toInt ≤ 4 ∧ ((F 19).toInt = 0 → PT (R 24) (R 25) (R 27) (R 28) zs (F 23).toInt.toNat (F 29).toInt.toNat r.toInt ∧ low zs (Ra 24) (R 24) ∧ low zs (Ra 25) (R 25)))) args s 0 0 (mz_W ad am)) (F0 m 224 ls [.int v187, .ref am]) := by
                  intro v187 H locs hq0_j189 hq1_j189 hq2_j189 hq3_j189 hM hS hc0_j189 ls hl
                  refine mz_Vv (As := [.int v187]) (rest := []) ⟨hx, hb, hml, hown, hts⟩ hK hM hS (k_X13_must l D cy ld ad am hD _ _ _ _ v187 gf gt gs gp gw gb hIF hIG hIR hg_0 hg_1 hg_2 hg_3 hg_4 hg_5 (by omega) (by omega) (by omega) (by omega) (by omega) (by omega)) ⟨callB_of 1 hts (wl_in mw_713) rfl rfl rfl (htl _ mw_5) (htl _ mw_710) hd_yX13_must ⟨(Nat.le_of_ble_eq_true rfl), (Nat.le_of_ble_eq_true rfl)⟩, htl _ mw_711, htl _ mw_712⟩ rfl hl.1 rfl (Nat.le_of_ble_eq_true rfl) dX13_behindSum_224 ⟨(Nat.le_of_ble_eq_true rfl), (Nat.le_of_ble_eq_true rfl)⟩ (fun H locs F G R S hpo hM hS => ?_)
                  obtain ⟨hIF, hIG, hIR, hfr9, hrr9, hgr9, hpo190, hpo191, hpo192, hpo193, hpo194, hpo195, hpo196, hpo197⟩ := hpo
                  have hFF := mz_fr (K := [14, 15, 16, 18, 19, 23, 29, 30]) (Fa := Fa) hfr9 (fun _ _ => rfl) (by decide)
                  have hRR := mz_fr (K := [24, 25, 27, 28]) (Fa := Ra) hrr9 (fun _ _ => rfl) (by decide)
                  have hGG := mz_fr (K := [17]) (Fa := Ga) hgr9 (fun _ _ => rfl) (by decide)
                  have hg_3 := (hfr9 13 (by decide)).trans hg_3
                  have hg_6 := (hfr9 23 (by decide)).trans hg_6
                  have hg_7 := (hfr9 29 (by decide)).trans hg_7
                  obtain ⟨v200, hf199⟩ : ∃ z : Int32, F 14 = z := ⟨_, rfl⟩
                  have hq_v200 := tk_rng v200
                  rw [hf199] at hpo190 hpo192 hpo193 hpo194 hpo196
                  have hr_v200 : 0 ≤ v200.toInt ∧ v200.toInt ≤ 400 := hIF.at hf199
                  obtain ⟨v202, hf201⟩ : ∃ z : Int32, F 15 = z := ⟨_, rfl⟩
                  have hq_v202 := tk_rng v202
                  rw [hf201] at hpo190 hpo191 hpo192 hpo193
                  have hr_v202 : 0 ≤ v202.toInt ∧ v202.toInt ≤ 400 := hIF.at hf201
                  obtain ⟨v204, hf203⟩ : ∃ z : Int32, F 16 = z := ⟨_, rfl⟩
                  have hq_v204 := tk_rng v204
                  rw [hf203] at hpo192 hpo193
                  have hr_v204 : 0 ≤ v204.toInt ∧ v204.toInt ≤ 3 := hIF.at hf203
                  obtain ⟨w206, hf205⟩ : ∃ z : Int64, G 17 = z := ⟨_, rfl⟩
                  have hq_w206 := tk_rngL w206
                  rw [hf205] at hpo193
                  obtain ⟨v208, hf207⟩ : ∃ z : Int32, F 19 = z := ⟨_, rfl⟩
                  have hq_v208 := tk_rng v208
                  rw [hf207] at hpo195 hpo196 hpo197
                  have hr_v208 : 0 ≤ v208.toInt ∧ v208.toInt ≤ 1 := hIF.at hf207
                  have hPI := hPI.to (hrr9 24 (by decide)) (hrr9 25 (by decide)) (hrr9 27 (by decide)) (hrr9 28 (by decide)) rfl rfl
                  have hLo := And.intro (hLo.1.to (hrr9 24 (by decide))) (hLo.2.to (hrr9 25 (by decide)))
                  have hSq := hSq.to (hrr9 27 (by decide)) (Nat.le_refl _)
                  have hinn0 := hinn
                  have hinn : inn (R 27) gd.toInt.toNat v47.toInt := by rw [hrr9 27 (by decide)]; exact hinn0
                  refine lv_aload_n hx hb dX13_behindSum_227 rfl (lv_at hl 1 rfl) ?_
                  refine mz_getI hx hb htl hown hK hM 19 (Nat.le_of_ble_eq_true rfl) rfl (htl _ mw_668) (fun _ h9 => h9) dX13_behindSum_228 (fun v9 e9 => ?_)
                  refine fx_ti (v := v208) (e9.symm.trans hf207) ?_
                  refine lv_if_ne (tgt := 245) hx hb dX13_behindSum_231 (by decide) (fun c9 => ?_) (fun c9 => ?_)
                  · have hc209 : ¬ (v208.toInt = 0) := fun h9 => c9 ((fi_eq rfl (show (0 : Int32).toInt = 0 by decide)).mpr h9)
                    refine lv_iconst (v := 1) hx hb dX13_behindSum_245 (by decide) ?_
                    have hk_1 : (1 : Int32).toInt = 1 := by decide
                    exact mz_iret (v := 1) hx hb hr rfl hlocks ⟨hIF, hIG, hIR, hFF, hRR, hGG, (by rw [hf199, hf201]; omega), (by rw [hf201]; omega), (by rw [hf199, hf201, hf203]; omega), (by rw [hf199, hf201, hf203, hf205]; omega), (by rw [hf199]; omega), (by rw [hf199, hg_6, hg_7]; omega), (by rw [hg_6]; omega), (by rw [hf199, hf207]; omega), (by rw [hf199, hf207]; omega), (by omega), (by omega), (by rw [hf207]; exact fun h9 => absurd h9 (by omega))⟩ hM hS dX13_behindSum_246
                  · have hc209 : v208.toInt = 0 := (fi_eq rfl (show (0 : Int32).toInt = 0 by decide)).mp c9
                    refine lv_aload_n hx hb dX13_behindSum_234 rfl (lv_at hl 1 rfl) ?_
                    refine lv_iconst (v := 5) hx hb dX13_behindSum_235 (by decide) ?_
                    have hk_5 : (5 : Int32).toInt = 5 := by decide
                    refine mz_Vv (As := [.int 5]) (rest := []) ⟨hx, hb, hml, hown, hts⟩ hK hM hS (k_X13_settle l D cy ld ad am hD _ _ _ _ 5 gc gd v208 zs hIF hIG hIR hg_6 hg_7 hf207 (by omega) (by omega) (by omega) (fun _ => hPI)) ⟨callB_of 1 hts (wl_in mw_773) rfl rfl rfl (htl _ mw_5) (htl _ mw_770) hd_yX13_settle ⟨(Nat.le_of_ble_eq_true rfl), (Nat.le_of_ble_eq_true rfl)⟩, htl _ mw_771, htl _ mw_772⟩ rfl hl.1 rfl (Nat.le_of_ble_eq_true rfl) dX13_behindSum_236 ⟨(Nat.le_of_ble_eq_true rfl), (Nat.le_of_ble_eq_true rfl)⟩ (fun H locs F G R S hpo hM hS => ?_)
                    obtain ⟨hIF, hIG, hIR, hfr9, hrr9, hgr9, hpo210, hpo211, hpo212, hx213, hx214, hx215⟩ := hpo
                    have hFF := mz_fr (K := [14, 15, 16, 18, 19, 23, 29, 30]) (Fa := Fa) hfr9 hFF (by decide)
                    have hRR := mz_fr (K := [24, 25, 27, 28]) (Fa := Ra) hrr9 hRR (by decide)
                    have hGG := mz_fr (K := [17]) (Fa := Ga) hgr9 hGG (by decide)
                    have hg_3 := (hfr9 13 (by decide)).trans hg_3
                    have hf199 := (hfr9 14 (by decide)).trans hf199
                    have hf201 := (hfr9 15 (by decide)).trans hf201
                    have hf203 := (hfr9 16 (by decide)).trans hf203
                    have hf205 := (hgr9 17 (by decide)).trans hf205
                    have hf207 := (hfr9 19 (by decide)).trans hf207
                    obtain ⟨v218, hf217⟩ : ∃ z : Int32, F 23 = z := ⟨_, rfl⟩
                    have hq_v218 := tk_rng v218
                    rw [hf217] at hpo210 hpo212
                    have hr_v218 : 0 ≤ v218.toInt ∧ v218.toInt ≤ 400 := hIF.at hf217
                    obtain ⟨v220, hf219⟩ : ∃ z : Int32, F 29 = z := ⟨_, rfl⟩
                    have hq_v220 := tk_rng v220
                    rw [hf219] at hpo210 hpo211
                    have hr_v220 : 0 ≤ v220.toInt ∧ v220.toInt ≤ 400 := hIF.at hf219
                    have hs9 := hx213 (by omega)
                    rw [hf217, hf219] at hs9
                    have hPI : PI (R 24) (R 25) (R 27) (R 28) zs v218.toInt.toNat v220.toInt.toNat 1 := hs9.1
                    have hLo := And.intro (hLo.1.trans hs9.2.1 (Nat.le_refl _)) (hLo.2.trans hs9.2.2 (Nat.le_refl _))
                    rw [hf219] at hx214 hx215
                    have hsb := hx214
                    have hst := hx215
                    have hSq := hSq.to (pd1 := v220.toInt.toNat) (hrr9 27 (by decide)) (by omega)
                    have hinn0 := hinn
                    have hinn : inn (R 27) gd.toInt.toNat v47.toInt := by rw [hrr9 27 (by decide)]; exact hinn0
                    refine lv_aload_n hx hb dX13_behindSum_239 rfl (lv_at hl 1 rfl) ?_
                    refine lv_iload_n hx hb dX13_behindSum_240 rfl (lv_at hl 0 rfl) ?_
                    refine lv_iconst (v := 0) hx hb dX13_behindSum_241 (by decide) ?_
                    have hk_0 : (0 : Int32).toInt = 0 := by decide
                    refine mz_Vv (As := [.int v173, .int 0]) (rest := []) ⟨hx, hb, hml, hown, hts⟩ hK hM hS (k_X13_push l D cy ld ad am hD _ _ _ _ v173 0 v220 hIF hIG hIR hf219 (by omega) (by omega) (by omega)) ⟨callB_of 2 hts (wl_in mw_728) rfl rfl rfl (htl _ mw_5) (htl _ mw_725) hd_yX13_push ⟨(Nat.le_of_ble_eq_true rfl), (Nat.le_of_ble_eq_true rfl)⟩, htl _ mw_726, htl _ mw_727⟩ rfl hl.1 rfl (Nat.le_of_ble_eq_true rfl) dX13_behindSum_242 ⟨(Nat.le_of_ble_eq_true rfl), (Nat.le_of_ble_eq_true rfl)⟩ (fun H locs F G R S hpo hM hS => ?_)
                    obtain ⟨hIF, hIG, hIR, hfr9, hrr9, hgr9, hpo221, hx222, hx223⟩ := hpo
                    have hFF := mz_fr (K := [14, 15, 16, 18, 19, 23, 29, 30]) (Fa := Fa) hfr9 hFF (by decide)
                    have hRR := mz_fr (K := [24, 25, 27, 28]) (Fa := Ra) hrr9 hRR (by decide)
                    have hGG := mz_fr (K := [17]) (Fa := Ga) hgr9 hGG (by decide)
                    have hg_3 := (hfr9 13 (by decide)).trans hg_3
                    have hf199 := (hfr9 14 (by decide)).trans hf199
                    have hf201 := (hfr9 15 (by decide)).trans hf201
                    have hf203 := (hfr9 16 (by decide)).trans hf203
                    have hf205 := (hgr9 17 (by decide)).trans hf205
                    have hf207 := (hfr9 19 (by decide)).trans hf207
                    have hf217 := (hfr9 23 (by decide)).trans hf217
                    obtain ⟨v226, hf225⟩ : ∃ z : Int32, F 29 = z := ⟨_, rfl⟩
                    have hq_v226 := tk_rng v226
                    rw [hf225] at hpo221
                    have hr_v226 : 0 ≤ v226.toInt ∧ v226.toInt ≤ 400 := hIF.at hf225
                    have hPI : PI (R 24) (R 25) (R 27) (R 28) zs v218.toInt.toNat v226.toInt.toNat 0 := (PI.push (o := v173) hPI (by omega) (by omega) ⟨by omega, by omega⟩ (by rw [if_pos (by omega)]; rfl) (Or.inr (Or.inr hSq)) hx222 hx223).to (hrr9 24 (by decide)) (hrr9 25 (by decide)) rfl rfl rfl (by omega)
                    have hLo := And.intro (hLo.1.to (hrr9 24 (by decide))) (hLo.2.to (hrr9 25 (by decide)))
                    have hSq : nSq (R 27) v226.toInt.toNat := (hSq.push hx222 (by omega)).to rfl (by omega)
                    refine lv_iconst (v := 1) hx hb dX13_behindSum_245 (by decide) ?_
                    have hk_1 : (1 : Int32).toInt = 1 := by decide
                    exact mz_iret (v := 1) hx hb hr rfl hlocks ⟨hIF, hIG, hIR, hFF, hRR, hGG, (by rw [hf199, hf201]; omega), (by rw [hf201]; omega), (by rw [hf199, hf201, hf203]; omega), (by rw [hf199, hf201, hf203, hf205]; omega), (by rw [hf199]; omega), (by rw [hf199, hf217, hf225]; omega), (by rw [hf217]; omega), (by rw [hf199, hf207]; omega), (by rw [hf199, hf207]; omega), (by omega), (by omega), (fun _ => ⟨PT.mk hPI (by decide) (fun h9 => absurd h9 (by decide)) (fun h9 => absurd h9 (by decide)) rfl rfl rfl rfl (by rw [hf217]) (by rw [hf225]), hLo⟩)⟩ hM hS dX13_behindSum_246
                refine lv_icmp_ne (tgt := 219) hx hb dX13_behindSum_207 (by decide) (fun c9 => ?_) (fun c9 => ?_)
                · have hc176 : ¬ (v173.toInt = 27) := fun h9 => c9 ((fi_eq rfl (show (27 : Int32).toInt = 27 by decide)).mpr h9)
                  refine lv_iconst (v := 1) hx hb dX13_behindSum_219 (by decide) ?_
                  refine lv_goto (tgt := 224) hx hb dX13_behindSum_220 (by decide) ?_
                  have hk_1 : (1 : Int32).toInt = 1 := by decide
                  exact hj189 1 _ _ (by omega) (by omega) (by omega) (by omega) hM hS (by omega) _ (lv_sub hl [0, 1] rfl)
                · have hc176 : v173.toInt = 27 := (fi_eq rfl (show (27 : Int32).toInt = 27 by decide)).mp c9
                  refine lv_aload_n hx hb dX13_behindSum_210 rfl (lv_at hl 1 rfl) ?_
                  refine lv_bipush (v := 61) hx hb dX13_behindSum_211 (by decide) ?_
                  have hk_61 : (61 : Int32).toInt = 61 := by decide
                  refine mz_Vj (As := [.int 61]) (rest := [.ref am]) ⟨hx, hb, hml, hown, hts⟩ hK hM hS (k_X13_isSign l D cy ld ad am hD _ _ _ _ 61 gs hIF hIG hIR hg_2) ⟨callB_of 1 hts (wl_in mw_732) rfl rfl rfl (htl _ mw_5) (htl _ mw_729) hd_yX13_isSign ⟨(Nat.le_of_ble_eq_true rfl), (Nat.le_of_ble_eq_true rfl)⟩, htl _ mw_730, htl _ mw_731⟩ rfl hl.1 rfl (Nat.le_of_ble_eq_true rfl) dX13_behindSum_213 ⟨(Nat.le_of_ble_eq_true rfl), (Nat.le_of_ble_eq_true rfl)⟩ (fun v227 H locs hpo hM hS => ?_)
                  obtain ⟨hpo228, hpo229, hpo230, hpo231, hpo232⟩ := hpo
                  have hq_v227 := tk_rng v227
                  refine lv_if_eq (tgt := 223) hx hb dX13_behindSum_216 (by decide) (fun c9 => ?_) (fun c9 => ?_)
                  · have hc234 : v227.toInt = 0 := (fi_eq rfl (show (0 : Int32).toInt = 0 by decide)).mp c9
                    refine lv_iconst (v := 0) hx hb dX13_behindSum_223 (by decide) ?_
                    have hk_0 : (0 : Int32).toInt = 0 := by decide
                    exact hj189 0 _ _ (by omega) (by omega) (by omega) (by omega) hM hS (by omega) _ (lv_sub hl [0, 1] rfl)
                  · have hc234 : ¬ (v227.toInt = 0) := fun h9 => c9 ((fi_eq rfl (show (0 : Int32).toInt = 0 by decide)).mpr h9)
                    refine lv_iconst (v := 1) hx hb dX13_behindSum_219 (by decide) ?_
                    refine lv_goto (tgt := 224) hx hb dX13_behindSum_220 (by decide) ?_
                    have hk_1 : (1 : Int32).toInt = 1 := by decide
                    exact hj189 1 _ _ (by omega) (by omega) (by omega) (by omega) hM hS (by omega) _ (lv_sub hl [0, 1] rfl)
              refine lv_if_eq (tgt := 186) hx hb dX13_behindSum_178 (by decide) (fun c9 => ?_) (fun c9 => ?_)
              · have hc162 : v155.toInt = 0 := (fi_eq rfl (show (0 : Int32).toInt = 0 by decide)).mp c9
                refine lv_aload_n hx hb dX13_behindSum_186 rfl (lv_at hl 2 rfl) ?_
                refine lv_bipush (v := 62) hx hb dX13_behindSum_187 (by decide) ?_
                have hk_62 : (62 : Int32).toInt = 62 := by decide
                refine mz_Vj (As := [.int 62]) (rest := []) ⟨hx, hb, hml, hown, hts⟩ hK hM hS (k_X13_isSign l D cy ld ad am hD _ _ _ _ 62 gs hIF hIG hIR hg_2) ⟨callB_of 1 hts (wl_in mw_732) rfl rfl rfl (htl _ mw_5) (htl _ mw_729) hd_yX13_isSign ⟨(Nat.le_of_ble_eq_true rfl), (Nat.le_of_ble_eq_true rfl)⟩, htl _ mw_730, htl _ mw_731⟩ rfl hl.1 rfl (Nat.le_of_ble_eq_true rfl) dX13_behindSum_189 ⟨(Nat.le_of_ble_eq_true rfl), (Nat.le_of_ble_eq_true rfl)⟩ (fun v235 H locs hpo hM hS => ?_)
                obtain ⟨hpo236, hpo237, hpo238, hpo239, hpo240⟩ := hpo
                have hq_v235 := tk_rng v235
                refine lv_if_eq (tgt := 200) hx hb dX13_behindSum_192 (by decide) (fun c9 => ?_) (fun c9 => ?_)
                · have hc242 : v235.toInt = 0 := (fi_eq rfl (show (0 : Int32).toInt = 0 by decide)).mp c9
                  refine lv_bipush (v := 27) hx hb dX13_behindSum_200 (by decide) ?_
                  have hk_27 : (27 : Int32).toInt = 27 := by decide
                  exact hj175 27 _ _ (by omega) (by omega) hM hS (by omega) _ (lv_sub hl [2] rfl)
                · have hc242 : ¬ (v235.toInt = 0) := fun h9 => c9 ((fi_eq rfl (show (0 : Int32).toInt = 0 by decide)).mpr h9)
                  refine lv_bipush (v := 26) hx hb dX13_behindSum_195 (by decide) ?_
                  refine lv_goto (tgt := 202) hx hb dX13_behindSum_197 (by decide) ?_
                  have hk_26 : (26 : Int32).toInt = 26 := by decide
                  exact hj175 26 _ _ (by omega) (by omega) hM hS (by omega) _ (lv_sub hl [2] rfl)
              · have hc162 : ¬ (v155.toInt = 0) := fun h9 => c9 ((fi_eq rfl (show (0 : Int32).toInt = 0 by decide)).mpr h9)
                refine lv_bipush (v := 25) hx hb dX13_behindSum_181 (by decide) ?_
                refine lv_goto (tgt := 202) hx hb dX13_behindSum_183 (by decide) ?_
                have hk_25 : (25 : Int32).toInt = 25 := by decide
                exact hj175 25 _ _ (by omega) (by omega) hM hS (by omega) _ (lv_sub hl [2] rfl)
            · have hc154 : ¬ (v148.toInt = 0) := fun h9 => c9 ((fi_eq rfl (show (0 : Int32).toInt = 0 by decide)).mpr h9)
              refine lv_iconst (v := 2) hx hb dX13_behindSum_170 (by decide) ?_
              have hk_2 : (2 : Int32).toInt = 2 := by decide
              exact mz_iret (v := 2) hx hb hr rfl hlocks ⟨hIF, hIG, hIR, (fun _ _ => rfl), (fun _ _ => rfl), (fun _ _ => rfl), (by rw [hg_0, hg_1]; omega), (by rw [hg_1]; omega), (by rw [hg_0, hg_1, hg_2]; omega), (by rw [hg_0, hg_1, hg_2, hg_4]; omega), (by rw [hg_0]; omega), (by rw [hg_0, hg_6, hg_7]; omega), (by rw [hg_6]; omega), (by rw [hg_0, hg_5]; omega), (by rw [hg_0, hg_5]; omega), (by omega), (by omega), (fun _ => ⟨PT.mk hPI (by decide) (fun _ => hSq) (fun h9 => absurd h9 (by decide)) rfl rfl rfl rfl (by rw [hg_6]) (by rw [hg_7]), hLo⟩)⟩ hM hS dX13_behindSum_171
          · have hc147 : p1.toInt = 0 := (fi_eq rfl (show (0 : Int32).toInt = 0 by decide)).mp c9
            refine lv_iconst (v := 4) hx hb dX13_behindSum_161 (by decide) ?_
            have hk_4 : (4 : Int32).toInt = 4 := by decide
            have hBr := hinn.1 (by omega)
            exact mz_iret (v := 4) hx hb hr rfl hlocks ⟨hIF, hIG, hIR, (fun _ _ => rfl), (fun _ _ => rfl), (fun _ _ => rfl), (by rw [hg_0, hg_1]; omega), (by rw [hg_1]; omega), (by rw [hg_0, hg_1, hg_2]; omega), (by rw [hg_0, hg_1, hg_2, hg_4]; omega), (by rw [hg_0]; omega), (by rw [hg_0, hg_6, hg_7]; omega), (by rw [hg_6]; omega), (by rw [hg_0, hg_5]; omega), (by rw [hg_0, hg_5]; omega), (by omega), (by omega), (fun _ => ⟨PT.mk hPI (by decide) (fun h9 => absurd h9 (by decide)) (fun _ => hBr) rfl rfl rfl rfl (by rw [hg_6]) (by rw [hg_7]), hLo⟩)⟩ hM hS dX13_behindSum_162
      · have hc50 : v47.toInt = 32 := (fi_eq rfl (show (32 : Int32).toInt = 32 by decide)).mp c9
        refine lv_aload_n hx hb dX13_behindSum_108 rfl (lv_at hl 2 rfl) ?_
        refine lv_aload_n hx hb dX13_behindSum_109 rfl (lv_at hl 2 rfl) ?_
        refine lv_bipush (v := 93) hx hb dX13_behindSum_110 (by decide) ?_
        have hk_93 : (93 : Int32).toInt = 93 := by decide
        refine mz_Vj (As := [.int 93]) (rest := [.ref am]) ⟨hx, hb, hml, hown, hts⟩ hK hM hS (k_X13_isSign l D cy ld ad am hD _ _ _ _ 93 gs hIF hIG hIR hg_2) ⟨callB_of 1 hts (wl_in mw_732) rfl rfl rfl (htl _ mw_5) (htl _ mw_729) hd_yX13_isSign ⟨(Nat.le_of_ble_eq_true rfl), (Nat.le_of_ble_eq_true rfl)⟩, htl _ mw_730, htl _ mw_731⟩ rfl hl.1 rfl (Nat.le_of_ble_eq_true rfl) dX13_behindSum_112 ⟨(Nat.le_of_ble_eq_true rfl), (Nat.le_of_ble_eq_true rfl)⟩ (fun v243 H locs hpo hM hS => ?_)
        obtain ⟨hpo244, hpo245, hpo246, hpo247, hpo248⟩ := hpo
        have hq_v243 := tk_rng v243
        refine mz_Vv (As := [.int v243]) (rest := []) ⟨hx, hb, hml, hown, hts⟩ hK hM hS (k_X13_must l D cy ld ad am hD _ _ _ _ v243 gf gt gs gp gw gb hIF hIG hIR hg_0 hg_1 hg_2 hg_3 hg_4 hg_5 (by omega) (by omega) (by omega) (by omega) (by omega) (by omega)) ⟨callB_of 1 hts (wl_in mw_713) rfl rfl rfl (htl _ mw_5) (htl _ mw_710) hd_yX13_must ⟨(Nat.le_of_ble_eq_true rfl), (Nat.le_of_ble_eq_true rfl)⟩, htl _ mw_711, htl _ mw_712⟩ rfl hl.1 rfl (Nat.le_of_ble_eq_true rfl) dX13_behindSum_115 ⟨(Nat.le_of_ble_eq_true rfl), (Nat.le_of_ble_eq_true rfl)⟩ (fun H locs F G R S hpo hM hS => ?_)
        obtain ⟨hIF, hIG, hIR, hfr9, hrr9, hgr9, hpo250, hpo251, hpo252, hpo253, hpo254, hpo255, hpo256, hpo257⟩ := hpo
        have hFF := mz_fr (K := [14, 15, 16, 18, 19, 23, 29, 30]) (Fa := Fa) hfr9 (fun _ _ => rfl) (by decide)
        have hRR := mz_fr (K := [24, 25, 27, 28]) (Fa := Ra) hrr9 (fun _ _ => rfl) (by decide)
        have hGG := mz_fr (K := [17]) (Fa := Ga) hgr9 (fun _ _ => rfl) (by decide)
        have hg_3 := (hfr9 13 (by decide)).trans hg_3
        have hg_6 := (hfr9 23 (by decide)).trans hg_6
        have hg_7 := (hfr9 29 (by decide)).trans hg_7
        obtain ⟨v260, hf259⟩ : ∃ z : Int32, F 14 = z := ⟨_, rfl⟩
        have hq_v260 := tk_rng v260
        rw [hf259] at hpo250 hpo252 hpo253 hpo254 hpo256
        have hr_v260 : 0 ≤ v260.toInt ∧ v260.toInt ≤ 400 := hIF.at hf259
        obtain ⟨v262, hf261⟩ : ∃ z : Int32, F 15 = z := ⟨_, rfl⟩
        have hq_v262 := tk_rng v262
        rw [hf261] at hpo250 hpo251 hpo252 hpo253
        have hr_v262 : 0 ≤ v262.toInt ∧ v262.toInt ≤ 400 := hIF.at hf261
        obtain ⟨v264, hf263⟩ : ∃ z : Int32, F 16 = z := ⟨_, rfl⟩
        have hq_v264 := tk_rng v264
        rw [hf263] at hpo252 hpo253
        have hr_v264 : 0 ≤ v264.toInt ∧ v264.toInt ≤ 3 := hIF.at hf263
        obtain ⟨w266, hf265⟩ : ∃ z : Int64, G 17 = z := ⟨_, rfl⟩
        have hq_w266 := tk_rngL w266
        rw [hf265] at hpo253
        obtain ⟨v268, hf267⟩ : ∃ z : Int32, F 19 = z := ⟨_, rfl⟩
        have hq_v268 := tk_rng v268
        rw [hf267] at hpo255 hpo256 hpo257
        have hr_v268 : 0 ≤ v268.toInt ∧ v268.toInt ≤ 1 := hIF.at hf267
        have hPI := hPI.to (hrr9 24 (by decide)) (hrr9 25 (by decide)) (hrr9 27 (by decide)) (hrr9 28 (by decide)) rfl rfl
        have hLo := And.intro (hLo.1.to (hrr9 24 (by decide))) (hLo.2.to (hrr9 25 (by decide)))
        have hinn0 := hinn
        have hinn : inn (R 27) gd.toInt.toNat v47.toInt := by rw [hrr9 27 (by decide)]; exact hinn0
        refine lv_aload_n hx hb dX13_behindSum_118 rfl (lv_at hl 2 rfl) ?_
        refine mz_getI hx hb htl hown hK hM 19 (Nat.le_of_ble_eq_true rfl) rfl (htl _ mw_668) (fun _ h9 => h9) dX13_behindSum_119 (fun v9 e9 => ?_)
        refine fx_ti (v := v268) (e9.symm.trans hf267) ?_
        refine lv_if_ne (tgt := 150) hx hb dX13_behindSum_122 (by decide) (fun c9 => ?_) (fun c9 => ?_)
        · have hc269 : ¬ (v268.toInt = 0) := fun h9 => c9 ((fi_eq rfl (show (0 : Int32).toInt = 0 by decide)).mpr h9)
          refine lv_iconst (v := 3) hx hb dX13_behindSum_150 (by decide) ?_
          have hk_3 : (3 : Int32).toInt = 3 := by decide
          exact mz_iret (v := 3) hx hb hr rfl hlocks ⟨hIF, hIG, hIR, hFF, hRR, hGG, (by rw [hf259, hf261]; omega), (by rw [hf261]; omega), (by rw [hf259, hf261, hf263]; omega), (by rw [hf259, hf261, hf263, hf265]; omega), (by rw [hf259]; omega), (by rw [hf259, hg_6, hg_7]; omega), (by rw [hg_6]; omega), (by rw [hf259, hf267]; omega), (by rw [hf259, hf267]; omega), (by omega), (by omega), (by rw [hf267]; exact fun h9 => absurd h9 (by omega))⟩ hM hS dX13_behindSum_151
        · have hc269 : v268.toInt = 0 := (fi_eq rfl (show (0 : Int32).toInt = 0 by decide)).mp c9
          refine lv_aload_n hx hb dX13_behindSum_125 rfl (lv_at hl 2 rfl) ?_
          refine lv_iconst (v := 5) hx hb dX13_behindSum_126 (by decide) ?_
          have hk_5 : (5 : Int32).toInt = 5 := by decide
          refine mz_Vv (As := [.int 5]) (rest := []) ⟨hx, hb, hml, hown, hts⟩ hK hM hS (k_X13_settle l D cy ld ad am hD _ _ _ _ 5 gc gd v268 zs hIF hIG hIR hg_6 hg_7 hf267 (by omega) (by omega) (by omega) (fun _ => hPI)) ⟨callB_of 1 hts (wl_in mw_773) rfl rfl rfl (htl _ mw_5) (htl _ mw_770) hd_yX13_settle ⟨(Nat.le_of_ble_eq_true rfl), (Nat.le_of_ble_eq_true rfl)⟩, htl _ mw_771, htl _ mw_772⟩ rfl hl.1 rfl (Nat.le_of_ble_eq_true rfl) dX13_behindSum_127 ⟨(Nat.le_of_ble_eq_true rfl), (Nat.le_of_ble_eq_true rfl)⟩ (fun H locs F G R S hpo hM hS => ?_)
          obtain ⟨hIF, hIG, hIR, hfr9, hrr9, hgr9, hpo270, hpo271, hpo272, hx273, hx274, hx275⟩ := hpo
          have hFF := mz_fr (K := [14, 15, 16, 18, 19, 23, 29, 30]) (Fa := Fa) hfr9 hFF (by decide)
          have hRR := mz_fr (K := [24, 25, 27, 28]) (Fa := Ra) hrr9 hRR (by decide)
          have hGG := mz_fr (K := [17]) (Fa := Ga) hgr9 hGG (by decide)
          have hg_3 := (hfr9 13 (by decide)).trans hg_3
          have hf259 := (hfr9 14 (by decide)).trans hf259
          have hf261 := (hfr9 15 (by decide)).trans hf261
          have hf263 := (hfr9 16 (by decide)).trans hf263
          have hf265 := (hgr9 17 (by decide)).trans hf265
          have hf267 := (hfr9 19 (by decide)).trans hf267
          obtain ⟨v278, hf277⟩ : ∃ z : Int32, F 23 = z := ⟨_, rfl⟩
          have hq_v278 := tk_rng v278
          rw [hf277] at hpo270 hpo272
          have hr_v278 : 0 ≤ v278.toInt ∧ v278.toInt ≤ 400 := hIF.at hf277
          obtain ⟨v280, hf279⟩ : ∃ z : Int32, F 29 = z := ⟨_, rfl⟩
          have hq_v280 := tk_rng v280
          rw [hf279] at hpo270 hpo271
          have hr_v280 : 0 ≤ v280.toInt ∧ v280.toInt ≤ 400 := hIF.at hf279
          have hs9 := hx273 (by omega)
          rw [hf277, hf279] at hs9
          have hPI : PI (R 24) (R 25) (R 27) (R 28) zs v278.toInt.toNat v280.toInt.toNat 1 := hs9.1
          have hLo := And.intro (hLo.1.trans hs9.2.1 (Nat.le_refl _)) (hLo.2.trans hs9.2.2 (Nat.le_refl _))
          rw [hf279] at hx274 hx275
          have hsb := hx274
          have hst := hx275
          have hinn0 := hinn
          have hinn : inn (R 27) gd.toInt.toNat v47.toInt := by rw [hrr9 27 (by decide)]; exact hinn0
          have e27 := hrr9 27 (by decide)
          obtain ⟨g1, j9, g2, g3, g4⟩ := hinn0.2 (by omega)
          have h1 := hsb j9 (by omega) (by omega)
          have hd1 : 1 ≤ v280.toInt := by omega
          have htp : 31 ≤ (R 27 (v280.toInt - 1).toNat).toInt := PI.top5 (j := j9) (hPI.to rfl rfl rfl rfl rfl (by omega)) (by omega) (by rw [e27]; omega) (by rw [e27]; exact (hst hd1).2 (by decide))
          have hPI := PI.popbr (pd := (v280.toInt - 1).toNat) (hPI.to rfl rfl rfl rfl rfl (by omega)) htp
          refine lv_aload_n hx hb dX13_behindSum_130 rfl (lv_at hl 2 rfl) ?_
          refine lv_dup hx hb dX13_behindSum_131 rfl ?_
          refine mz_getI hx hb htl hown hK hM 29 (Nat.le_of_ble_eq_true rfl) rfl (htl _ mw_718) (fun _ h9 => h9) dX13_behindSum_132 (fun v9 e9 => ?_)
          refine fx_ti (v := v280) (e9.symm.trans hf279) ?_
          refine lv_iconst (v := 1) hx hb dX13_behindSum_135 (by decide) ?_
          refine lv_isub hx hb dX13_behindSum_136 ?_
          refine tk_sub rfl (show (1 : Int32).toInt = 1 by decide) (by omega) (by omega) (fun v281 h_v281 => ?_)
          refine mz_putI (ty := .int) (x := v281) hx hb htl hown hK hD hM hS 29 (Nat.le_of_ble_eq_true rfl) rfl (htl _ mw_718) (fun _ h9 => h9) rfl (tyX13_ok 29 (by decide)) rfl rfl dX13_behindSum_137 (fun H locs F hM hS hf9 hj9 => ?_)
          have hIF := hIF.put hf9 hj9 (show 0 ≤ (v281 : Int32).toInt by omega) (show (v281 : Int32).toInt ≤ 400 by omega) (by decide)
          have hFF := mz_frp (K := [14, 15, 16, 18, 19, 23, 29, 30]) (Fa := Fa) hj9 hFF (by decide)
          have hg_3 := (hj9 13 (by decide)).trans hg_3
          have hf259 := (hj9 14 (by decide)).trans hf259
          have hf261 := (hj9 15 (by decide)).trans hf261
          have hf263 := (hj9 16 (by decide)).trans hf263
          have hf267 := (hj9 19 (by decide)).trans hf267
          have hf277 := (hj9 23 (by decide)).trans hf277
          have hf283 := hf9
          have hPI : PI (R 24) (R 25) (R 27) (R 28) zs v278.toInt.toNat v281.toInt.toNat 1 := hPI.to rfl rfl rfl rfl rfl (by omega)
          refine lv_aload_n hx hb dX13_behindSum_140 rfl (lv_at hl 2 rfl) ?_
          refine lv_dup hx hb dX13_behindSum_141 rfl ?_
          refine mz_getI hx hb htl hown hK hM 30 (Nat.le_of_ble_eq_true rfl) rfl (htl _ mw_719) (fun _ h9 => h9) dX13_behindSum_142 (fun v285 hf284 => ?_)
          have hq_v285 := tk_rng v285
          refine lv_iconst (v := 1) hx hb dX13_behindSum_145 (by decide) ?_
          refine lv_isub hx hb dX13_behindSum_146 ?_
          obtain ⟨v286, hm_v286⟩ : ∃ z : Int32, v285 - 1 = z := ⟨_, rfl⟩
          refine fx_ti hm_v286 ?_
          refine mz_putI (ty := .int) (x := v286) hx hb htl hown hK hD hM hS 30 (Nat.le_of_ble_eq_true rfl) rfl (htl _ mw_719) (fun _ h9 => h9) rfl (tyX13_ok 30 (by decide)) rfl rfl dX13_behindSum_147 (fun H locs F hM hS hf9 hj9 => ?_)
          have hIF := hIF.put hf9 hj9 (tk_rng _).1 (tk_rng _).2 (by decide)
          have hFF := mz_frp (K := [14, 15, 16, 18, 19, 23, 29, 30]) (Fa := Fa) hj9 hFF (by decide)
          have hg_3 := (hj9 13 (by decide)).trans hg_3
          have hf259 := (hj9 14 (by decide)).trans hf259
          have hf261 := (hj9 15 (by decide)).trans hf261
          have hf263 := (hj9 16 (by decide)).trans hf263
          have hf267 := (hj9 19 (by decide)).trans hf267
          have hf277 := (hj9 23 (by decide)).trans hf277
          have hf283 := (hj9 29 (by decide)).trans hf283
          have hf288 := hf9
          refine lv_iconst (v := 3) hx hb dX13_behindSum_150 (by decide) ?_
          have hk_3 : (3 : Int32).toInt = 3 := by decide
          exact mz_iret (v := 3) hx hb hr rfl hlocks ⟨hIF, hIG, hIR, hFF, hRR, hGG, (by rw [hf259, hf261]; omega), (by rw [hf261]; omega), (by rw [hf259, hf261, hf263]; omega), (by rw [hf259, hf261, hf263, hf265]; omega), (by rw [hf259]; omega), (by rw [hf259, hf277, hf283]; omega), (by rw [hf277]; omega), (by rw [hf259, hf267]; omega), (by rw [hf259, hf267]; omega), (by omega), (by omega), (fun _ => ⟨PT.mk hPI (by decide) (fun h9 => absurd h9 (by decide)) (fun h9 => absurd h9 (by decide)) rfl rfl rfl rfl (by rw [hf277]) (by rw [hf283]), hLo⟩)⟩ hM hS dX13_behindSum_151
    · have hc46 : ¬ (v43.toInt = (-1)) := fun h9 => c9 ((fi_eq rfl (show ((-1) : Int32).toInt = (-1) by decide)).mpr h9)
      refine lv_aload_n hx hb dX13_behindSum_77 rfl (lv_at hl 1 rfl) ?_
      refine lv_iload_n hx hb dX13_behindSum_78 rfl (lv_at hl 0 rfl) ?_
      refine mz_Sj (As := [.int v43]) (rest := [.ref am]) ⟨hx, hb, hml, hown, hts⟩ hK hM hS (k_X13_binds l D cy ld ad am hD _ _ _ _ v43) ⟨callB_of 1 hts (wl_in mw_769) rfl rfl rfl (htl _ mw_5) (htl _ mw_767) hd_yX13_binds ⟨(Nat.le_of_ble_eq_true rfl), (Nat.le_of_ble_eq_true rfl)⟩, htl _ mw_768⟩ rfl hl.1 rfl (Nat.le_of_ble_eq_true rfl) dX13_behindSum_79 ⟨(Nat.le_of_ble_eq_true rfl), (Nat.le_of_ble_eq_true rfl)⟩ (fun v289 H locs hpo hM hS => ?_)
      obtain ⟨hpo290, hpo291, hpo292, hpo293, hpo294, hpo295⟩ := hpo
      have hq_v289 := tk_rng v289
      refine mz_Vv (As := [.int v289]) (rest := []) ⟨hx, hb, hml, hown, hts⟩ hK hM hS (k_X13_settle l D cy ld ad am hD _ _ _ _ v289 gc gd gb zs hIF hIG hIR hg_6 hg_7 hg_5 (by omega) (by omega) (by omega) (fun _ => hPI)) ⟨callB_of 1 hts (wl_in mw_773) rfl rfl rfl (htl _ mw_5) (htl _ mw_770) hd_yX13_settle ⟨(Nat.le_of_ble_eq_true rfl), (Nat.le_of_ble_eq_true rfl)⟩, htl _ mw_771, htl _ mw_772⟩ rfl hl.1 rfl (Nat.le_of_ble_eq_true rfl) dX13_behindSum_82 ⟨(Nat.le_of_ble_eq_true rfl), (Nat.le_of_ble_eq_true rfl)⟩ (fun H locs F G R S hpo hM hS => ?_)
      obtain ⟨hIF, hIG, hIR, hfr9, hrr9, hgr9, hpo297, hpo298, hpo299, hx300, hx301, hx302⟩ := hpo
      have hFF := mz_fr (K := [14, 15, 16, 18, 19, 23, 29, 30]) (Fa := Fa) hfr9 (fun _ _ => rfl) (by decide)
      have hRR := mz_fr (K := [24, 25, 27, 28]) (Fa := Ra) hrr9 (fun _ _ => rfl) (by decide)
      have hGG := mz_fr (K := [17]) (Fa := Ga) hgr9 (fun _ _ => rfl) (by decide)
      have hg_0 := (hfr9 14 (by decide)).trans hg_0
      have hg_1 := (hfr9 15 (by decide)).trans hg_1
      have hg_2 := (hfr9 16 (by decide)).trans hg_2
      have hg_3 := (hfr9 13 (by decide)).trans hg_3
      have hg_4 := (hgr9 17 (by decide)).trans hg_4
      have hg_5 := (hfr9 19 (by decide)).trans hg_5
      obtain ⟨v305, hf304⟩ : ∃ z : Int32, F 23 = z := ⟨_, rfl⟩
      have hq_v305 := tk_rng v305
      rw [hf304] at hpo297 hpo299
      have hr_v305 : 0 ≤ v305.toInt ∧ v305.toInt ≤ 400 := hIF.at hf304
      obtain ⟨v307, hf306⟩ : ∃ z : Int32, F 29 = z := ⟨_, rfl⟩
      have hq_v307 := tk_rng v307
      rw [hf306] at hpo297 hpo298
      have hr_v307 : 0 ≤ v307.toInt ∧ v307.toInt ≤ 400 := hIF.at hf306
      have hs9 := hx300 (by omega)
      rw [hf304, hf306] at hs9
      have hPI : PI (R 24) (R 25) (R 27) (R 28) zs v305.toInt.toNat v307.toInt.toNat 1 := hs9.1
      have hLo := And.intro (hLo.1.trans hs9.2.1 (Nat.le_refl _)) (hLo.2.trans hs9.2.2 (Nat.le_refl _))
      rw [hf306] at hx301 hx302
      have hsb := hx301
      have hst := hx302
      refine lv_aload_n hx hb dX13_behindSum_85 rfl (lv_at hl 1 rfl) ?_
      refine lv_iload_n hx hb dX13_behindSum_86 rfl (lv_at hl 0 rfl) ?_
      refine lv_iconst (v := 0) hx hb dX13_behindSum_87 (by decide) ?_
      have hk_0 : (0 : Int32).toInt = 0 := by decide
      refine mz_Vv (As := [.int v43, .int 0]) (rest := []) ⟨hx, hb, hml, hown, hts⟩ hK hM hS (k_X13_push l D cy ld ad am hD _ _ _ _ v43 0 v307 hIF hIG hIR hf306 (by omega) (by omega) (by omega)) ⟨callB_of 2 hts (wl_in mw_728) rfl rfl rfl (htl _ mw_5) (htl _ mw_725) hd_yX13_push ⟨(Nat.le_of_ble_eq_true rfl), (Nat.le_of_ble_eq_true rfl)⟩, htl _ mw_726, htl _ mw_727⟩ rfl hl.1 rfl (Nat.le_of_ble_eq_true rfl) dX13_behindSum_88 ⟨(Nat.le_of_ble_eq_true rfl), (Nat.le_of_ble_eq_true rfl)⟩ (fun H locs F G R S hpo hM hS => ?_)
      obtain ⟨hIF, hIG, hIR, hfr9, hrr9, hgr9, hpo308, hx309, hx310⟩ := hpo
      have hFF := mz_fr (K := [14, 15, 16, 18, 19, 23, 29, 30]) (Fa := Fa) hfr9 hFF (by decide)
      have hRR := mz_fr (K := [24, 25, 27, 28]) (Fa := Ra) hrr9 hRR (by decide)
      have hGG := mz_fr (K := [17]) (Fa := Ga) hgr9 hGG (by decide)
      have hg_0 := (hfr9 14 (by decide)).trans hg_0
      have hg_1 := (hfr9 15 (by decide)).trans hg_1
      have hg_2 := (hfr9 16 (by decide)).trans hg_2
      have hg_3 := (hfr9 13 (by decide)).trans hg_3
      have hg_4 := (hgr9 17 (by decide)).trans hg_4
      have hg_5 := (hfr9 19 (by decide)).trans hg_5
      have hf304 := (hfr9 23 (by decide)).trans hf304
      obtain ⟨v313, hf312⟩ : ∃ z : Int32, F 29 = z := ⟨_, rfl⟩
      have hq_v313 := tk_rng v313
      rw [hf312] at hpo308
      have hr_v313 : 0 ≤ v313.toInt ∧ v313.toInt ≤ 400 := hIF.at hf312
      have hPI : PI (R 24) (R 25) (R 27) (R 28) zs v305.toInt.toNat v313.toInt.toNat 0 := (PI.push (o := v43) hPI (by omega) (by omega) ⟨by omega, by omega⟩ (by rw [if_pos (by omega)]; rfl) (Or.inl ⟨by omega, by omega⟩) hx309 hx310).to (hrr9 24 (by decide)) (hrr9 25 (by decide)) rfl rfl rfl (by omega)
      have hLo := And.intro (hLo.1.to (hrr9 24 (by decide))) (hLo.2.to (hrr9 25 (by decide)))
      refine lv_aload_n hx hb dX13_behindSum_91 rfl (lv_at hl 1 rfl) ?_
      refine mz_Vv (As := []) (rest := []) ⟨hx, hb, hml, hown, hts⟩ hK hM hS (k_X13_next l D cy ld ad am hD _ _ _ _ gt gp hIF hIG hIR hg_1 hg_3 (by omega)) ⟨callB_of 0 hts (wl_in mw_685) rfl rfl rfl (htl _ mw_5) (htl _ mw_682) hd_yX13_next ⟨(Nat.le_of_ble_eq_true rfl), (Nat.le_of_ble_eq_true rfl)⟩, htl _ mw_683, htl _ mw_684⟩ rfl hl.1 rfl (Nat.le_of_ble_eq_true rfl) dX13_behindSum_92 ⟨(Nat.le_of_ble_eq_true rfl), (Nat.le_of_ble_eq_true rfl)⟩ (fun H locs F G R S hpo hM hS => ?_)
      obtain ⟨hIF, hIG, hIR, hfr9, hrr9, hgr9, hpo314, hpo315, hpo316, hpo317, hpo318⟩ := hpo
      have hFF := mz_fr (K := [14, 15, 16, 18, 19, 23, 29, 30]) (Fa := Fa) hfr9 hFF (by decide)
      have hRR := mz_fr (K := [24, 25, 27, 28]) (Fa := Ra) hrr9 hRR (by decide)
      have hGG := mz_fr (K := [17]) (Fa := Ga) hgr9 hGG (by decide)
      have hg_3 := (hfr9 13 (by decide)).trans hg_3
      have hg_5 := (hfr9 19 (by decide)).trans hg_5
      have hf304 := (hfr9 23 (by decide)).trans hf304
      have hf312 := (hfr9 29 (by decide)).trans hf312
      obtain ⟨v321, hf320⟩ : ∃ z : Int32, F 14 = z := ⟨_, rfl⟩
      have hq_v321 := tk_rng v321
      rw [hf320] at hpo314 hpo315 hpo317 hpo318
      have hr_v321 : 0 ≤ v321.toInt ∧ v321.toInt ≤ 400 := hIF.at hf320
      obtain ⟨v323, hf322⟩ : ∃ z : Int32, F 15 = z := ⟨_, rfl⟩
      have hq_v323 := tk_rng v323
      rw [hf322] at hpo315 hpo316 hpo317 hpo318
      have hr_v323 : 0 ≤ v323.toInt ∧ v323.toInt ≤ 400 := hIF.at hf322
      obtain ⟨v325, hf324⟩ : ∃ z : Int32, F 16 = z := ⟨_, rfl⟩
      have hq_v325 := tk_rng v325
      rw [hf324] at hpo317 hpo318
      have hr_v325 : 0 ≤ v325.toInt ∧ v325.toInt ≤ 3 := hIF.at hf324
      obtain ⟨w327, hf326⟩ : ∃ z : Int64, G 17 = z := ⟨_, rfl⟩
      have hq_w327 := tk_rngL w327
      rw [hf326] at hpo318
      have hPI := hPI.to (hrr9 24 (by decide)) (hrr9 25 (by decide)) (hrr9 27 (by decide)) (hrr9 28 (by decide)) rfl rfl
      have hLo := And.intro (hLo.1.to (hrr9 24 (by decide))) (hLo.2.to (hrr9 25 (by decide)))
      refine lv_iconst (v := 1) hx hb dX13_behindSum_95 (by decide) ?_
      have hk_1 : (1 : Int32).toInt = 1 := by decide
      exact mz_iret (v := 1) hx hb hr rfl hlocks ⟨hIF, hIG, hIR, hFF, hRR, hGG, (by rw [hf320, hf322]; omega), (by rw [hf322]; omega), (by rw [hf320, hf322, hf324]; omega), (by rw [hf320, hf322, hf324, hf326]; omega), (by rw [hf320]; omega), (by rw [hf320, hf304, hf312]; omega), (by rw [hf304]; omega), (by rw [hf320, hg_5]; omega), (by rw [hf320, hg_5]; omega), (by omega), (by omega), (fun _ => ⟨PT.mk hPI (by decide) (fun h9 => absurd h9 (by decide)) (fun h9 => absurd h9 (by decide)) rfl rfl rfl rfl (by rw [hf304]) (by rw [hf312]), hLo⟩)⟩ hM hS dX13_behindSum_96
  refine lv_if_eq (tgt := 14) hx hb dX13_behindSum_6 (by decide) (fun c9 => ?_) (fun c9 => ?_)
  · have hc8 : v1.toInt = 0 := (fi_eq rfl (show (0 : Int32).toInt = 0 by decide)).mp c9
    refine lv_aload_n hx hb dX13_behindSum_14 rfl (lv_at hl 0 rfl) ?_
    refine lv_bipush (v := 45) hx hb dX13_behindSum_15 (by decide) ?_
    have hk_45 : (45 : Int32).toInt = 45 := by decide
    refine mz_Vj (As := [.int 45]) (rest := []) ⟨hx, hb, hml, hown, hts⟩ hK hM hS (k_X13_isSign l D cy ld ad am hD _ _ _ _ 45 gs hIF hIG hIR hg_2) ⟨callB_of 1 hts (wl_in mw_732) rfl rfl rfl (htl _ mw_5) (htl _ mw_729) hd_yX13_isSign ⟨(Nat.le_of_ble_eq_true rfl), (Nat.le_of_ble_eq_true rfl)⟩, htl _ mw_730, htl _ mw_731⟩ rfl hl.1 rfl (Nat.le_of_ble_eq_true rfl) dX13_behindSum_17 ⟨(Nat.le_of_ble_eq_true rfl), (Nat.le_of_ble_eq_true rfl)⟩ (fun v328 H locs hpo hM hS => ?_)
    obtain ⟨hpo329, hpo330, hpo331, hpo332, hpo333⟩ := hpo
    have hq_v328 := tk_rng v328
    refine lv_if_eq (tgt := 28) hx hb dX13_behindSum_20 (by decide) (fun c9 => ?_) (fun c9 => ?_)
    · have hc335 : v328.toInt = 0 := (fi_eq rfl (show (0 : Int32).toInt = 0 by decide)).mp c9
      refine lv_aload_n hx hb dX13_behindSum_28 rfl (lv_at hl 0 rfl) ?_
      refine lv_bipush (v := 42) hx hb dX13_behindSum_29 (by decide) ?_
      have hk_42 : (42 : Int32).toInt = 42 := by decide
      refine mz_Vj (As := [.int 42]) (rest := []) ⟨hx, hb, hml, hown, hts⟩ hK hM hS (k_X13_isSign l D cy ld ad am hD _ _ _ _ 42 gs hIF hIG hIR hg_2) ⟨callB_of 1 hts (wl_in mw_732) rfl rfl rfl (htl _ mw_5) (htl _ mw_729) hd_yX13_isSign ⟨(Nat.le_of_ble_eq_true rfl), (Nat.le_of_ble_eq_true rfl)⟩, htl _ mw_730, htl _ mw_731⟩ rfl hl.1 rfl (Nat.le_of_ble_eq_true rfl) dX13_behindSum_31 ⟨(Nat.le_of_ble_eq_true rfl), (Nat.le_of_ble_eq_true rfl)⟩ (fun v336 H locs hpo hM hS => ?_)
      obtain ⟨hpo337, hpo338, hpo339, hpo340, hpo341⟩ := hpo
      have hq_v336 := tk_rng v336
      refine lv_if_eq (tgt := 42) hx hb dX13_behindSum_34 (by decide) (fun c9 => ?_) (fun c9 => ?_)
      · have hc343 : v336.toInt = 0 := (fi_eq rfl (show (0 : Int32).toInt = 0 by decide)).mp c9
        refine lv_aload_n hx hb dX13_behindSum_42 rfl (lv_at hl 0 rfl) ?_
        refine lv_bipush (v := 47) hx hb dX13_behindSum_43 (by decide) ?_
        have hk_47 : (47 : Int32).toInt = 47 := by decide
        refine mz_Vj (As := [.int 47]) (rest := []) ⟨hx, hb, hml, hown, hts⟩ hK hM hS (k_X13_isSign l D cy ld ad am hD _ _ _ _ 47 gs hIF hIG hIR hg_2) ⟨callB_of 1 hts (wl_in mw_732) rfl rfl rfl (htl _ mw_5) (htl _ mw_729) hd_yX13_isSign ⟨(Nat.le_of_ble_eq_true rfl), (Nat.le_of_ble_eq_true rfl)⟩, htl _ mw_730, htl _ mw_731⟩ rfl hl.1 rfl (Nat.le_of_ble_eq_true rfl) dX13_behindSum_45 ⟨(Nat.le_of_ble_eq_true rfl), (Nat.le_of_ble_eq_true rfl)⟩ (fun v344 H locs hpo hM hS => ?_)
        obtain ⟨hpo345, hpo346, hpo347, hpo348, hpo349⟩ := hpo
        have hq_v344 := tk_rng v344
        refine lv_if_eq (tgt := 56) hx hb dX13_behindSum_48 (by decide) (fun c9 => ?_) (fun c9 => ?_)
        · have hc351 : v344.toInt = 0 := (fi_eq rfl (show (0 : Int32).toInt = 0 by decide)).mp c9
          refine lv_aload_n hx hb dX13_behindSum_56 rfl (lv_at hl 0 rfl) ?_
          refine lv_bipush (v := 37) hx hb dX13_behindSum_57 (by decide) ?_
          have hk_37 : (37 : Int32).toInt = 37 := by decide
          refine mz_Vj (As := [.int 37]) (rest := []) ⟨hx, hb, hml, hown, hts⟩ hK hM hS (k_X13_isSign l D cy ld ad am hD _ _ _ _ 37 gs hIF hIG hIR hg_2) ⟨callB_of 1 hts (wl_in mw_732) rfl rfl rfl (htl _ mw_5) (htl _ mw_729) hd_yX13_isSign ⟨(Nat.le_of_ble_eq_true rfl), (Nat.le_of_ble_eq_true rfl)⟩, htl _ mw_730, htl _ mw_731⟩ rfl hl.1 rfl (Nat.le_of_ble_eq_true rfl) dX13_behindSum_59 ⟨(Nat.le_of_ble_eq_true rfl), (Nat.le_of_ble_eq_true rfl)⟩ (fun v352 H locs hpo hM hS => ?_)
          obtain ⟨hpo353, hpo354, hpo355, hpo356, hpo357⟩ := hpo
          have hq_v352 := tk_rng v352
          refine lv_if_eq (tgt := 70) hx hb dX13_behindSum_62 (by decide) (fun c9 => ?_) (fun c9 => ?_)
          · have hc359 : v352.toInt = 0 := (fi_eq rfl (show (0 : Int32).toInt = 0 by decide)).mp c9
            refine lv_iconst (v := (-1)) hx hb dX13_behindSum_70 (by decide) ?_
            have hk_m1 : ((-1) : Int32).toInt = (-1) := by decide
            exact hj45 (-1) _ _ (by omega) (by omega) hM hS (by omega) _ (lv_sub hl [0, 1] rfl)
          · have hc359 : ¬ (v352.toInt = 0) := fun h9 => c9 ((fi_eq rfl (show (0 : Int32).toInt = 0 by decide)).mpr h9)
            refine lv_bipush (v := 24) hx hb dX13_behindSum_65 (by decide) ?_
            refine lv_goto (tgt := 71) hx hb dX13_behindSum_67 (by decide) ?_
            have hk_24 : (24 : Int32).toInt = 24 := by decide
            exact hj45 24 _ _ (by omega) (by omega) hM hS (by omega) _ (lv_sub hl [0, 1] rfl)
        · have hc351 : ¬ (v344.toInt = 0) := fun h9 => c9 ((fi_eq rfl (show (0 : Int32).toInt = 0 by decide)).mpr h9)
          refine lv_bipush (v := 23) hx hb dX13_behindSum_51 (by decide) ?_
          refine lv_goto (tgt := 71) hx hb dX13_behindSum_53 (by decide) ?_
          have hk_23 : (23 : Int32).toInt = 23 := by decide
          exact hj45 23 _ _ (by omega) (by omega) hM hS (by omega) _ (lv_sub hl [0, 1] rfl)
      · have hc343 : ¬ (v336.toInt = 0) := fun h9 => c9 ((fi_eq rfl (show (0 : Int32).toInt = 0 by decide)).mpr h9)
        refine lv_bipush (v := 22) hx hb dX13_behindSum_37 (by decide) ?_
        refine lv_goto (tgt := 71) hx hb dX13_behindSum_39 (by decide) ?_
        have hk_22 : (22 : Int32).toInt = 22 := by decide
        exact hj45 22 _ _ (by omega) (by omega) hM hS (by omega) _ (lv_sub hl [0, 1] rfl)
    · have hc335 : ¬ (v328.toInt = 0) := fun h9 => c9 ((fi_eq rfl (show (0 : Int32).toInt = 0 by decide)).mpr h9)
      refine lv_bipush (v := 21) hx hb dX13_behindSum_23 (by decide) ?_
      refine lv_goto (tgt := 71) hx hb dX13_behindSum_25 (by decide) ?_
      have hk_21 : (21 : Int32).toInt = 21 := by decide
      exact hj45 21 _ _ (by omega) (by omega) hM hS (by omega) _ (lv_sub hl [0, 1] rfl)
  · have hc8 : ¬ (v1.toInt = 0) := fun h9 => c9 ((fi_eq rfl (show (0 : Int32).toInt = 0 by decide)).mpr h9)
    refine lv_bipush (v := 20) hx hb dX13_behindSum_9 (by decide) ?_
    refine lv_goto (tgt := 71) hx hb dX13_behindSum_11 (by decide) ?_
    have hk_20 : (20 : Int32).toInt = 20 := by decide
    exact hj45 20 _ _ (by omega) (by omega) hM hS (by omega) _ (lv_sub hl [0, 1] rfl)
