theorem hd_yX13_inner : yX13_inner.cls ≠ "java/lang/invoke/MethodHandle" ∧ yX13_inner.cls ≠ "java/lang/invoke/VarHandle" ∧ (parseMethodDescriptor yX13_inner.desc).map (fun d => d.parameters.length) = some 0 := by decide +kernel
theorem hd_yX13_isCompared : yX13_isCompared.cls ≠ "java/lang/invoke/MethodHandle" ∧ yX13_isCompared.cls ≠ "java/lang/invoke/VarHandle" ∧ (parseMethodDescriptor yX13_isCompared.desc).map (fun d => d.parameters.length) = some 0 := by decide +kernel
theorem hd_yX13_settle : yX13_settle.cls ≠ "java/lang/invoke/MethodHandle" ∧ yX13_settle.cls ≠ "java/lang/invoke/VarHandle" ∧ (parseMethodDescriptor yX13_settle.desc).map (fun d => d.parameters.length) = some 1 := by decide +kernel
theorem dX13_behindSum_0 : decode cX13_behindSum 0 = .ok (.aload_n 0, 1) := by decide +kernel
theorem dX13_behindSum_1 : decode cX13_behindSum 1 = .ok (.bipush 43, 2) := by decide +kernel
theorem dX13_behindSum_3 : decode cX13_behindSum 3 = .ok (.invokevirtual 309, 3) := by decide +kernel
theorem dX13_behindSum_71 : decode cX13_behindSum 71 = .ok (.istore_n 2, 1) := by decide +kernel
theorem dX13_behindSum_72 : decode cX13_behindSum 72 = .ok (.iload_n 2, 1) := by decide +kernel
theorem dX13_behindSum_73 : decode cX13_behindSum 73 = .ok (.iconst (-1), 1) := by decide +kernel
theorem dX13_behindSum_74 : decode cX13_behindSum 74 = .ok (.if_icmp .eq 23, 3) := by decide +kernel
theorem dX13_behindSum_97 : decode cX13_behindSum 97 = .ok (.aload_n 0, 1) := by decide +kernel
theorem dX13_behindSum_98 : decode cX13_behindSum 98 = .ok (.invokevirtual 345, 3) := by decide +kernel
theorem dX13_behindSum_101 : decode cX13_behindSum 101 = .ok (.istore_n 3, 1) := by decide +kernel
theorem dX13_behindSum_102 : decode cX13_behindSum 102 = .ok (.iload_n 3, 1) := by decide +kernel
theorem dX13_behindSum_103 : decode cX13_behindSum 103 = .ok (.bipush 32, 2) := by decide +kernel
theorem dX13_behindSum_105 : decode cX13_behindSum 105 = .ok (.if_icmp .ne 47, 3) := by decide +kernel
theorem dX13_behindSum_152 : decode cX13_behindSum 152 = .ok (.iload_n 3, 1) := by decide +kernel
theorem dX13_behindSum_153 : decode cX13_behindSum 153 = .ok (.iconst (-1), 1) := by decide +kernel
theorem dX13_behindSum_154 : decode cX13_behindSum 154 = .ok (.if_icmp .ne 9, 3) := by decide +kernel
theorem dX13_behindSum_163 : decode cX13_behindSum 163 = .ok (.aload_n 0, 1) := by decide +kernel
theorem dX13_behindSum_164 : decode cX13_behindSum 164 = .ok (.invokevirtual 348, 3) := by decide +kernel
theorem dX13_behindSum_167 : decode cX13_behindSum 167 = .ok (.ifCond .eq 5, 3) := by decide +kernel
theorem dX13_behindSum_172 : decode cX13_behindSum 172 = .ok (.aload_n 0, 1) := by decide +kernel
theorem dX13_behindSum_173 : decode cX13_behindSum 173 = .ok (.bipush 60, 2) := by decide +kernel
theorem dX13_behindSum_175 : decode cX13_behindSum 175 = .ok (.invokevirtual 309, 3) := by decide +kernel
theorem dX13_behindSum_202 : decode cX13_behindSum 202 = .ok (.istore_n 2, 1) := by decide +kernel
theorem dX13_behindSum_203 : decode cX13_behindSum 203 = .ok (.aload_n 0, 1) := by decide +kernel
theorem dX13_behindSum_204 : decode cX13_behindSum 204 = .ok (.iload_n 2, 1) := by decide +kernel
theorem dX13_behindSum_205 : decode cX13_behindSum 205 = .ok (.bipush 27, 2) := by decide +kernel
theorem dX13_behindSum_224 : decode cX13_behindSum 224 = .ok (.invokevirtual 271, 3) := by decide +kernel
theorem dX13_behindSum_227 : decode cX13_behindSum 227 = .ok (.aload_n 0, 1) := by decide +kernel
theorem dX13_behindSum_228 : decode cX13_behindSum 228 = .ok (.getfield 236, 3) := by decide +kernel
theorem dX13_behindSum_231 : decode cX13_behindSum 231 = .ok (.ifCond .ne 14, 3) := by decide +kernel
theorem dX13_behindSum_245 : decode cX13_behindSum 245 = .ok (.iconst 1, 1) := by decide +kernel
theorem dX13_behindSum_246 : decode cX13_behindSum 246 = .ok (.ireturn, 1) := by decide +kernel
theorem dX13_behindSum_234 : decode cX13_behindSum 234 = .ok (.aload_n 0, 1) := by decide +kernel
theorem dX13_behindSum_235 : decode cX13_behindSum 235 = .ok (.iconst 5, 1) := by decide +kernel
theorem dX13_behindSum_236 : decode cX13_behindSum 236 = .ok (.invokevirtual 342, 3) := by decide +kernel
theorem dX13_behindSum_239 : decode cX13_behindSum 239 = .ok (.aload_n 0, 1) := by decide +kernel
theorem dX13_behindSum_240 : decode cX13_behindSum 240 = .ok (.iload_n 2, 1) := by decide +kernel
theorem dX13_behindSum_241 : decode cX13_behindSum 241 = .ok (.iconst 0, 1) := by decide +kernel
theorem dX13_behindSum_242 : decode cX13_behindSum 242 = .ok (.invokevirtual 303, 3) := by decide +kernel
theorem dX13_behindSum_207 : decode cX13_behindSum 207 = .ok (.if_icmp .ne 12, 3) := by decide +kernel
theorem dX13_behindSum_219 : decode cX13_behindSum 219 = .ok (.iconst 1, 1) := by decide +kernel
theorem dX13_behindSum_220 : decode cX13_behindSum 220 = .ok (.goto 4, 3) := by decide +kernel
theorem dX13_behindSum_210 : decode cX13_behindSum 210 = .ok (.aload_n 0, 1) := by decide +kernel
theorem dX13_behindSum_211 : decode cX13_behindSum 211 = .ok (.bipush 61, 2) := by decide +kernel
theorem dX13_behindSum_213 : decode cX13_behindSum 213 = .ok (.invokevirtual 309, 3) := by decide +kernel
theorem dX13_behindSum_216 : decode cX13_behindSum 216 = .ok (.ifCond .eq 7, 3) := by decide +kernel
theorem dX13_behindSum_223 : decode cX13_behindSum 223 = .ok (.iconst 0, 1) := by decide +kernel
theorem dX13_behindSum_178 : decode cX13_behindSum 178 = .ok (.ifCond .eq 8, 3) := by decide +kernel
theorem dX13_behindSum_186 : decode cX13_behindSum 186 = .ok (.aload_n 0, 1) := by decide +kernel
theorem dX13_behindSum_187 : decode cX13_behindSum 187 = .ok (.bipush 62, 2) := by decide +kernel
theorem dX13_behindSum_189 : decode cX13_behindSum 189 = .ok (.invokevirtual 309, 3) := by decide +kernel
theorem dX13_behindSum_192 : decode cX13_behindSum 192 = .ok (.ifCond .eq 8, 3) := by decide +kernel
theorem dX13_behindSum_200 : decode cX13_behindSum 200 = .ok (.bipush 27, 2) := by decide +kernel
theorem dX13_behindSum_195 : decode cX13_behindSum 195 = .ok (.bipush 26, 2) := by decide +kernel
theorem dX13_behindSum_197 : decode cX13_behindSum 197 = .ok (.goto 5, 3) := by decide +kernel
theorem dX13_behindSum_181 : decode cX13_behindSum 181 = .ok (.bipush 25, 2) := by decide +kernel
theorem dX13_behindSum_183 : decode cX13_behindSum 183 = .ok (.goto 19, 3) := by decide +kernel
theorem dX13_behindSum_170 : decode cX13_behindSum 170 = .ok (.iconst 2, 1) := by decide +kernel
theorem dX13_behindSum_171 : decode cX13_behindSum 171 = .ok (.ireturn, 1) := by decide +kernel
theorem dX13_behindSum_157 : decode cX13_behindSum 157 = .ok (.iload_n 1, 1) := by decide +kernel
theorem dX13_behindSum_158 : decode cX13_behindSum 158 = .ok (.ifCond .ne 5, 3) := by decide +kernel
theorem dX13_behindSum_161 : decode cX13_behindSum 161 = .ok (.iconst 4, 1) := by decide +kernel
theorem dX13_behindSum_162 : decode cX13_behindSum 162 = .ok (.ireturn, 1) := by decide +kernel
theorem dX13_behindSum_108 : decode cX13_behindSum 108 = .ok (.aload_n 0, 1) := by decide +kernel
theorem dX13_behindSum_109 : decode cX13_behindSum 109 = .ok (.aload_n 0, 1) := by decide +kernel
theorem dX13_behindSum_110 : decode cX13_behindSum 110 = .ok (.bipush 93, 2) := by decide +kernel
theorem dX13_behindSum_112 : decode cX13_behindSum 112 = .ok (.invokevirtual 309, 3) := by decide +kernel
theorem dX13_behindSum_115 : decode cX13_behindSum 115 = .ok (.invokevirtual 271, 3) := by decide +kernel
theorem dX13_behindSum_118 : decode cX13_behindSum 118 = .ok (.aload_n 0, 1) := by decide +kernel
theorem dX13_behindSum_119 : decode cX13_behindSum 119 = .ok (.getfield 236, 3) := by decide +kernel
theorem dX13_behindSum_122 : decode cX13_behindSum 122 = .ok (.ifCond .ne 28, 3) := by decide +kernel
theorem dX13_behindSum_150 : decode cX13_behindSum 150 = .ok (.iconst 3, 1) := by decide +kernel
theorem dX13_behindSum_151 : decode cX13_behindSum 151 = .ok (.ireturn, 1) := by decide +kernel
theorem dX13_behindSum_125 : decode cX13_behindSum 125 = .ok (.aload_n 0, 1) := by decide +kernel
theorem dX13_behindSum_126 : decode cX13_behindSum 126 = .ok (.iconst 5, 1) := by decide +kernel
theorem dX13_behindSum_127 : decode cX13_behindSum 127 = .ok (.invokevirtual 342, 3) := by decide +kernel
theorem dX13_behindSum_130 : decode cX13_behindSum 130 = .ok (.aload_n 0, 1) := by decide +kernel
theorem dX13_behindSum_131 : decode cX13_behindSum 131 = .ok (.dup, 1) := by decide +kernel
theorem dX13_behindSum_132 : decode cX13_behindSum 132 = .ok (.getfield 278, 3) := by decide +kernel
theorem dX13_behindSum_135 : decode cX13_behindSum 135 = .ok (.iconst 1, 1) := by decide +kernel
theorem dX13_behindSum_136 : decode cX13_behindSum 136 = .ok (.isub, 1) := by decide +kernel
theorem dX13_behindSum_137 : decode cX13_behindSum 137 = .ok (.putfield 278, 3) := by decide +kernel
theorem dX13_behindSum_140 : decode cX13_behindSum 140 = .ok (.aload_n 0, 1) := by decide +kernel
theorem dX13_behindSum_141 : decode cX13_behindSum 141 = .ok (.dup, 1) := by decide +kernel
theorem dX13_behindSum_142 : decode cX13_behindSum 142 = .ok (.getfield 300, 3) := by decide +kernel
theorem dX13_behindSum_145 : decode cX13_behindSum 145 = .ok (.iconst 1, 1) := by decide +kernel
theorem dX13_behindSum_146 : decode cX13_behindSum 146 = .ok (.isub, 1) := by decide +kernel
theorem dX13_behindSum_147 : decode cX13_behindSum 147 = .ok (.putfield 300, 3) := by decide +kernel
theorem dX13_behindSum_77 : decode cX13_behindSum 77 = .ok (.aload_n 0, 1) := by decide +kernel
theorem dX13_behindSum_78 : decode cX13_behindSum 78 = .ok (.iload_n 2, 1) := by decide +kernel
theorem dX13_behindSum_79 : decode cX13_behindSum 79 = .ok (.invokestatic 281, 3) := by decide +kernel
theorem dX13_behindSum_82 : decode cX13_behindSum 82 = .ok (.invokevirtual 342, 3) := by decide +kernel
theorem dX13_behindSum_85 : decode cX13_behindSum 85 = .ok (.aload_n 0, 1) := by decide +kernel
theorem dX13_behindSum_86 : decode cX13_behindSum 86 = .ok (.iload_n 2, 1) := by decide +kernel
theorem dX13_behindSum_87 : decode cX13_behindSum 87 = .ok (.iconst 0, 1) := by decide +kernel
theorem dX13_behindSum_88 : decode cX13_behindSum 88 = .ok (.invokevirtual 303, 3) := by decide +kernel
theorem dX13_behindSum_91 : decode cX13_behindSum 91 = .ok (.aload_n 0, 1) := by decide +kernel
theorem dX13_behindSum_92 : decode cX13_behindSum 92 = .ok (.invokevirtual 240, 3) := by decide +kernel
theorem dX13_behindSum_95 : decode cX13_behindSum 95 = .ok (.iconst 1, 1) := by decide +kernel
theorem dX13_behindSum_96 : decode cX13_behindSum 96 = .ok (.ireturn, 1) := by decide +kernel
theorem dX13_behindSum_6 : decode cX13_behindSum 6 = .ok (.ifCond .eq 8, 3) := by decide +kernel
theorem dX13_behindSum_14 : decode cX13_behindSum 14 = .ok (.aload_n 0, 1) := by decide +kernel
theorem dX13_behindSum_15 : decode cX13_behindSum 15 = .ok (.bipush 45, 2) := by decide +kernel
theorem dX13_behindSum_17 : decode cX13_behindSum 17 = .ok (.invokevirtual 309, 3) := by decide +kernel
theorem dX13_behindSum_20 : decode cX13_behindSum 20 = .ok (.ifCond .eq 8, 3) := by decide +kernel
theorem dX13_behindSum_28 : decode cX13_behindSum 28 = .ok (.aload_n 0, 1) := by decide +kernel
theorem dX13_behindSum_29 : decode cX13_behindSum 29 = .ok (.bipush 42, 2) := by decide +kernel
theorem dX13_behindSum_31 : decode cX13_behindSum 31 = .ok (.invokevirtual 309, 3) := by decide +kernel
theorem dX13_behindSum_34 : decode cX13_behindSum 34 = .ok (.ifCond .eq 8, 3) := by decide +kernel
theorem dX13_behindSum_42 : decode cX13_behindSum 42 = .ok (.aload_n 0, 1) := by decide +kernel
theorem dX13_behindSum_43 : decode cX13_behindSum 43 = .ok (.bipush 47, 2) := by decide +kernel
theorem dX13_behindSum_45 : decode cX13_behindSum 45 = .ok (.invokevirtual 309, 3) := by decide +kernel
theorem dX13_behindSum_48 : decode cX13_behindSum 48 = .ok (.ifCond .eq 8, 3) := by decide +kernel
theorem dX13_behindSum_56 : decode cX13_behindSum 56 = .ok (.aload_n 0, 1) := by decide +kernel
theorem dX13_behindSum_57 : decode cX13_behindSum 57 = .ok (.bipush 37, 2) := by decide +kernel
theorem dX13_behindSum_59 : decode cX13_behindSum 59 = .ok (.invokevirtual 309, 3) := by decide +kernel
theorem dX13_behindSum_62 : decode cX13_behindSum 62 = .ok (.ifCond .eq 8, 3) := by decide +kernel
theorem dX13_behindSum_70 : decode cX13_behindSum 70 = .ok (.iconst (-1), 1) := by decide +kernel
theorem dX13_behindSum_65 : decode cX13_behindSum 65 = .ok (.bipush 24, 2) := by decide +kernel
theorem dX13_behindSum_67 : decode cX13_behindSum 67 = .ok (.goto 4, 3) := by decide +kernel
theorem dX13_behindSum_51 : decode cX13_behindSum 51 = .ok (.bipush 23, 2) := by decide +kernel
theorem dX13_behindSum_53 : decode cX13_behindSum 53 = .ok (.goto 18, 3) := by decide +kernel
theorem dX13_behindSum_37 : decode cX13_behindSum 37 = .ok (.bipush 22, 2) := by decide +kernel
theorem dX13_behindSum_39 : decode cX13_behindSum 39 = .ok (.goto 32, 3) := by decide +kernel
theorem dX13_behindSum_23 : decode cX13_behindSum 23 = .ok (.bipush 21, 2) := by decide +kernel
theorem dX13_behindSum_25 : decode cX13_behindSum 25 = .ok (.goto 46, 3) := by decide +kernel
theorem dX13_behindSum_9 : decode cX13_behindSum 9 = .ok (.bipush 20, 2) := by decide +kernel
theorem dX13_behindSum_11 : decode cX13_behindSum 11 = .ok (.goto 60, 3) := by decide +kernel
set_option maxHeartbeats 4000000 in
set_option maxRecDepth 100000 in
theorem k_X13_behindSum (l : Launch) (D : va_G) (cy : Nat → ClassId) (ld ad : Nat → Nat) (am : Nat) (hD : mz_D ad am) (Fa : Nat → Int32) (Ga : Nat → Int64) (Ra : Nat → Nat → Int32) (Sa : Nat → Nat → Int64) (p1 : Int32) (gf : Int32) (gt : Int32) (gs : Int32) (gp : Int32) (gw : Int64) (gb : Int32) (gc : Int32) (gd : Int32) (zs : Nat) (hIF : mz_IF false Fa) (hIG : mz_IG Ga) (hIR : mz_IR [] true Ra) (hg_0 : Fa 14 = gf) (hg_1 : Fa 15 = gt) (hg_2 : Fa 16 = gs) (hg_3 : Fa 13 = gp) (hg_4 : Ga 17 = gw) (hg_5 : Fa 19 = gb) (hg_6 : Fa 23 = gc) (hg_7 : Fa 29 = gd) (hp_0 : 0 ≤ p1.toInt) (hp_1 : p1.toInt ≤ 1) (hp_2 : 0 ≤ (-1) * gf.toInt + gt.toInt) (hp_3 : 0 ≤ gp.toInt + (-1) * gt.toInt) (hp_4 : (1 ≤ gs.toInt → 0 ≤ (-1) * gf.toInt + gt.toInt + (-1))) (hp_5 : (27 ≤ gw.toInt → 1 ≤ gs.toInt → gs.toInt ≤ 1 → 0 ≤ (-1) * gf.toInt + gt.toInt + (-2))) (hp_6 : 0 ≤ (-1) * gc.toInt + (-1) * gd.toInt + gf.toInt) (hp_7 : gb.toInt ≤ 0) (hx_0 : PT (Ra 24) (Ra 25) (Ra 27) (Ra 28) zs gc.toInt.toNat gd.toInt.toNat 3) : Met l yX13_behindSum (wl yX13_behindSum cX13_behindSum 4 (some .int)) ({ frames := 6, cells := 0, slots := 0, locals := 350 }) (mz_p D cy ld ad am Fa Ga Ra Sa [.ref am, .int p1]) (mz_i D cy ad am (fun r F G R S => mz_IF false F ∧ mz_IG G ∧ mz_IR [] true R ∧ (∀ k : Nat, k ∉ ([14, 15, 16, 18, 19, 23, 29, 30] : List Nat) → F k = Fa k) ∧ (∀ k : Nat, k ∉ ([24, 25, 27, 28] : List Nat) → R k = Ra k) ∧ (∀ k : Nat, k ∉ ([17] : List Nat) → G k = Ga k) ∧ 0 ≤ (-1) * (F 14).toInt + (F 15).toInt ∧ 0 ≤ gp.toInt + (-1) * (F 15).toInt ∧ (1 ≤ (F 16).toInt → 0 ≤ (-1) * (F 14).toInt + (F 15).toInt + (-1)) ∧ (27 ≤ (G 17).toInt → 1 ≤ (F 16).toInt → (F 16).toInt ≤ 1 → 0 ≤ (-1) * (F 14).toInt + (F 15).toInt + (-2)) ∧ 0 ≤ (-1) * gf.toInt + (F 14).toInt ∧ 0 ≤ (-1) * (F 23).toInt + (-1) * (F 29).toInt + (F 14).toInt ∧ 0 ≤ (-1) * gc.toInt + (F 23).toInt ∧ ((F 19).toInt ≤ 0 → r.toInt ≤ 1 → 0 ≤ (-1) * gf.toInt + (F 14).toInt + (-1)) ∧ ((F 19).toInt ≤ 0 → 3 ≤ r.toInt → r.toInt ≤ 3 → 0 ≤ (-1) * gf.toInt + (F 14).toInt + (-1)) ∧ 1 ≤ r.toInt ∧ r.toInt ≤ 4 ∧ ((F 19).toInt = 0 → PT (R 24) (R 25) (R 27) (R 28) zs (F 23).toInt.toNat (F 29).toInt.toNat r.toInt ∧ low zs (Ra 24) (R 24) ∧ low zs (Ra 25) (R 25)))) 0 0 (mz_W ad am) := by
  refine mz_met (y := yX13_behindSum) (cc := cX13_behindSum) (maxL := 4) (ret := (some .int)) (av := [.ref am, .int p1]) _ (by decide) (Nat.le_of_ble_eq_true rfl) ?_
  intro p e s m args below meth c hx hb hr hml hts htl hown hlocks hK H locs hM hS ls hl
  have hown : s.vm.findClass RX13 = some m.cls := hown
  have hl : lv_has ls 4 [(0, .ref am), (1, .int p1)] := hl
  have hr_p1 := tk_rng p1
  have hq_gf := tk_rng gf
  have hq_gt := tk_rng gt
  have hq_gs := tk_rng gs
  have hq_gp := tk_rng gp
  have hq_gw := tk_rngL gw
  have hq_gb := tk_rng gb
  have hq_gc := tk_rng gc
  have hq_gd := tk_rng gd
  have hr_gf : 0 ≤ gf.toInt ∧ gf.toInt ≤ 400 := hIF.at hg_0
  have hr_gt : 0 ≤ gt.toInt ∧ gt.toInt ≤ 400 := hIF.at hg_1
  have hr_gs : 0 ≤ gs.toInt ∧ gs.toInt ≤ 3 := hIF.at hg_2
  have hr_gp : 0 ≤ gp.toInt ∧ gp.toInt ≤ 400 := hIF.at hg_3
  have hr_gb : 0 ≤ gb.toInt ∧ gb.toInt ≤ 1 := hIF.at hg_5
  have hr_gc : 0 ≤ gc.toInt ∧ gc.toInt ≤ 400 := hIF.at hg_6
  have hr_gd : 0 ≤ gd.toInt ∧ gd.toInt ≤ 400 := hIF.at hg_7
  have hPI : PI (Ra 24) (Ra 25) (Ra 27) (Ra 28) zs gc.toInt.toNat gd.toInt.toNat 1 := hx_0.p (by decide)
  have hLo := And.intro (low.refl zs (Ra 24)) (low.refl zs (Ra 25))
  refine lv_aload_n hx hb dX13_behindSum_0 rfl (lv_at hl 0 rfl) ?_
  refine lv_bipush (v := 43) hx hb dX13_behindSum_1 (by decide) ?_
  have hk_43 : (43 : Int32).toInt = 43 := by decide
  refine mz_Vj (As := [.int 43]) (rest := []) ⟨hx, hb, hml, hown, hts⟩ hK hM hS (k_X13_isSign l D cy ld ad am hD _ _ _ _ 43 gs hIF hIG hIR hg_2) ⟨callB_of 1 hts (wl_in mw_732) rfl rfl rfl (htl _ mw_5) (htl _ mw_729) hd_yX13_isSign ⟨(Nat.le_of_ble_eq_true rfl), (Nat.le_of_ble_eq_true rfl)⟩, htl _ mw_730, htl _ mw_731⟩ rfl hl.1 rfl (Nat.le_of_ble_eq_true rfl) dX13_behindSum_3 ⟨(Nat.le_of_ble_eq_true rfl), (Nat.le_of_ble_eq_true rfl)⟩ (fun v1 H locs hpo hM hS => ?_)
  obtain ⟨hpo2, hpo3, hpo4, hpo5, hpo6⟩ := hpo
  have hq_v1 := tk_rng v1
  have hj48 : ∀ (v46 : Int32) (H : Heap) (locs : List Loc), (v46.toInt ≤ 24) → (0 ≤ (-1) * gb.toInt + v46.toInt + 1) → (mz_S D cy ad am Fa Ga Ra Sa H) → (va_S (mz_W ad am) s.heap H locs) → ((0 ≤ v46.toInt → 20 ≤ v46.toInt ∧ gs.toInt + (-3) = 0)) → ∀ ls : Array Slot, lv_has ls 4 [(0, .ref am), (1, .int p1)] → W p l e ({ frames := 6, cells := 0, slots := 0, locals := 350 }) s m args below meth c H locs 0 0 (MQ below (mz_i D cy ad am (fun r F G R S => mz_IF false F ∧ mz_IG G ∧ mz_IR [] true R ∧ (∀ k : Nat, k ∉ ([14, 15, 16, 18, 19, 23, 29, 30] : List Nat) → F k = Fa k) ∧ (∀ k : Nat, k ∉ ([24, 25, 27, 28] : List Nat) → R k = Ra k) ∧ (∀ k : Nat, k ∉ ([17] : List Nat) → G k = Ga k) ∧ 0 ≤ (-1) * (F 14).toInt + (F 15).toInt ∧ 0 ≤ gp.toInt + (-1) * (F 15).toInt ∧ (1 ≤ (F 16).toInt → 0 ≤ (-1) * (F 14).toInt + (F 15).toInt + (-1)) ∧ (27 ≤ (G 17).toInt → 1 ≤ (F 16).toInt → (F 16).toInt ≤ 1 → 0 ≤ (-1) * (F 14).toInt + (F 15).toInt + (-2)) ∧ 0 ≤ (-1) * gf.toInt + (F 14).toInt ∧ 0 ≤ (-1) * (F 23).toInt + (-1) * (F 29).toInt + (F 14).toInt ∧ 0 ≤ (-1) * gc.toInt + (F 23).toInt ∧ ((F 19).toInt ≤ 0 → r.toInt ≤ 1 → 0 ≤ (-1) * gf.toInt + (F 14).toInt + (-1)) ∧ ((F 19).toInt ≤ 0 → 3 ≤ r.toInt → r.toInt ≤ 3 → 0 ≤ (-1) * gf.toInt + (F 14).toInt + (-1)) ∧ 1 ≤ r.toInt ∧ r.toInt ≤ 4 ∧ ((F 19).toInt = 0 → PT (R 24) (R 25) (R 27) (R 28) zs (F 23).toInt.toNat (F 29).toInt.toNat r.toInt ∧ low zs (Ra 24) (R 24) ∧ low zs (Ra 25) (R 25)))) args s 0 0 (mz_W ad am)) (F0 m 71 ls [.int v46]) := by
    intro v46 H locs hq0_j48 hq1_j48 hM hS hc0_j48 ls hl
    refine lv_istore_n (lv' := [(2, .int v46), (0, .ref am), (1, .int p1)]) hx hb dX13_behindSum_71 rfl hl (by decide) rfl (fun ls hl => ?_)
    refine lv_iload_n hx hb dX13_behindSum_72 rfl (lv_at hl 0 rfl) ?_
    refine lv_iconst (v := (-1)) hx hb dX13_behindSum_73 (by decide) ?_
    refine lv_icmp_eq (tgt := 97) hx hb dX13_behindSum_74 (by decide) (fun c9 => ?_) (fun c9 => ?_)
    · have hc49 : v46.toInt = (-1) := (fi_eq rfl (show ((-1) : Int32).toInt = (-1) by decide)).mp c9
      refine lv_aload_n hx hb dX13_behindSum_97 rfl (lv_at hl 1 rfl) ?_
      refine mz_Vj (As := []) (rest := []) ⟨hx, hb, hml, hown, hts⟩ hK hM hS (k_X13_inner l D cy ld ad am hD _ _ _ _ gd hIF hIG hIR hg_7) ⟨callB_of 0 hts (wl_in mw_777) rfl rfl rfl (htl _ mw_5) (htl _ mw_774) hd_yX13_inner ⟨(Nat.le_of_ble_eq_true rfl), (Nat.le_of_ble_eq_true rfl)⟩, htl _ mw_775, htl _ mw_776⟩ rfl hl.1 rfl (Nat.le_of_ble_eq_true rfl) dX13_behindSum_98 ⟨(Nat.le_of_ble_eq_true rfl), (Nat.le_of_ble_eq_true rfl)⟩ (fun v50 H locs hpo hM hS => ?_)
      have hx51 := hpo
      have hq_v50 := tk_rng v50
      have hinn := hx51
      refine lv_istore_n (lv' := [(3, .int v50), (2, .int v46), (0, .ref am), (1, .int p1)]) hx hb dX13_behindSum_101 rfl hl (by decide) rfl (fun ls hl => ?_)
      refine lv_iload_n hx hb dX13_behindSum_102 rfl (lv_at hl 0 rfl) ?_
      refine lv_bipush (v := 32) hx hb dX13_behindSum_103 (by decide) ?_
      refine lv_icmp_ne (tgt := 152) hx hb dX13_behindSum_105 (by decide) (fun c9 => ?_) (fun c9 => ?_)
      · have hc53 : ¬ (v50.toInt = 32) := fun h9 => c9 ((fi_eq rfl (show (32 : Int32).toInt = 32 by decide)).mpr h9)
        refine lv_iload_n hx hb dX13_behindSum_152 rfl (lv_at hl 0 rfl) ?_
        refine lv_iconst (v := (-1)) hx hb dX13_behindSum_153 (by decide) ?_
        refine lv_icmp_ne (tgt := 163) hx hb dX13_behindSum_154 (by decide) (fun c9 => ?_) (fun c9 => ?_)
        · have hc54 : ¬ (v50.toInt = (-1)) := fun h9 => c9 ((fi_eq rfl (show ((-1) : Int32).toInt = (-1) by decide)).mpr h9)
          refine lv_aload_n hx hb dX13_behindSum_163 rfl (lv_at hl 2 rfl) ?_
          refine mz_Vj (As := []) (rest := []) ⟨hx, hb, hml, hown, hts⟩ hK hM hS (k_X13_isCompared l D cy ld ad am hD _ _ _ _ hIF hIG hIR) ⟨callB_of 0 hts (wl_in mw_781) rfl rfl rfl (htl _ mw_5) (htl _ mw_778) hd_yX13_isCompared ⟨(Nat.le_of_ble_eq_true rfl), (Nat.le_of_ble_eq_true rfl)⟩, htl _ mw_779, htl _ mw_780⟩ rfl hl.1 rfl (Nat.le_of_ble_eq_true rfl) dX13_behindSum_164 ⟨(Nat.le_of_ble_eq_true rfl), (Nat.le_of_ble_eq_true rfl)⟩ (fun v55 H locs hpo hM hS => ?_)
          obtain ⟨hpo56, hpo57, hpo58, hpo59⟩ := hpo
          have hq_v55 := tk_rng v55
          have hSq := hinn.nsq hPI (by omega)
          refine lv_if_eq (tgt := 172) hx hb dX13_behindSum_167 (by decide) (fun c9 => ?_) (fun c9 => ?_)
          · have hc61 : v55.toInt = 0 := (fi_eq rfl (show (0 : Int32).toInt = 0 by decide)).mp c9
            refine lv_aload_n hx hb dX13_behindSum_172 rfl (lv_at hl 2 rfl) ?_
            refine lv_bipush (v := 60) hx hb dX13_behindSum_173 (by decide) ?_
            have hk_60 : (60 : Int32).toInt = 60 := by decide
            refine mz_Vj (As := [.int 60]) (rest := []) ⟨hx, hb, hml, hown, hts⟩ hK hM hS (k_X13_isSign l D cy ld ad am hD _ _ _ _ 60 gs hIF hIG hIR hg_2) ⟨callB_of 1 hts (wl_in mw_732) rfl rfl rfl (htl _ mw_5) (htl _ mw_729) hd_yX13_isSign ⟨(Nat.le_of_ble_eq_true rfl), (Nat.le_of_ble_eq_true rfl)⟩, htl _ mw_730, htl _ mw_731⟩ rfl hl.1 rfl (Nat.le_of_ble_eq_true rfl) dX13_behindSum_175 ⟨(Nat.le_of_ble_eq_true rfl), (Nat.le_of_ble_eq_true rfl)⟩ (fun v62 H locs hpo hM hS => ?_)
            obtain ⟨hpo63, hpo64, hpo65, hpo66, hpo67⟩ := hpo
            have hq_v62 := tk_rng v62
            have hj82 : ∀ (v80 : Int32) (H : Heap) (locs : List Loc), (25 ≤ v80.toInt) → (v80.toInt ≤ 27) → (mz_S D cy ad am Fa Ga Ra Sa H) → (va_S (mz_W ad am) s.heap H locs) → ((v80.toInt ≤ 26 → gs.toInt + (-3) = 0)) → ∀ ls : Array Slot, lv_has ls 4 [(0, .ref am)] → W p l e ({ frames := 6, cells := 0, slots := 0, locals := 350 }) s m args below meth c H locs 0 0 (MQ below (mz_i D cy ad am (fun r F G R S => mz_IF false F ∧ mz_IG G ∧ mz_IR [] true R ∧ (∀ k : Nat, k ∉ ([14, 15, 16, 18, 19, 23, 29, 30] : List Nat) → F k = Fa k) ∧ (∀ k : Nat, k ∉ ([24, 25, 27, 28] : List Nat) → R k = Ra k) ∧ (∀ k : Nat, k ∉ ([17] : List Nat) → G k = Ga k) ∧ 0 ≤ (-1) * (F 14).toInt + (F 15).toInt ∧ 0 ≤ gp.toInt + (-1) * (F 15).toInt ∧ (1 ≤ (F 16).toInt → 0 ≤ (-1) * (F 14).toInt + (F 15).toInt + (-1)) ∧ (27 ≤ (G 17).toInt → 1 ≤ (F 16).toInt → (F 16).toInt ≤ 1 → 0 ≤ (-1) * (F 14).toInt + (F 15).toInt + (-2)) ∧ 0 ≤ (-1) * gf.toInt + (F 14).toInt ∧ 0 ≤ (-1) * (F 23).toInt + (-1) * (F 29).toInt + (F 14).toInt ∧ 0 ≤ (-1) * gc.toInt + (F 23).toInt ∧ ((F 19).toInt ≤ 0 → r.toInt ≤ 1 → 0 ≤ (-1) * gf.toInt + (F 14).toInt + (-1)) ∧ ((F 19).toInt ≤ 0 → 3 ≤ r.toInt → r.toInt ≤ 3 → 0 ≤ (-1) * gf.toInt + (F 14).toInt + (-1)) ∧ 1 ≤ r.toInt ∧ r.toInt ≤ 4 ∧ ((F 19).toInt = 0 → PT (R 24) (R 25) (R 27) (R 28) zs (F 23).toInt.toNat (F 29).toInt.toNat r.toInt ∧ low zs (Ra 24) (R 24) ∧ low zs (Ra 25) (R 25)))) args s 0 0 (mz_W ad am)) (F0 m 202 ls [.int v80]) := by
              intro v80 H locs hq0_j82 hq1_j82 hM hS hc0_j82 ls hl
              refine lv_istore_n (lv' := [(2, .int v80), (0, .ref am)]) hx hb dX13_behindSum_202 rfl hl (by decide) rfl (fun ls hl => ?_)
              refine lv_aload_n hx hb dX13_behindSum_203 rfl (lv_at hl 1 rfl) ?_
              refine lv_iload_n hx hb dX13_behindSum_204 rfl (lv_at hl 0 rfl) ?_
              refine lv_bipush (v := 27) hx hb dX13_behindSum_205 (by decide) ?_
              have hj96 : ∀ (v94 : Int32) (H : Heap) (locs : List Loc), (0 ≤ gt.toInt + (-1) * v94.toInt) → (0 ≤ gs.toInt + (-1) * v94.toInt) → (0 ≤ gb.toInt + (-1) * v94.toInt + 1) → (0 ≤ (-1) * gb.toInt + v94.toInt) → (mz_S D cy ad am Fa Ga Ra Sa H) → (va_S (mz_W ad am) s.heap H locs) → ((1 ≤ v94.toInt → gs.toInt + (-3) = 0)) → ∀ ls : Array Slot, lv_has ls 4 [(2, .int v80), (0, .ref am)] → W p l e ({ frames := 6, cells := 0, slots := 0, locals := 350 }) s m args below meth c H locs 0 0 (MQ below (mz_i D cy ad am (fun r F G R S => mz_IF false F ∧ mz_IG G ∧ mz_IR [] true R ∧ (∀ k : Nat, k ∉ ([14, 15, 16, 18, 19, 23, 29, 30] : List Nat) → F k = Fa k) ∧ (∀ k : Nat, k ∉ ([24, 25, 27, 28] : List Nat) → R k = Ra k) ∧ (∀ k : Nat, k ∉ ([17] : List Nat) → G k = Ga k) ∧ 0 ≤ (-1) * (F 14).toInt + (F 15).toInt ∧ 0 ≤ gp.toInt + (-1) * (F 15).toInt ∧ (1 ≤ (F 16).toInt → 0 ≤ (-1) * (F 14).toInt + (F 15).toInt + (-1)) ∧ (27 ≤ (G 17).toInt → 1 ≤ (F 16).toInt → (F 16).toInt ≤ 1 → 0 ≤ (-1) * (F 14).toInt + (F 15).toInt + (-2)) ∧ 0 ≤ (-1) * gf.toInt + (F 14).toInt ∧ 0 ≤ (-1) * (F 23).toInt + (-1) * (F 29).toInt + (F 14).toInt ∧ 0 ≤ (-1) * gc.toInt + (F 23).toInt ∧ ((F 19).toInt ≤ 0 → r.toInt ≤ 1 → 0 ≤ (-1) * gf.toInt + (F 14).toInt + (-1)) ∧ ((F 19).toInt ≤ 0 → 3 ≤ r.toInt → r.toInt ≤ 3 → 0 ≤ (-1) * gf.toInt + (F 14).toInt + (-1)) ∧ 1 ≤ r.toInt ∧ r.toInt ≤ 4 ∧ ((F 19).toInt = 0 → PT (R 24) (R 25) (R 27) (R 28) zs (F 23).toInt.toNat (F 29).toInt.toNat r.toInt ∧ low zs (Ra 24) (R 24) ∧ low zs (Ra 25) (R 25)))) args s 0 0 (mz_W ad am)) (F0 m 224 ls [.int v94, .ref am]) := by
                intro v94 H locs hq0_j96 hq1_j96 hq2_j96 hq3_j96 hM hS hc0_j96 ls hl
                refine mz_Vv (As := [.int v94]) (rest := []) ⟨hx, hb, hml, hown, hts⟩ hK hM hS (k_X13_must l D cy ld ad am hD _ _ _ _ v94 gf gt gs gp gw gb hIF hIG hIR hg_0 hg_1 hg_2 hg_3 hg_4 hg_5 (by omega) (by omega) (by omega) (by omega) (by omega) (by omega)) ⟨callB_of 1 hts (wl_in mw_713) rfl rfl rfl (htl _ mw_5) (htl _ mw_710) hd_yX13_must ⟨(Nat.le_of_ble_eq_true rfl), (Nat.le_of_ble_eq_true rfl)⟩, htl _ mw_711, htl _ mw_712⟩ rfl hl.1 rfl (Nat.le_of_ble_eq_true rfl) dX13_behindSum_224 ⟨(Nat.le_of_ble_eq_true rfl), (Nat.le_of_ble_eq_true rfl)⟩ (fun H locs F G R S hpo hM hS => ?_)
                obtain ⟨hIF, hIG, hIR, hfr9, hrr9, hgr9, hpo97, hpo98, hpo99, hpo100, hpo101, hpo102, hpo103, hpo104⟩ := hpo
                have hFF := mz_fr (K := [14, 15, 16, 18, 19, 23, 29, 30]) (Fa := Fa) hfr9 (fun _ _ => rfl) (by decide)
                have hRR := mz_fr (K := [24, 25, 27, 28]) (Fa := Ra) hrr9 (fun _ _ => rfl) (by decide)
                have hGG := mz_fr (K := [17]) (Fa := Ga) hgr9 (fun _ _ => rfl) (by decide)
                have hg_3 := (hfr9 13 (by decide)).trans hg_3
                have hg_6 := (hfr9 23 (by decide)).trans hg_6
                have hg_7 := (hfr9 29 (by decide)).trans hg_7
                obtain ⟨v107, hf106⟩ : ∃ z : Int32, F 14 = z := ⟨_, rfl⟩
                have hq_v107 := tk_rng v107
                rw [hf106] at hpo97 hpo99 hpo100 hpo101 hpo103
                have hr_v107 : 0 ≤ v107.toInt ∧ v107.toInt ≤ 400 := hIF.at hf106
                obtain ⟨v109, hf108⟩ : ∃ z : Int32, F 15 = z := ⟨_, rfl⟩
                have hq_v109 := tk_rng v109
                rw [hf108] at hpo97 hpo98 hpo99 hpo100
                have hr_v109 : 0 ≤ v109.toInt ∧ v109.toInt ≤ 400 := hIF.at hf108
                obtain ⟨v111, hf110⟩ : ∃ z : Int32, F 16 = z := ⟨_, rfl⟩
                have hq_v111 := tk_rng v111
                rw [hf110] at hpo99 hpo100
                have hr_v111 : 0 ≤ v111.toInt ∧ v111.toInt ≤ 3 := hIF.at hf110
                obtain ⟨w113, hf112⟩ : ∃ z : Int64, G 17 = z := ⟨_, rfl⟩
                have hq_w113 := tk_rngL w113
                rw [hf112] at hpo100
                obtain ⟨v115, hf114⟩ : ∃ z : Int32, F 19 = z := ⟨_, rfl⟩
                have hq_v115 := tk_rng v115
                rw [hf114] at hpo102 hpo103 hpo104
                have hr_v115 : 0 ≤ v115.toInt ∧ v115.toInt ≤ 1 := hIF.at hf114
                have hPI := hPI.to (hrr9 24 (by decide)) (hrr9 25 (by decide)) (hrr9 27 (by decide)) (hrr9 28 (by decide)) rfl rfl
                have hLo := And.intro (hLo.1.to (hrr9 24 (by decide))) (hLo.2.to (hrr9 25 (by decide)))
                have hSq := hSq.to (hrr9 27 (by decide)) (Nat.le_refl _)
                have hinn0 := hinn
                have hinn : inn (R 27) gd.toInt.toNat v50.toInt := by rw [hrr9 27 (by decide)]; exact hinn0
                refine lv_aload_n hx hb dX13_behindSum_227 rfl (lv_at hl 1 rfl) ?_
                refine mz_getI hx hb htl hown hK hM 19 (Nat.le_of_ble_eq_true rfl) rfl (htl _ mw_668) (fun _ h9 => h9) dX13_behindSum_228 (fun v9 e9 => ?_)
                refine fx_ti (v := v115) (e9.symm.trans hf114) ?_
                refine lv_if_ne (tgt := 245) hx hb dX13_behindSum_231 (by decide) (fun c9 => ?_) (fun c9 => ?_)
                · have hc116 : ¬ (v115.toInt = 0) := fun h9 => c9 ((fi_eq rfl (show (0 : Int32).toInt = 0 by decide)).mpr h9)
                  refine lv_iconst (v := 1) hx hb dX13_behindSum_245 (by decide) ?_
                  have hk_1 : (1 : Int32).toInt = 1 := by decide
                  exact mz_iret (v := 1) hx hb hr rfl hlocks ⟨hIF, hIG, hIR, hFF, hRR, hGG, (by rw [hf106, hf108]; omega), (by rw [hf108]; omega), (by rw [hf106, hf108, hf110]; omega), (by rw [hf106, hf108, hf110, hf112]; omega), (by rw [hf106]; omega), (by rw [hf106, hg_6, hg_7]; omega), (by rw [hg_6]; omega), (by rw [hf106, hf114]; omega), (by rw [hf106, hf114]; omega), (by omega), (by omega), (by rw [hf114]; exact fun h9 => absurd h9 (by omega))⟩ hM hS dX13_behindSum_246
                · have hc116 : v115.toInt = 0 := (fi_eq rfl (show (0 : Int32).toInt = 0 by decide)).mp c9
                  have hwk_117 : 0 ≤ (-1) * gt.toInt + v107.toInt ∧ 1 ≤ v94.toInt := by omega
                  have hwk_118 : 0 ≤ (-1) * gf.toInt + gt.toInt + (-1) := by omega
                  have hwk_119 : gs.toInt + (-3) = 0 := by omega
                  refine lv_aload_n hx hb dX13_behindSum_234 rfl (lv_at hl 1 rfl) ?_
                  refine lv_iconst (v := 5) hx hb dX13_behindSum_235 (by decide) ?_
                  have hk_5 : (5 : Int32).toInt = 5 := by decide
                  refine mz_Vv (As := [.int 5]) (rest := []) ⟨hx, hb, hml, hown, hts⟩ hK hM hS (k_X13_settle l D cy ld ad am hD _ _ _ _ 5 gc gd v115 zs hIF hIG hIR hg_6 hg_7 hf114 (by omega) (by omega) (by omega) (fun _ => hPI)) ⟨callB_of 1 hts (wl_in mw_773) rfl rfl rfl (htl _ mw_5) (htl _ mw_770) hd_yX13_settle ⟨(Nat.le_of_ble_eq_true rfl), (Nat.le_of_ble_eq_true rfl)⟩, htl _ mw_771, htl _ mw_772⟩ rfl hl.1 rfl (Nat.le_of_ble_eq_true rfl) dX13_behindSum_236 ⟨(Nat.le_of_ble_eq_true rfl), (Nat.le_of_ble_eq_true rfl)⟩ (fun H locs F G R S hpo hM hS => ?_)
                  obtain ⟨hIF, hIG, hIR, hfr9, hrr9, hgr9, hpo120, hpo121, hpo122, hx123, hx124, hx125⟩ := hpo
                  have hFF := mz_fr (K := [14, 15, 16, 18, 19, 23, 29, 30]) (Fa := Fa) hfr9 hFF (by decide)
                  have hRR := mz_fr (K := [24, 25, 27, 28]) (Fa := Ra) hrr9 hRR (by decide)
                  have hGG := mz_fr (K := [17]) (Fa := Ga) hgr9 hGG (by decide)
                  have hg_3 := (hfr9 13 (by decide)).trans hg_3
                  have hf106 := (hfr9 14 (by decide)).trans hf106
                  have hf108 := (hfr9 15 (by decide)).trans hf108
                  have hf110 := (hfr9 16 (by decide)).trans hf110
                  have hf112 := (hgr9 17 (by decide)).trans hf112
                  have hf114 := (hfr9 19 (by decide)).trans hf114
                  obtain ⟨v128, hf127⟩ : ∃ z : Int32, F 23 = z := ⟨_, rfl⟩
                  have hq_v128 := tk_rng v128
                  rw [hf127] at hpo120 hpo122
                  have hr_v128 : 0 ≤ v128.toInt ∧ v128.toInt ≤ 400 := hIF.at hf127
                  obtain ⟨v130, hf129⟩ : ∃ z : Int32, F 29 = z := ⟨_, rfl⟩
                  have hq_v130 := tk_rng v130
                  rw [hf129] at hpo120 hpo121
                  have hr_v130 : 0 ≤ v130.toInt ∧ v130.toInt ≤ 400 := hIF.at hf129
                  have hs9 := hx123 (by omega)
                  rw [hf127, hf129] at hs9
                  have hPI : PI (R 24) (R 25) (R 27) (R 28) zs v128.toInt.toNat v130.toInt.toNat 1 := hs9.1
                  have hLo := And.intro (hLo.1.trans hs9.2.1 (Nat.le_refl _)) (hLo.2.trans hs9.2.2 (Nat.le_refl _))
                  rw [hf129] at hx124 hx125
                  have hsb := hx124
                  have hst := hx125
                  have hSq := hSq.to (pd1 := v130.toInt.toNat) (hrr9 27 (by decide)) (by omega)
                  have hinn0 := hinn
                  have hinn : inn (R 27) gd.toInt.toNat v50.toInt := by rw [hrr9 27 (by decide)]; exact hinn0
                  refine lv_aload_n hx hb dX13_behindSum_239 rfl (lv_at hl 1 rfl) ?_
                  refine lv_iload_n hx hb dX13_behindSum_240 rfl (lv_at hl 0 rfl) ?_
                  refine lv_iconst (v := 0) hx hb dX13_behindSum_241 (by decide) ?_
                  have hk_0 : (0 : Int32).toInt = 0 := by decide
                  refine mz_Vv (As := [.int v80, .int 0]) (rest := []) ⟨hx, hb, hml, hown, hts⟩ hK hM hS (k_X13_push l D cy ld ad am hD _ _ _ _ v80 0 v130 hIF hIG hIR hf129 (by omega) (by omega) (by omega)) ⟨callB_of 2 hts (wl_in mw_728) rfl rfl rfl (htl _ mw_5) (htl _ mw_725) hd_yX13_push ⟨(Nat.le_of_ble_eq_true rfl), (Nat.le_of_ble_eq_true rfl)⟩, htl _ mw_726, htl _ mw_727⟩ rfl hl.1 rfl (Nat.le_of_ble_eq_true rfl) dX13_behindSum_242 ⟨(Nat.le_of_ble_eq_true rfl), (Nat.le_of_ble_eq_true rfl)⟩ (fun H locs F G R S hpo hM hS => ?_)
                  obtain ⟨hIF, hIG, hIR, hfr9, hrr9, hgr9, hpo131, hx132, hx133⟩ := hpo
                  have hFF := mz_fr (K := [14, 15, 16, 18, 19, 23, 29, 30]) (Fa := Fa) hfr9 hFF (by decide)
                  have hRR := mz_fr (K := [24, 25, 27, 28]) (Fa := Ra) hrr9 hRR (by decide)
                  have hGG := mz_fr (K := [17]) (Fa := Ga) hgr9 hGG (by decide)
                  have hg_3 := (hfr9 13 (by decide)).trans hg_3
                  have hf106 := (hfr9 14 (by decide)).trans hf106
                  have hf108 := (hfr9 15 (by decide)).trans hf108
                  have hf110 := (hfr9 16 (by decide)).trans hf110
                  have hf112 := (hgr9 17 (by decide)).trans hf112
                  have hf114 := (hfr9 19 (by decide)).trans hf114
                  have hf127 := (hfr9 23 (by decide)).trans hf127
                  obtain ⟨v136, hf135⟩ : ∃ z : Int32, F 29 = z := ⟨_, rfl⟩
                  have hq_v136 := tk_rng v136
                  rw [hf135] at hpo131
                  have hr_v136 : 0 ≤ v136.toInt ∧ v136.toInt ≤ 400 := hIF.at hf135
                  have hPI : PI (R 24) (R 25) (R 27) (R 28) zs v128.toInt.toNat v136.toInt.toNat 0 := (PI.push (o := v80) hPI (by omega) (by omega) ⟨by omega, by omega⟩ (by rw [if_pos (by omega)]; rfl) (Or.inr (Or.inr hSq)) hx132 hx133).to (hrr9 24 (by decide)) (hrr9 25 (by decide)) rfl rfl rfl (by omega)
                  have hLo := And.intro (hLo.1.to (hrr9 24 (by decide))) (hLo.2.to (hrr9 25 (by decide)))
                  have hSq : nSq (R 27) v136.toInt.toNat := (hSq.push hx132 (by omega)).to rfl (by omega)
                  refine lv_iconst (v := 1) hx hb dX13_behindSum_245 (by decide) ?_
                  have hk_1 : (1 : Int32).toInt = 1 := by decide
                  exact mz_iret (v := 1) hx hb hr rfl hlocks ⟨hIF, hIG, hIR, hFF, hRR, hGG, (by rw [hf106, hf108]; omega), (by rw [hf108]; omega), (by rw [hf106, hf108, hf110]; omega), (by rw [hf106, hf108, hf110, hf112]; omega), (by rw [hf106]; omega), (by rw [hf106, hf127, hf135]; omega), (by rw [hf127]; omega), (by rw [hf106, hf114]; omega), (by rw [hf106, hf114]; omega), (by omega), (by omega), (fun _ => ⟨PT.mk hPI (by decide) (fun h9 => absurd h9 (by decide)) (fun h9 => absurd h9 (by decide)) rfl rfl rfl rfl (by rw [hf127]) (by rw [hf135]), hLo⟩)⟩ hM hS dX13_behindSum_246
              refine lv_icmp_ne (tgt := 219) hx hb dX13_behindSum_207 (by decide) (fun c9 => ?_) (fun c9 => ?_)
              · have hc83 : ¬ (v80.toInt = 27) := fun h9 => c9 ((fi_eq rfl (show (27 : Int32).toInt = 27 by decide)).mpr h9)
                have hwk_137 : gs.toInt + (-3) = 0 := by omega
                have hwk_138 : 0 ≤ (-1) * gf.toInt + gt.toInt + (-1) := by omega
                refine lv_iconst (v := 1) hx hb dX13_behindSum_219 (by decide) ?_
                refine lv_goto (tgt := 224) hx hb dX13_behindSum_220 (by decide) ?_
                have hk_1 : (1 : Int32).toInt = 1 := by decide
                exact hj96 1 _ _ (by omega) (by omega) (by omega) (by omega) hM hS (by omega) _ (lv_sub hl [0, 1] rfl)
              · have hc83 : v80.toInt = 27 := (fi_eq rfl (show (27 : Int32).toInt = 27 by decide)).mp c9
                refine lv_aload_n hx hb dX13_behindSum_210 rfl (lv_at hl 1 rfl) ?_
                refine lv_bipush (v := 61) hx hb dX13_behindSum_211 (by decide) ?_
                have hk_61 : (61 : Int32).toInt = 61 := by decide
                refine mz_Vj (As := [.int 61]) (rest := [.ref am]) ⟨hx, hb, hml, hown, hts⟩ hK hM hS (k_X13_isSign l D cy ld ad am hD _ _ _ _ 61 gs hIF hIG hIR hg_2) ⟨callB_of 1 hts (wl_in mw_732) rfl rfl rfl (htl _ mw_5) (htl _ mw_729) hd_yX13_isSign ⟨(Nat.le_of_ble_eq_true rfl), (Nat.le_of_ble_eq_true rfl)⟩, htl _ mw_730, htl _ mw_731⟩ rfl hl.1 rfl (Nat.le_of_ble_eq_true rfl) dX13_behindSum_213 ⟨(Nat.le_of_ble_eq_true rfl), (Nat.le_of_ble_eq_true rfl)⟩ (fun v139 H locs hpo hM hS => ?_)
                obtain ⟨hpo140, hpo141, hpo142, hpo143, hpo144⟩ := hpo
                have hq_v139 := tk_rng v139
                refine lv_if_eq (tgt := 223) hx hb dX13_behindSum_216 (by decide) (fun c9 => ?_) (fun c9 => ?_)
                · have hc146 : v139.toInt = 0 := (fi_eq rfl (show (0 : Int32).toInt = 0 by decide)).mp c9
                  refine lv_iconst (v := 0) hx hb dX13_behindSum_223 (by decide) ?_
                  have hk_0 : (0 : Int32).toInt = 0 := by decide
                  exact hj96 0 _ _ (by omega) (by omega) (by omega) (by omega) hM hS (by omega) _ (lv_sub hl [0, 1] rfl)
                · have hc146 : ¬ (v139.toInt = 0) := fun h9 => c9 ((fi_eq rfl (show (0 : Int32).toInt = 0 by decide)).mpr h9)
                  have hwk_147 : gs.toInt + (-3) = 0 := by omega
                  have hwk_148 : 0 ≤ (-1) * gf.toInt + gt.toInt + (-1) := by omega
                  refine lv_iconst (v := 1) hx hb dX13_behindSum_219 (by decide) ?_
                  refine lv_goto (tgt := 224) hx hb dX13_behindSum_220 (by decide) ?_
                  have hk_1 : (1 : Int32).toInt = 1 := by decide
                  exact hj96 1 _ _ (by omega) (by omega) (by omega) (by omega) hM hS (by omega) _ (lv_sub hl [0, 1] rfl)
            refine lv_if_eq (tgt := 186) hx hb dX13_behindSum_178 (by decide) (fun c9 => ?_) (fun c9 => ?_)
            · have hc69 : v62.toInt = 0 := (fi_eq rfl (show (0 : Int32).toInt = 0 by decide)).mp c9
              refine lv_aload_n hx hb dX13_behindSum_186 rfl (lv_at hl 2 rfl) ?_
              refine lv_bipush (v := 62) hx hb dX13_behindSum_187 (by decide) ?_
              have hk_62 : (62 : Int32).toInt = 62 := by decide
              refine mz_Vj (As := [.int 62]) (rest := []) ⟨hx, hb, hml, hown, hts⟩ hK hM hS (k_X13_isSign l D cy ld ad am hD _ _ _ _ 62 gs hIF hIG hIR hg_2) ⟨callB_of 1 hts (wl_in mw_732) rfl rfl rfl (htl _ mw_5) (htl _ mw_729) hd_yX13_isSign ⟨(Nat.le_of_ble_eq_true rfl), (Nat.le_of_ble_eq_true rfl)⟩, htl _ mw_730, htl _ mw_731⟩ rfl hl.1 rfl (Nat.le_of_ble_eq_true rfl) dX13_behindSum_189 ⟨(Nat.le_of_ble_eq_true rfl), (Nat.le_of_ble_eq_true rfl)⟩ (fun v149 H locs hpo hM hS => ?_)
              obtain ⟨hpo150, hpo151, hpo152, hpo153, hpo154⟩ := hpo
              have hq_v149 := tk_rng v149
              refine lv_if_eq (tgt := 200) hx hb dX13_behindSum_192 (by decide) (fun c9 => ?_) (fun c9 => ?_)
              · have hc156 : v149.toInt = 0 := (fi_eq rfl (show (0 : Int32).toInt = 0 by decide)).mp c9
                refine lv_bipush (v := 27) hx hb dX13_behindSum_200 (by decide) ?_
                have hk_27 : (27 : Int32).toInt = 27 := by decide
                exact hj82 27 _ _ (by omega) (by omega) hM hS (by omega) _ (lv_sub hl [2] rfl)
              · have hc156 : ¬ (v149.toInt = 0) := fun h9 => c9 ((fi_eq rfl (show (0 : Int32).toInt = 0 by decide)).mpr h9)
                have hwk_157 : gs.toInt + (-3) = 0 := by omega
                have hwk_158 : 0 ≤ (-1) * gf.toInt + gt.toInt + (-1) := by omega
                refine lv_bipush (v := 26) hx hb dX13_behindSum_195 (by decide) ?_
                refine lv_goto (tgt := 202) hx hb dX13_behindSum_197 (by decide) ?_
                have hk_26 : (26 : Int32).toInt = 26 := by decide
                exact hj82 26 _ _ (by omega) (by omega) hM hS (by omega) _ (lv_sub hl [2] rfl)
            · have hc69 : ¬ (v62.toInt = 0) := fun h9 => c9 ((fi_eq rfl (show (0 : Int32).toInt = 0 by decide)).mpr h9)
              have hwk_159 : gs.toInt + (-3) = 0 := by omega
              have hwk_160 : 0 ≤ (-1) * gf.toInt + gt.toInt + (-1) := by omega
              refine lv_bipush (v := 25) hx hb dX13_behindSum_181 (by decide) ?_
              refine lv_goto (tgt := 202) hx hb dX13_behindSum_183 (by decide) ?_
              have hk_25 : (25 : Int32).toInt = 25 := by decide
              exact hj82 25 _ _ (by omega) (by omega) hM hS (by omega) _ (lv_sub hl [2] rfl)
          · have hc61 : ¬ (v55.toInt = 0) := fun h9 => c9 ((fi_eq rfl (show (0 : Int32).toInt = 0 by decide)).mpr h9)
            refine lv_iconst (v := 2) hx hb dX13_behindSum_170 (by decide) ?_
            have hk_2 : (2 : Int32).toInt = 2 := by decide
            exact mz_iret (v := 2) hx hb hr rfl hlocks ⟨hIF, hIG, hIR, (fun _ _ => rfl), (fun _ _ => rfl), (fun _ _ => rfl), (by rw [hg_0, hg_1]; omega), (by rw [hg_1]; omega), (by rw [hg_0, hg_1, hg_2]; omega), (by rw [hg_0, hg_1, hg_2, hg_4]; omega), (by rw [hg_0]; omega), (by rw [hg_0, hg_6, hg_7]; omega), (by rw [hg_6]; omega), (by rw [hg_0, hg_5]; omega), (by rw [hg_0, hg_5]; omega), (by omega), (by omega), (fun _ => ⟨PT.mk hPI (by decide) (fun _ => hSq) (fun h9 => absurd h9 (by decide)) rfl rfl rfl rfl (by rw [hg_6]) (by rw [hg_7]), hLo⟩)⟩ hM hS dX13_behindSum_171
        · have hc54 : v50.toInt = (-1) := (fi_eq rfl (show ((-1) : Int32).toInt = (-1) by decide)).mp c9
          refine lv_iload_n hx hb dX13_behindSum_157 rfl (lv_at hl 3 rfl) ?_
          refine lv_if_ne (tgt := 163) hx hb dX13_behindSum_158 (by decide) (fun c9 => ?_) (fun c9 => ?_)
          · have hc161 : ¬ (p1.toInt = 0) := fun h9 => c9 ((fi_eq rfl (show (0 : Int32).toInt = 0 by decide)).mpr h9)
            refine lv_aload_n hx hb dX13_behindSum_163 rfl (lv_at hl 2 rfl) ?_
            refine mz_Vj (As := []) (rest := []) ⟨hx, hb, hml, hown, hts⟩ hK hM hS (k_X13_isCompared l D cy ld ad am hD _ _ _ _ hIF hIG hIR) ⟨callB_of 0 hts (wl_in mw_781) rfl rfl rfl (htl _ mw_5) (htl _ mw_778) hd_yX13_isCompared ⟨(Nat.le_of_ble_eq_true rfl), (Nat.le_of_ble_eq_true rfl)⟩, htl _ mw_779, htl _ mw_780⟩ rfl hl.1 rfl (Nat.le_of_ble_eq_true rfl) dX13_behindSum_164 ⟨(Nat.le_of_ble_eq_true rfl), (Nat.le_of_ble_eq_true rfl)⟩ (fun v162 H locs hpo hM hS => ?_)
            obtain ⟨hpo163, hpo164, hpo165, hpo166⟩ := hpo
            have hq_v162 := tk_rng v162
            have hSq := hinn.nsq hPI (by omega)
            refine lv_if_eq (tgt := 172) hx hb dX13_behindSum_167 (by decide) (fun c9 => ?_) (fun c9 => ?_)
            · have hc168 : v162.toInt = 0 := (fi_eq rfl (show (0 : Int32).toInt = 0 by decide)).mp c9
              refine lv_aload_n hx hb dX13_behindSum_172 rfl (lv_at hl 2 rfl) ?_
              refine lv_bipush (v := 60) hx hb dX13_behindSum_173 (by decide) ?_
              have hk_60 : (60 : Int32).toInt = 60 := by decide
              refine mz_Vj (As := [.int 60]) (rest := []) ⟨hx, hb, hml, hown, hts⟩ hK hM hS (k_X13_isSign l D cy ld ad am hD _ _ _ _ 60 gs hIF hIG hIR hg_2) ⟨callB_of 1 hts (wl_in mw_732) rfl rfl rfl (htl _ mw_5) (htl _ mw_729) hd_yX13_isSign ⟨(Nat.le_of_ble_eq_true rfl), (Nat.le_of_ble_eq_true rfl)⟩, htl _ mw_730, htl _ mw_731⟩ rfl hl.1 rfl (Nat.le_of_ble_eq_true rfl) dX13_behindSum_175 ⟨(Nat.le_of_ble_eq_true rfl), (Nat.le_of_ble_eq_true rfl)⟩ (fun v169 H locs hpo hM hS => ?_)
              obtain ⟨hpo170, hpo171, hpo172, hpo173, hpo174⟩ := hpo
              have hq_v169 := tk_rng v169
              have hj189 : ∀ (v187 : Int32) (H : Heap) (locs : List Loc), (25 ≤ v187.toInt) → (v187.toInt ≤ 27) → (mz_S D cy ad am Fa Ga Ra Sa H) → (va_S (mz_W ad am) s.heap H locs) → ((v187.toInt ≤ 26 → gs.toInt + (-3) = 0)) → ∀ ls : Array Slot, lv_has ls 4 [(0, .ref am)] → W p l e ({ frames := 6, cells := 0, slots := 0, locals := 350 }) s m args below meth c H locs 0 0 (MQ below (mz_i D cy ad am (fun r F G R S => mz_IF false F ∧ mz_IG G ∧ mz_IR [] true R ∧ (∀ k : Nat, k ∉ ([14, 15, 16, 18, 19, 23, 29, 30] : List Nat) → F k = Fa k) ∧ (∀ k : Nat, k ∉ ([24, 25, 27, 28] : List Nat) → R k = Ra k) ∧ (∀ k : Nat, k ∉ ([17] : List Nat) → G k = Ga k) ∧ 0 ≤ (-1) * (F 14).toInt + (F 15).toInt ∧ 0 ≤ gp.toInt + (-1) * (F 15).toInt ∧ (1 ≤ (F 16).toInt → 0 ≤ (-1) * (F 14).toInt + (F 15).toInt + (-1)) ∧ (27 ≤ (G 17).toInt → 1 ≤ (F 16).toInt → (F 16).toInt ≤ 1 → 0 ≤ (-1) * (F 14).toInt + (F 15).toInt + (-2)) ∧ 0 ≤ (-1) * gf.toInt + (F 14).toInt ∧ 0 ≤ (-1) * (F 23).toInt + (-1) * (F 29).toInt + (F 14).toInt ∧ 0 ≤ (-1) * gc.toInt + (F 23).toInt ∧ ((F 19).toInt ≤ 0 → r.toInt ≤ 1 → 0 ≤ (-1) * gf.toInt + (F 14).toInt + (-1)) ∧ ((F 19).toInt ≤ 0 → 3 ≤ r.toInt → r.toInt ≤ 3 → 0 ≤ (-1) * gf.toInt + (F 14).toInt + (-1)) ∧ 1 ≤ r.toInt ∧ r.toInt ≤ 4 ∧ ((F 19).toInt = 0 → PT (R 24) (R 25) (R 27) (R 28) zs (F 23).toInt.toNat (F 29).toInt.toNat r.toInt ∧ low zs (Ra 24) (R 24) ∧ low zs (Ra 25) (R 25)))) args s 0 0 (mz_W ad am)) (F0 m 202 ls [.int v187]) := by
                intro v187 H locs hq0_j189 hq1_j189 hM hS hc0_j189 ls hl
                refine lv_istore_n (lv' := [(2, .int v187), (0, .ref am)]) hx hb dX13_behindSum_202 rfl hl (by decide) rfl (fun ls hl => ?_)
                refine lv_aload_n hx hb dX13_behindSum_203 rfl (lv_at hl 1 rfl) ?_
                refine lv_iload_n hx hb dX13_behindSum_204 rfl (lv_at hl 0 rfl) ?_
                refine lv_bipush (v := 27) hx hb dX13_behindSum_205 (by decide) ?_
                have hj203 : ∀ (v201 : Int32) (H : Heap) (locs : List Loc), (0 ≤ gt.toInt + (-1) * v201.toInt) → (0 ≤ gs.toInt + (-1) * v201.toInt) → (0 ≤ gb.toInt + (-1) * v201.toInt + 1) → (0 ≤ (-1) * gb.toInt + v201.toInt) → (mz_S D cy ad am Fa Ga Ra Sa H) → (va_S (mz_W ad am) s.heap H locs) → ((1 ≤ v201.toInt → gs.toInt + (-3) = 0)) → ∀ ls : Array Slot, lv_has ls 4 [(2, .int v187), (0, .ref am)] → W p l e ({ frames := 6, cells := 0, slots := 0, locals := 350 }) s m args below meth c H locs 0 0 (MQ below (mz_i D cy ad am (fun r F G R S => mz_IF false F ∧ mz_IG G ∧ mz_IR [] true R ∧ (∀ k : Nat, k ∉ ([14, 15, 16, 18, 19, 23, 29, 30] : List Nat) → F k = Fa k) ∧ (∀ k : Nat, k ∉ ([24, 25, 27, 28] : List Nat) → R k = Ra k) ∧ (∀ k : Nat, k ∉ ([17] : List Nat) → G k = Ga k) ∧ 0 ≤ (-1) * (F 14).toInt + (F 15).toInt ∧ 0 ≤ gp.toInt + (-1) * (F 15).toInt ∧ (1 ≤ (F 16).toInt → 0 ≤ (-1) * (F 14).toInt + (F 15).toInt + (-1)) ∧ (27 ≤ (G 17).toInt → 1 ≤ (F 16).toInt → (F 16).toInt ≤ 1 → 0 ≤ (-1) * (F 14).toInt + (F 15).toInt + (-2)) ∧ 0 ≤ (-1) * gf.toInt + (F 14).toInt ∧ 0 ≤ (-1) * (F 23).toInt + (-1) * (F 29).toInt + (F 14).toInt ∧ 0 ≤ (-1) * gc.toInt + (F 23).toInt ∧ ((F 19).toInt ≤ 0 → r.toInt ≤ 1 → 0 ≤ (-1) * gf.toInt + (F 14).toInt + (-1)) ∧ ((F 19).toInt ≤ 0 → 3 ≤ r.toInt → r.toInt ≤ 3 → 0 ≤ (-1) * gf.toInt + (F 14).toInt + (-1)) ∧ 1 ≤ r.toInt ∧ r.toInt ≤ 4 ∧ ((F 19).toInt = 0 → PT (R 24) (R 25) (R 27) (R 28) zs (F 23).toInt.toNat (F 29).toInt.toNat r.toInt ∧ low zs (Ra 24) (R 24) ∧ low zs (Ra 25) (R 25)))) args s 0 0 (mz_W ad am)) (F0 m 224 ls [.int v201, .ref am]) := by
                  intro v201 H locs hq0_j203 hq1_j203 hq2_j203 hq3_j203 hM hS hc0_j203 ls hl
                  refine mz_Vv (As := [.int v201]) (rest := []) ⟨hx, hb, hml, hown, hts⟩ hK hM hS (k_X13_must l D cy ld ad am hD _ _ _ _ v201 gf gt gs gp gw gb hIF hIG hIR hg_0 hg_1 hg_2 hg_3 hg_4 hg_5 (by omega) (by omega) (by omega) (by omega) (by omega) (by omega)) ⟨callB_of 1 hts (wl_in mw_713) rfl rfl rfl (htl _ mw_5) (htl _ mw_710) hd_yX13_must ⟨(Nat.le_of_ble_eq_true rfl), (Nat.le_of_ble_eq_true rfl)⟩, htl _ mw_711, htl _ mw_712⟩ rfl hl.1 rfl (Nat.le_of_ble_eq_true rfl) dX13_behindSum_224 ⟨(Nat.le_of_ble_eq_true rfl), (Nat.le_of_ble_eq_true rfl)⟩ (fun H locs F G R S hpo hM hS => ?_)
                  obtain ⟨hIF, hIG, hIR, hfr9, hrr9, hgr9, hpo204, hpo205, hpo206, hpo207, hpo208, hpo209, hpo210, hpo211⟩ := hpo
                  have hFF := mz_fr (K := [14, 15, 16, 18, 19, 23, 29, 30]) (Fa := Fa) hfr9 (fun _ _ => rfl) (by decide)
                  have hRR := mz_fr (K := [24, 25, 27, 28]) (Fa := Ra) hrr9 (fun _ _ => rfl) (by decide)
                  have hGG := mz_fr (K := [17]) (Fa := Ga) hgr9 (fun _ _ => rfl) (by decide)
                  have hg_3 := (hfr9 13 (by decide)).trans hg_3
                  have hg_6 := (hfr9 23 (by decide)).trans hg_6
                  have hg_7 := (hfr9 29 (by decide)).trans hg_7
                  obtain ⟨v214, hf213⟩ : ∃ z : Int32, F 14 = z := ⟨_, rfl⟩
                  have hq_v214 := tk_rng v214
                  rw [hf213] at hpo204 hpo206 hpo207 hpo208 hpo210
                  have hr_v214 : 0 ≤ v214.toInt ∧ v214.toInt ≤ 400 := hIF.at hf213
                  obtain ⟨v216, hf215⟩ : ∃ z : Int32, F 15 = z := ⟨_, rfl⟩
                  have hq_v216 := tk_rng v216
                  rw [hf215] at hpo204 hpo205 hpo206 hpo207
                  have hr_v216 : 0 ≤ v216.toInt ∧ v216.toInt ≤ 400 := hIF.at hf215
                  obtain ⟨v218, hf217⟩ : ∃ z : Int32, F 16 = z := ⟨_, rfl⟩
                  have hq_v218 := tk_rng v218
                  rw [hf217] at hpo206 hpo207
                  have hr_v218 : 0 ≤ v218.toInt ∧ v218.toInt ≤ 3 := hIF.at hf217
                  obtain ⟨w220, hf219⟩ : ∃ z : Int64, G 17 = z := ⟨_, rfl⟩
                  have hq_w220 := tk_rngL w220
                  rw [hf219] at hpo207
                  obtain ⟨v222, hf221⟩ : ∃ z : Int32, F 19 = z := ⟨_, rfl⟩
                  have hq_v222 := tk_rng v222
                  rw [hf221] at hpo209 hpo210 hpo211
                  have hr_v222 : 0 ≤ v222.toInt ∧ v222.toInt ≤ 1 := hIF.at hf221
                  have hPI := hPI.to (hrr9 24 (by decide)) (hrr9 25 (by decide)) (hrr9 27 (by decide)) (hrr9 28 (by decide)) rfl rfl
                  have hLo := And.intro (hLo.1.to (hrr9 24 (by decide))) (hLo.2.to (hrr9 25 (by decide)))
                  have hSq := hSq.to (hrr9 27 (by decide)) (Nat.le_refl _)
                  have hinn0 := hinn
                  have hinn : inn (R 27) gd.toInt.toNat v50.toInt := by rw [hrr9 27 (by decide)]; exact hinn0
                  refine lv_aload_n hx hb dX13_behindSum_227 rfl (lv_at hl 1 rfl) ?_
                  refine mz_getI hx hb htl hown hK hM 19 (Nat.le_of_ble_eq_true rfl) rfl (htl _ mw_668) (fun _ h9 => h9) dX13_behindSum_228 (fun v9 e9 => ?_)
                  refine fx_ti (v := v222) (e9.symm.trans hf221) ?_
                  refine lv_if_ne (tgt := 245) hx hb dX13_behindSum_231 (by decide) (fun c9 => ?_) (fun c9 => ?_)
                  · have hc223 : ¬ (v222.toInt = 0) := fun h9 => c9 ((fi_eq rfl (show (0 : Int32).toInt = 0 by decide)).mpr h9)
                    refine lv_iconst (v := 1) hx hb dX13_behindSum_245 (by decide) ?_
                    have hk_1 : (1 : Int32).toInt = 1 := by decide
                    exact mz_iret (v := 1) hx hb hr rfl hlocks ⟨hIF, hIG, hIR, hFF, hRR, hGG, (by rw [hf213, hf215]; omega), (by rw [hf215]; omega), (by rw [hf213, hf215, hf217]; omega), (by rw [hf213, hf215, hf217, hf219]; omega), (by rw [hf213]; omega), (by rw [hf213, hg_6, hg_7]; omega), (by rw [hg_6]; omega), (by rw [hf213, hf221]; omega), (by rw [hf213, hf221]; omega), (by omega), (by omega), (by rw [hf221]; exact fun h9 => absurd h9 (by omega))⟩ hM hS dX13_behindSum_246
                  · have hc223 : v222.toInt = 0 := (fi_eq rfl (show (0 : Int32).toInt = 0 by decide)).mp c9
                    have hwk_224 : 0 ≤ (-1) * gt.toInt + v214.toInt ∧ 1 ≤ v201.toInt := by omega
                    have hwk_225 : 0 ≤ (-1) * gf.toInt + gt.toInt + (-1) := by omega
                    have hwk_226 : gs.toInt + (-3) = 0 := by omega
                    refine lv_aload_n hx hb dX13_behindSum_234 rfl (lv_at hl 1 rfl) ?_
                    refine lv_iconst (v := 5) hx hb dX13_behindSum_235 (by decide) ?_
                    have hk_5 : (5 : Int32).toInt = 5 := by decide
                    refine mz_Vv (As := [.int 5]) (rest := []) ⟨hx, hb, hml, hown, hts⟩ hK hM hS (k_X13_settle l D cy ld ad am hD _ _ _ _ 5 gc gd v222 zs hIF hIG hIR hg_6 hg_7 hf221 (by omega) (by omega) (by omega) (fun _ => hPI)) ⟨callB_of 1 hts (wl_in mw_773) rfl rfl rfl (htl _ mw_5) (htl _ mw_770) hd_yX13_settle ⟨(Nat.le_of_ble_eq_true rfl), (Nat.le_of_ble_eq_true rfl)⟩, htl _ mw_771, htl _ mw_772⟩ rfl hl.1 rfl (Nat.le_of_ble_eq_true rfl) dX13_behindSum_236 ⟨(Nat.le_of_ble_eq_true rfl), (Nat.le_of_ble_eq_true rfl)⟩ (fun H locs F G R S hpo hM hS => ?_)
                    obtain ⟨hIF, hIG, hIR, hfr9, hrr9, hgr9, hpo227, hpo228, hpo229, hx230, hx231, hx232⟩ := hpo
                    have hFF := mz_fr (K := [14, 15, 16, 18, 19, 23, 29, 30]) (Fa := Fa) hfr9 hFF (by decide)
                    have hRR := mz_fr (K := [24, 25, 27, 28]) (Fa := Ra) hrr9 hRR (by decide)
                    have hGG := mz_fr (K := [17]) (Fa := Ga) hgr9 hGG (by decide)
                    have hg_3 := (hfr9 13 (by decide)).trans hg_3
                    have hf213 := (hfr9 14 (by decide)).trans hf213
                    have hf215 := (hfr9 15 (by decide)).trans hf215
                    have hf217 := (hfr9 16 (by decide)).trans hf217
                    have hf219 := (hgr9 17 (by decide)).trans hf219
                    have hf221 := (hfr9 19 (by decide)).trans hf221
                    obtain ⟨v235, hf234⟩ : ∃ z : Int32, F 23 = z := ⟨_, rfl⟩
                    have hq_v235 := tk_rng v235
                    rw [hf234] at hpo227 hpo229
                    have hr_v235 : 0 ≤ v235.toInt ∧ v235.toInt ≤ 400 := hIF.at hf234
                    obtain ⟨v237, hf236⟩ : ∃ z : Int32, F 29 = z := ⟨_, rfl⟩
                    have hq_v237 := tk_rng v237
                    rw [hf236] at hpo227 hpo228
                    have hr_v237 : 0 ≤ v237.toInt ∧ v237.toInt ≤ 400 := hIF.at hf236
                    have hs9 := hx230 (by omega)
                    rw [hf234, hf236] at hs9
                    have hPI : PI (R 24) (R 25) (R 27) (R 28) zs v235.toInt.toNat v237.toInt.toNat 1 := hs9.1
                    have hLo := And.intro (hLo.1.trans hs9.2.1 (Nat.le_refl _)) (hLo.2.trans hs9.2.2 (Nat.le_refl _))
                    rw [hf236] at hx231 hx232
                    have hsb := hx231
                    have hst := hx232
                    have hSq := hSq.to (pd1 := v237.toInt.toNat) (hrr9 27 (by decide)) (by omega)
                    have hinn0 := hinn
                    have hinn : inn (R 27) gd.toInt.toNat v50.toInt := by rw [hrr9 27 (by decide)]; exact hinn0
                    refine lv_aload_n hx hb dX13_behindSum_239 rfl (lv_at hl 1 rfl) ?_
                    refine lv_iload_n hx hb dX13_behindSum_240 rfl (lv_at hl 0 rfl) ?_
                    refine lv_iconst (v := 0) hx hb dX13_behindSum_241 (by decide) ?_
                    have hk_0 : (0 : Int32).toInt = 0 := by decide
                    refine mz_Vv (As := [.int v187, .int 0]) (rest := []) ⟨hx, hb, hml, hown, hts⟩ hK hM hS (k_X13_push l D cy ld ad am hD _ _ _ _ v187 0 v237 hIF hIG hIR hf236 (by omega) (by omega) (by omega)) ⟨callB_of 2 hts (wl_in mw_728) rfl rfl rfl (htl _ mw_5) (htl _ mw_725) hd_yX13_push ⟨(Nat.le_of_ble_eq_true rfl), (Nat.le_of_ble_eq_true rfl)⟩, htl _ mw_726, htl _ mw_727⟩ rfl hl.1 rfl (Nat.le_of_ble_eq_true rfl) dX13_behindSum_242 ⟨(Nat.le_of_ble_eq_true rfl), (Nat.le_of_ble_eq_true rfl)⟩ (fun H locs F G R S hpo hM hS => ?_)
                    obtain ⟨hIF, hIG, hIR, hfr9, hrr9, hgr9, hpo238, hx239, hx240⟩ := hpo
                    have hFF := mz_fr (K := [14, 15, 16, 18, 19, 23, 29, 30]) (Fa := Fa) hfr9 hFF (by decide)
                    have hRR := mz_fr (K := [24, 25, 27, 28]) (Fa := Ra) hrr9 hRR (by decide)
                    have hGG := mz_fr (K := [17]) (Fa := Ga) hgr9 hGG (by decide)
                    have hg_3 := (hfr9 13 (by decide)).trans hg_3
                    have hf213 := (hfr9 14 (by decide)).trans hf213
                    have hf215 := (hfr9 15 (by decide)).trans hf215
                    have hf217 := (hfr9 16 (by decide)).trans hf217
                    have hf219 := (hgr9 17 (by decide)).trans hf219
                    have hf221 := (hfr9 19 (by decide)).trans hf221
                    have hf234 := (hfr9 23 (by decide)).trans hf234
                    obtain ⟨v243, hf242⟩ : ∃ z : Int32, F 29 = z := ⟨_, rfl⟩
                    have hq_v243 := tk_rng v243
                    rw [hf242] at hpo238
                    have hr_v243 : 0 ≤ v243.toInt ∧ v243.toInt ≤ 400 := hIF.at hf242
                    have hPI : PI (R 24) (R 25) (R 27) (R 28) zs v235.toInt.toNat v243.toInt.toNat 0 := (PI.push (o := v187) hPI (by omega) (by omega) ⟨by omega, by omega⟩ (by rw [if_pos (by omega)]; rfl) (Or.inr (Or.inr hSq)) hx239 hx240).to (hrr9 24 (by decide)) (hrr9 25 (by decide)) rfl rfl rfl (by omega)
                    have hLo := And.intro (hLo.1.to (hrr9 24 (by decide))) (hLo.2.to (hrr9 25 (by decide)))
                    have hSq : nSq (R 27) v243.toInt.toNat := (hSq.push hx239 (by omega)).to rfl (by omega)
                    refine lv_iconst (v := 1) hx hb dX13_behindSum_245 (by decide) ?_
                    have hk_1 : (1 : Int32).toInt = 1 := by decide
                    exact mz_iret (v := 1) hx hb hr rfl hlocks ⟨hIF, hIG, hIR, hFF, hRR, hGG, (by rw [hf213, hf215]; omega), (by rw [hf215]; omega), (by rw [hf213, hf215, hf217]; omega), (by rw [hf213, hf215, hf217, hf219]; omega), (by rw [hf213]; omega), (by rw [hf213, hf234, hf242]; omega), (by rw [hf234]; omega), (by rw [hf213, hf221]; omega), (by rw [hf213, hf221]; omega), (by omega), (by omega), (fun _ => ⟨PT.mk hPI (by decide) (fun h9 => absurd h9 (by decide)) (fun h9 => absurd h9 (by decide)) rfl rfl rfl rfl (by rw [hf234]) (by rw [hf242]), hLo⟩)⟩ hM hS dX13_behindSum_246
                refine lv_icmp_ne (tgt := 219) hx hb dX13_behindSum_207 (by decide) (fun c9 => ?_) (fun c9 => ?_)
                · have hc190 : ¬ (v187.toInt = 27) := fun h9 => c9 ((fi_eq rfl (show (27 : Int32).toInt = 27 by decide)).mpr h9)
                  have hwk_244 : gs.toInt + (-3) = 0 := by omega
                  have hwk_245 : 0 ≤ (-1) * gf.toInt + gt.toInt + (-1) := by omega
                  refine lv_iconst (v := 1) hx hb dX13_behindSum_219 (by decide) ?_
                  refine lv_goto (tgt := 224) hx hb dX13_behindSum_220 (by decide) ?_
                  have hk_1 : (1 : Int32).toInt = 1 := by decide
                  exact hj203 1 _ _ (by omega) (by omega) (by omega) (by omega) hM hS (by omega) _ (lv_sub hl [0, 1] rfl)
                · have hc190 : v187.toInt = 27 := (fi_eq rfl (show (27 : Int32).toInt = 27 by decide)).mp c9
                  refine lv_aload_n hx hb dX13_behindSum_210 rfl (lv_at hl 1 rfl) ?_
                  refine lv_bipush (v := 61) hx hb dX13_behindSum_211 (by decide) ?_
                  have hk_61 : (61 : Int32).toInt = 61 := by decide
                  refine mz_Vj (As := [.int 61]) (rest := [.ref am]) ⟨hx, hb, hml, hown, hts⟩ hK hM hS (k_X13_isSign l D cy ld ad am hD _ _ _ _ 61 gs hIF hIG hIR hg_2) ⟨callB_of 1 hts (wl_in mw_732) rfl rfl rfl (htl _ mw_5) (htl _ mw_729) hd_yX13_isSign ⟨(Nat.le_of_ble_eq_true rfl), (Nat.le_of_ble_eq_true rfl)⟩, htl _ mw_730, htl _ mw_731⟩ rfl hl.1 rfl (Nat.le_of_ble_eq_true rfl) dX13_behindSum_213 ⟨(Nat.le_of_ble_eq_true rfl), (Nat.le_of_ble_eq_true rfl)⟩ (fun v246 H locs hpo hM hS => ?_)
                  obtain ⟨hpo247, hpo248, hpo249, hpo250, hpo251⟩ := hpo
                  have hq_v246 := tk_rng v246
                  refine lv_if_eq (tgt := 223) hx hb dX13_behindSum_216 (by decide) (fun c9 => ?_) (fun c9 => ?_)
                  · have hc253 : v246.toInt = 0 := (fi_eq rfl (show (0 : Int32).toInt = 0 by decide)).mp c9
                    refine lv_iconst (v := 0) hx hb dX13_behindSum_223 (by decide) ?_
                    have hk_0 : (0 : Int32).toInt = 0 := by decide
                    exact hj203 0 _ _ (by omega) (by omega) (by omega) (by omega) hM hS (by omega) _ (lv_sub hl [0, 1] rfl)
                  · have hc253 : ¬ (v246.toInt = 0) := fun h9 => c9 ((fi_eq rfl (show (0 : Int32).toInt = 0 by decide)).mpr h9)
                    have hwk_254 : gs.toInt + (-3) = 0 := by omega
                    have hwk_255 : 0 ≤ (-1) * gf.toInt + gt.toInt + (-1) := by omega
                    refine lv_iconst (v := 1) hx hb dX13_behindSum_219 (by decide) ?_
                    refine lv_goto (tgt := 224) hx hb dX13_behindSum_220 (by decide) ?_
                    have hk_1 : (1 : Int32).toInt = 1 := by decide
                    exact hj203 1 _ _ (by omega) (by omega) (by omega) (by omega) hM hS (by omega) _ (lv_sub hl [0, 1] rfl)
              refine lv_if_eq (tgt := 186) hx hb dX13_behindSum_178 (by decide) (fun c9 => ?_) (fun c9 => ?_)
              · have hc176 : v169.toInt = 0 := (fi_eq rfl (show (0 : Int32).toInt = 0 by decide)).mp c9
                refine lv_aload_n hx hb dX13_behindSum_186 rfl (lv_at hl 2 rfl) ?_
                refine lv_bipush (v := 62) hx hb dX13_behindSum_187 (by decide) ?_
                have hk_62 : (62 : Int32).toInt = 62 := by decide
                refine mz_Vj (As := [.int 62]) (rest := []) ⟨hx, hb, hml, hown, hts⟩ hK hM hS (k_X13_isSign l D cy ld ad am hD _ _ _ _ 62 gs hIF hIG hIR hg_2) ⟨callB_of 1 hts (wl_in mw_732) rfl rfl rfl (htl _ mw_5) (htl _ mw_729) hd_yX13_isSign ⟨(Nat.le_of_ble_eq_true rfl), (Nat.le_of_ble_eq_true rfl)⟩, htl _ mw_730, htl _ mw_731⟩ rfl hl.1 rfl (Nat.le_of_ble_eq_true rfl) dX13_behindSum_189 ⟨(Nat.le_of_ble_eq_true rfl), (Nat.le_of_ble_eq_true rfl)⟩ (fun v256 H locs hpo hM hS => ?_)
                obtain ⟨hpo257, hpo258, hpo259, hpo260, hpo261⟩ := hpo
                have hq_v256 := tk_rng v256
                refine lv_if_eq (tgt := 200) hx hb dX13_behindSum_192 (by decide) (fun c9 => ?_) (fun c9 => ?_)
                · have hc263 : v256.toInt = 0 := (fi_eq rfl (show (0 : Int32).toInt = 0 by decide)).mp c9
                  refine lv_bipush (v := 27) hx hb dX13_behindSum_200 (by decide) ?_
                  have hk_27 : (27 : Int32).toInt = 27 := by decide
                  exact hj189 27 _ _ (by omega) (by omega) hM hS (by omega) _ (lv_sub hl [2] rfl)
                · have hc263 : ¬ (v256.toInt = 0) := fun h9 => c9 ((fi_eq rfl (show (0 : Int32).toInt = 0 by decide)).mpr h9)
                  have hwk_264 : gs.toInt + (-3) = 0 := by omega
                  have hwk_265 : 0 ≤ (-1) * gf.toInt + gt.toInt + (-1) := by omega
                  refine lv_bipush (v := 26) hx hb dX13_behindSum_195 (by decide) ?_
                  refine lv_goto (tgt := 202) hx hb dX13_behindSum_197 (by decide) ?_
                  have hk_26 : (26 : Int32).toInt = 26 := by decide
                  exact hj189 26 _ _ (by omega) (by omega) hM hS (by omega) _ (lv_sub hl [2] rfl)
              · have hc176 : ¬ (v169.toInt = 0) := fun h9 => c9 ((fi_eq rfl (show (0 : Int32).toInt = 0 by decide)).mpr h9)
                have hwk_266 : gs.toInt + (-3) = 0 := by omega
                have hwk_267 : 0 ≤ (-1) * gf.toInt + gt.toInt + (-1) := by omega
                refine lv_bipush (v := 25) hx hb dX13_behindSum_181 (by decide) ?_
                refine lv_goto (tgt := 202) hx hb dX13_behindSum_183 (by decide) ?_
                have hk_25 : (25 : Int32).toInt = 25 := by decide
                exact hj189 25 _ _ (by omega) (by omega) hM hS (by omega) _ (lv_sub hl [2] rfl)
            · have hc168 : ¬ (v162.toInt = 0) := fun h9 => c9 ((fi_eq rfl (show (0 : Int32).toInt = 0 by decide)).mpr h9)
              refine lv_iconst (v := 2) hx hb dX13_behindSum_170 (by decide) ?_
              have hk_2 : (2 : Int32).toInt = 2 := by decide
              exact mz_iret (v := 2) hx hb hr rfl hlocks ⟨hIF, hIG, hIR, (fun _ _ => rfl), (fun _ _ => rfl), (fun _ _ => rfl), (by rw [hg_0, hg_1]; omega), (by rw [hg_1]; omega), (by rw [hg_0, hg_1, hg_2]; omega), (by rw [hg_0, hg_1, hg_2, hg_4]; omega), (by rw [hg_0]; omega), (by rw [hg_0, hg_6, hg_7]; omega), (by rw [hg_6]; omega), (by rw [hg_0, hg_5]; omega), (by rw [hg_0, hg_5]; omega), (by omega), (by omega), (fun _ => ⟨PT.mk hPI (by decide) (fun _ => hSq) (fun h9 => absurd h9 (by decide)) rfl rfl rfl rfl (by rw [hg_6]) (by rw [hg_7]), hLo⟩)⟩ hM hS dX13_behindSum_171
          · have hc161 : p1.toInt = 0 := (fi_eq rfl (show (0 : Int32).toInt = 0 by decide)).mp c9
            refine lv_iconst (v := 4) hx hb dX13_behindSum_161 (by decide) ?_
            have hk_4 : (4 : Int32).toInt = 4 := by decide
            have hBr := hinn.1 (by omega)
            exact mz_iret (v := 4) hx hb hr rfl hlocks ⟨hIF, hIG, hIR, (fun _ _ => rfl), (fun _ _ => rfl), (fun _ _ => rfl), (by rw [hg_0, hg_1]; omega), (by rw [hg_1]; omega), (by rw [hg_0, hg_1, hg_2]; omega), (by rw [hg_0, hg_1, hg_2, hg_4]; omega), (by rw [hg_0]; omega), (by rw [hg_0, hg_6, hg_7]; omega), (by rw [hg_6]; omega), (by rw [hg_0, hg_5]; omega), (by rw [hg_0, hg_5]; omega), (by omega), (by omega), (fun _ => ⟨PT.mk hPI (by decide) (fun h9 => absurd h9 (by decide)) (fun _ => hBr) rfl rfl rfl rfl (by rw [hg_6]) (by rw [hg_7]), hLo⟩)⟩ hM hS dX13_behindSum_162
      · have hc53 : v50.toInt = 32 := (fi_eq rfl (show (32 : Int32).toInt = 32 by decide)).mp c9
        refine lv_aload_n hx hb dX13_behindSum_108 rfl (lv_at hl 2 rfl) ?_
        refine lv_aload_n hx hb dX13_behindSum_109 rfl (lv_at hl 2 rfl) ?_
        refine lv_bipush (v := 93) hx hb dX13_behindSum_110 (by decide) ?_
        have hk_93 : (93 : Int32).toInt = 93 := by decide
        refine mz_Vj (As := [.int 93]) (rest := [.ref am]) ⟨hx, hb, hml, hown, hts⟩ hK hM hS (k_X13_isSign l D cy ld ad am hD _ _ _ _ 93 gs hIF hIG hIR hg_2) ⟨callB_of 1 hts (wl_in mw_732) rfl rfl rfl (htl _ mw_5) (htl _ mw_729) hd_yX13_isSign ⟨(Nat.le_of_ble_eq_true rfl), (Nat.le_of_ble_eq_true rfl)⟩, htl _ mw_730, htl _ mw_731⟩ rfl hl.1 rfl (Nat.le_of_ble_eq_true rfl) dX13_behindSum_112 ⟨(Nat.le_of_ble_eq_true rfl), (Nat.le_of_ble_eq_true rfl)⟩ (fun v268 H locs hpo hM hS => ?_)
        obtain ⟨hpo269, hpo270, hpo271, hpo272, hpo273⟩ := hpo
        have hq_v268 := tk_rng v268
        refine mz_Vv (As := [.int v268]) (rest := []) ⟨hx, hb, hml, hown, hts⟩ hK hM hS (k_X13_must l D cy ld ad am hD _ _ _ _ v268 gf gt gs gp gw gb hIF hIG hIR hg_0 hg_1 hg_2 hg_3 hg_4 hg_5 (by omega) (by omega) (by omega) (by omega) (by omega) (by omega)) ⟨callB_of 1 hts (wl_in mw_713) rfl rfl rfl (htl _ mw_5) (htl _ mw_710) hd_yX13_must ⟨(Nat.le_of_ble_eq_true rfl), (Nat.le_of_ble_eq_true rfl)⟩, htl _ mw_711, htl _ mw_712⟩ rfl hl.1 rfl (Nat.le_of_ble_eq_true rfl) dX13_behindSum_115 ⟨(Nat.le_of_ble_eq_true rfl), (Nat.le_of_ble_eq_true rfl)⟩ (fun H locs F G R S hpo hM hS => ?_)
        obtain ⟨hIF, hIG, hIR, hfr9, hrr9, hgr9, hpo275, hpo276, hpo277, hpo278, hpo279, hpo280, hpo281, hpo282⟩ := hpo
        have hFF := mz_fr (K := [14, 15, 16, 18, 19, 23, 29, 30]) (Fa := Fa) hfr9 (fun _ _ => rfl) (by decide)
        have hRR := mz_fr (K := [24, 25, 27, 28]) (Fa := Ra) hrr9 (fun _ _ => rfl) (by decide)
        have hGG := mz_fr (K := [17]) (Fa := Ga) hgr9 (fun _ _ => rfl) (by decide)
        have hg_3 := (hfr9 13 (by decide)).trans hg_3
        have hg_6 := (hfr9 23 (by decide)).trans hg_6
        have hg_7 := (hfr9 29 (by decide)).trans hg_7
        obtain ⟨v285, hf284⟩ : ∃ z : Int32, F 14 = z := ⟨_, rfl⟩
        have hq_v285 := tk_rng v285
        rw [hf284] at hpo275 hpo277 hpo278 hpo279 hpo281
        have hr_v285 : 0 ≤ v285.toInt ∧ v285.toInt ≤ 400 := hIF.at hf284
        obtain ⟨v287, hf286⟩ : ∃ z : Int32, F 15 = z := ⟨_, rfl⟩
        have hq_v287 := tk_rng v287
        rw [hf286] at hpo275 hpo276 hpo277 hpo278
        have hr_v287 : 0 ≤ v287.toInt ∧ v287.toInt ≤ 400 := hIF.at hf286
        obtain ⟨v289, hf288⟩ : ∃ z : Int32, F 16 = z := ⟨_, rfl⟩
        have hq_v289 := tk_rng v289
        rw [hf288] at hpo277 hpo278
        have hr_v289 : 0 ≤ v289.toInt ∧ v289.toInt ≤ 3 := hIF.at hf288
        obtain ⟨w291, hf290⟩ : ∃ z : Int64, G 17 = z := ⟨_, rfl⟩
        have hq_w291 := tk_rngL w291
        rw [hf290] at hpo278
        obtain ⟨v293, hf292⟩ : ∃ z : Int32, F 19 = z := ⟨_, rfl⟩
        have hq_v293 := tk_rng v293
        rw [hf292] at hpo280 hpo281 hpo282
        have hr_v293 : 0 ≤ v293.toInt ∧ v293.toInt ≤ 1 := hIF.at hf292
        have hPI := hPI.to (hrr9 24 (by decide)) (hrr9 25 (by decide)) (hrr9 27 (by decide)) (hrr9 28 (by decide)) rfl rfl
        have hLo := And.intro (hLo.1.to (hrr9 24 (by decide))) (hLo.2.to (hrr9 25 (by decide)))
        have hinn0 := hinn
        have hinn : inn (R 27) gd.toInt.toNat v50.toInt := by rw [hrr9 27 (by decide)]; exact hinn0
        refine lv_aload_n hx hb dX13_behindSum_118 rfl (lv_at hl 2 rfl) ?_
        refine mz_getI hx hb htl hown hK hM 19 (Nat.le_of_ble_eq_true rfl) rfl (htl _ mw_668) (fun _ h9 => h9) dX13_behindSum_119 (fun v9 e9 => ?_)
        refine fx_ti (v := v293) (e9.symm.trans hf292) ?_
        refine lv_if_ne (tgt := 150) hx hb dX13_behindSum_122 (by decide) (fun c9 => ?_) (fun c9 => ?_)
        · have hc294 : ¬ (v293.toInt = 0) := fun h9 => c9 ((fi_eq rfl (show (0 : Int32).toInt = 0 by decide)).mpr h9)
          refine lv_iconst (v := 3) hx hb dX13_behindSum_150 (by decide) ?_
          have hk_3 : (3 : Int32).toInt = 3 := by decide
          exact mz_iret (v := 3) hx hb hr rfl hlocks ⟨hIF, hIG, hIR, hFF, hRR, hGG, (by rw [hf284, hf286]; omega), (by rw [hf286]; omega), (by rw [hf284, hf286, hf288]; omega), (by rw [hf284, hf286, hf288, hf290]; omega), (by rw [hf284]; omega), (by rw [hf284, hg_6, hg_7]; omega), (by rw [hg_6]; omega), (by rw [hf284, hf292]; omega), (by rw [hf284, hf292]; omega), (by omega), (by omega), (by rw [hf292]; exact fun h9 => absurd h9 (by omega))⟩ hM hS dX13_behindSum_151
        · have hc294 : v293.toInt = 0 := (fi_eq rfl (show (0 : Int32).toInt = 0 by decide)).mp c9
          have hwk_295 : 0 ≤ (-1) * gt.toInt + v285.toInt ∧ 1 ≤ v268.toInt := by omega
          have hwk_296 : gs.toInt + (-3) = 0 := by omega
          have hwk_297 : 0 ≤ (-1) * gf.toInt + gt.toInt + (-1) := by omega
          refine lv_aload_n hx hb dX13_behindSum_125 rfl (lv_at hl 2 rfl) ?_
          refine lv_iconst (v := 5) hx hb dX13_behindSum_126 (by decide) ?_
          have hk_5 : (5 : Int32).toInt = 5 := by decide
          refine mz_Vv (As := [.int 5]) (rest := []) ⟨hx, hb, hml, hown, hts⟩ hK hM hS (k_X13_settle l D cy ld ad am hD _ _ _ _ 5 gc gd v293 zs hIF hIG hIR hg_6 hg_7 hf292 (by omega) (by omega) (by omega) (fun _ => hPI)) ⟨callB_of 1 hts (wl_in mw_773) rfl rfl rfl (htl _ mw_5) (htl _ mw_770) hd_yX13_settle ⟨(Nat.le_of_ble_eq_true rfl), (Nat.le_of_ble_eq_true rfl)⟩, htl _ mw_771, htl _ mw_772⟩ rfl hl.1 rfl (Nat.le_of_ble_eq_true rfl) dX13_behindSum_127 ⟨(Nat.le_of_ble_eq_true rfl), (Nat.le_of_ble_eq_true rfl)⟩ (fun H locs F G R S hpo hM hS => ?_)
          obtain ⟨hIF, hIG, hIR, hfr9, hrr9, hgr9, hpo298, hpo299, hpo300, hx301, hx302, hx303⟩ := hpo
          have hFF := mz_fr (K := [14, 15, 16, 18, 19, 23, 29, 30]) (Fa := Fa) hfr9 hFF (by decide)
          have hRR := mz_fr (K := [24, 25, 27, 28]) (Fa := Ra) hrr9 hRR (by decide)
          have hGG := mz_fr (K := [17]) (Fa := Ga) hgr9 hGG (by decide)
          have hg_3 := (hfr9 13 (by decide)).trans hg_3
          have hf284 := (hfr9 14 (by decide)).trans hf284
          have hf286 := (hfr9 15 (by decide)).trans hf286
          have hf288 := (hfr9 16 (by decide)).trans hf288
          have hf290 := (hgr9 17 (by decide)).trans hf290
          have hf292 := (hfr9 19 (by decide)).trans hf292
          obtain ⟨v306, hf305⟩ : ∃ z : Int32, F 23 = z := ⟨_, rfl⟩
          have hq_v306 := tk_rng v306
          rw [hf305] at hpo298 hpo300
          have hr_v306 : 0 ≤ v306.toInt ∧ v306.toInt ≤ 400 := hIF.at hf305
          obtain ⟨v308, hf307⟩ : ∃ z : Int32, F 29 = z := ⟨_, rfl⟩
          have hq_v308 := tk_rng v308
          rw [hf307] at hpo298 hpo299
          have hr_v308 : 0 ≤ v308.toInt ∧ v308.toInt ≤ 400 := hIF.at hf307
          have hs9 := hx301 (by omega)
          rw [hf305, hf307] at hs9
          have hPI : PI (R 24) (R 25) (R 27) (R 28) zs v306.toInt.toNat v308.toInt.toNat 1 := hs9.1
          have hLo := And.intro (hLo.1.trans hs9.2.1 (Nat.le_refl _)) (hLo.2.trans hs9.2.2 (Nat.le_refl _))
          rw [hf307] at hx302 hx303
          have hsb := hx302
          have hst := hx303
          have hinn0 := hinn
          have hinn : inn (R 27) gd.toInt.toNat v50.toInt := by rw [hrr9 27 (by decide)]; exact hinn0
          have e27 := hrr9 27 (by decide)
          obtain ⟨g1, j9, g2, g3, g4⟩ := hinn0.2 (by omega)
          have h1 := hsb j9 (by omega) (by omega)
          have hd1 : 1 ≤ v308.toInt := by omega
          have htp : 31 ≤ (R 27 (v308.toInt - 1).toNat).toInt := PI.top5 (j := j9) (hPI.to rfl rfl rfl rfl rfl (by omega)) (by omega) (by rw [e27]; omega) (by rw [e27]; exact (hst hd1).2 (by decide))
          have hPI := PI.popbr (pd := (v308.toInt - 1).toNat) (hPI.to rfl rfl rfl rfl rfl (by omega)) htp
          refine lv_aload_n hx hb dX13_behindSum_130 rfl (lv_at hl 2 rfl) ?_
          refine lv_dup hx hb dX13_behindSum_131 rfl ?_
          refine mz_getI hx hb htl hown hK hM 29 (Nat.le_of_ble_eq_true rfl) rfl (htl _ mw_718) (fun _ h9 => h9) dX13_behindSum_132 (fun v9 e9 => ?_)
          refine fx_ti (v := v308) (e9.symm.trans hf307) ?_
          refine lv_iconst (v := 1) hx hb dX13_behindSum_135 (by decide) ?_
          refine lv_isub hx hb dX13_behindSum_136 ?_
          refine tk_sub rfl (show (1 : Int32).toInt = 1 by decide) (by omega) (by omega) (fun v309 h_v309 => ?_)
          refine mz_putI (ty := .int) (x := v309) hx hb htl hown hK hD hM hS 29 (Nat.le_of_ble_eq_true rfl) rfl (htl _ mw_718) (fun _ h9 => h9) rfl (tyX13_ok 29 (by decide)) rfl rfl dX13_behindSum_137 (fun H locs F hM hS hf9 hj9 => ?_)
          have hIF := hIF.put hf9 hj9 (show 0 ≤ (v309 : Int32).toInt by omega) (show (v309 : Int32).toInt ≤ 400 by omega) (by decide)
          have hFF := mz_frp (K := [14, 15, 16, 18, 19, 23, 29, 30]) (Fa := Fa) hj9 hFF (by decide)
          have hg_3 := (hj9 13 (by decide)).trans hg_3
          have hf284 := (hj9 14 (by decide)).trans hf284
          have hf286 := (hj9 15 (by decide)).trans hf286
          have hf288 := (hj9 16 (by decide)).trans hf288
          have hf292 := (hj9 19 (by decide)).trans hf292
          have hf305 := (hj9 23 (by decide)).trans hf305
          have hf311 := hf9
          have hPI : PI (R 24) (R 25) (R 27) (R 28) zs v306.toInt.toNat v309.toInt.toNat 1 := hPI.to rfl rfl rfl rfl rfl (by omega)
          refine lv_aload_n hx hb dX13_behindSum_140 rfl (lv_at hl 2 rfl) ?_
          refine lv_dup hx hb dX13_behindSum_141 rfl ?_
          refine mz_getI hx hb htl hown hK hM 30 (Nat.le_of_ble_eq_true rfl) rfl (htl _ mw_719) (fun _ h9 => h9) dX13_behindSum_142 (fun v313 hf312 => ?_)
          have hq_v313 := tk_rng v313
          refine lv_iconst (v := 1) hx hb dX13_behindSum_145 (by decide) ?_
          refine lv_isub hx hb dX13_behindSum_146 ?_
          obtain ⟨v314, hm_v314⟩ : ∃ z : Int32, v313 - 1 = z := ⟨_, rfl⟩
          refine fx_ti hm_v314 ?_
          refine mz_putI (ty := .int) (x := v314) hx hb htl hown hK hD hM hS 30 (Nat.le_of_ble_eq_true rfl) rfl (htl _ mw_719) (fun _ h9 => h9) rfl (tyX13_ok 30 (by decide)) rfl rfl dX13_behindSum_147 (fun H locs F hM hS hf9 hj9 => ?_)
          have hIF := hIF.put hf9 hj9 (tk_rng _).1 (tk_rng _).2 (by decide)
          have hFF := mz_frp (K := [14, 15, 16, 18, 19, 23, 29, 30]) (Fa := Fa) hj9 hFF (by decide)
          have hg_3 := (hj9 13 (by decide)).trans hg_3
          have hf284 := (hj9 14 (by decide)).trans hf284
          have hf286 := (hj9 15 (by decide)).trans hf286
          have hf288 := (hj9 16 (by decide)).trans hf288
          have hf292 := (hj9 19 (by decide)).trans hf292
          have hf305 := (hj9 23 (by decide)).trans hf305
          have hf311 := (hj9 29 (by decide)).trans hf311
          have hf316 := hf9
          refine lv_iconst (v := 3) hx hb dX13_behindSum_150 (by decide) ?_
          have hk_3 : (3 : Int32).toInt = 3 := by decide
          exact mz_iret (v := 3) hx hb hr rfl hlocks ⟨hIF, hIG, hIR, hFF, hRR, hGG, (by rw [hf284, hf286]; omega), (by rw [hf286]; omega), (by rw [hf284, hf286, hf288]; omega), (by rw [hf284, hf286, hf288, hf290]; omega), (by rw [hf284]; omega), (by rw [hf284, hf305, hf311]; omega), (by rw [hf305]; omega), (by rw [hf284, hf292]; omega), (by rw [hf284, hf292]; omega), (by omega), (by omega), (fun _ => ⟨PT.mk hPI (by decide) (fun h9 => absurd h9 (by decide)) (fun h9 => absurd h9 (by decide)) rfl rfl rfl rfl (by rw [hf305]) (by rw [hf311]), hLo⟩)⟩ hM hS dX13_behindSum_151
    · have hc49 : ¬ (v46.toInt = (-1)) := fun h9 => c9 ((fi_eq rfl (show ((-1) : Int32).toInt = (-1) by decide)).mpr h9)
      have hwk_317 : 20 ≤ v46.toInt ∧ gs.toInt + (-3) = 0 := by omega
      have hwk_318 : 0 ≤ (-1) * gf.toInt + gt.toInt + (-1) := by omega
      refine lv_aload_n hx hb dX13_behindSum_77 rfl (lv_at hl 1 rfl) ?_
      refine lv_iload_n hx hb dX13_behindSum_78 rfl (lv_at hl 0 rfl) ?_
      refine mz_Sj (As := [.int v46]) (rest := [.ref am]) ⟨hx, hb, hml, hown, hts⟩ hK hM hS (k_X13_binds l D cy ld ad am hD _ _ _ _ v46) ⟨callB_of 1 hts (wl_in mw_769) rfl rfl rfl (htl _ mw_5) (htl _ mw_767) hd_yX13_binds ⟨(Nat.le_of_ble_eq_true rfl), (Nat.le_of_ble_eq_true rfl)⟩, htl _ mw_768⟩ rfl hl.1 rfl (Nat.le_of_ble_eq_true rfl) dX13_behindSum_79 ⟨(Nat.le_of_ble_eq_true rfl), (Nat.le_of_ble_eq_true rfl)⟩ (fun v319 H locs hpo hM hS => ?_)
      obtain ⟨hpo320, hpo321, hpo322, hpo323, hpo324, hpo325⟩ := hpo
      have hq_v319 := tk_rng v319
      have hwk_327 : 1 ≤ v319.toInt := by omega
      refine mz_Vv (As := [.int v319]) (rest := []) ⟨hx, hb, hml, hown, hts⟩ hK hM hS (k_X13_settle l D cy ld ad am hD _ _ _ _ v319 gc gd gb zs hIF hIG hIR hg_6 hg_7 hg_5 (by omega) (by omega) (by omega) (fun _ => hPI)) ⟨callB_of 1 hts (wl_in mw_773) rfl rfl rfl (htl _ mw_5) (htl _ mw_770) hd_yX13_settle ⟨(Nat.le_of_ble_eq_true rfl), (Nat.le_of_ble_eq_true rfl)⟩, htl _ mw_771, htl _ mw_772⟩ rfl hl.1 rfl (Nat.le_of_ble_eq_true rfl) dX13_behindSum_82 ⟨(Nat.le_of_ble_eq_true rfl), (Nat.le_of_ble_eq_true rfl)⟩ (fun H locs F G R S hpo hM hS => ?_)
      obtain ⟨hIF, hIG, hIR, hfr9, hrr9, hgr9, hpo328, hpo329, hpo330, hx331, hx332, hx333⟩ := hpo
      have hFF := mz_fr (K := [14, 15, 16, 18, 19, 23, 29, 30]) (Fa := Fa) hfr9 (fun _ _ => rfl) (by decide)
      have hRR := mz_fr (K := [24, 25, 27, 28]) (Fa := Ra) hrr9 (fun _ _ => rfl) (by decide)
      have hGG := mz_fr (K := [17]) (Fa := Ga) hgr9 (fun _ _ => rfl) (by decide)
      have hg_0 := (hfr9 14 (by decide)).trans hg_0
      have hg_1 := (hfr9 15 (by decide)).trans hg_1
      have hg_2 := (hfr9 16 (by decide)).trans hg_2
      have hg_3 := (hfr9 13 (by decide)).trans hg_3
      have hg_4 := (hgr9 17 (by decide)).trans hg_4
      have hg_5 := (hfr9 19 (by decide)).trans hg_5
      obtain ⟨v336, hf335⟩ : ∃ z : Int32, F 23 = z := ⟨_, rfl⟩
      have hq_v336 := tk_rng v336
      rw [hf335] at hpo328 hpo330
      have hr_v336 : 0 ≤ v336.toInt ∧ v336.toInt ≤ 400 := hIF.at hf335
      obtain ⟨v338, hf337⟩ : ∃ z : Int32, F 29 = z := ⟨_, rfl⟩
      have hq_v338 := tk_rng v338
      rw [hf337] at hpo328 hpo329
      have hr_v338 : 0 ≤ v338.toInt ∧ v338.toInt ≤ 400 := hIF.at hf337
      have hs9 := hx331 (by omega)
      rw [hf335, hf337] at hs9
      have hPI : PI (R 24) (R 25) (R 27) (R 28) zs v336.toInt.toNat v338.toInt.toNat 1 := hs9.1
      have hLo := And.intro (hLo.1.trans hs9.2.1 (Nat.le_refl _)) (hLo.2.trans hs9.2.2 (Nat.le_refl _))
      rw [hf337] at hx332 hx333
      have hsb := hx332
      have hst := hx333
      refine lv_aload_n hx hb dX13_behindSum_85 rfl (lv_at hl 1 rfl) ?_
      refine lv_iload_n hx hb dX13_behindSum_86 rfl (lv_at hl 0 rfl) ?_
      refine lv_iconst (v := 0) hx hb dX13_behindSum_87 (by decide) ?_
      have hk_0 : (0 : Int32).toInt = 0 := by decide
      refine mz_Vv (As := [.int v46, .int 0]) (rest := []) ⟨hx, hb, hml, hown, hts⟩ hK hM hS (k_X13_push l D cy ld ad am hD _ _ _ _ v46 0 v338 hIF hIG hIR hf337 (by omega) (by omega) (by omega)) ⟨callB_of 2 hts (wl_in mw_728) rfl rfl rfl (htl _ mw_5) (htl _ mw_725) hd_yX13_push ⟨(Nat.le_of_ble_eq_true rfl), (Nat.le_of_ble_eq_true rfl)⟩, htl _ mw_726, htl _ mw_727⟩ rfl hl.1 rfl (Nat.le_of_ble_eq_true rfl) dX13_behindSum_88 ⟨(Nat.le_of_ble_eq_true rfl), (Nat.le_of_ble_eq_true rfl)⟩ (fun H locs F G R S hpo hM hS => ?_)
      obtain ⟨hIF, hIG, hIR, hfr9, hrr9, hgr9, hpo339, hx340, hx341⟩ := hpo
      have hFF := mz_fr (K := [14, 15, 16, 18, 19, 23, 29, 30]) (Fa := Fa) hfr9 hFF (by decide)
      have hRR := mz_fr (K := [24, 25, 27, 28]) (Fa := Ra) hrr9 hRR (by decide)
      have hGG := mz_fr (K := [17]) (Fa := Ga) hgr9 hGG (by decide)
      have hg_0 := (hfr9 14 (by decide)).trans hg_0
      have hg_1 := (hfr9 15 (by decide)).trans hg_1
      have hg_2 := (hfr9 16 (by decide)).trans hg_2
      have hg_3 := (hfr9 13 (by decide)).trans hg_3
      have hg_4 := (hgr9 17 (by decide)).trans hg_4
      have hg_5 := (hfr9 19 (by decide)).trans hg_5
      have hf335 := (hfr9 23 (by decide)).trans hf335
      obtain ⟨v344, hf343⟩ : ∃ z : Int32, F 29 = z := ⟨_, rfl⟩
      have hq_v344 := tk_rng v344
      rw [hf343] at hpo339
      have hr_v344 : 0 ≤ v344.toInt ∧ v344.toInt ≤ 400 := hIF.at hf343
      have hPI : PI (R 24) (R 25) (R 27) (R 28) zs v336.toInt.toNat v344.toInt.toNat 0 := (PI.push (o := v46) hPI (by omega) (by omega) ⟨by omega, by omega⟩ (by rw [if_pos (by omega)]; rfl) (Or.inl ⟨by omega, by omega⟩) hx340 hx341).to (hrr9 24 (by decide)) (hrr9 25 (by decide)) rfl rfl rfl (by omega)
      have hLo := And.intro (hLo.1.to (hrr9 24 (by decide))) (hLo.2.to (hrr9 25 (by decide)))
      refine lv_aload_n hx hb dX13_behindSum_91 rfl (lv_at hl 1 rfl) ?_
      refine mz_Vv (As := []) (rest := []) ⟨hx, hb, hml, hown, hts⟩ hK hM hS (k_X13_next l D cy ld ad am hD _ _ _ _ gt gp hIF hIG hIR hg_1 hg_3 (by omega)) ⟨callB_of 0 hts (wl_in mw_685) rfl rfl rfl (htl _ mw_5) (htl _ mw_682) hd_yX13_next ⟨(Nat.le_of_ble_eq_true rfl), (Nat.le_of_ble_eq_true rfl)⟩, htl _ mw_683, htl _ mw_684⟩ rfl hl.1 rfl (Nat.le_of_ble_eq_true rfl) dX13_behindSum_92 ⟨(Nat.le_of_ble_eq_true rfl), (Nat.le_of_ble_eq_true rfl)⟩ (fun H locs F G R S hpo hM hS => ?_)
      obtain ⟨hIF, hIG, hIR, hfr9, hrr9, hgr9, hpo345, hpo346, hpo347, hpo348, hpo349⟩ := hpo
      have hFF := mz_fr (K := [14, 15, 16, 18, 19, 23, 29, 30]) (Fa := Fa) hfr9 hFF (by decide)
      have hRR := mz_fr (K := [24, 25, 27, 28]) (Fa := Ra) hrr9 hRR (by decide)
      have hGG := mz_fr (K := [17]) (Fa := Ga) hgr9 hGG (by decide)
      have hg_3 := (hfr9 13 (by decide)).trans hg_3
      have hg_5 := (hfr9 19 (by decide)).trans hg_5
      have hf335 := (hfr9 23 (by decide)).trans hf335
      have hf343 := (hfr9 29 (by decide)).trans hf343
      obtain ⟨v352, hf351⟩ : ∃ z : Int32, F 14 = z := ⟨_, rfl⟩
      have hq_v352 := tk_rng v352
      rw [hf351] at hpo345 hpo346 hpo348 hpo349
      have hr_v352 : 0 ≤ v352.toInt ∧ v352.toInt ≤ 400 := hIF.at hf351
      obtain ⟨v354, hf353⟩ : ∃ z : Int32, F 15 = z := ⟨_, rfl⟩
      have hq_v354 := tk_rng v354
      rw [hf353] at hpo346 hpo347 hpo348 hpo349
      have hr_v354 : 0 ≤ v354.toInt ∧ v354.toInt ≤ 400 := hIF.at hf353
      obtain ⟨v356, hf355⟩ : ∃ z : Int32, F 16 = z := ⟨_, rfl⟩
      have hq_v356 := tk_rng v356
      rw [hf355] at hpo348 hpo349
      have hr_v356 : 0 ≤ v356.toInt ∧ v356.toInt ≤ 3 := hIF.at hf355
      obtain ⟨w358, hf357⟩ : ∃ z : Int64, G 17 = z := ⟨_, rfl⟩
      have hq_w358 := tk_rngL w358
      rw [hf357] at hpo349
      have hPI := hPI.to (hrr9 24 (by decide)) (hrr9 25 (by decide)) (hrr9 27 (by decide)) (hrr9 28 (by decide)) rfl rfl
      have hLo := And.intro (hLo.1.to (hrr9 24 (by decide))) (hLo.2.to (hrr9 25 (by decide)))
      refine lv_iconst (v := 1) hx hb dX13_behindSum_95 (by decide) ?_
      have hk_1 : (1 : Int32).toInt = 1 := by decide
      exact mz_iret (v := 1) hx hb hr rfl hlocks ⟨hIF, hIG, hIR, hFF, hRR, hGG, (by rw [hf351, hf353]; omega), (by rw [hf353]; omega), (by rw [hf351, hf353, hf355]; omega), (by rw [hf351, hf353, hf355, hf357]; omega), (by rw [hf351]; omega), (by rw [hf351, hf335, hf343]; omega), (by rw [hf335]; omega), (by rw [hf351, hg_5]; omega), (by rw [hf351, hg_5]; omega), (by omega), (by omega), (fun _ => ⟨PT.mk hPI (by decide) (fun h9 => absurd h9 (by decide)) (fun h9 => absurd h9 (by decide)) rfl rfl rfl rfl (by rw [hf335]) (by rw [hf343]), hLo⟩)⟩ hM hS dX13_behindSum_96
  refine lv_if_eq (tgt := 14) hx hb dX13_behindSum_6 (by decide) (fun c9 => ?_) (fun c9 => ?_)
  · have hc11 : v1.toInt = 0 := (fi_eq rfl (show (0 : Int32).toInt = 0 by decide)).mp c9
    refine lv_aload_n hx hb dX13_behindSum_14 rfl (lv_at hl 0 rfl) ?_
    refine lv_bipush (v := 45) hx hb dX13_behindSum_15 (by decide) ?_
    have hk_45 : (45 : Int32).toInt = 45 := by decide
    refine mz_Vj (As := [.int 45]) (rest := []) ⟨hx, hb, hml, hown, hts⟩ hK hM hS (k_X13_isSign l D cy ld ad am hD _ _ _ _ 45 gs hIF hIG hIR hg_2) ⟨callB_of 1 hts (wl_in mw_732) rfl rfl rfl (htl _ mw_5) (htl _ mw_729) hd_yX13_isSign ⟨(Nat.le_of_ble_eq_true rfl), (Nat.le_of_ble_eq_true rfl)⟩, htl _ mw_730, htl _ mw_731⟩ rfl hl.1 rfl (Nat.le_of_ble_eq_true rfl) dX13_behindSum_17 ⟨(Nat.le_of_ble_eq_true rfl), (Nat.le_of_ble_eq_true rfl)⟩ (fun v359 H locs hpo hM hS => ?_)
    obtain ⟨hpo360, hpo361, hpo362, hpo363, hpo364⟩ := hpo
    have hq_v359 := tk_rng v359
    refine lv_if_eq (tgt := 28) hx hb dX13_behindSum_20 (by decide) (fun c9 => ?_) (fun c9 => ?_)
    · have hc366 : v359.toInt = 0 := (fi_eq rfl (show (0 : Int32).toInt = 0 by decide)).mp c9
      refine lv_aload_n hx hb dX13_behindSum_28 rfl (lv_at hl 0 rfl) ?_
      refine lv_bipush (v := 42) hx hb dX13_behindSum_29 (by decide) ?_
      have hk_42 : (42 : Int32).toInt = 42 := by decide
      refine mz_Vj (As := [.int 42]) (rest := []) ⟨hx, hb, hml, hown, hts⟩ hK hM hS (k_X13_isSign l D cy ld ad am hD _ _ _ _ 42 gs hIF hIG hIR hg_2) ⟨callB_of 1 hts (wl_in mw_732) rfl rfl rfl (htl _ mw_5) (htl _ mw_729) hd_yX13_isSign ⟨(Nat.le_of_ble_eq_true rfl), (Nat.le_of_ble_eq_true rfl)⟩, htl _ mw_730, htl _ mw_731⟩ rfl hl.1 rfl (Nat.le_of_ble_eq_true rfl) dX13_behindSum_31 ⟨(Nat.le_of_ble_eq_true rfl), (Nat.le_of_ble_eq_true rfl)⟩ (fun v367 H locs hpo hM hS => ?_)
      obtain ⟨hpo368, hpo369, hpo370, hpo371, hpo372⟩ := hpo
      have hq_v367 := tk_rng v367
      refine lv_if_eq (tgt := 42) hx hb dX13_behindSum_34 (by decide) (fun c9 => ?_) (fun c9 => ?_)
      · have hc374 : v367.toInt = 0 := (fi_eq rfl (show (0 : Int32).toInt = 0 by decide)).mp c9
        refine lv_aload_n hx hb dX13_behindSum_42 rfl (lv_at hl 0 rfl) ?_
        refine lv_bipush (v := 47) hx hb dX13_behindSum_43 (by decide) ?_
        have hk_47 : (47 : Int32).toInt = 47 := by decide
        refine mz_Vj (As := [.int 47]) (rest := []) ⟨hx, hb, hml, hown, hts⟩ hK hM hS (k_X13_isSign l D cy ld ad am hD _ _ _ _ 47 gs hIF hIG hIR hg_2) ⟨callB_of 1 hts (wl_in mw_732) rfl rfl rfl (htl _ mw_5) (htl _ mw_729) hd_yX13_isSign ⟨(Nat.le_of_ble_eq_true rfl), (Nat.le_of_ble_eq_true rfl)⟩, htl _ mw_730, htl _ mw_731⟩ rfl hl.1 rfl (Nat.le_of_ble_eq_true rfl) dX13_behindSum_45 ⟨(Nat.le_of_ble_eq_true rfl), (Nat.le_of_ble_eq_true rfl)⟩ (fun v375 H locs hpo hM hS => ?_)
        obtain ⟨hpo376, hpo377, hpo378, hpo379, hpo380⟩ := hpo
        have hq_v375 := tk_rng v375
        refine lv_if_eq (tgt := 56) hx hb dX13_behindSum_48 (by decide) (fun c9 => ?_) (fun c9 => ?_)
        · have hc382 : v375.toInt = 0 := (fi_eq rfl (show (0 : Int32).toInt = 0 by decide)).mp c9
          refine lv_aload_n hx hb dX13_behindSum_56 rfl (lv_at hl 0 rfl) ?_
          refine lv_bipush (v := 37) hx hb dX13_behindSum_57 (by decide) ?_
          have hk_37 : (37 : Int32).toInt = 37 := by decide
          refine mz_Vj (As := [.int 37]) (rest := []) ⟨hx, hb, hml, hown, hts⟩ hK hM hS (k_X13_isSign l D cy ld ad am hD _ _ _ _ 37 gs hIF hIG hIR hg_2) ⟨callB_of 1 hts (wl_in mw_732) rfl rfl rfl (htl _ mw_5) (htl _ mw_729) hd_yX13_isSign ⟨(Nat.le_of_ble_eq_true rfl), (Nat.le_of_ble_eq_true rfl)⟩, htl _ mw_730, htl _ mw_731⟩ rfl hl.1 rfl (Nat.le_of_ble_eq_true rfl) dX13_behindSum_59 ⟨(Nat.le_of_ble_eq_true rfl), (Nat.le_of_ble_eq_true rfl)⟩ (fun v383 H locs hpo hM hS => ?_)
          obtain ⟨hpo384, hpo385, hpo386, hpo387, hpo388⟩ := hpo
          have hq_v383 := tk_rng v383
          refine lv_if_eq (tgt := 70) hx hb dX13_behindSum_62 (by decide) (fun c9 => ?_) (fun c9 => ?_)
          · have hc390 : v383.toInt = 0 := (fi_eq rfl (show (0 : Int32).toInt = 0 by decide)).mp c9
            refine lv_iconst (v := (-1)) hx hb dX13_behindSum_70 (by decide) ?_
            have hk_m1 : ((-1) : Int32).toInt = (-1) := by decide
            exact hj48 (-1) _ _ (by omega) (by omega) hM hS (by omega) _ (lv_sub hl [0, 1] rfl)
          · have hc390 : ¬ (v383.toInt = 0) := fun h9 => c9 ((fi_eq rfl (show (0 : Int32).toInt = 0 by decide)).mpr h9)
            have hwk_391 : gs.toInt + (-3) = 0 := by omega
            have hwk_392 : 0 ≤ (-1) * gf.toInt + gt.toInt + (-1) := by omega
            refine lv_bipush (v := 24) hx hb dX13_behindSum_65 (by decide) ?_
            refine lv_goto (tgt := 71) hx hb dX13_behindSum_67 (by decide) ?_
            have hk_24 : (24 : Int32).toInt = 24 := by decide
            exact hj48 24 _ _ (by omega) (by omega) hM hS (by omega) _ (lv_sub hl [0, 1] rfl)
        · have hc382 : ¬ (v375.toInt = 0) := fun h9 => c9 ((fi_eq rfl (show (0 : Int32).toInt = 0 by decide)).mpr h9)
          have hwk_393 : gs.toInt + (-3) = 0 := by omega
          have hwk_394 : 0 ≤ (-1) * gf.toInt + gt.toInt + (-1) := by omega
          refine lv_bipush (v := 23) hx hb dX13_behindSum_51 (by decide) ?_
          refine lv_goto (tgt := 71) hx hb dX13_behindSum_53 (by decide) ?_
          have hk_23 : (23 : Int32).toInt = 23 := by decide
          exact hj48 23 _ _ (by omega) (by omega) hM hS (by omega) _ (lv_sub hl [0, 1] rfl)
      · have hc374 : ¬ (v367.toInt = 0) := fun h9 => c9 ((fi_eq rfl (show (0 : Int32).toInt = 0 by decide)).mpr h9)
        have hwk_395 : gs.toInt + (-3) = 0 := by omega
        have hwk_396 : 0 ≤ (-1) * gf.toInt + gt.toInt + (-1) := by omega
        refine lv_bipush (v := 22) hx hb dX13_behindSum_37 (by decide) ?_
        refine lv_goto (tgt := 71) hx hb dX13_behindSum_39 (by decide) ?_
        have hk_22 : (22 : Int32).toInt = 22 := by decide
        exact hj48 22 _ _ (by omega) (by omega) hM hS (by omega) _ (lv_sub hl [0, 1] rfl)
    · have hc366 : ¬ (v359.toInt = 0) := fun h9 => c9 ((fi_eq rfl (show (0 : Int32).toInt = 0 by decide)).mpr h9)
      have hwk_397 : gs.toInt + (-3) = 0 := by omega
      have hwk_398 : 0 ≤ (-1) * gf.toInt + gt.toInt + (-1) := by omega
      refine lv_bipush (v := 21) hx hb dX13_behindSum_23 (by decide) ?_
      refine lv_goto (tgt := 71) hx hb dX13_behindSum_25 (by decide) ?_
      have hk_21 : (21 : Int32).toInt = 21 := by decide
      exact hj48 21 _ _ (by omega) (by omega) hM hS (by omega) _ (lv_sub hl [0, 1] rfl)
  · have hc11 : ¬ (v1.toInt = 0) := fun h9 => c9 ((fi_eq rfl (show (0 : Int32).toInt = 0 by decide)).mpr h9)
    have hwk_399 : gs.toInt + (-3) = 0 := by omega
    have hwk_400 : 0 ≤ (-1) * gf.toInt + gt.toInt + (-1) := by omega
    refine lv_bipush (v := 20) hx hb dX13_behindSum_9 (by decide) ?_
    refine lv_goto (tgt := 71) hx hb dX13_behindSum_11 (by decide) ?_
    have hk_20 : (20 : Int32).toInt = 20 := by decide
    exact hj48 20 _ _ (by omega) (by omega) hM hS (by omega) _ (lv_sub hl [0, 1] rfl)
