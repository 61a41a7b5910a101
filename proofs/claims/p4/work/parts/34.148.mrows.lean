theorem hd_yX13_sumOf : yX13_sumOf.cls ≠ "java/lang/invoke/MethodHandle" ∧ yX13_sumOf.cls ≠ "java/lang/invoke/VarHandle" ∧ (parseMethodDescriptor yX13_sumOf.desc).map (fun d => d.parameters.length) = some 1 := by decide +kernel
theorem dX13_run_0 : decode cX13_run 0 = .ok (.aload_n 0, 1) := by decide +kernel
theorem dX13_run_1 : decode cX13_run 1 = .ok (.getfield 104, 3) := by decide +kernel
theorem dX13_run_4 : decode cX13_run 4 = .ok (.iconst 1, 1) := by decide +kernel
theorem dX13_run_5 : decode cX13_run 5 = .ok (.aload_n 0, 1) := by decide +kernel
theorem dX13_run_6 : decode cX13_run 6 = .ok (.iconst 0, 1) := by decide +kernel
theorem dX13_run_7 : decode cX13_run 7 = .ok (.invokevirtual 412, 3) := by decide +kernel
theorem dX13_run_10 : decode cX13_run 10 = .ok (.i2l, 1) := by decide +kernel
theorem dX13_run_11 : decode cX13_run 11 = .ok (.lastore, 1) := by decide +kernel
theorem dX13_run_12 : decode cX13_run 12 = .ok (.aload_n 0, 1) := by decide +kernel
theorem dX13_run_13 : decode cX13_run 13 = .ok (.getfield 104, 3) := by decide +kernel
theorem dX13_run_16 : decode cX13_run 16 = .ok (.iconst 2, 1) := by decide +kernel
theorem dX13_run_17 : decode cX13_run 17 = .ok (.aload_n 0, 1) := by decide +kernel
theorem dX13_run_18 : decode cX13_run 18 = .ok (.iconst 3, 1) := by decide +kernel
theorem dX13_run_19 : decode cX13_run 19 = .ok (.invokevirtual 194, 3) := by decide +kernel
theorem dX13_run_22 : decode cX13_run 22 = .ok (.i2l, 1) := by decide +kernel
theorem dX13_run_23 : decode cX13_run 23 = .ok (.lastore, 1) := by decide +kernel
theorem dX13_run_24 : decode cX13_run 24 = .ok (.aload_n 0, 1) := by decide +kernel
theorem dX13_run_25 : decode cX13_run 25 = .ok (.getfield 104, 3) := by decide +kernel
theorem dX13_run_28 : decode cX13_run 28 = .ok (.iconst 3, 1) := by decide +kernel
theorem dX13_run_29 : decode cX13_run 29 = .ok (.aload_n 0, 1) := by decide +kernel
theorem dX13_run_30 : decode cX13_run 30 = .ok (.iconst 4, 1) := by decide +kernel
theorem dX13_run_31 : decode cX13_run 31 = .ok (.invokevirtual 194, 3) := by decide +kernel
theorem dX13_run_34 : decode cX13_run 34 = .ok (.i2l, 1) := by decide +kernel
theorem dX13_run_35 : decode cX13_run 35 = .ok (.lastore, 1) := by decide +kernel
theorem dX13_run_36 : decode cX13_run 36 = .ok (.aload_n 0, 1) := by decide +kernel
theorem dX13_run_37 : decode cX13_run 37 = .ok (.getfield 104, 3) := by decide +kernel
theorem dX13_run_40 : decode cX13_run 40 = .ok (.iconst 4, 1) := by decide +kernel
theorem dX13_run_41 : decode cX13_run 41 = .ok (.aload_n 0, 1) := by decide +kernel
theorem dX13_run_42 : decode cX13_run 42 = .ok (.getfield 617, 3) := by decide +kernel
theorem dX13_run_45 : decode cX13_run 45 = .ok (.i2l, 1) := by decide +kernel
theorem dX13_run_46 : decode cX13_run 46 = .ok (.lastore, 1) := by decide +kernel
theorem dX13_run_47 : decode cX13_run 47 = .ok (.aload_n 0, 1) := by decide +kernel
theorem dX13_run_48 : decode cX13_run 48 = .ok (.getfield 104, 3) := by decide +kernel
theorem dX13_run_51 : decode cX13_run 51 = .ok (.iconst 5, 1) := by decide +kernel
theorem dX13_run_52 : decode cX13_run 52 = .ok (.aload_n 0, 1) := by decide +kernel
theorem dX13_run_53 : decode cX13_run 53 = .ok (.getfield 620, 3) := by decide +kernel
theorem dX13_run_56 : decode cX13_run 56 = .ok (.i2l, 1) := by decide +kernel
theorem dX13_run_57 : decode cX13_run 57 = .ok (.lastore, 1) := by decide +kernel
theorem dX13_run_58 : decode cX13_run 58 = .ok (.aload_n 0, 1) := by decide +kernel
theorem dX13_run_59 : decode cX13_run 59 = .ok (.iconst 0, 1) := by decide +kernel
theorem dX13_run_60 : decode cX13_run 60 = .ok (.putfield 614, 3) := by decide +kernel
theorem dX13_run_63 : decode cX13_run 63 = .ok (.aload_n 0, 1) := by decide +kernel
theorem dX13_run_64 : decode cX13_run 64 = .ok (.getfield 149, 3) := by decide +kernel
theorem dX13_run_67 : decode cX13_run 67 = .ok (.iload_n 1, 1) := by decide +kernel
theorem dX13_run_68 : decode cX13_run 68 = .ok (.bipush 7, 2) := by decide +kernel
theorem dX13_run_70 : decode cX13_run 70 = .ok (.iadd, 1) := by decide +kernel
theorem dX13_run_71 : decode cX13_run 71 = .ok (.iaload, 1) := by decide +kernel
theorem dX13_run_72 : decode cX13_run 72 = .ok (.aload_n 0, 1) := by decide +kernel
theorem dX13_run_73 : decode cX13_run 73 = .ok (.getfield 149, 3) := by decide +kernel
theorem dX13_run_76 : decode cX13_run 76 = .ok (.iload_n 1, 1) := by decide +kernel
theorem dX13_run_77 : decode cX13_run 77 = .ok (.bipush 8, 2) := by decide +kernel
theorem dX13_run_79 : decode cX13_run 79 = .ok (.iadd, 1) := by decide +kernel
theorem dX13_run_80 : decode cX13_run 80 = .ok (.iaload, 1) := by decide +kernel
theorem dX13_run_81 : decode cX13_run 81 = .ok (.if_icmp .ge 25, 3) := by decide +kernel
theorem dX13_run_106 : decode cX13_run 106 = .ok (.aload_n 0, 1) := by decide +kernel
theorem dX13_run_107 : decode cX13_run 107 = .ok (.iload_n 1, 1) := by decide +kernel
theorem dX13_run_108 : decode cX13_run 108 = .ok (.iconst 1, 1) := by decide +kernel
theorem dX13_run_109 : decode cX13_run 109 = .ok (.iadd, 1) := by decide +kernel
theorem dX13_run_110 : decode cX13_run 110 = .ok (.invokevirtual 623, 3) := by decide +kernel
theorem dX13_run_113 : decode cX13_run 113 = .ok (.istore_n 2, 1) := by decide +kernel
theorem dX13_run_114 : decode cX13_run 114 = .ok (.aload_n 0, 1) := by decide +kernel
theorem dX13_run_115 : decode cX13_run 115 = .ok (.iload_n 1, 1) := by decide +kernel
theorem dX13_run_116 : decode cX13_run 116 = .ok (.iconst 3, 1) := by decide +kernel
theorem dX13_run_117 : decode cX13_run 117 = .ok (.iadd, 1) := by decide +kernel
theorem dX13_run_118 : decode cX13_run 118 = .ok (.invokevirtual 623, 3) := by decide +kernel
theorem dX13_run_121 : decode cX13_run 121 = .ok (.istore_n 3, 1) := by decide +kernel
theorem dX13_run_122 : decode cX13_run 122 = .ok (.aload_n 0, 1) := by decide +kernel
theorem dX13_run_123 : decode cX13_run 123 = .ok (.iload_n 1, 1) := by decide +kernel
theorem dX13_run_124 : decode cX13_run 124 = .ok (.iconst 5, 1) := by decide +kernel
theorem dX13_run_125 : decode cX13_run 125 = .ok (.iadd, 1) := by decide +kernel
theorem dX13_run_126 : decode cX13_run 126 = .ok (.invokevirtual 623, 3) := by decide +kernel
theorem dX13_run_129 : decode cX13_run 129 = .ok (.istore 4, 2) := by decide +kernel
theorem dX13_run_131 : decode cX13_run 131 = .ok (.aload_n 0, 1) := by decide +kernel
theorem dX13_run_132 : decode cX13_run 132 = .ok (.getfield 614, 3) := by decide +kernel
theorem dX13_run_135 : decode cX13_run 135 = .ok (.ifCond .eq 6, 3) := by decide +kernel
theorem dX13_run_141 : decode cX13_run 141 = .ok (.aload_n 0, 1) := by decide +kernel
theorem dX13_run_142 : decode cX13_run 142 = .ok (.getfield 149, 3) := by decide +kernel
theorem dX13_run_145 : decode cX13_run 145 = .ok (.iload_n 1, 1) := by decide +kernel
theorem dX13_run_146 : decode cX13_run 146 = .ok (.iaload, 1) := by decide +kernel
theorem dX13_run_147 : decode cX13_run 147 = .ok (.istore 5, 2) := by decide +kernel
theorem dX13_run_149 : decode cX13_run 149 = .ok (.iload 5, 2) := by decide +kernel
theorem dX13_run_151 : decode cX13_run 151 = .ok (.ifCond .ne 14, 3) := by decide +kernel
theorem dX13_run_165 : decode cX13_run 165 = .ok (.iload 5, 2) := by decide +kernel
theorem dX13_run_167 : decode cX13_run 167 = .ok (.iconst 1, 1) := by decide +kernel
theorem dX13_run_168 : decode cX13_run 168 = .ok (.if_icmp .ne 11, 3) := by decide +kernel
theorem dX13_run_179 : decode cX13_run 179 = .ok (.iload 5, 2) := by decide +kernel
theorem dX13_run_181 : decode cX13_run 181 = .ok (.iconst 2, 1) := by decide +kernel
theorem dX13_run_182 : decode cX13_run 182 = .ok (.if_icmp .ne 10, 3) := by decide +kernel
theorem dX13_run_192 : decode cX13_run 192 = .ok (.aload_n 0, 1) := by decide +kernel
theorem dX13_run_193 : decode cX13_run 193 = .ok (.invokevirtual 489, 3) := by decide +kernel
theorem dX13_run_196 : decode cX13_run 196 = .ok (.istore 6, 2) := by decide +kernel
theorem dX13_run_198 : decode cX13_run 198 = .ok (.iload 6, 2) := by decide +kernel
theorem dX13_run_200 : decode cX13_run 200 = .ok (.ifCond .ge 6, 3) := by decide +kernel
theorem dX13_run_206 : decode cX13_run 206 = .ok (.aload_n 0, 1) := by decide +kernel
theorem dX13_run_207 : decode cX13_run 207 = .ok (.iload 5, 2) := by decide +kernel
theorem dX13_run_209 : decode cX13_run 209 = .ok (.iconst 1, 1) := by decide +kernel
theorem dX13_run_210 : decode cX13_run 210 = .ok (.if_icmp .ne 8, 3) := by decide +kernel
theorem dX13_run_218 : decode cX13_run 218 = .ok (.aload_n 0, 1) := by decide +kernel
theorem dX13_run_219 : decode cX13_run 219 = .ok (.getfield 620, 3) := by decide +kernel
theorem dX13_run_222 : decode cX13_run 222 = .ok (.putfield 620, 3) := by decide +kernel
theorem dX13_run_225 : decode cX13_run 225 = .ok (.aload_n 0, 1) := by decide +kernel
theorem dX13_run_226 : decode cX13_run 226 = .ok (.dup, 1) := by decide +kernel
theorem dX13_run_227 : decode cX13_run 227 = .ok (.getfield 617, 3) := by decide +kernel
theorem dX13_run_230 : decode cX13_run 230 = .ok (.iconst 1, 1) := by decide +kernel
theorem dX13_run_231 : decode cX13_run 231 = .ok (.iadd, 1) := by decide +kernel
theorem dX13_run_232 : decode cX13_run 232 = .ok (.putfield 617, 3) := by decide +kernel
theorem dX13_run_235 : decode cX13_run 235 = .ok (.iconst 0, 1) := by decide +kernel
theorem dX13_run_236 : decode cX13_run 236 = .ok (.ireturn, 1) := by decide +kernel
theorem dX13_run_203 : decode cX13_run 203 = .ok (.bipush (-3), 2) := by decide +kernel
theorem dX13_run_205 : decode cX13_run 205 = .ok (.ireturn, 1) := by decide +kernel
theorem dX13_run_185 : decode cX13_run 185 = .ok (.aload_n 0, 1) := by decide +kernel
theorem dX13_run_186 : decode cX13_run 186 = .ok (.invokevirtual 483, 3) := by decide +kernel
theorem dX13_run_189 : decode cX13_run 189 = .ok (.goto 7, 3) := by decide +kernel
theorem dX13_run_171 : decode cX13_run 171 = .ok (.aload_n 0, 1) := by decide +kernel
theorem dX13_run_172 : decode cX13_run 172 = .ok (.iload_n 2, 1) := by decide +kernel
theorem dX13_run_173 : decode cX13_run 173 = .ok (.invokevirtual 480, 3) := by decide +kernel
theorem dX13_run_176 : decode cX13_run 176 = .ok (.goto 20, 3) := by decide +kernel
theorem dX13_run_213 : decode cX13_run 213 = .ok (.iload 6, 2) := by decide +kernel
theorem dX13_run_215 : decode cX13_run 215 = .ok (.goto 7, 3) := by decide +kernel
theorem dX13_run_154 : decode cX13_run 154 = .ok (.aload_n 0, 1) := by decide +kernel
theorem dX13_run_155 : decode cX13_run 155 = .ok (.iload_n 2, 1) := by decide +kernel
theorem dX13_run_156 : decode cX13_run 156 = .ok (.iload_n 3, 1) := by decide +kernel
theorem dX13_run_157 : decode cX13_run 157 = .ok (.iload 4, 2) := by decide +kernel
theorem dX13_run_159 : decode cX13_run 159 = .ok (.invokevirtual 462, 3) := by decide +kernel
theorem dX13_run_162 : decode cX13_run 162 = .ok (.goto 34, 3) := by decide +kernel
theorem dX13_run_138 : decode cX13_run 138 = .ok (.bipush (-3), 2) := by decide +kernel
theorem dX13_run_140 : decode cX13_run 140 = .ok (.ireturn, 1) := by decide +kernel
theorem dX13_run_84 : decode cX13_run 84 = .ok (.aload_n 0, 1) := by decide +kernel
theorem dX13_run_85 : decode cX13_run 85 = .ok (.iload_n 1, 1) := by decide +kernel
theorem dX13_run_86 : decode cX13_run 86 = .ok (.bipush 7, 2) := by decide +kernel
theorem dX13_run_88 : decode cX13_run 88 = .ok (.iadd, 1) := by decide +kernel
theorem dX13_run_89 : decode cX13_run 89 = .ok (.invokevirtual 623, 3) := by decide +kernel
theorem dX13_run_92 : decode cX13_run 92 = .ok (.istore_n 2, 1) := by decide +kernel
theorem dX13_run_93 : decode cX13_run 93 = .ok (.aload_n 0, 1) := by decide +kernel
theorem dX13_run_94 : decode cX13_run 94 = .ok (.getfield 614, 3) := by decide +kernel
theorem dX13_run_97 : decode cX13_run 97 = .ok (.ifCond .ne 7, 3) := by decide +kernel
theorem dX13_run_104 : decode cX13_run 104 = .ok (.iconst 0, 1) := by decide +kernel
theorem dX13_run_105 : decode cX13_run 105 = .ok (.ireturn, 1) := by decide +kernel
theorem dX13_run_100 : decode cX13_run 100 = .ok (.iload_n 2, 1) := by decide +kernel
theorem dX13_run_101 : decode cX13_run 101 = .ok (.ifCond .ne 5, 3) := by decide +kernel
set_option maxHeartbeats 4000000 in
set_option maxRecDepth 100000 in
theorem k_X13_run (l : Launch) (D : va_G) (cy : Nat → ClassId) (ld ad : Nat → Nat) (am : Nat) (hD : mz_D ad am) (Fa : Nat → Int32) (Ga : Nat → Int64) (Ra : Nat → Nat → Int32) (Sa : Nat → Nat → Int64) (p1 : Int32) (gd : Int32) (hIF : mz_IF true Fa) (hIG : mz_IG Ga) (hIR : mz_IR [] true Ra) (hg_0 : Fa 62 = gd) (hp_0 : 0 ≤ p1.toInt) (hp_1 : p1.toInt ≤ 110) (hp_2 : 0 ≤ gd.toInt) (hp_3 : gd.toInt ≤ 1000) (hx_0 : ∀ d : Nat, d ∈ [1, 3, 5, 7] → WFX (Ra 24) (Ra 25) (Ra 61 (p1.toInt.toNat + d)) (Ra 61 (p1.toInt.toNat + d + 1))) : Met l yX13_run (wl yX13_run cX13_run 7 (some .int)) ({ frames := 11, cells := 0, slots := 0, locals := 700 }) (mz_p D cy ld ad am Fa Ga Ra Sa [.ref am, .int p1]) (mz_i D cy ad am (fun r F G R S => mz_IF true F ∧ mz_IG G ∧ mz_IR [] true R ∧ (∀ k : Nat, k ∉ ([8, 20, 34, 38, 41, 62, 63, 65] : List Nat) → F k = Fa k) ∧ (∀ k : Nat, k ∉ ([3, 6, 7, 42] : List Nat) → R k = Ra k) ∧ (∀ k : Nat, k ∉ ([39, 40] : List Nat) → G k = Ga k) ∧ rK1 (Ra 3) (R 3) ∧ (-3) ≤ r.toInt ∧ r.toInt ≤ 0 ∧ 0 ≤ (-1) * gd.toInt + (F 62).toInt ∧ 0 ≤ gd.toInt + (-1) * (F 62).toInt + 1)) 0 0 (mz_W ad am) := by
  refine mz_met (y := yX13_run) (cc := cX13_run) (maxL := 7) (ret := (some .int)) (av := [.ref am, .int p1]) _ (by decide) (Nat.le_of_ble_eq_true rfl) ?_
  intro p e s m args below meth c hx hb hr hml hts htl hown hlocks hK H locs hM hS ls hl
  have hown : s.vm.findClass RX13 = some m.cls := hown
  have hl : lv_has ls 7 [(0, .ref am), (1, .int p1)] := hl
  have hr_p1 := tk_rng p1
  have hq_gd := tk_rng gd
  refine lv_aload_n hx hb dX13_run_0 rfl (lv_at hl 0 rfl) ?_
  refine mz_getR hx hb htl hown hK hM 36 (Nat.le_of_ble_eq_true rfl) (Nat.le_of_ble_eq_true rfl) (htl _ mw_224) (fun _ h9 => h9) dX13_run_1 ?_
  refine lv_iconst (v := 1) hx hb dX13_run_4 (by decide) ?_
  refine lv_aload_n hx hb dX13_run_5 rfl (lv_at hl 0 rfl) ?_
  refine lv_iconst (v := 0) hx hb dX13_run_6 (by decide) ?_
  obtain ⟨v2, hf1⟩ : ∃ z : Int32, Ra 3 6 = z := ⟨_, rfl⟩
  have hq_v2 := tk_rng v2
  have hk_0 : (0 : Int32).toInt = 0 := by decide
  refine mz_Vj (As := [.int 0]) (rest := [.int 1, .ref (ad 36)]) ⟨hx, hb, hml, hown, hts⟩ hK hM hS (k_X13_term_0 l D cy ld ad am hD _ _ _ _ v2 hf1) ⟨callB_of 1 hts (wl_in mw_1042) rfl rfl rfl (htl _ mw_5) (htl _ mw_1039) hd_yX13_term ⟨(Nat.le_of_ble_eq_true rfl), (Nat.le_of_ble_eq_true rfl)⟩, htl _ mw_1040, htl _ mw_1041⟩ rfl hl.1 rfl (Nat.le_of_ble_eq_true rfl) dX13_run_7 ⟨(Nat.le_of_ble_eq_true rfl), (Nat.le_of_ble_eq_true rfl)⟩ (fun v3 H locs hpo hM hS => ?_)
  have hpo4 := hpo
  have hq_v3 := tk_rng v3
  obtain ⟨w6, e_w6, h_w6⟩ : ∃ z : Int64, v3.toInt64 = z ∧ z.toInt = v3.toInt := ⟨_, rfl, fl_w _⟩
  refine lv_i2l (v := w6) hx hb dX13_run_10 e_w6 ?_
  have hk_1 : (1 : Int32).toInt = 1 := by decide
  refine mz_last (x := w6) hx hb hK hD hM hS 36 (Nat.le_of_ble_eq_true rfl) rfl (nn := 13) rfl (I := 1) (by decide) (by decide) (by decide) dX13_run_11 (fun H locs S hM hS _ _ => ?_)
  refine lv_aload_n hx hb dX13_run_12 rfl (lv_at hl 0 rfl) ?_
  refine mz_getR hx hb htl hown hK hM 36 (Nat.le_of_ble_eq_true rfl) (Nat.le_of_ble_eq_true rfl) (htl _ mw_224) (fun _ h9 => h9) dX13_run_13 ?_
  refine lv_iconst (v := 2) hx hb dX13_run_16 (by decide) ?_
  refine lv_aload_n hx hb dX13_run_17 rfl (lv_at hl 0 rfl) ?_
  refine lv_iconst (v := 3) hx hb dX13_run_18 (by decide) ?_
  obtain ⟨v12, hf11⟩ : ∃ z : Int32, Ra 3 15 = z := ⟨_, rfl⟩
  have hq_v12 := tk_rng v12
  have hr_v12 : (-1) ≤ v12.toInt ∧ v12.toInt ≤ 11 := by have h9 := hIR.d; unfold dO at h9; rw [hf11] at h9; omega
  have hk_3 : (3 : Int32).toInt = 3 := by decide
  refine mz_Vj (As := [.int 3]) (rest := [.int 2, .ref (ad 36)]) ⟨hx, hb, hml, hown, hts⟩ hK hM hS (k_X13_inDuel_3 l D cy ld ad am hD _ _ _ _ v12 hf11) ⟨callB_of 1 hts (wl_in mw_1046) rfl rfl rfl (htl _ mw_5) (htl _ mw_1043) hd_yX13_inDuel ⟨(Nat.le_of_ble_eq_true rfl), (Nat.le_of_ble_eq_true rfl)⟩, htl _ mw_1044, htl _ mw_1045⟩ rfl hl.1 rfl (Nat.le_of_ble_eq_true rfl) dX13_run_19 ⟨(Nat.le_of_ble_eq_true rfl), (Nat.le_of_ble_eq_true rfl)⟩ (fun v13 H locs hpo hM hS => ?_)
  have hpo14 := hpo
  have hq_v13 := tk_rng v13
  obtain ⟨w16, e_w16, h_w16⟩ : ∃ z : Int64, v13.toInt64 = z ∧ z.toInt = v13.toInt := ⟨_, rfl, fl_w _⟩
  refine lv_i2l (v := w16) hx hb dX13_run_22 e_w16 ?_
  have hk_2 : (2 : Int32).toInt = 2 := by decide
  refine mz_last (x := w16) hx hb hK hD hM hS 36 (Nat.le_of_ble_eq_true rfl) rfl (nn := 13) rfl (I := 2) (by decide) (by decide) (by decide) dX13_run_23 (fun H locs S hM hS _ _ => ?_)
  refine lv_aload_n hx hb dX13_run_24 rfl (lv_at hl 0 rfl) ?_
  refine mz_getR hx hb htl hown hK hM 36 (Nat.le_of_ble_eq_true rfl) (Nat.le_of_ble_eq_true rfl) (htl _ mw_224) (fun _ h9 => h9) dX13_run_25 ?_
  refine lv_iconst (v := 3) hx hb dX13_run_28 (by decide) ?_
  refine lv_aload_n hx hb dX13_run_29 rfl (lv_at hl 0 rfl) ?_
  refine lv_iconst (v := 4) hx hb dX13_run_30 (by decide) ?_
  obtain ⟨v19, hf18⟩ : ∃ z : Int32, Ra 3 16 = z := ⟨_, rfl⟩
  have hq_v19 := tk_rng v19
  have hr_v19 : (-1) ≤ v19.toInt ∧ v19.toInt ≤ 7 := by have h9 := hIR.d; unfold dO at h9; rw [hf18] at h9; omega
  have hk_4 : (4 : Int32).toInt = 4 := by decide
  refine mz_Vj (As := [.int 4]) (rest := [.int 3, .ref (ad 36)]) ⟨hx, hb, hml, hown, hts⟩ hK hM hS (k_X13_inDuel_4 l D cy ld ad am hD _ _ _ _ v19 hf18) ⟨callB_of 1 hts (wl_in mw_1046) rfl rfl rfl (htl _ mw_5) (htl _ mw_1043) hd_yX13_inDuel ⟨(Nat.le_of_ble_eq_true rfl), (Nat.le_of_ble_eq_true rfl)⟩, htl _ mw_1044, htl _ mw_1045⟩ rfl hl.1 rfl (Nat.le_of_ble_eq_true rfl) dX13_run_31 ⟨(Nat.le_of_ble_eq_true rfl), (Nat.le_of_ble_eq_true rfl)⟩ (fun v20 H locs hpo hM hS => ?_)
  have hpo21 := hpo
  have hq_v20 := tk_rng v20
  obtain ⟨w23, e_w23, h_w23⟩ : ∃ z : Int64, v20.toInt64 = z ∧ z.toInt = v20.toInt := ⟨_, rfl, fl_w _⟩
  refine lv_i2l (v := w23) hx hb dX13_run_34 e_w23 ?_
  have hk_3 : (3 : Int32).toInt = 3 := by decide
  refine mz_last (x := w23) hx hb hK hD hM hS 36 (Nat.le_of_ble_eq_true rfl) rfl (nn := 13) rfl (I := 3) (by decide) (by decide) (by decide) dX13_run_35 (fun H locs S hM hS _ _ => ?_)
  refine lv_aload_n hx hb dX13_run_36 rfl (lv_at hl 0 rfl) ?_
  refine mz_getR hx hb htl hown hK hM 36 (Nat.le_of_ble_eq_true rfl) (Nat.le_of_ble_eq_true rfl) (htl _ mw_224) (fun _ h9 => h9) dX13_run_37 ?_
  refine lv_iconst (v := 4) hx hb dX13_run_40 (by decide) ?_
  refine lv_aload_n hx hb dX13_run_41 rfl (lv_at hl 0 rfl) ?_
  refine mz_getI hx hb htl hown hK hM 62 (Nat.le_of_ble_eq_true rfl) rfl (htl _ mw_1009) (fun _ h9 => h9) dX13_run_42 (fun v9 e9 => ?_)
  refine fx_ti (v := gd) (e9.symm.trans hg_0) ?_
  obtain ⟨w25, e_w25, h_w25⟩ : ∃ z : Int64, gd.toInt64 = z ∧ z.toInt = gd.toInt := ⟨_, rfl, fl_w _⟩
  refine lv_i2l (v := w25) hx hb dX13_run_45 e_w25 ?_
  have hk_4 : (4 : Int32).toInt = 4 := by decide
  refine mz_last (x := w25) hx hb hK hD hM hS 36 (Nat.le_of_ble_eq_true rfl) rfl (nn := 13) rfl (I := 4) (by decide) (by decide) (by decide) dX13_run_46 (fun H locs S hM hS _ _ => ?_)
  refine lv_aload_n hx hb dX13_run_47 rfl (lv_at hl 0 rfl) ?_
  refine mz_getR hx hb htl hown hK hM 36 (Nat.le_of_ble_eq_true rfl) (Nat.le_of_ble_eq_true rfl) (htl _ mw_224) (fun _ h9 => h9) dX13_run_48 ?_
  refine lv_iconst (v := 5) hx hb dX13_run_51 (by decide) ?_
  refine lv_aload_n hx hb dX13_run_52 rfl (lv_at hl 0 rfl) ?_
  refine mz_getI hx hb htl hown hK hM 63 (Nat.le_of_ble_eq_true rfl) rfl (htl _ mw_1010) (fun _ h9 => h9) dX13_run_53 (fun v28 hf27 => ?_)
  have hq_v28 := tk_rng v28
  obtain ⟨w29, e_w29, h_w29⟩ : ∃ z : Int64, v28.toInt64 = z ∧ z.toInt = v28.toInt := ⟨_, rfl, fl_w _⟩
  refine lv_i2l (v := w29) hx hb dX13_run_56 e_w29 ?_
  have hk_5 : (5 : Int32).toInt = 5 := by decide
  refine mz_last (x := w29) hx hb hK hD hM hS 36 (Nat.le_of_ble_eq_true rfl) rfl (nn := 13) rfl (I := 5) (by decide) (by decide) (by decide) dX13_run_57 (fun H locs S hM hS _ _ => ?_)
  refine lv_aload_n hx hb dX13_run_58 rfl (lv_at hl 0 rfl) ?_
  refine lv_iconst (v := 0) hx hb dX13_run_59 (by decide) ?_
  have hk_0 : (0 : Int32).toInt = 0 := by decide
  have hk_0 : (0 : Int32).toInt = 0 := by decide
  refine mz_putI (ty := .boolean) (x := 0) hx hb htl hown hK hD hM hS 65 (Nat.le_of_ble_eq_true rfl) rfl (htl _ mw_1038) (fun _ h9 => h9) rfl (tyX13_ok 65 (by decide)) rfl rfl dX13_run_60 (fun H locs F hM hS hf9 hj9 => ?_)
  have hIF := hIF.put hf9 hj9 (show 0 ≤ (0 : Int32).toInt by omega) (show (0 : Int32).toInt ≤ 1 by omega) (by decide)
  have hFF := mz_frp (K := [8, 20, 34, 38, 41, 62, 63, 65]) (Fa := Fa) hj9 (fun _ _ => rfl) (by decide)
  have hg_0 := (hj9 62 (by decide)).trans hg_0
  have hf27 := (hj9 63 (by decide)).trans hf27
  have hf32 := hf9
  refine lv_aload_n hx hb dX13_run_63 rfl (lv_at hl 0 rfl) ?_
  refine mz_getR hx hb htl hown hK hM 61 (Nat.le_of_ble_eq_true rfl) (Nat.le_of_ble_eq_true rfl) (htl _ mw_239) (fun _ h9 => h9) dX13_run_64 ?_
  refine lv_iload_n hx hb dX13_run_67 rfl (lv_at hl 1 rfl) ?_
  refine lv_bipush (v := 7) hx hb dX13_run_68 (by decide) ?_
  refine lv_iadd hx hb dX13_run_70 ?_
  refine tk_add rfl (show (7 : Int32).toInt = 7 by decide) (by omega) (by omega) (fun v33 h_v33 => ?_)
  refine mz_iald hx hb hK hM 61 (Nat.le_of_ble_eq_true rfl) rfl (nn := 120) rfl rfl (by omega) (by omega) dX13_run_71 (fun v34 e_v34 => ?_)
  have hq_v34 := tk_rng v34
  refine lv_aload_n hx hb dX13_run_72 rfl (lv_at hl 0 rfl) ?_
  refine mz_getR hx hb htl hown hK hM 61 (Nat.le_of_ble_eq_true rfl) (Nat.le_of_ble_eq_true rfl) (htl _ mw_239) (fun _ h9 => h9) dX13_run_73 ?_
  refine lv_iload_n hx hb dX13_run_76 rfl (lv_at hl 1 rfl) ?_
  refine lv_bipush (v := 8) hx hb dX13_run_77 (by decide) ?_
  refine lv_iadd hx hb dX13_run_79 ?_
  refine tk_add rfl (show (8 : Int32).toInt = 8 by decide) (by omega) (by omega) (fun v35 h_v35 => ?_)
  refine mz_iald hx hb hK hM 61 (Nat.le_of_ble_eq_true rfl) rfl (nn := 120) rfl rfl (by omega) (by omega) dX13_run_80 (fun v36 e_v36 => ?_)
  have hq_v36 := tk_rng v36
  refine lv_icmp_ge (tgt := 106) hx hb dX13_run_81 (by decide) (fun c9 => ?_) (fun c9 => ?_)
  · have hc37 : v36.toInt ≤ v34.toInt := (fi_le rfl rfl).mp c9
    refine lv_aload_n hx hb dX13_run_106 rfl (lv_at hl 0 rfl) ?_
    refine lv_iload_n hx hb dX13_run_107 rfl (lv_at hl 1 rfl) ?_
    refine lv_iconst (v := 1) hx hb dX13_run_108 (by decide) ?_
    refine lv_iadd hx hb dX13_run_109 ?_
    refine tk_add rfl (show (1 : Int32).toInt = 1 by decide) (by omega) (by omega) (fun v38 h_v38 => ?_)
    refine mz_Vi (As := [.int v38]) (rest := []) ⟨hx, hb, hml, hown, hts⟩ hK hM hS (k_X13_sumOf l D cy ld ad am hD _ _ _ _ v38 hIF hIG hIR (by omega) (by omega) (by have h9 := hx_0 1 (by decide); rw [show p1.toInt.toNat + 1 = v38.toInt.toNat by omega] at h9; exact h9)) ⟨callB_of 1 hts (wl_in mw_1050) rfl rfl rfl (htl _ mw_5) (htl _ mw_1047) hd_yX13_sumOf ⟨(Nat.le_of_ble_eq_true rfl), (Nat.le_of_ble_eq_true rfl)⟩, htl _ mw_1048, htl _ mw_1049⟩ rfl hl.1 rfl (Nat.le_of_ble_eq_true rfl) dX13_run_110 ⟨(Nat.le_of_ble_eq_true rfl), (Nat.le_of_ble_eq_true rfl)⟩ (fun v39 H locs F G R S hpo hM hS => ?_)
    obtain ⟨hIF, hIG, hIR, hfr9, hrr9, hgr9⟩ := hpo
    have hq_v39 := tk_rng v39
    have hFF := mz_fr (K := [8, 20, 34, 38, 41, 62, 63, 65]) (Fa := Fa) hfr9 hFF (by decide)
    have hRR := mz_fr (K := [3, 6, 7, 42]) (Fa := Ra) hrr9 (fun _ _ => rfl) (by decide)
    have hGG := mz_fr (K := [39, 40]) (Fa := Ga) hgr9 (fun _ _ => rfl) (by decide)
    have hrel : rK1 (Ra 3) (R 3) := (rK1.refl rfl).trans (rK1.refl (hrr9 3 (by decide)))
    have e_v34 : R 61 (v33 : Int32).toNatClampNeg = _ := (congrFun (hrr9 61 (by decide)) _).trans e_v34
    have e_v36 : R 61 (v35 : Int32).toNatClampNeg = _ := (congrFun (hrr9 61 (by decide)) _).trans e_v36
    have hg_0 := (hfr9 62 (by decide)).trans hg_0
    have hf1 : R 3 6 = _ := (congrFun (hrr9 3 (by decide)) 6).trans hf1
    have hf11 : R 3 15 = _ := (congrFun (hrr9 3 (by decide)) 15).trans hf11
    have hf18 : R 3 16 = _ := (congrFun (hrr9 3 (by decide)) 16).trans hf18
    have hf27 := (hfr9 63 (by decide)).trans hf27
    refine lv_istore_n (lv' := [(2, .int v39), (0, .ref am), (1, .int p1)]) hx hb dX13_run_113 rfl hl (by decide) rfl (fun ls hl => ?_)
    refine lv_aload_n hx hb dX13_run_114 rfl (lv_at hl 1 rfl) ?_
    refine lv_iload_n hx hb dX13_run_115 rfl (lv_at hl 2 rfl) ?_
    refine lv_iconst (v := 3) hx hb dX13_run_116 (by decide) ?_
    refine lv_iadd hx hb dX13_run_117 ?_
    refine tk_add rfl (show (3 : Int32).toInt = 3 by decide) (by omega) (by omega) (fun v41 h_v41 => ?_)
    refine mz_Vi (As := [.int v41]) (rest := []) ⟨hx, hb, hml, hown, hts⟩ hK hM hS (k_X13_sumOf l D cy ld ad am hD _ _ _ _ v41 hIF hIG hIR (by omega) (by omega) (by have h9 := hx_0 3 (by decide); rw [show p1.toInt.toNat + 3 = v41.toInt.toNat by omega] at h9; rw [hRR 24 (by decide), hRR 25 (by decide), hRR 61 (by decide)]; exact h9)) ⟨callB_of 1 hts (wl_in mw_1050) rfl rfl rfl (htl _ mw_5) (htl _ mw_1047) hd_yX13_sumOf ⟨(Nat.le_of_ble_eq_true rfl), (Nat.le_of_ble_eq_true rfl)⟩, htl _ mw_1048, htl _ mw_1049⟩ rfl hl.1 rfl (Nat.le_of_ble_eq_true rfl) dX13_run_118 ⟨(Nat.le_of_ble_eq_true rfl), (Nat.le_of_ble_eq_true rfl)⟩ (fun v42 H locs F G R S hpo hM hS => ?_)
    obtain ⟨hIF, hIG, hIR, hfr9, hrr9, hgr9⟩ := hpo
    have hq_v42 := tk_rng v42
    have hFF := mz_fr (K := [8, 20, 34, 38, 41, 62, 63, 65]) (Fa := Fa) hfr9 hFF (by decide)
    have hRR := mz_fr (K := [3, 6, 7, 42]) (Fa := Ra) hrr9 hRR (by decide)
    have hGG := mz_fr (K := [39, 40]) (Fa := Ga) hgr9 hGG (by decide)
    have hrel : rK1 (Ra 3) (R 3) := hrel.trans (rK1.refl (hrr9 3 (by decide)))
    have e_v34 : R 61 (v33 : Int32).toNatClampNeg = _ := (congrFun (hrr9 61 (by decide)) _).trans e_v34
    have e_v36 : R 61 (v35 : Int32).toNatClampNeg = _ := (congrFun (hrr9 61 (by decide)) _).trans e_v36
    have hg_0 := (hfr9 62 (by decide)).trans hg_0
    have hf1 : R 3 6 = _ := (congrFun (hrr9 3 (by decide)) 6).trans hf1
    have hf11 : R 3 15 = _ := (congrFun (hrr9 3 (by decide)) 15).trans hf11
    have hf18 : R 3 16 = _ := (congrFun (hrr9 3 (by decide)) 16).trans hf18
    have hf27 := (hfr9 63 (by decide)).trans hf27
    refine lv_istore_n (lv' := [(3, .int v42), (2, .int v39), (0, .ref am), (1, .int p1)]) hx hb dX13_run_121 rfl hl (by decide) rfl (fun ls hl => ?_)
    refine lv_aload_n hx hb dX13_run_122 rfl (lv_at hl 2 rfl) ?_
    refine lv_iload_n hx hb dX13_run_123 rfl (lv_at hl 3 rfl) ?_
    refine lv_iconst (v := 5) hx hb dX13_run_124 (by decide) ?_
    refine lv_iadd hx hb dX13_run_125 ?_
    refine tk_add rfl (show (5 : Int32).toInt = 5 by decide) (by omega) (by omega) (fun v44 h_v44 => ?_)
    refine mz_Vi (As := [.int v44]) (rest := []) ⟨hx, hb, hml, hown, hts⟩ hK hM hS (k_X13_sumOf l D cy ld ad am hD _ _ _ _ v44 hIF hIG hIR (by omega) (by omega) (by have h9 := hx_0 5 (by decide); rw [show p1.toInt.toNat + 5 = v44.toInt.toNat by omega] at h9; rw [hRR 24 (by decide), hRR 25 (by decide), hRR 61 (by decide)]; exact h9)) ⟨callB_of 1 hts (wl_in mw_1050) rfl rfl rfl (htl _ mw_5) (htl _ mw_1047) hd_yX13_sumOf ⟨(Nat.le_of_ble_eq_true rfl), (Nat.le_of_ble_eq_true rfl)⟩, htl _ mw_1048, htl _ mw_1049⟩ rfl hl.1 rfl (Nat.le_of_ble_eq_true rfl) dX13_run_126 ⟨(Nat.le_of_ble_eq_true rfl), (Nat.le_of_ble_eq_true rfl)⟩ (fun v45 H locs F G R S hpo hM hS => ?_)
    obtain ⟨hIF, hIG, hIR, hfr9, hrr9, hgr9⟩ := hpo
    have hq_v45 := tk_rng v45
    have hFF := mz_fr (K := [8, 20, 34, 38, 41, 62, 63, 65]) (Fa := Fa) hfr9 hFF (by decide)
    have hRR := mz_fr (K := [3, 6, 7, 42]) (Fa := Ra) hrr9 hRR (by decide)
    have hGG := mz_fr (K := [39, 40]) (Fa := Ga) hgr9 hGG (by decide)
    have hrel : rK1 (Ra 3) (R 3) := hrel.trans (rK1.refl (hrr9 3 (by decide)))
    have e_v34 : R 61 (v33 : Int32).toNatClampNeg = _ := (congrFun (hrr9 61 (by decide)) _).trans e_v34
    have e_v36 : R 61 (v35 : Int32).toNatClampNeg = _ := (congrFun (hrr9 61 (by decide)) _).trans e_v36
    have hg_0 := (hfr9 62 (by decide)).trans hg_0
    have hf1 : R 3 6 = _ := (congrFun (hrr9 3 (by decide)) 6).trans hf1
    have hf11 : R 3 15 = _ := (congrFun (hrr9 3 (by decide)) 15).trans hf11
    have hf18 : R 3 16 = _ := (congrFun (hrr9 3 (by decide)) 16).trans hf18
    have hf27 := (hfr9 63 (by decide)).trans hf27
    refine lv_istore (lv' := [(4, .int v45), (3, .int v42), (2, .int v39), (0, .ref am), (1, .int p1)]) hx hb dX13_run_129 hl (by decide) rfl (fun ls hl => ?_)
    refine lv_aload_n hx hb dX13_run_131 rfl (lv_at hl 3 rfl) ?_
    refine mz_getI hx hb htl hown hK hM 65 (Nat.le_of_ble_eq_true rfl) rfl (htl _ mw_1038) (fun _ h9 => h9) dX13_run_132 (fun v48 hf47 => ?_)
    have hq_v48 := tk_rng v48
    have hr_v48 : 0 ≤ v48.toInt ∧ v48.toInt ≤ 1 := hIF.at hf47
    refine lv_if_eq (tgt := 141) hx hb dX13_run_135 (by decide) (fun c9 => ?_) (fun c9 => ?_)
    · have hc49 : v48.toInt = 0 := (fi_eq rfl (show (0 : Int32).toInt = 0 by decide)).mp c9
      refine lv_aload_n hx hb dX13_run_141 rfl (lv_at hl 3 rfl) ?_
      refine mz_getR hx hb htl hown hK hM 61 (Nat.le_of_ble_eq_true rfl) (Nat.le_of_ble_eq_true rfl) (htl _ mw_239) (fun _ h9 => h9) dX13_run_142 ?_
      refine lv_iload_n hx hb dX13_run_145 rfl (lv_at hl 4 rfl) ?_
      refine mz_iald hx hb hK hM 61 (Nat.le_of_ble_eq_true rfl) rfl (nn := 120) rfl rfl (by omega) (by omega) dX13_run_146 (fun v50 e_v50 => ?_)
      have hq_v50 := tk_rng v50
      refine lv_istore (lv' := [(5, .int v50), (4, .int v45), (3, .int v42), (2, .int v39), (0, .ref am), (1, .int p1)]) hx hb dX13_run_147 hl (by decide) rfl (fun ls hl => ?_)
      refine lv_iload hx hb dX13_run_149 (lv_at hl 0 rfl) ?_
      refine lv_if_ne (tgt := 165) hx hb dX13_run_151 (by decide) (fun c9 => ?_) (fun c9 => ?_)
      · have hc51 : ¬ (v50.toInt = 0) := fun h9 => c9 ((fi_eq rfl (show (0 : Int32).toInt = 0 by decide)).mpr h9)
        refine lv_iload hx hb dX13_run_165 (lv_at hl 0 rfl) ?_
        refine lv_iconst (v := 1) hx hb dX13_run_167 (by decide) ?_
        refine lv_icmp_ne (tgt := 179) hx hb dX13_run_168 (by decide) (fun c9 => ?_) (fun c9 => ?_)
        · have hc52 : ¬ (v50.toInt = 1) := fun h9 => c9 ((fi_eq rfl (show (1 : Int32).toInt = 1 by decide)).mpr h9)
          refine lv_iload hx hb dX13_run_179 (lv_at hl 0 rfl) ?_
          refine lv_iconst (v := 2) hx hb dX13_run_181 (by decide) ?_
          refine lv_icmp_ne (tgt := 192) hx hb dX13_run_182 (by decide) (fun c9 => ?_) (fun c9 => ?_)
          · have hc53 : ¬ (v50.toInt = 2) := fun h9 => c9 ((fi_eq rfl (show (2 : Int32).toInt = 2 by decide)).mpr h9)
            refine lv_aload_n hx hb dX13_run_192 rfl (lv_at hl 4 rfl) ?_
            refine mz_Vi (As := []) (rest := []) ⟨hx, hb, hml, hown, hts⟩ hK hM hS (k_X13_dawnNow l D cy ld ad am hD _ _ _ _ hIF hIG hIR) ⟨callB_of 0 hts (wl_in mw_1145) rfl rfl rfl (htl _ mw_5) (htl _ mw_1142) hd_yX13_dawnNow ⟨(Nat.le_of_ble_eq_true rfl), (Nat.le_of_ble_eq_true rfl)⟩, htl _ mw_1143, htl _ mw_1144⟩ rfl hl.1 rfl (Nat.le_of_ble_eq_true rfl) dX13_run_193 ⟨(Nat.le_of_ble_eq_true rfl), (Nat.le_of_ble_eq_true rfl)⟩ (fun v54 H locs F G R S hpo hM hS => ?_)
            obtain ⟨hIF, hIG, hIR, hfr9, hrr9, hgr9, hrel9, hpo55, hpo56⟩ := hpo
            have hq_v54 := tk_rng v54
            have hFF := mz_fr (K := [8, 20, 34, 38, 41, 62, 63, 65]) (Fa := Fa) hfr9 hFF (by decide)
            have hRR := mz_fr (K := [3, 6, 7, 42]) (Fa := Ra) hrr9 hRR (by decide)
            have hGG := mz_fr (K := [39, 40]) (Fa := Ga) hgr9 hGG (by decide)
            have hrel := hrel.trans hrel9
            have e_v34 : R 61 (v33 : Int32).toNatClampNeg = _ := (congrFun (hrr9 61 (by decide)) _).trans e_v34
            have e_v36 : R 61 (v35 : Int32).toNatClampNeg = _ := (congrFun (hrr9 61 (by decide)) _).trans e_v36
            have e_v50 : R 61 (p1 : Int32).toNatClampNeg = _ := (congrFun (hrr9 61 (by decide)) _).trans e_v50
            have hg_0 := (hfr9 62 (by decide)).trans hg_0
            have hf27 := (hfr9 63 (by decide)).trans hf27
            have hf47 := (hfr9 65 (by decide)).trans hf47
            refine lv_istore (lv' := [(6, .int v54), (5, .int v50), (4, .int v45), (3, .int v42), (2, .int v39), (0, .ref am), (1, .int p1)]) hx hb dX13_run_196 hl (by decide) rfl (fun ls hl => ?_)
            refine lv_iload hx hb dX13_run_198 (lv_at hl 0 rfl) ?_
            refine lv_if_ge (tgt := 206) hx hb dX13_run_200 (by decide) (fun c9 => ?_) (fun c9 => ?_)
            · have hc58 : 0 ≤ v54.toInt := (fi_le (show (0 : Int32).toInt = 0 by decide) rfl).mp c9
              refine lv_aload_n hx hb dX13_run_206 rfl (lv_at hl 5 rfl) ?_
              refine lv_iload hx hb dX13_run_207 (lv_at hl 1 rfl) ?_
              refine lv_iconst (v := 1) hx hb dX13_run_209 (by decide) ?_
              refine lv_icmp_ne (tgt := 218) hx hb dX13_run_210 (by decide) (fun _ => ?_) (fun c9 => absurd (show v50.toInt = 1 from (fi_eq rfl (show (1 : Int32).toInt = 1 by decide)).mp c9) (by omega))
              refine lv_aload_n hx hb dX13_run_218 rfl (lv_at hl 5 rfl) ?_
              refine mz_getI hx hb htl hown hK hM 63 (Nat.le_of_ble_eq_true rfl) rfl (htl _ mw_1010) (fun _ h9 => h9) dX13_run_219 (fun v9 e9 => ?_)
              refine fx_ti (v := v28) (e9.symm.trans hf27) ?_
              refine mz_putI (ty := .int) (x := v28) hx hb htl hown hK hD hM hS 63 (Nat.le_of_ble_eq_true rfl) rfl (htl _ mw_1010) (fun _ h9 => h9) rfl (tyX13_ok 63 (by decide)) rfl rfl dX13_run_222 (fun H locs F hM hS hf9 hj9 => ?_)
              have hIF := hIF.put hf9 hj9 (tk_rng _).1 (tk_rng _).2 (by decide)
              have hFF := mz_frp (K := [8, 20, 34, 38, 41, 62, 63, 65]) (Fa := Fa) hj9 hFF (by decide)
              have hg_0 := (hj9 62 (by decide)).trans hg_0
              have hf47 := (hj9 65 (by decide)).trans hf47
              have hf60 := hf9
              refine lv_aload_n hx hb dX13_run_225 rfl (lv_at hl 5 rfl) ?_
              refine lv_dup hx hb dX13_run_226 rfl ?_
              refine mz_getI hx hb htl hown hK hM 62 (Nat.le_of_ble_eq_true rfl) rfl (htl _ mw_1009) (fun _ h9 => h9) dX13_run_227 (fun v9 e9 => ?_)
              refine fx_ti (v := gd) (e9.symm.trans hg_0) ?_
              refine lv_iconst (v := 1) hx hb dX13_run_230 (by decide) ?_
              refine lv_iadd hx hb dX13_run_231 ?_
              refine tk_add rfl (show (1 : Int32).toInt = 1 by decide) (by omega) (by omega) (fun v61 h_v61 => ?_)
              refine mz_putI (ty := .int) (x := v61) hx hb htl hown hK hD hM hS 62 (Nat.le_of_ble_eq_true rfl) rfl (htl _ mw_1009) (fun _ h9 => h9) rfl (tyX13_ok 62 (by decide)) rfl rfl dX13_run_232 (fun H locs F hM hS hf9 hj9 => ?_)
              have hIF := hIF.put hf9 hj9 (tk_rng _).1 (tk_rng _).2 (by decide)
              have hFF := mz_frp (K := [8, 20, 34, 38, 41, 62, 63, 65]) (Fa := Fa) hj9 hFF (by decide)
              have hf47 := (hj9 65 (by decide)).trans hf47
              have hf60 := (hj9 63 (by decide)).trans hf60
              have hf63 := hf9
              refine lv_iconst (v := 0) hx hb dX13_run_235 (by decide) ?_
              have hk_0 : (0 : Int32).toInt = 0 := by decide
              exact mz_iret (v := 0) hx hb hr rfl hlocks ⟨hIF, hIG, hIR, hFF, hRR, hGG, hrel, (by omega), (by omega), (by rw [hf63]; omega), (by rw [hf63]; omega)⟩ hM hS dX13_run_236
            · have hc58 : ¬ (0 ≤ v54.toInt) := fun h9 => c9 ((fi_le (show (0 : Int32).toInt = 0 by decide) rfl).mpr h9)
              refine lv_bipush (v := (-3)) hx hb dX13_run_203 (by decide) ?_
              have hk_m3 : ((-3) : Int32).toInt = (-3) := by decide
              exact mz_iret (v := (-3)) hx hb hr rfl hlocks ⟨hIF, hIG, hIR, hFF, hRR, hGG, hrel, (by omega), (by omega), (by rw [hg_0]; omega), (by rw [hg_0]; omega)⟩ hM hS dX13_run_205
          · have hc53 : v50.toInt = 2 := (fi_eq rfl (show (2 : Int32).toInt = 2 by decide)).mp c9
            refine lv_aload_n hx hb dX13_run_185 rfl (lv_at hl 4 rfl) ?_
            refine mz_Vi (As := []) (rest := []) ⟨hx, hb, hml, hown, hts⟩ hK hM hS (k_X13_partNow l D cy ld ad am hD _ _ _ _ hIF hIG hIR) ⟨callB_of 0 hts (wl_in mw_1141) rfl rfl rfl (htl _ mw_5) (htl _ mw_1138) hd_yX13_partNow ⟨(Nat.le_of_ble_eq_true rfl), (Nat.le_of_ble_eq_true rfl)⟩, htl _ mw_1139, htl _ mw_1140⟩ rfl hl.1 rfl (Nat.le_of_ble_eq_true rfl) dX13_run_186 ⟨(Nat.le_of_ble_eq_true rfl), (Nat.le_of_ble_eq_true rfl)⟩ (fun v64 H locs F G R S hpo hM hS => ?_)
            obtain ⟨hIF, hIG, hIR, hfr9, hrr9, hgr9, hrel9, hpo65, hpo66⟩ := hpo
            have hq_v64 := tk_rng v64
            have hFF := mz_fr (K := [8, 20, 34, 38, 41, 62, 63, 65]) (Fa := Fa) hfr9 hFF (by decide)
            have hRR := mz_fr (K := [3, 6, 7, 42]) (Fa := Ra) hrr9 hRR (by decide)
            have hGG := mz_fr (K := [39, 40]) (Fa := Ga) hgr9 hGG (by decide)
            have hrel := hrel.trans hrel9
            have e_v34 : R 61 (v33 : Int32).toNatClampNeg = _ := (congrFun (hrr9 61 (by decide)) _).trans e_v34
            have e_v36 : R 61 (v35 : Int32).toNatClampNeg = _ := (congrFun (hrr9 61 (by decide)) _).trans e_v36
            have e_v50 : R 61 (p1 : Int32).toNatClampNeg = _ := (congrFun (hrr9 61 (by decide)) _).trans e_v50
            have hg_0 := (hfr9 62 (by decide)).trans hg_0
            have hf27 := (hfr9 63 (by decide)).trans hf27
            have hf47 := (hfr9 65 (by decide)).trans hf47
            refine lv_goto (tgt := 196) hx hb dX13_run_189 (by decide) ?_
            refine lv_istore (lv' := [(6, .int v64), (5, .int v50), (4, .int v45), (3, .int v42), (2, .int v39), (0, .ref am), (1, .int p1)]) hx hb dX13_run_196 hl (by decide) rfl (fun ls hl => ?_)
            refine lv_iload hx hb dX13_run_198 (lv_at hl 0 rfl) ?_
            refine lv_if_ge (tgt := 206) hx hb dX13_run_200 (by decide) (fun c9 => ?_) (fun c9 => ?_)
            · have hc68 : 0 ≤ v64.toInt := (fi_le (show (0 : Int32).toInt = 0 by decide) rfl).mp c9
              refine lv_aload_n hx hb dX13_run_206 rfl (lv_at hl 5 rfl) ?_
              refine lv_iload hx hb dX13_run_207 (lv_at hl 1 rfl) ?_
              refine lv_iconst (v := 1) hx hb dX13_run_209 (by decide) ?_
              refine lv_icmp_ne (tgt := 218) hx hb dX13_run_210 (by decide) (fun _ => ?_) (fun c9 => absurd (show v50.toInt = 1 from (fi_eq rfl (show (1 : Int32).toInt = 1 by decide)).mp c9) (by omega))
              refine lv_aload_n hx hb dX13_run_218 rfl (lv_at hl 5 rfl) ?_
              refine mz_getI hx hb htl hown hK hM 63 (Nat.le_of_ble_eq_true rfl) rfl (htl _ mw_1010) (fun _ h9 => h9) dX13_run_219 (fun v9 e9 => ?_)
              refine fx_ti (v := v28) (e9.symm.trans hf27) ?_
              refine mz_putI (ty := .int) (x := v28) hx hb htl hown hK hD hM hS 63 (Nat.le_of_ble_eq_true rfl) rfl (htl _ mw_1010) (fun _ h9 => h9) rfl (tyX13_ok 63 (by decide)) rfl rfl dX13_run_222 (fun H locs F hM hS hf9 hj9 => ?_)
              have hIF := hIF.put hf9 hj9 (tk_rng _).1 (tk_rng _).2 (by decide)
              have hFF := mz_frp (K := [8, 20, 34, 38, 41, 62, 63, 65]) (Fa := Fa) hj9 hFF (by decide)
              have hg_0 := (hj9 62 (by decide)).trans hg_0
              have hf47 := (hj9 65 (by decide)).trans hf47
              have hf70 := hf9
              refine lv_aload_n hx hb dX13_run_225 rfl (lv_at hl 5 rfl) ?_
              refine lv_dup hx hb dX13_run_226 rfl ?_
              refine mz_getI hx hb htl hown hK hM 62 (Nat.le_of_ble_eq_true rfl) rfl (htl _ mw_1009) (fun _ h9 => h9) dX13_run_227 (fun v9 e9 => ?_)
              refine fx_ti (v := gd) (e9.symm.trans hg_0) ?_
              refine lv_iconst (v := 1) hx hb dX13_run_230 (by decide) ?_
              refine lv_iadd hx hb dX13_run_231 ?_
              refine tk_add rfl (show (1 : Int32).toInt = 1 by decide) (by omega) (by omega) (fun v71 h_v71 => ?_)
              refine mz_putI (ty := .int) (x := v71) hx hb htl hown hK hD hM hS 62 (Nat.le_of_ble_eq_true rfl) rfl (htl _ mw_1009) (fun _ h9 => h9) rfl (tyX13_ok 62 (by decide)) rfl rfl dX13_run_232 (fun H locs F hM hS hf9 hj9 => ?_)
              have hIF := hIF.put hf9 hj9 (tk_rng _).1 (tk_rng _).2 (by decide)
              have hFF := mz_frp (K := [8, 20, 34, 38, 41, 62, 63, 65]) (Fa := Fa) hj9 hFF (by decide)
              have hf47 := (hj9 65 (by decide)).trans hf47
              have hf70 := (hj9 63 (by decide)).trans hf70
              have hf73 := hf9
              refine lv_iconst (v := 0) hx hb dX13_run_235 (by decide) ?_
              have hk_0 : (0 : Int32).toInt = 0 := by decide
              exact mz_iret (v := 0) hx hb hr rfl hlocks ⟨hIF, hIG, hIR, hFF, hRR, hGG, hrel, (by omega), (by omega), (by rw [hf73]; omega), (by rw [hf73]; omega)⟩ hM hS dX13_run_236
            · have hc68 : ¬ (0 ≤ v64.toInt) := fun h9 => c9 ((fi_le (show (0 : Int32).toInt = 0 by decide) rfl).mpr h9)
              refine lv_bipush (v := (-3)) hx hb dX13_run_203 (by decide) ?_
              have hk_m3 : ((-3) : Int32).toInt = (-3) := by decide
              exact mz_iret (v := (-3)) hx hb hr rfl hlocks ⟨hIF, hIG, hIR, hFF, hRR, hGG, hrel, (by omega), (by omega), (by rw [hg_0]; omega), (by rw [hg_0]; omega)⟩ hM hS dX13_run_205
        · have hc52 : v50.toInt = 1 := (fi_eq rfl (show (1 : Int32).toInt = 1 by decide)).mp c9
          refine lv_aload_n hx hb dX13_run_171 rfl (lv_at hl 4 rfl) ?_
          refine lv_iload_n hx hb dX13_run_172 rfl (lv_at hl 3 rfl) ?_
          refine mz_Vi (As := [.int v39]) (rest := []) ⟨hx, hb, hml, hown, hts⟩ hK hM hS (k_X13_singNow l D cy ld ad am hD _ _ _ _ v39 hIF hIG hIR) ⟨callB_of 1 hts (wl_in mw_1087) rfl rfl rfl (htl _ mw_5) (htl _ mw_1084) hd_yX13_singNow ⟨(Nat.le_of_ble_eq_true rfl), (Nat.le_of_ble_eq_true rfl)⟩, htl _ mw_1085, htl _ mw_1086⟩ rfl hl.1 rfl (Nat.le_of_ble_eq_true rfl) dX13_run_173 ⟨(Nat.le_of_ble_eq_true rfl), (Nat.le_of_ble_eq_true rfl)⟩ (fun v74 H locs F G R S hpo hM hS => ?_)
          obtain ⟨hIF, hIG, hIR, hfr9, hrr9, hgr9, hrel9, hpo75, hpo76⟩ := hpo
          have hq_v74 := tk_rng v74
          have hFF := mz_fr (K := [8, 20, 34, 38, 41, 62, 63, 65]) (Fa := Fa) hfr9 hFF (by decide)
          have hRR := mz_fr (K := [3, 6, 7, 42]) (Fa := Ra) hrr9 hRR (by decide)
          have hGG := mz_fr (K := [39, 40]) (Fa := Ga) hgr9 hGG (by decide)
          have hrel := hrel.trans hrel9
          have e_v34 : R 61 (v33 : Int32).toNatClampNeg = _ := (congrFun (hrr9 61 (by decide)) _).trans e_v34
          have e_v36 : R 61 (v35 : Int32).toNatClampNeg = _ := (congrFun (hrr9 61 (by decide)) _).trans e_v36
          have e_v50 : R 61 (p1 : Int32).toNatClampNeg = _ := (congrFun (hrr9 61 (by decide)) _).trans e_v50
          have hg_0 := (hfr9 62 (by decide)).trans hg_0
          have hf27 := (hfr9 63 (by decide)).trans hf27
          have hf47 := (hfr9 65 (by decide)).trans hf47
          refine lv_goto (tgt := 196) hx hb dX13_run_176 (by decide) ?_
          refine lv_istore (lv' := [(6, .int v74), (5, .int v50), (4, .int v45), (3, .int v42), (2, .int v39), (0, .ref am), (1, .int p1)]) hx hb dX13_run_196 hl (by decide) rfl (fun ls hl => ?_)
          refine lv_iload hx hb dX13_run_198 (lv_at hl 0 rfl) ?_
          refine lv_if_ge (tgt := 206) hx hb dX13_run_200 (by decide) (fun c9 => ?_) (fun c9 => ?_)
          · have hc78 : 0 ≤ v74.toInt := (fi_le (show (0 : Int32).toInt = 0 by decide) rfl).mp c9
            refine lv_aload_n hx hb dX13_run_206 rfl (lv_at hl 5 rfl) ?_
            refine lv_iload hx hb dX13_run_207 (lv_at hl 1 rfl) ?_
            refine lv_iconst (v := 1) hx hb dX13_run_209 (by decide) ?_
            refine lv_icmp_ne (tgt := 218) hx hb dX13_run_210 (by decide) (fun c9 => absurd ((fi_eq rfl (show (1 : Int32).toInt = 1 by decide)).mpr (show v50.toInt = 1 by omega)) c9) (fun _ => ?_)
            refine lv_iload hx hb dX13_run_213 (lv_at hl 0 rfl) ?_
            refine lv_goto (tgt := 222) hx hb dX13_run_215 (by decide) ?_
            refine mz_putI (ty := .int) (x := v74) hx hb htl hown hK hD hM hS 63 (Nat.le_of_ble_eq_true rfl) rfl (htl _ mw_1010) (fun _ h9 => h9) rfl (tyX13_ok 63 (by decide)) rfl rfl dX13_run_222 (fun H locs F hM hS hf9 hj9 => ?_)
            have hIF := hIF.put hf9 hj9 (tk_rng _).1 (tk_rng _).2 (by decide)
            have hFF := mz_frp (K := [8, 20, 34, 38, 41, 62, 63, 65]) (Fa := Fa) hj9 hFF (by decide)
            have hg_0 := (hj9 62 (by decide)).trans hg_0
            have hf47 := (hj9 65 (by decide)).trans hf47
            have hf80 := hf9
            refine lv_aload_n hx hb dX13_run_225 rfl (lv_at hl 5 rfl) ?_
            refine lv_dup hx hb dX13_run_226 rfl ?_
            refine mz_getI hx hb htl hown hK hM 62 (Nat.le_of_ble_eq_true rfl) rfl (htl _ mw_1009) (fun _ h9 => h9) dX13_run_227 (fun v9 e9 => ?_)
            refine fx_ti (v := gd) (e9.symm.trans hg_0) ?_
            refine lv_iconst (v := 1) hx hb dX13_run_230 (by decide) ?_
            refine lv_iadd hx hb dX13_run_231 ?_
            refine tk_add rfl (show (1 : Int32).toInt = 1 by decide) (by omega) (by omega) (fun v81 h_v81 => ?_)
            refine mz_putI (ty := .int) (x := v81) hx hb htl hown hK hD hM hS 62 (Nat.le_of_ble_eq_true rfl) rfl (htl _ mw_1009) (fun _ h9 => h9) rfl (tyX13_ok 62 (by decide)) rfl rfl dX13_run_232 (fun H locs F hM hS hf9 hj9 => ?_)
            have hIF := hIF.put hf9 hj9 (tk_rng _).1 (tk_rng _).2 (by decide)
            have hFF := mz_frp (K := [8, 20, 34, 38, 41, 62, 63, 65]) (Fa := Fa) hj9 hFF (by decide)
            have hf47 := (hj9 65 (by decide)).trans hf47
            have hf80 := (hj9 63 (by decide)).trans hf80
            have hf83 := hf9
            refine lv_iconst (v := 0) hx hb dX13_run_235 (by decide) ?_
            have hk_0 : (0 : Int32).toInt = 0 := by decide
            exact mz_iret (v := 0) hx hb hr rfl hlocks ⟨hIF, hIG, hIR, hFF, hRR, hGG, hrel, (by omega), (by omega), (by rw [hf83]; omega), (by rw [hf83]; omega)⟩ hM hS dX13_run_236
          · have hc78 : ¬ (0 ≤ v74.toInt) := fun h9 => c9 ((fi_le (show (0 : Int32).toInt = 0 by decide) rfl).mpr h9)
            refine lv_bipush (v := (-3)) hx hb dX13_run_203 (by decide) ?_
            have hk_m3 : ((-3) : Int32).toInt = (-3) := by decide
            exact mz_iret (v := (-3)) hx hb hr rfl hlocks ⟨hIF, hIG, hIR, hFF, hRR, hGG, hrel, (by omega), (by omega), (by rw [hg_0]; omega), (by rw [hg_0]; omega)⟩ hM hS dX13_run_205
      · have hc51 : v50.toInt = 0 := (fi_eq rfl (show (0 : Int32).toInt = 0 by decide)).mp c9
        refine lv_aload_n hx hb dX13_run_154 rfl (lv_at hl 4 rfl) ?_
        refine lv_iload_n hx hb dX13_run_155 rfl (lv_at hl 3 rfl) ?_
        refine lv_iload_n hx hb dX13_run_156 rfl (lv_at hl 2 rfl) ?_
        refine lv_iload hx hb dX13_run_157 (lv_at hl 1 rfl) ?_
        refine mz_Vi (As := [.int v39, .int v42, .int v45]) (rest := []) ⟨hx, hb, hml, hown, hts⟩ hK hM hS (k_X13_beginNow l D cy ld ad am hD _ _ _ _ v39 v42 v45 hIF hIG hIR) ⟨callB_of 3 hts (wl_in mw_1067) rfl rfl rfl (htl _ mw_5) (htl _ mw_1064) hd_yX13_beginNow ⟨(Nat.le_of_ble_eq_true rfl), (Nat.le_of_ble_eq_true rfl)⟩, htl _ mw_1065, htl _ mw_1066⟩ rfl hl.1 rfl (Nat.le_of_ble_eq_true rfl) dX13_run_159 ⟨(Nat.le_of_ble_eq_true rfl), (Nat.le_of_ble_eq_true rfl)⟩ (fun v84 H locs F G R S hpo hM hS => ?_)
        obtain ⟨hIF, hIG, hIR, hfr9, hrr9, hgr9, hrel9, hpo85, hpo86⟩ := hpo
        have hq_v84 := tk_rng v84
        have hFF := mz_fr (K := [8, 20, 34, 38, 41, 62, 63, 65]) (Fa := Fa) hfr9 hFF (by decide)
        have hRR := mz_fr (K := [3, 6, 7, 42]) (Fa := Ra) hrr9 hRR (by decide)
        have hGG := mz_fr (K := [39, 40]) (Fa := Ga) hgr9 hGG (by decide)
        have hrel := hrel.trans hrel9
        have e_v34 : R 61 (v33 : Int32).toNatClampNeg = _ := (congrFun (hrr9 61 (by decide)) _).trans e_v34
        have e_v36 : R 61 (v35 : Int32).toNatClampNeg = _ := (congrFun (hrr9 61 (by decide)) _).trans e_v36
        have e_v50 : R 61 (p1 : Int32).toNatClampNeg = _ := (congrFun (hrr9 61 (by decide)) _).trans e_v50
        have hg_0 := (hfr9 62 (by decide)).trans hg_0
        have hf27 := (hfr9 63 (by decide)).trans hf27
        have hf47 := (hfr9 65 (by decide)).trans hf47
        refine lv_goto (tgt := 196) hx hb dX13_run_162 (by decide) ?_
        refine lv_istore (lv' := [(6, .int v84), (5, .int v50), (4, .int v45), (3, .int v42), (2, .int v39), (0, .ref am), (1, .int p1)]) hx hb dX13_run_196 hl (by decide) rfl (fun ls hl => ?_)
        refine lv_iload hx hb dX13_run_198 (lv_at hl 0 rfl) ?_
        refine lv_if_ge (tgt := 206) hx hb dX13_run_200 (by decide) (fun c9 => ?_) (fun c9 => ?_)
        · have hc88 : 0 ≤ v84.toInt := (fi_le (show (0 : Int32).toInt = 0 by decide) rfl).mp c9
          refine lv_aload_n hx hb dX13_run_206 rfl (lv_at hl 5 rfl) ?_
          refine lv_iload hx hb dX13_run_207 (lv_at hl 1 rfl) ?_
          refine lv_iconst (v := 1) hx hb dX13_run_209 (by decide) ?_
          refine lv_icmp_ne (tgt := 218) hx hb dX13_run_210 (by decide) (fun _ => ?_) (fun c9 => absurd (show v50.toInt = 1 from (fi_eq rfl (show (1 : Int32).toInt = 1 by decide)).mp c9) (by omega))
          refine lv_aload_n hx hb dX13_run_218 rfl (lv_at hl 5 rfl) ?_
          refine mz_getI hx hb htl hown hK hM 63 (Nat.le_of_ble_eq_true rfl) rfl (htl _ mw_1010) (fun _ h9 => h9) dX13_run_219 (fun v9 e9 => ?_)
          refine fx_ti (v := v28) (e9.symm.trans hf27) ?_
          refine mz_putI (ty := .int) (x := v28) hx hb htl hown hK hD hM hS 63 (Nat.le_of_ble_eq_true rfl) rfl (htl _ mw_1010) (fun _ h9 => h9) rfl (tyX13_ok 63 (by decide)) rfl rfl dX13_run_222 (fun H locs F hM hS hf9 hj9 => ?_)
          have hIF := hIF.put hf9 hj9 (tk_rng _).1 (tk_rng _).2 (by decide)
          have hFF := mz_frp (K := [8, 20, 34, 38, 41, 62, 63, 65]) (Fa := Fa) hj9 hFF (by decide)
          have hg_0 := (hj9 62 (by decide)).trans hg_0
          have hf47 := (hj9 65 (by decide)).trans hf47
          have hf90 := hf9
          refine lv_aload_n hx hb dX13_run_225 rfl (lv_at hl 5 rfl) ?_
          refine lv_dup hx hb dX13_run_226 rfl ?_
          refine mz_getI hx hb htl hown hK hM 62 (Nat.le_of_ble_eq_true rfl) rfl (htl _ mw_1009) (fun _ h9 => h9) dX13_run_227 (fun v9 e9 => ?_)
          refine fx_ti (v := gd) (e9.symm.trans hg_0) ?_
          refine lv_iconst (v := 1) hx hb dX13_run_230 (by decide) ?_
          refine lv_iadd hx hb dX13_run_231 ?_
          refine tk_add rfl (show (1 : Int32).toInt = 1 by decide) (by omega) (by omega) (fun v91 h_v91 => ?_)
          refine mz_putI (ty := .int) (x := v91) hx hb htl hown hK hD hM hS 62 (Nat.le_of_ble_eq_true rfl) rfl (htl _ mw_1009) (fun _ h9 => h9) rfl (tyX13_ok 62 (by decide)) rfl rfl dX13_run_232 (fun H locs F hM hS hf9 hj9 => ?_)
          have hIF := hIF.put hf9 hj9 (tk_rng _).1 (tk_rng _).2 (by decide)
          have hFF := mz_frp (K := [8, 20, 34, 38, 41, 62, 63, 65]) (Fa := Fa) hj9 hFF (by decide)
          have hf47 := (hj9 65 (by decide)).trans hf47
          have hf90 := (hj9 63 (by decide)).trans hf90
          have hf93 := hf9
          refine lv_iconst (v := 0) hx hb dX13_run_235 (by decide) ?_
          have hk_0 : (0 : Int32).toInt = 0 := by decide
          exact mz_iret (v := 0) hx hb hr rfl hlocks ⟨hIF, hIG, hIR, hFF, hRR, hGG, hrel, (by omega), (by omega), (by rw [hf93]; omega), (by rw [hf93]; omega)⟩ hM hS dX13_run_236
        · have hc88 : ¬ (0 ≤ v84.toInt) := fun h9 => c9 ((fi_le (show (0 : Int32).toInt = 0 by decide) rfl).mpr h9)
          refine lv_bipush (v := (-3)) hx hb dX13_run_203 (by decide) ?_
          have hk_m3 : ((-3) : Int32).toInt = (-3) := by decide
          exact mz_iret (v := (-3)) hx hb hr rfl hlocks ⟨hIF, hIG, hIR, hFF, hRR, hGG, hrel, (by omega), (by omega), (by rw [hg_0]; omega), (by rw [hg_0]; omega)⟩ hM hS dX13_run_205
    · have hc49 : ¬ (v48.toInt = 0) := fun h9 => c9 ((fi_eq rfl (show (0 : Int32).toInt = 0 by decide)).mpr h9)
      refine lv_bipush (v := (-3)) hx hb dX13_run_138 (by decide) ?_
      have hk_m3 : ((-3) : Int32).toInt = (-3) := by decide
      exact mz_iret (v := (-3)) hx hb hr rfl hlocks ⟨hIF, hIG, hIR, hFF, hRR, hGG, hrel, (by omega), (by omega), (by rw [hg_0]; omega), (by rw [hg_0]; omega)⟩ hM hS dX13_run_140
  · have hc37 : ¬ (v36.toInt ≤ v34.toInt) := fun h9 => c9 ((fi_le rfl rfl).mpr h9)
    refine lv_aload_n hx hb dX13_run_84 rfl (lv_at hl 0 rfl) ?_
    refine lv_iload_n hx hb dX13_run_85 rfl (lv_at hl 1 rfl) ?_
    refine lv_bipush (v := 7) hx hb dX13_run_86 (by decide) ?_
    refine lv_iadd hx hb dX13_run_88 ?_
    refine tk_add rfl (show (7 : Int32).toInt = 7 by decide) (by omega) (by omega) (fun v94 h_v94 => ?_)
    refine mz_Vi (As := [.int v94]) (rest := []) ⟨hx, hb, hml, hown, hts⟩ hK hM hS (k_X13_sumOf l D cy ld ad am hD _ _ _ _ v94 hIF hIG hIR (by omega) (by omega) (by have h9 := hx_0 7 (by decide); rw [show p1.toInt.toNat + 7 = v94.toInt.toNat by omega] at h9; exact h9)) ⟨callB_of 1 hts (wl_in mw_1050) rfl rfl rfl (htl _ mw_5) (htl _ mw_1047) hd_yX13_sumOf ⟨(Nat.le_of_ble_eq_true rfl), (Nat.le_of_ble_eq_true rfl)⟩, htl _ mw_1048, htl _ mw_1049⟩ rfl hl.1 rfl (Nat.le_of_ble_eq_true rfl) dX13_run_89 ⟨(Nat.le_of_ble_eq_true rfl), (Nat.le_of_ble_eq_true rfl)⟩ (fun v95 H locs F G R S hpo hM hS => ?_)
    obtain ⟨hIF, hIG, hIR, hfr9, hrr9, hgr9⟩ := hpo
    have hq_v95 := tk_rng v95
    have hFF := mz_fr (K := [8, 20, 34, 38, 41, 62, 63, 65]) (Fa := Fa) hfr9 hFF (by decide)
    have hRR := mz_fr (K := [3, 6, 7, 42]) (Fa := Ra) hrr9 (fun _ _ => rfl) (by decide)
    have hGG := mz_fr (K := [39, 40]) (Fa := Ga) hgr9 (fun _ _ => rfl) (by decide)
    have hrel : rK1 (Ra 3) (R 3) := (rK1.refl rfl).trans (rK1.refl (hrr9 3 (by decide)))
    have e_v34 : R 61 (v33 : Int32).toNatClampNeg = _ := (congrFun (hrr9 61 (by decide)) _).trans e_v34
    have e_v36 : R 61 (v35 : Int32).toNatClampNeg = _ := (congrFun (hrr9 61 (by decide)) _).trans e_v36
    have hg_0 := (hfr9 62 (by decide)).trans hg_0
    have hf1 : R 3 6 = _ := (congrFun (hrr9 3 (by decide)) 6).trans hf1
    have hf11 : R 3 15 = _ := (congrFun (hrr9 3 (by decide)) 15).trans hf11
    have hf18 : R 3 16 = _ := (congrFun (hrr9 3 (by decide)) 16).trans hf18
    have hf27 := (hfr9 63 (by decide)).trans hf27
    refine lv_istore_n (lv' := [(2, .int v95), (0, .ref am), (1, .int p1)]) hx hb dX13_run_92 rfl hl (by decide) rfl (fun ls hl => ?_)
    refine lv_aload_n hx hb dX13_run_93 rfl (lv_at hl 1 rfl) ?_
    refine mz_getI hx hb htl hown hK hM 65 (Nat.le_of_ble_eq_true rfl) rfl (htl _ mw_1038) (fun _ h9 => h9) dX13_run_94 (fun v98 hf97 => ?_)
    have hq_v98 := tk_rng v98
    have hr_v98 : 0 ≤ v98.toInt ∧ v98.toInt ≤ 1 := hIF.at hf97
    refine lv_if_ne (tgt := 104) hx hb dX13_run_97 (by decide) (fun c9 => ?_) (fun c9 => ?_)
    · have hc99 : ¬ (v98.toInt = 0) := fun h9 => c9 ((fi_eq rfl (show (0 : Int32).toInt = 0 by decide)).mpr h9)
      refine lv_iconst (v := 0) hx hb dX13_run_104 (by decide) ?_
      have hk_0 : (0 : Int32).toInt = 0 := by decide
      exact mz_iret (v := 0) hx hb hr rfl hlocks ⟨hIF, hIG, hIR, hFF, hRR, hGG, hrel, (by omega), (by omega), (by rw [hg_0]; omega), (by rw [hg_0]; omega)⟩ hM hS dX13_run_105
    · have hc99 : v98.toInt = 0 := (fi_eq rfl (show (0 : Int32).toInt = 0 by decide)).mp c9
      refine lv_iload_n hx hb dX13_run_100 rfl (lv_at hl 0 rfl) ?_
      refine lv_if_ne (tgt := 106) hx hb dX13_run_101 (by decide) (fun c9 => ?_) (fun c9 => ?_)
      · have hc100 : ¬ (v95.toInt = 0) := fun h9 => c9 ((fi_eq rfl (show (0 : Int32).toInt = 0 by decide)).mpr h9)
        refine lv_aload_n hx hb dX13_run_106 rfl (lv_at hl 1 rfl) ?_
        refine lv_iload_n hx hb dX13_run_107 rfl (lv_at hl 2 rfl) ?_
        refine lv_iconst (v := 1) hx hb dX13_run_108 (by decide) ?_
        refine lv_iadd hx hb dX13_run_109 ?_
        refine tk_add rfl (show (1 : Int32).toInt = 1 by decide) (by omega) (by omega) (fun v101 h_v101 => ?_)
        refine mz_Vi (As := [.int v101]) (rest := []) ⟨hx, hb, hml, hown, hts⟩ hK hM hS (k_X13_sumOf l D cy ld ad am hD _ _ _ _ v101 hIF hIG hIR (by omega) (by omega) (by have h9 := hx_0 1 (by decide); rw [show p1.toInt.toNat + 1 = v101.toInt.toNat by omega] at h9; rw [hRR 24 (by decide), hRR 25 (by decide), hRR 61 (by decide)]; exact h9)) ⟨callB_of 1 hts (wl_in mw_1050) rfl rfl rfl (htl _ mw_5) (htl _ mw_1047) hd_yX13_sumOf ⟨(Nat.le_of_ble_eq_true rfl), (Nat.le_of_ble_eq_true rfl)⟩, htl _ mw_1048, htl _ mw_1049⟩ rfl hl.1 rfl (Nat.le_of_ble_eq_true rfl) dX13_run_110 ⟨(Nat.le_of_ble_eq_true rfl), (Nat.le_of_ble_eq_true rfl)⟩ (fun v102 H locs F G R S hpo hM hS => ?_)
        obtain ⟨hIF, hIG, hIR, hfr9, hrr9, hgr9⟩ := hpo
        have hq_v102 := tk_rng v102
        have hFF := mz_fr (K := [8, 20, 34, 38, 41, 62, 63, 65]) (Fa := Fa) hfr9 hFF (by decide)
        have hRR := mz_fr (K := [3, 6, 7, 42]) (Fa := Ra) hrr9 hRR (by decide)
        have hGG := mz_fr (K := [39, 40]) (Fa := Ga) hgr9 hGG (by decide)
        have hrel : rK1 (Ra 3) (R 3) := hrel.trans (rK1.refl (hrr9 3 (by decide)))
        have e_v34 : R 61 (v33 : Int32).toNatClampNeg = _ := (congrFun (hrr9 61 (by decide)) _).trans e_v34
        have e_v36 : R 61 (v35 : Int32).toNatClampNeg = _ := (congrFun (hrr9 61 (by decide)) _).trans e_v36
        have hg_0 := (hfr9 62 (by decide)).trans hg_0
        have hf1 : R 3 6 = _ := (congrFun (hrr9 3 (by decide)) 6).trans hf1
        have hf11 : R 3 15 = _ := (congrFun (hrr9 3 (by decide)) 15).trans hf11
        have hf18 : R 3 16 = _ := (congrFun (hrr9 3 (by decide)) 16).trans hf18
        have hf27 := (hfr9 63 (by decide)).trans hf27
        refine lv_istore_n (lv' := [(2, .int v102), (0, .ref am), (1, .int p1)]) hx hb dX13_run_113 rfl hl (by decide) rfl (fun ls hl => ?_)
        refine lv_aload_n hx hb dX13_run_114 rfl (lv_at hl 1 rfl) ?_
        refine lv_iload_n hx hb dX13_run_115 rfl (lv_at hl 2 rfl) ?_
        refine lv_iconst (v := 3) hx hb dX13_run_116 (by decide) ?_
        refine lv_iadd hx hb dX13_run_117 ?_
        refine tk_add rfl (show (3 : Int32).toInt = 3 by decide) (by omega) (by omega) (fun v104 h_v104 => ?_)
        refine mz_Vi (As := [.int v104]) (rest := []) ⟨hx, hb, hml, hown, hts⟩ hK hM hS (k_X13_sumOf l D cy ld ad am hD _ _ _ _ v104 hIF hIG hIR (by omega) (by omega) (by have h9 := hx_0 3 (by decide); rw [show p1.toInt.toNat + 3 = v104.toInt.toNat by omega] at h9; rw [hRR 24 (by decide), hRR 25 (by decide), hRR 61 (by decide)]; exact h9)) ⟨callB_of 1 hts (wl_in mw_1050) rfl rfl rfl (htl _ mw_5) (htl _ mw_1047) hd_yX13_sumOf ⟨(Nat.le_of_ble_eq_true rfl), (Nat.le_of_ble_eq_true rfl)⟩, htl _ mw_1048, htl _ mw_1049⟩ rfl hl.1 rfl (Nat.le_of_ble_eq_true rfl) dX13_run_118 ⟨(Nat.le_of_ble_eq_true rfl), (Nat.le_of_ble_eq_true rfl)⟩ (fun v105 H locs F G R S hpo hM hS => ?_)
        obtain ⟨hIF, hIG, hIR, hfr9, hrr9, hgr9⟩ := hpo
        have hq_v105 := tk_rng v105
        have hFF := mz_fr (K := [8, 20, 34, 38, 41, 62, 63, 65]) (Fa := Fa) hfr9 hFF (by decide)
        have hRR := mz_fr (K := [3, 6, 7, 42]) (Fa := Ra) hrr9 hRR (by decide)
        have hGG := mz_fr (K := [39, 40]) (Fa := Ga) hgr9 hGG (by decide)
        have hrel : rK1 (Ra 3) (R 3) := hrel.trans (rK1.refl (hrr9 3 (by decide)))
        have e_v34 : R 61 (v33 : Int32).toNatClampNeg = _ := (congrFun (hrr9 61 (by decide)) _).trans e_v34
        have e_v36 : R 61 (v35 : Int32).toNatClampNeg = _ := (congrFun (hrr9 61 (by decide)) _).trans e_v36
        have hg_0 := (hfr9 62 (by decide)).trans hg_0
        have hf1 : R 3 6 = _ := (congrFun (hrr9 3 (by decide)) 6).trans hf1
        have hf11 : R 3 15 = _ := (congrFun (hrr9 3 (by decide)) 15).trans hf11
        have hf18 : R 3 16 = _ := (congrFun (hrr9 3 (by decide)) 16).trans hf18
        have hf27 := (hfr9 63 (by decide)).trans hf27
        refine lv_istore_n (lv' := [(3, .int v105), (2, .int v102), (0, .ref am), (1, .int p1)]) hx hb dX13_run_121 rfl hl (by decide) rfl (fun ls hl => ?_)
        refine lv_aload_n hx hb dX13_run_122 rfl (lv_at hl 2 rfl) ?_
        refine lv_iload_n hx hb dX13_run_123 rfl (lv_at hl 3 rfl) ?_
        refine lv_iconst (v := 5) hx hb dX13_run_124 (by decide) ?_
        refine lv_iadd hx hb dX13_run_125 ?_
        refine tk_add rfl (show (5 : Int32).toInt = 5 by decide) (by omega) (by omega) (fun v107 h_v107 => ?_)
        refine mz_Vi (As := [.int v107]) (rest := []) ⟨hx, hb, hml, hown, hts⟩ hK hM hS (k_X13_sumOf l D cy ld ad am hD _ _ _ _ v107 hIF hIG hIR (by omega) (by omega) (by have h9 := hx_0 5 (by decide); rw [show p1.toInt.toNat + 5 = v107.toInt.toNat by omega] at h9; rw [hRR 24 (by decide), hRR 25 (by decide), hRR 61 (by decide)]; exact h9)) ⟨callB_of 1 hts (wl_in mw_1050) rfl rfl rfl (htl _ mw_5) (htl _ mw_1047) hd_yX13_sumOf ⟨(Nat.le_of_ble_eq_true rfl), (Nat.le_of_ble_eq_true rfl)⟩, htl _ mw_1048, htl _ mw_1049⟩ rfl hl.1 rfl (Nat.le_of_ble_eq_true rfl) dX13_run_126 ⟨(Nat.le_of_ble_eq_true rfl), (Nat.le_of_ble_eq_true rfl)⟩ (fun v108 H locs F G R S hpo hM hS => ?_)
        obtain ⟨hIF, hIG, hIR, hfr9, hrr9, hgr9⟩ := hpo
        have hq_v108 := tk_rng v108
        have hFF := mz_fr (K := [8, 20, 34, 38, 41, 62, 63, 65]) (Fa := Fa) hfr9 hFF (by decide)
        have hRR := mz_fr (K := [3, 6, 7, 42]) (Fa := Ra) hrr9 hRR (by decide)
        have hGG := mz_fr (K := [39, 40]) (Fa := Ga) hgr9 hGG (by decide)
        have hrel : rK1 (Ra 3) (R 3) := hrel.trans (rK1.refl (hrr9 3 (by decide)))
        have e_v34 : R 61 (v33 : Int32).toNatClampNeg = _ := (congrFun (hrr9 61 (by decide)) _).trans e_v34
        have e_v36 : R 61 (v35 : Int32).toNatClampNeg = _ := (congrFun (hrr9 61 (by decide)) _).trans e_v36
        have hg_0 := (hfr9 62 (by decide)).trans hg_0
        have hf1 : R 3 6 = _ := (congrFun (hrr9 3 (by decide)) 6).trans hf1
        have hf11 : R 3 15 = _ := (congrFun (hrr9 3 (by decide)) 15).trans hf11
        have hf18 : R 3 16 = _ := (congrFun (hrr9 3 (by decide)) 16).trans hf18
        have hf27 := (hfr9 63 (by decide)).trans hf27
        refine lv_istore (lv' := [(4, .int v108), (3, .int v105), (2, .int v102), (0, .ref am), (1, .int p1)]) hx hb dX13_run_129 hl (by decide) rfl (fun ls hl => ?_)
        refine lv_aload_n hx hb dX13_run_131 rfl (lv_at hl 3 rfl) ?_
        refine mz_getI hx hb htl hown hK hM 65 (Nat.le_of_ble_eq_true rfl) rfl (htl _ mw_1038) (fun _ h9 => h9) dX13_run_132 (fun v111 hf110 => ?_)
        have hq_v111 := tk_rng v111
        have hr_v111 : 0 ≤ v111.toInt ∧ v111.toInt ≤ 1 := hIF.at hf110
        refine lv_if_eq (tgt := 141) hx hb dX13_run_135 (by decide) (fun c9 => ?_) (fun c9 => ?_)
        · have hc112 : v111.toInt = 0 := (fi_eq rfl (show (0 : Int32).toInt = 0 by decide)).mp c9
          refine lv_aload_n hx hb dX13_run_141 rfl (lv_at hl 3 rfl) ?_
          refine mz_getR hx hb htl hown hK hM 61 (Nat.le_of_ble_eq_true rfl) (Nat.le_of_ble_eq_true rfl) (htl _ mw_239) (fun _ h9 => h9) dX13_run_142 ?_
          refine lv_iload_n hx hb dX13_run_145 rfl (lv_at hl 4 rfl) ?_
          refine mz_iald hx hb hK hM 61 (Nat.le_of_ble_eq_true rfl) rfl (nn := 120) rfl rfl (by omega) (by omega) dX13_run_146 (fun v113 e_v113 => ?_)
          have hq_v113 := tk_rng v113
          refine lv_istore (lv' := [(5, .int v113), (4, .int v108), (3, .int v105), (2, .int v102), (0, .ref am), (1, .int p1)]) hx hb dX13_run_147 hl (by decide) rfl (fun ls hl => ?_)
          refine lv_iload hx hb dX13_run_149 (lv_at hl 0 rfl) ?_
          refine lv_if_ne (tgt := 165) hx hb dX13_run_151 (by decide) (fun c9 => ?_) (fun c9 => ?_)
          · have hc114 : ¬ (v113.toInt = 0) := fun h9 => c9 ((fi_eq rfl (show (0 : Int32).toInt = 0 by decide)).mpr h9)
            refine lv_iload hx hb dX13_run_165 (lv_at hl 0 rfl) ?_
            refine lv_iconst (v := 1) hx hb dX13_run_167 (by decide) ?_
            refine lv_icmp_ne (tgt := 179) hx hb dX13_run_168 (by decide) (fun c9 => ?_) (fun c9 => ?_)
            · have hc115 : ¬ (v113.toInt = 1) := fun h9 => c9 ((fi_eq rfl (show (1 : Int32).toInt = 1 by decide)).mpr h9)
              refine lv_iload hx hb dX13_run_179 (lv_at hl 0 rfl) ?_
              refine lv_iconst (v := 2) hx hb dX13_run_181 (by decide) ?_
              refine lv_icmp_ne (tgt := 192) hx hb dX13_run_182 (by decide) (fun c9 => ?_) (fun c9 => ?_)
              · have hc116 : ¬ (v113.toInt = 2) := fun h9 => c9 ((fi_eq rfl (show (2 : Int32).toInt = 2 by decide)).mpr h9)
                refine lv_aload_n hx hb dX13_run_192 rfl (lv_at hl 4 rfl) ?_
                refine mz_Vi (As := []) (rest := []) ⟨hx, hb, hml, hown, hts⟩ hK hM hS (k_X13_dawnNow l D cy ld ad am hD _ _ _ _ hIF hIG hIR) ⟨callB_of 0 hts (wl_in mw_1145) rfl rfl rfl (htl _ mw_5) (htl _ mw_1142) hd_yX13_dawnNow ⟨(Nat.le_of_ble_eq_true rfl), (Nat.le_of_ble_eq_true rfl)⟩, htl _ mw_1143, htl _ mw_1144⟩ rfl hl.1 rfl (Nat.le_of_ble_eq_true rfl) dX13_run_193 ⟨(Nat.le_of_ble_eq_true rfl), (Nat.le_of_ble_eq_true rfl)⟩ (fun v117 H locs F G R S hpo hM hS => ?_)
                obtain ⟨hIF, hIG, hIR, hfr9, hrr9, hgr9, hrel9, hpo118, hpo119⟩ := hpo
                have hq_v117 := tk_rng v117
                have hFF := mz_fr (K := [8, 20, 34, 38, 41, 62, 63, 65]) (Fa := Fa) hfr9 hFF (by decide)
                have hRR := mz_fr (K := [3, 6, 7, 42]) (Fa := Ra) hrr9 hRR (by decide)
                have hGG := mz_fr (K := [39, 40]) (Fa := Ga) hgr9 hGG (by decide)
                have hrel := hrel.trans hrel9
                have e_v34 : R 61 (v33 : Int32).toNatClampNeg = _ := (congrFun (hrr9 61 (by decide)) _).trans e_v34
                have e_v36 : R 61 (v35 : Int32).toNatClampNeg = _ := (congrFun (hrr9 61 (by decide)) _).trans e_v36
                have e_v113 : R 61 (p1 : Int32).toNatClampNeg = _ := (congrFun (hrr9 61 (by decide)) _).trans e_v113
                have hg_0 := (hfr9 62 (by decide)).trans hg_0
                have hf27 := (hfr9 63 (by decide)).trans hf27
                have hf110 := (hfr9 65 (by decide)).trans hf110
                refine lv_istore (lv' := [(6, .int v117), (5, .int v113), (4, .int v108), (3, .int v105), (2, .int v102), (0, .ref am), (1, .int p1)]) hx hb dX13_run_196 hl (by decide) rfl (fun ls hl => ?_)
                refine lv_iload hx hb dX13_run_198 (lv_at hl 0 rfl) ?_
                refine lv_if_ge (tgt := 206) hx hb dX13_run_200 (by decide) (fun c9 => ?_) (fun c9 => ?_)
                · have hc121 : 0 ≤ v117.toInt := (fi_le (show (0 : Int32).toInt = 0 by decide) rfl).mp c9
                  refine lv_aload_n hx hb dX13_run_206 rfl (lv_at hl 5 rfl) ?_
                  refine lv_iload hx hb dX13_run_207 (lv_at hl 1 rfl) ?_
                  refine lv_iconst (v := 1) hx hb dX13_run_209 (by decide) ?_
                  refine lv_icmp_ne (tgt := 218) hx hb dX13_run_210 (by decide) (fun _ => ?_) (fun c9 => absurd (show v113.toInt = 1 from (fi_eq rfl (show (1 : Int32).toInt = 1 by decide)).mp c9) (by omega))
                  refine lv_aload_n hx hb dX13_run_218 rfl (lv_at hl 5 rfl) ?_
                  refine mz_getI hx hb htl hown hK hM 63 (Nat.le_of_ble_eq_true rfl) rfl (htl _ mw_1010) (fun _ h9 => h9) dX13_run_219 (fun v9 e9 => ?_)
                  refine fx_ti (v := v28) (e9.symm.trans hf27) ?_
                  refine mz_putI (ty := .int) (x := v28) hx hb htl hown hK hD hM hS 63 (Nat.le_of_ble_eq_true rfl) rfl (htl _ mw_1010) (fun _ h9 => h9) rfl (tyX13_ok 63 (by decide)) rfl rfl dX13_run_222 (fun H locs F hM hS hf9 hj9 => ?_)
                  have hIF := hIF.put hf9 hj9 (tk_rng _).1 (tk_rng _).2 (by decide)
                  have hFF := mz_frp (K := [8, 20, 34, 38, 41, 62, 63, 65]) (Fa := Fa) hj9 hFF (by decide)
                  have hg_0 := (hj9 62 (by decide)).trans hg_0
                  have hf110 := (hj9 65 (by decide)).trans hf110
                  have hf123 := hf9
                  refine lv_aload_n hx hb dX13_run_225 rfl (lv_at hl 5 rfl) ?_
                  refine lv_dup hx hb dX13_run_226 rfl ?_
                  refine mz_getI hx hb htl hown hK hM 62 (Nat.le_of_ble_eq_true rfl) rfl (htl _ mw_1009) (fun _ h9 => h9) dX13_run_227 (fun v9 e9 => ?_)
                  refine fx_ti (v := gd) (e9.symm.trans hg_0) ?_
                  refine lv_iconst (v := 1) hx hb dX13_run_230 (by decide) ?_
                  refine lv_iadd hx hb dX13_run_231 ?_
                  refine tk_add rfl (show (1 : Int32).toInt = 1 by decide) (by omega) (by omega) (fun v124 h_v124 => ?_)
                  refine mz_putI (ty := .int) (x := v124) hx hb htl hown hK hD hM hS 62 (Nat.le_of_ble_eq_true rfl) rfl (htl _ mw_1009) (fun _ h9 => h9) rfl (tyX13_ok 62 (by decide)) rfl rfl dX13_run_232 (fun H locs F hM hS hf9 hj9 => ?_)
                  have hIF := hIF.put hf9 hj9 (tk_rng _).1 (tk_rng _).2 (by decide)
                  have hFF := mz_frp (K := [8, 20, 34, 38, 41, 62, 63, 65]) (Fa := Fa) hj9 hFF (by decide)
                  have hf110 := (hj9 65 (by decide)).trans hf110
                  have hf123 := (hj9 63 (by decide)).trans hf123
                  have hf126 := hf9
                  refine lv_iconst (v := 0) hx hb dX13_run_235 (by decide) ?_
                  have hk_0 : (0 : Int32).toInt = 0 := by decide
                  exact mz_iret (v := 0) hx hb hr rfl hlocks ⟨hIF, hIG, hIR, hFF, hRR, hGG, hrel, (by omega), (by omega), (by rw [hf126]; omega), (by rw [hf126]; omega)⟩ hM hS dX13_run_236
                · have hc121 : ¬ (0 ≤ v117.toInt) := fun h9 => c9 ((fi_le (show (0 : Int32).toInt = 0 by decide) rfl).mpr h9)
                  refine lv_bipush (v := (-3)) hx hb dX13_run_203 (by decide) ?_
                  have hk_m3 : ((-3) : Int32).toInt = (-3) := by decide
                  exact mz_iret (v := (-3)) hx hb hr rfl hlocks ⟨hIF, hIG, hIR, hFF, hRR, hGG, hrel, (by omega), (by omega), (by rw [hg_0]; omega), (by rw [hg_0]; omega)⟩ hM hS dX13_run_205
              · have hc116 : v113.toInt = 2 := (fi_eq rfl (show (2 : Int32).toInt = 2 by decide)).mp c9
                refine lv_aload_n hx hb dX13_run_185 rfl (lv_at hl 4 rfl) ?_
                refine mz_Vi (As := []) (rest := []) ⟨hx, hb, hml, hown, hts⟩ hK hM hS (k_X13_partNow l D cy ld ad am hD _ _ _ _ hIF hIG hIR) ⟨callB_of 0 hts (wl_in mw_1141) rfl rfl rfl (htl _ mw_5) (htl _ mw_1138) hd_yX13_partNow ⟨(Nat.le_of_ble_eq_true rfl), (Nat.le_of_ble_eq_true rfl)⟩, htl _ mw_1139, htl _ mw_1140⟩ rfl hl.1 rfl (Nat.le_of_ble_eq_true rfl) dX13_run_186 ⟨(Nat.le_of_ble_eq_true rfl), (Nat.le_of_ble_eq_true rfl)⟩ (fun v127 H locs F G R S hpo hM hS => ?_)
                obtain ⟨hIF, hIG, hIR, hfr9, hrr9, hgr9, hrel9, hpo128, hpo129⟩ := hpo
                have hq_v127 := tk_rng v127
                have hFF := mz_fr (K := [8, 20, 34, 38, 41, 62, 63, 65]) (Fa := Fa) hfr9 hFF (by decide)
                have hRR := mz_fr (K := [3, 6, 7, 42]) (Fa := Ra) hrr9 hRR (by decide)
                have hGG := mz_fr (K := [39, 40]) (Fa := Ga) hgr9 hGG (by decide)
                have hrel := hrel.trans hrel9
                have e_v34 : R 61 (v33 : Int32).toNatClampNeg = _ := (congrFun (hrr9 61 (by decide)) _).trans e_v34
                have e_v36 : R 61 (v35 : Int32).toNatClampNeg = _ := (congrFun (hrr9 61 (by decide)) _).trans e_v36
                have e_v113 : R 61 (p1 : Int32).toNatClampNeg = _ := (congrFun (hrr9 61 (by decide)) _).trans e_v113
                have hg_0 := (hfr9 62 (by decide)).trans hg_0
                have hf27 := (hfr9 63 (by decide)).trans hf27
                have hf110 := (hfr9 65 (by decide)).trans hf110
                refine lv_goto (tgt := 196) hx hb dX13_run_189 (by decide) ?_
                refine lv_istore (lv' := [(6, .int v127), (5, .int v113), (4, .int v108), (3, .int v105), (2, .int v102), (0, .ref am), (1, .int p1)]) hx hb dX13_run_196 hl (by decide) rfl (fun ls hl => ?_)
                refine lv_iload hx hb dX13_run_198 (lv_at hl 0 rfl) ?_
                refine lv_if_ge (tgt := 206) hx hb dX13_run_200 (by decide) (fun c9 => ?_) (fun c9 => ?_)
                · have hc131 : 0 ≤ v127.toInt := (fi_le (show (0 : Int32).toInt = 0 by decide) rfl).mp c9
                  refine lv_aload_n hx hb dX13_run_206 rfl (lv_at hl 5 rfl) ?_
                  refine lv_iload hx hb dX13_run_207 (lv_at hl 1 rfl) ?_
                  refine lv_iconst (v := 1) hx hb dX13_run_209 (by decide) ?_
                  refine lv_icmp_ne (tgt := 218) hx hb dX13_run_210 (by decide) (fun _ => ?_) (fun c9 => absurd (show v113.toInt = 1 from (fi_eq rfl (show (1 : Int32).toInt = 1 by decide)).mp c9) (by omega))
                  refine lv_aload_n hx hb dX13_run_218 rfl (lv_at hl 5 rfl) ?_
                  refine mz_getI hx hb htl hown hK hM 63 (Nat.le_of_ble_eq_true rfl) rfl (htl _ mw_1010) (fun _ h9 => h9) dX13_run_219 (fun v9 e9 => ?_)
                  refine fx_ti (v := v28) (e9.symm.trans hf27) ?_
                  refine mz_putI (ty := .int) (x := v28) hx hb htl hown hK hD hM hS 63 (Nat.le_of_ble_eq_true rfl) rfl (htl _ mw_1010) (fun _ h9 => h9) rfl (tyX13_ok 63 (by decide)) rfl rfl dX13_run_222 (fun H locs F hM hS hf9 hj9 => ?_)
                  have hIF := hIF.put hf9 hj9 (tk_rng _).1 (tk_rng _).2 (by decide)
                  have hFF := mz_frp (K := [8, 20, 34, 38, 41, 62, 63, 65]) (Fa := Fa) hj9 hFF (by decide)
                  have hg_0 := (hj9 62 (by decide)).trans hg_0
                  have hf110 := (hj9 65 (by decide)).trans hf110
                  have hf133 := hf9
                  refine lv_aload_n hx hb dX13_run_225 rfl (lv_at hl 5 rfl) ?_
                  refine lv_dup hx hb dX13_run_226 rfl ?_
                  refine mz_getI hx hb htl hown hK hM 62 (Nat.le_of_ble_eq_true rfl) rfl (htl _ mw_1009) (fun _ h9 => h9) dX13_run_227 (fun v9 e9 => ?_)
                  refine fx_ti (v := gd) (e9.symm.trans hg_0) ?_
                  refine lv_iconst (v := 1) hx hb dX13_run_230 (by decide) ?_
                  refine lv_iadd hx hb dX13_run_231 ?_
                  refine tk_add rfl (show (1 : Int32).toInt = 1 by decide) (by omega) (by omega) (fun v134 h_v134 => ?_)
                  refine mz_putI (ty := .int) (x := v134) hx hb htl hown hK hD hM hS 62 (Nat.le_of_ble_eq_true rfl) rfl (htl _ mw_1009) (fun _ h9 => h9) rfl (tyX13_ok 62 (by decide)) rfl rfl dX13_run_232 (fun H locs F hM hS hf9 hj9 => ?_)
                  have hIF := hIF.put hf9 hj9 (tk_rng _).1 (tk_rng _).2 (by decide)
                  have hFF := mz_frp (K := [8, 20, 34, 38, 41, 62, 63, 65]) (Fa := Fa) hj9 hFF (by decide)
                  have hf110 := (hj9 65 (by decide)).trans hf110
                  have hf133 := (hj9 63 (by decide)).trans hf133
                  have hf136 := hf9
                  refine lv_iconst (v := 0) hx hb dX13_run_235 (by decide) ?_
                  have hk_0 : (0 : Int32).toInt = 0 := by decide
                  exact mz_iret (v := 0) hx hb hr rfl hlocks ⟨hIF, hIG, hIR, hFF, hRR, hGG, hrel, (by omega), (by omega), (by rw [hf136]; omega), (by rw [hf136]; omega)⟩ hM hS dX13_run_236
                · have hc131 : ¬ (0 ≤ v127.toInt) := fun h9 => c9 ((fi_le (show (0 : Int32).toInt = 0 by decide) rfl).mpr h9)
                  refine lv_bipush (v := (-3)) hx hb dX13_run_203 (by decide) ?_
                  have hk_m3 : ((-3) : Int32).toInt = (-3) := by decide
                  exact mz_iret (v := (-3)) hx hb hr rfl hlocks ⟨hIF, hIG, hIR, hFF, hRR, hGG, hrel, (by omega), (by omega), (by rw [hg_0]; omega), (by rw [hg_0]; omega)⟩ hM hS dX13_run_205
            · have hc115 : v113.toInt = 1 := (fi_eq rfl (show (1 : Int32).toInt = 1 by decide)).mp c9
              refine lv_aload_n hx hb dX13_run_171 rfl (lv_at hl 4 rfl) ?_
              refine lv_iload_n hx hb dX13_run_172 rfl (lv_at hl 3 rfl) ?_
              refine mz_Vi (As := [.int v102]) (rest := []) ⟨hx, hb, hml, hown, hts⟩ hK hM hS (k_X13_singNow l D cy ld ad am hD _ _ _ _ v102 hIF hIG hIR) ⟨callB_of 1 hts (wl_in mw_1087) rfl rfl rfl (htl _ mw_5) (htl _ mw_1084) hd_yX13_singNow ⟨(Nat.le_of_ble_eq_true rfl), (Nat.le_of_ble_eq_true rfl)⟩, htl _ mw_1085, htl _ mw_1086⟩ rfl hl.1 rfl (Nat.le_of_ble_eq_true rfl) dX13_run_173 ⟨(Nat.le_of_ble_eq_true rfl), (Nat.le_of_ble_eq_true rfl)⟩ (fun v137 H locs F G R S hpo hM hS => ?_)
              obtain ⟨hIF, hIG, hIR, hfr9, hrr9, hgr9, hrel9, hpo138, hpo139⟩ := hpo
              have hq_v137 := tk_rng v137
              have hFF := mz_fr (K := [8, 20, 34, 38, 41, 62, 63, 65]) (Fa := Fa) hfr9 hFF (by decide)
              have hRR := mz_fr (K := [3, 6, 7, 42]) (Fa := Ra) hrr9 hRR (by decide)
              have hGG := mz_fr (K := [39, 40]) (Fa := Ga) hgr9 hGG (by decide)
              have hrel := hrel.trans hrel9
              have e_v34 : R 61 (v33 : Int32).toNatClampNeg = _ := (congrFun (hrr9 61 (by decide)) _).trans e_v34
              have e_v36 : R 61 (v35 : Int32).toNatClampNeg = _ := (congrFun (hrr9 61 (by decide)) _).trans e_v36
              have e_v113 : R 61 (p1 : Int32).toNatClampNeg = _ := (congrFun (hrr9 61 (by decide)) _).trans e_v113
              have hg_0 := (hfr9 62 (by decide)).trans hg_0
              have hf27 := (hfr9 63 (by decide)).trans hf27
              have hf110 := (hfr9 65 (by decide)).trans hf110
              refine lv_goto (tgt := 196) hx hb dX13_run_176 (by decide) ?_
              refine lv_istore (lv' := [(6, .int v137), (5, .int v113), (4, .int v108), (3, .int v105), (2, .int v102), (0, .ref am), (1, .int p1)]) hx hb dX13_run_196 hl (by decide) rfl (fun ls hl => ?_)
              refine lv_iload hx hb dX13_run_198 (lv_at hl 0 rfl) ?_
              refine lv_if_ge (tgt := 206) hx hb dX13_run_200 (by decide) (fun c9 => ?_) (fun c9 => ?_)
              · have hc141 : 0 ≤ v137.toInt := (fi_le (show (0 : Int32).toInt = 0 by decide) rfl).mp c9
                refine lv_aload_n hx hb dX13_run_206 rfl (lv_at hl 5 rfl) ?_
                refine lv_iload hx hb dX13_run_207 (lv_at hl 1 rfl) ?_
                refine lv_iconst (v := 1) hx hb dX13_run_209 (by decide) ?_
                refine lv_icmp_ne (tgt := 218) hx hb dX13_run_210 (by decide) (fun c9 => absurd ((fi_eq rfl (show (1 : Int32).toInt = 1 by decide)).mpr (show v113.toInt = 1 by omega)) c9) (fun _ => ?_)
                refine lv_iload hx hb dX13_run_213 (lv_at hl 0 rfl) ?_
                refine lv_goto (tgt := 222) hx hb dX13_run_215 (by decide) ?_
                refine mz_putI (ty := .int) (x := v137) hx hb htl hown hK hD hM hS 63 (Nat.le_of_ble_eq_true rfl) rfl (htl _ mw_1010) (fun _ h9 => h9) rfl (tyX13_ok 63 (by decide)) rfl rfl dX13_run_222 (fun H locs F hM hS hf9 hj9 => ?_)
                have hIF := hIF.put hf9 hj9 (tk_rng _).1 (tk_rng _).2 (by decide)
                have hFF := mz_frp (K := [8, 20, 34, 38, 41, 62, 63, 65]) (Fa := Fa) hj9 hFF (by decide)
                have hg_0 := (hj9 62 (by decide)).trans hg_0
                have hf110 := (hj9 65 (by decide)).trans hf110
                have hf143 := hf9
                refine lv_aload_n hx hb dX13_run_225 rfl (lv_at hl 5 rfl) ?_
                refine lv_dup hx hb dX13_run_226 rfl ?_
                refine mz_getI hx hb htl hown hK hM 62 (Nat.le_of_ble_eq_true rfl) rfl (htl _ mw_1009) (fun _ h9 => h9) dX13_run_227 (fun v9 e9 => ?_)
                refine fx_ti (v := gd) (e9.symm.trans hg_0) ?_
                refine lv_iconst (v := 1) hx hb dX13_run_230 (by decide) ?_
                refine lv_iadd hx hb dX13_run_231 ?_
                refine tk_add rfl (show (1 : Int32).toInt = 1 by decide) (by omega) (by omega) (fun v144 h_v144 => ?_)
                refine mz_putI (ty := .int) (x := v144) hx hb htl hown hK hD hM hS 62 (Nat.le_of_ble_eq_true rfl) rfl (htl _ mw_1009) (fun _ h9 => h9) rfl (tyX13_ok 62 (by decide)) rfl rfl dX13_run_232 (fun H locs F hM hS hf9 hj9 => ?_)
                have hIF := hIF.put hf9 hj9 (tk_rng _).1 (tk_rng _).2 (by decide)
                have hFF := mz_frp (K := [8, 20, 34, 38, 41, 62, 63, 65]) (Fa := Fa) hj9 hFF (by decide)
                have hf110 := (hj9 65 (by decide)).trans hf110
                have hf143 := (hj9 63 (by decide)).trans hf143
                have hf146 := hf9
                refine lv_iconst (v := 0) hx hb dX13_run_235 (by decide) ?_
                have hk_0 : (0 : Int32).toInt = 0 := by decide
                exact mz_iret (v := 0) hx hb hr rfl hlocks ⟨hIF, hIG, hIR, hFF, hRR, hGG, hrel, (by omega), (by omega), (by rw [hf146]; omega), (by rw [hf146]; omega)⟩ hM hS dX13_run_236
              · have hc141 : ¬ (0 ≤ v137.toInt) := fun h9 => c9 ((fi_le (show (0 : Int32).toInt = 0 by decide) rfl).mpr h9)
                refine lv_bipush (v := (-3)) hx hb dX13_run_203 (by decide) ?_
                have hk_m3 : ((-3) : Int32).toInt = (-3) := by decide
                exact mz_iret (v := (-3)) hx hb hr rfl hlocks ⟨hIF, hIG, hIR, hFF, hRR, hGG, hrel, (by omega), (by omega), (by rw [hg_0]; omega), (by rw [hg_0]; omega)⟩ hM hS dX13_run_205
          · have hc114 : v113.toInt = 0 := (fi_eq rfl (show (0 : Int32).toInt = 0 by decide)).mp c9
            refine lv_aload_n hx hb dX13_run_154 rfl (lv_at hl 4 rfl) ?_
            refine lv_iload_n hx hb dX13_run_155 rfl (lv_at hl 3 rfl) ?_
            refine lv_iload_n hx hb dX13_run_156 rfl (lv_at hl 2 rfl) ?_
            refine lv_iload hx hb dX13_run_157 (lv_at hl 1 rfl) ?_
            refine mz_Vi (As := [.int v102, .int v105, .int v108]) (rest := []) ⟨hx, hb, hml, hown, hts⟩ hK hM hS (k_X13_beginNow l D cy ld ad am hD _ _ _ _ v102 v105 v108 hIF hIG hIR) ⟨callB_of 3 hts (wl_in mw_1067) rfl rfl rfl (htl _ mw_5) (htl _ mw_1064) hd_yX13_beginNow ⟨(Nat.le_of_ble_eq_true rfl), (Nat.le_of_ble_eq_true rfl)⟩, htl _ mw_1065, htl _ mw_1066⟩ rfl hl.1 rfl (Nat.le_of_ble_eq_true rfl) dX13_run_159 ⟨(Nat.le_of_ble_eq_true rfl), (Nat.le_of_ble_eq_true rfl)⟩ (fun v147 H locs F G R S hpo hM hS => ?_)
            obtain ⟨hIF, hIG, hIR, hfr9, hrr9, hgr9, hrel9, hpo148, hpo149⟩ := hpo
            have hq_v147 := tk_rng v147
            have hFF := mz_fr (K := [8, 20, 34, 38, 41, 62, 63, 65]) (Fa := Fa) hfr9 hFF (by decide)
            have hRR := mz_fr (K := [3, 6, 7, 42]) (Fa := Ra) hrr9 hRR (by decide)
            have hGG := mz_fr (K := [39, 40]) (Fa := Ga) hgr9 hGG (by decide)
            have hrel := hrel.trans hrel9
            have e_v34 : R 61 (v33 : Int32).toNatClampNeg = _ := (congrFun (hrr9 61 (by decide)) _).trans e_v34
            have e_v36 : R 61 (v35 : Int32).toNatClampNeg = _ := (congrFun (hrr9 61 (by decide)) _).trans e_v36
            have e_v113 : R 61 (p1 : Int32).toNatClampNeg = _ := (congrFun (hrr9 61 (by decide)) _).trans e_v113
            have hg_0 := (hfr9 62 (by decide)).trans hg_0
            have hf27 := (hfr9 63 (by decide)).trans hf27
            have hf110 := (hfr9 65 (by decide)).trans hf110
            refine lv_goto (tgt := 196) hx hb dX13_run_162 (by decide) ?_
            refine lv_istore (lv' := [(6, .int v147), (5, .int v113), (4, .int v108), (3, .int v105), (2, .int v102), (0, .ref am), (1, .int p1)]) hx hb dX13_run_196 hl (by decide) rfl (fun ls hl => ?_)
            refine lv_iload hx hb dX13_run_198 (lv_at hl 0 rfl) ?_
            refine lv_if_ge (tgt := 206) hx hb dX13_run_200 (by decide) (fun c9 => ?_) (fun c9 => ?_)
            · have hc151 : 0 ≤ v147.toInt := (fi_le (show (0 : Int32).toInt = 0 by decide) rfl).mp c9
              refine lv_aload_n hx hb dX13_run_206 rfl (lv_at hl 5 rfl) ?_
              refine lv_iload hx hb dX13_run_207 (lv_at hl 1 rfl) ?_
              refine lv_iconst (v := 1) hx hb dX13_run_209 (by decide) ?_
              refine lv_icmp_ne (tgt := 218) hx hb dX13_run_210 (by decide) (fun _ => ?_) (fun c9 => absurd (show v113.toInt = 1 from (fi_eq rfl (show (1 : Int32).toInt = 1 by decide)).mp c9) (by omega))
              refine lv_aload_n hx hb dX13_run_218 rfl (lv_at hl 5 rfl) ?_
              refine mz_getI hx hb htl hown hK hM 63 (Nat.le_of_ble_eq_true rfl) rfl (htl _ mw_1010) (fun _ h9 => h9) dX13_run_219 (fun v9 e9 => ?_)
              refine fx_ti (v := v28) (e9.symm.trans hf27) ?_
              refine mz_putI (ty := .int) (x := v28) hx hb htl hown hK hD hM hS 63 (Nat.le_of_ble_eq_true rfl) rfl (htl _ mw_1010) (fun _ h9 => h9) rfl (tyX13_ok 63 (by decide)) rfl rfl dX13_run_222 (fun H locs F hM hS hf9 hj9 => ?_)
              have hIF := hIF.put hf9 hj9 (tk_rng _).1 (tk_rng _).2 (by decide)
              have hFF := mz_frp (K := [8, 20, 34, 38, 41, 62, 63, 65]) (Fa := Fa) hj9 hFF (by decide)
              have hg_0 := (hj9 62 (by decide)).trans hg_0
              have hf110 := (hj9 65 (by decide)).trans hf110
              have hf153 := hf9
              refine lv_aload_n hx hb dX13_run_225 rfl (lv_at hl 5 rfl) ?_
              refine lv_dup hx hb dX13_run_226 rfl ?_
              refine mz_getI hx hb htl hown hK hM 62 (Nat.le_of_ble_eq_true rfl) rfl (htl _ mw_1009) (fun _ h9 => h9) dX13_run_227 (fun v9 e9 => ?_)
              refine fx_ti (v := gd) (e9.symm.trans hg_0) ?_
              refine lv_iconst (v := 1) hx hb dX13_run_230 (by decide) ?_
              refine lv_iadd hx hb dX13_run_231 ?_
              refine tk_add rfl (show (1 : Int32).toInt = 1 by decide) (by omega) (by omega) (fun v154 h_v154 => ?_)
              refine mz_putI (ty := .int) (x := v154) hx hb htl hown hK hD hM hS 62 (Nat.le_of_ble_eq_true rfl) rfl (htl _ mw_1009) (fun _ h9 => h9) rfl (tyX13_ok 62 (by decide)) rfl rfl dX13_run_232 (fun H locs F hM hS hf9 hj9 => ?_)
              have hIF := hIF.put hf9 hj9 (tk_rng _).1 (tk_rng _).2 (by decide)
              have hFF := mz_frp (K := [8, 20, 34, 38, 41, 62, 63, 65]) (Fa := Fa) hj9 hFF (by decide)
              have hf110 := (hj9 65 (by decide)).trans hf110
              have hf153 := (hj9 63 (by decide)).trans hf153
              have hf156 := hf9
              refine lv_iconst (v := 0) hx hb dX13_run_235 (by decide) ?_
              have hk_0 : (0 : Int32).toInt = 0 := by decide
              exact mz_iret (v := 0) hx hb hr rfl hlocks ⟨hIF, hIG, hIR, hFF, hRR, hGG, hrel, (by omega), (by omega), (by rw [hf156]; omega), (by rw [hf156]; omega)⟩ hM hS dX13_run_236
            · have hc151 : ¬ (0 ≤ v147.toInt) := fun h9 => c9 ((fi_le (show (0 : Int32).toInt = 0 by decide) rfl).mpr h9)
              refine lv_bipush (v := (-3)) hx hb dX13_run_203 (by decide) ?_
              have hk_m3 : ((-3) : Int32).toInt = (-3) := by decide
              exact mz_iret (v := (-3)) hx hb hr rfl hlocks ⟨hIF, hIG, hIR, hFF, hRR, hGG, hrel, (by omega), (by omega), (by rw [hg_0]; omega), (by rw [hg_0]; omega)⟩ hM hS dX13_run_205
        · have hc112 : ¬ (v111.toInt = 0) := fun h9 => c9 ((fi_eq rfl (show (0 : Int32).toInt = 0 by decide)).mpr h9)
          refine lv_bipush (v := (-3)) hx hb dX13_run_138 (by decide) ?_
          have hk_m3 : ((-3) : Int32).toInt = (-3) := by decide
          exact mz_iret (v := (-3)) hx hb hr rfl hlocks ⟨hIF, hIG, hIR, hFF, hRR, hGG, hrel, (by omega), (by omega), (by rw [hg_0]; omega), (by rw [hg_0]; omega)⟩ hM hS dX13_run_140
      · have hc100 : v95.toInt = 0 := (fi_eq rfl (show (0 : Int32).toInt = 0 by decide)).mp c9
        refine lv_iconst (v := 0) hx hb dX13_run_104 (by decide) ?_
        have hk_0 : (0 : Int32).toInt = 0 := by decide
        exact mz_iret (v := 0) hx hb hr rfl hlocks ⟨hIF, hIG, hIR, hFF, hRR, hGG, hrel, (by omega), (by omega), (by rw [hg_0]; omega), (by rw [hg_0]; omega)⟩ hM hS dX13_run_105
