theorem hd_yX13_setWake : yX13_setWake.cls ≠ "java/lang/invoke/MethodHandle" ∧ yX13_setWake.cls ≠ "java/lang/invoke/VarHandle" ∧ (parseMethodDescriptor yX13_setWake.desc).map (fun d => d.parameters.length) = some 2 := by decide +kernel
theorem hd_yX13_giveCows : yX13_giveCows.cls ≠ "java/lang/invoke/MethodHandle" ∧ yX13_giveCows.cls ≠ "java/lang/invoke/VarHandle" ∧ (parseMethodDescriptor yX13_giveCows.desc).map (fun d => d.parameters.length) = some 2 := by decide +kernel
theorem dX13_singIt_0 : decode cX13_singIt 0 = .ok (.aload_n 0, 1) := by decide +kernel
theorem dX13_singIt_1 : decode cX13_singIt 1 = .ok (.iconst 4, 1) := by decide +kernel
theorem dX13_singIt_2 : decode cX13_singIt 2 = .ok (.invokevirtual 194, 3) := by decide +kernel
theorem dX13_singIt_5 : decode cX13_singIt 5 = .ok (.istore_n 2, 1) := by decide +kernel
theorem dX13_singIt_6 : decode cX13_singIt 6 = .ok (.aload_n 0, 1) := by decide +kernel
theorem dX13_singIt_7 : decode cX13_singIt 7 = .ok (.invokevirtual 431, 3) := by decide +kernel
theorem dX13_singIt_10 : decode cX13_singIt 10 = .ok (.istore_n 3, 1) := by decide +kernel
theorem dX13_singIt_11 : decode cX13_singIt 11 = .ok (.aload_n 0, 1) := by decide +kernel
theorem dX13_singIt_12 : decode cX13_singIt 12 = .ok (.iload_n 1, 1) := by decide +kernel
theorem dX13_singIt_13 : decode cX13_singIt 13 = .ok (.invokevirtual 437, 3) := by decide +kernel
theorem dX13_singIt_16 : decode cX13_singIt 16 = .ok (.aload_n 0, 1) := by decide +kernel
theorem dX13_singIt_17 : decode cX13_singIt 17 = .ok (.invokevirtual 440, 3) := by decide +kernel
theorem dX13_singIt_20 : decode cX13_singIt 20 = .ok (.istore 4, 2) := by decide +kernel
theorem dX13_singIt_22 : decode cX13_singIt 22 = .ok (.aload_n 0, 1) := by decide +kernel
theorem dX13_singIt_23 : decode cX13_singIt 23 = .ok (.invokevirtual 443, 3) := by decide +kernel
theorem dX13_singIt_26 : decode cX13_singIt 26 = .ok (.istore 5, 2) := by decide +kernel
theorem dX13_singIt_28 : decode cX13_singIt 28 = .ok (.aload_n 0, 1) := by decide +kernel
theorem dX13_singIt_29 : decode cX13_singIt 29 = .ok (.iload_n 3, 1) := by decide +kernel
theorem dX13_singIt_30 : decode cX13_singIt 30 = .ok (.iconst 0, 1) := by decide +kernel
theorem dX13_singIt_31 : decode cX13_singIt 31 = .ok (.invokevirtual 207, 3) := by decide +kernel
theorem dX13_singIt_34 : decode cX13_singIt 34 = .ok (.iload 4, 2) := by decide +kernel
theorem dX13_singIt_36 : decode cX13_singIt 36 = .ok (.isub, 1) := by decide +kernel
theorem dX13_singIt_37 : decode cX13_singIt 37 = .ok (.i2l, 1) := by decide +kernel
theorem dX13_singIt_38 : decode cX13_singIt 38 = .ok (.iconst 0, 1) := by decide +kernel
theorem dX13_singIt_39 : decode cX13_singIt 39 = .ok (.sipush 999, 3) := by decide +kernel
theorem dX13_singIt_42 : decode cX13_singIt 42 = .ok (.invokestatic 421, 3) := by decide +kernel
theorem dX13_singIt_45 : decode cX13_singIt 45 = .ok (.istore 6, 2) := by decide +kernel
theorem dX13_singIt_47 : decode cX13_singIt 47 = .ok (.aload_n 0, 1) := by decide +kernel
theorem dX13_singIt_48 : decode cX13_singIt 48 = .ok (.iload_n 3, 1) := by decide +kernel
theorem dX13_singIt_49 : decode cX13_singIt 49 = .ok (.iload 6, 2) := by decide +kernel
theorem dX13_singIt_51 : decode cX13_singIt 51 = .ok (.invokevirtual 468, 3) := by decide +kernel
theorem dX13_singIt_54 : decode cX13_singIt 54 = .ok (.aload_n 0, 1) := by decide +kernel
theorem dX13_singIt_55 : decode cX13_singIt 55 = .ok (.getfield 13, 3) := by decide +kernel
theorem dX13_singIt_58 : decode cX13_singIt 58 = .ok (.bipush 18, 2) := by decide +kernel
theorem dX13_singIt_60 : decode cX13_singIt 60 = .ok (.iconst 5, 1) := by decide +kernel
theorem dX13_singIt_61 : decode cX13_singIt 61 = .ok (.iload_n 3, 1) := by decide +kernel
theorem dX13_singIt_62 : decode cX13_singIt 62 = .ok (.imul, 1) := by decide +kernel
theorem dX13_singIt_63 : decode cX13_singIt 63 = .ok (.iadd, 1) := by decide +kernel
theorem dX13_singIt_64 : decode cX13_singIt 64 = .ok (.iconst 4, 1) := by decide +kernel
theorem dX13_singIt_65 : decode cX13_singIt 65 = .ok (.iadd, 1) := by decide +kernel
theorem dX13_singIt_66 : decode cX13_singIt 66 = .ok (.dup2, 1) := by decide +kernel
theorem dX13_singIt_67 : decode cX13_singIt 67 = .ok (.iaload, 1) := by decide +kernel
theorem dX13_singIt_68 : decode cX13_singIt 68 = .ok (.iload 4, 2) := by decide +kernel
theorem dX13_singIt_70 : decode cX13_singIt 70 = .ok (.aload_n 0, 1) := by decide +kernel
theorem dX13_singIt_71 : decode cX13_singIt 71 = .ok (.iconst 1, 1) := by decide +kernel
theorem dX13_singIt_72 : decode cX13_singIt 72 = .ok (.invokevirtual 412, 3) := by decide +kernel
theorem dX13_singIt_83 : decode cX13_singIt 83 = .ok (.iadd, 1) := by decide +kernel
theorem dX13_singIt_84 : decode cX13_singIt 84 = .ok (.iastore, 1) := by decide +kernel
theorem dX13_singIt_85 : decode cX13_singIt 85 = .ok (.aload_n 0, 1) := by decide +kernel
theorem dX13_singIt_86 : decode cX13_singIt 86 = .ok (.iload_n 2, 1) := by decide +kernel
theorem dX13_singIt_87 : decode cX13_singIt 87 = .ok (.aload_n 0, 1) := by decide +kernel
theorem dX13_singIt_88 : decode cX13_singIt 88 = .ok (.iload_n 2, 1) := by decide +kernel
theorem dX13_singIt_89 : decode cX13_singIt 89 = .ok (.iconst 0, 1) := by decide +kernel
theorem dX13_singIt_90 : decode cX13_singIt 90 = .ok (.invokevirtual 207, 3) := by decide +kernel
theorem dX13_singIt_93 : decode cX13_singIt 93 = .ok (.iload 5, 2) := by decide +kernel
theorem dX13_singIt_95 : decode cX13_singIt 95 = .ok (.isub, 1) := by decide +kernel
theorem dX13_singIt_96 : decode cX13_singIt 96 = .ok (.i2l, 1) := by decide +kernel
theorem dX13_singIt_97 : decode cX13_singIt 97 = .ok (.iconst 1, 1) := by decide +kernel
theorem dX13_singIt_98 : decode cX13_singIt 98 = .ok (.sipush 999, 3) := by decide +kernel
theorem dX13_singIt_101 : decode cX13_singIt 101 = .ok (.invokestatic 421, 3) := by decide +kernel
theorem dX13_singIt_104 : decode cX13_singIt 104 = .ok (.invokevirtual 468, 3) := by decide +kernel
theorem dX13_singIt_107 : decode cX13_singIt 107 = .ok (.aload_n 0, 1) := by decide +kernel
theorem dX13_singIt_108 : decode cX13_singIt 108 = .ok (.getfield 13, 3) := by decide +kernel
theorem dX13_singIt_111 : decode cX13_singIt 111 = .ok (.bipush 17, 2) := by decide +kernel
theorem dX13_singIt_113 : decode cX13_singIt 113 = .ok (.aload_n 0, 1) := by decide +kernel
theorem dX13_singIt_114 : decode cX13_singIt 114 = .ok (.getfield 13, 3) := by decide +kernel
theorem dX13_singIt_117 : decode cX13_singIt 117 = .ok (.bipush 58, 2) := by decide +kernel
theorem dX13_singIt_119 : decode cX13_singIt 119 = .ok (.iconst 2, 1) := by decide +kernel
theorem dX13_singIt_120 : decode cX13_singIt 120 = .ok (.iload_n 1, 1) := by decide +kernel
theorem dX13_singIt_121 : decode cX13_singIt 121 = .ok (.imul, 1) := by decide +kernel
theorem dX13_singIt_122 : decode cX13_singIt 122 = .ok (.iadd, 1) := by decide +kernel
theorem dX13_singIt_123 : decode cX13_singIt 123 = .ok (.iconst 1, 1) := by decide +kernel
theorem dX13_singIt_124 : decode cX13_singIt 124 = .ok (.iadd, 1) := by decide +kernel
theorem dX13_singIt_125 : decode cX13_singIt 125 = .ok (.iaload, 1) := by decide +kernel
theorem dX13_singIt_126 : decode cX13_singIt 126 = .ok (.iastore, 1) := by decide +kernel
theorem dX13_singIt_127 : decode cX13_singIt 127 = .ok (.aload_n 0, 1) := by decide +kernel
theorem dX13_singIt_128 : decode cX13_singIt 128 = .ok (.iconst (-1), 1) := by decide +kernel
theorem dX13_singIt_129 : decode cX13_singIt 129 = .ok (.putfield 471, 3) := by decide +kernel
theorem dX13_singIt_132 : decode cX13_singIt 132 = .ok (.iload 6, 2) := by decide +kernel
theorem dX13_singIt_134 : decode cX13_singIt 134 = .ok (.ifCond .ne 44, 3) := by decide +kernel
theorem dX13_singIt_178 : decode cX13_singIt 178 = .ok (.aload_n 0, 1) := by decide +kernel
theorem dX13_singIt_179 : decode cX13_singIt 179 = .ok (.getfield 13, 3) := by decide +kernel
theorem dX13_singIt_182 : decode cX13_singIt 182 = .ok (.bipush 16, 2) := by decide +kernel
theorem dX13_singIt_184 : decode cX13_singIt 184 = .ok (.iload_n 3, 1) := by decide +kernel
theorem dX13_singIt_185 : decode cX13_singIt 185 = .ok (.iastore, 1) := by decide +kernel
theorem dX13_singIt_186 : decode cX13_singIt 186 = .ok (.aload_n 0, 1) := by decide +kernel
theorem dX13_singIt_187 : decode cX13_singIt 187 = .ok (.getfield 13, 3) := by decide +kernel
theorem dX13_singIt_190 : decode cX13_singIt 190 = .ok (.bipush 15, 2) := by decide +kernel
theorem dX13_singIt_192 : decode cX13_singIt 192 = .ok (.dup2, 1) := by decide +kernel
theorem dX13_singIt_193 : decode cX13_singIt 193 = .ok (.iaload, 1) := by decide +kernel
theorem dX13_singIt_194 : decode cX13_singIt 194 = .ok (.iload_n 3, 1) := by decide +kernel
theorem dX13_singIt_195 : decode cX13_singIt 195 = .ok (.aload_n 0, 1) := by decide +kernel
theorem dX13_singIt_196 : decode cX13_singIt 196 = .ok (.iconst 0, 1) := by decide +kernel
theorem dX13_singIt_197 : decode cX13_singIt 197 = .ok (.invokevirtual 194, 3) := by decide +kernel
theorem dX13_singIt_200 : decode cX13_singIt 200 = .ok (.if_icmp .ne 7, 3) := by decide +kernel
theorem dX13_singIt_207 : decode cX13_singIt 207 = .ok (.iconst 0, 1) := by decide +kernel
theorem dX13_singIt_208 : decode cX13_singIt 208 = .ok (.iadd, 1) := by decide +kernel
theorem dX13_singIt_209 : decode cX13_singIt 209 = .ok (.iastore, 1) := by decide +kernel
theorem dX13_singIt_210 : decode cX13_singIt 210 = .ok (.aload_n 0, 1) := by decide +kernel
theorem dX13_singIt_211 : decode cX13_singIt 211 = .ok (.iconst 3, 1) := by decide +kernel
theorem dX13_singIt_212 : decode cX13_singIt 212 = .ok (.invokevirtual 194, 3) := by decide +kernel
theorem dX13_singIt_215 : decode cX13_singIt 215 = .ok (.bipush 12, 2) := by decide +kernel
theorem dX13_singIt_217 : decode cX13_singIt 217 = .ok (.if_icmp .ne 7, 3) := by decide +kernel
theorem dX13_singIt_224 : decode cX13_singIt 224 = .ok (.iload 6, 2) := by decide +kernel
theorem dX13_singIt_226 : decode cX13_singIt 226 = .ok (.ireturn, 1) := by decide +kernel
theorem dX13_singIt_203 : decode cX13_singIt 203 = .ok (.iconst 1, 1) := by decide +kernel
theorem dX13_singIt_204 : decode cX13_singIt 204 = .ok (.goto 4, 3) := by decide +kernel
theorem dX13_singIt_220 : decode cX13_singIt 220 = .ok (.aload_n 0, 1) := by decide +kernel
theorem dX13_singIt_221 : decode cX13_singIt 221 = .ok (.invokevirtual 167, 3) := by decide +kernel
theorem dX13_singIt_137 : decode cX13_singIt 137 = .ok (.aload_n 0, 1) := by decide +kernel
theorem dX13_singIt_138 : decode cX13_singIt 138 = .ok (.getfield 13, 3) := by decide +kernel
theorem dX13_singIt_141 : decode cX13_singIt 141 = .ok (.bipush 18, 2) := by decide +kernel
theorem dX13_singIt_143 : decode cX13_singIt 143 = .ok (.iconst 5, 1) := by decide +kernel
theorem dX13_singIt_144 : decode cX13_singIt 144 = .ok (.iload_n 3, 1) := by decide +kernel
theorem dX13_singIt_145 : decode cX13_singIt 145 = .ok (.imul, 1) := by decide +kernel
theorem dX13_singIt_146 : decode cX13_singIt 146 = .ok (.iadd, 1) := by decide +kernel
theorem dX13_singIt_147 : decode cX13_singIt 147 = .ok (.iconst 3, 1) := by decide +kernel
theorem dX13_singIt_148 : decode cX13_singIt 148 = .ok (.iadd, 1) := by decide +kernel
theorem dX13_singIt_149 : decode cX13_singIt 149 = .ok (.iconst 1, 1) := by decide +kernel
theorem dX13_singIt_150 : decode cX13_singIt 150 = .ok (.iastore, 1) := by decide +kernel
theorem dX13_singIt_151 : decode cX13_singIt 151 = .ok (.aload_n 0, 1) := by decide +kernel
theorem dX13_singIt_152 : decode cX13_singIt 152 = .ok (.aload_n 0, 1) := by decide +kernel
theorem dX13_singIt_153 : decode cX13_singIt 153 = .ok (.iload_n 2, 1) := by decide +kernel
theorem dX13_singIt_154 : decode cX13_singIt 154 = .ok (.iconst 2, 1) := by decide +kernel
theorem dX13_singIt_155 : decode cX13_singIt 155 = .ok (.invokevirtual 207, 3) := by decide +kernel
theorem dX13_singIt_158 : decode cX13_singIt 158 = .ok (.aload_n 0, 1) := by decide +kernel
theorem dX13_singIt_159 : decode cX13_singIt 159 = .ok (.iconst 2, 1) := by decide +kernel
theorem dX13_singIt_160 : decode cX13_singIt 160 = .ok (.invokevirtual 194, 3) := by decide +kernel
theorem dX13_singIt_163 : decode cX13_singIt 163 = .ok (.invokevirtual 474, 3) := by decide +kernel
theorem dX13_singIt_166 : decode cX13_singIt 166 = .ok (.aload_n 0, 1) := by decide +kernel
theorem dX13_singIt_167 : decode cX13_singIt 167 = .ok (.iload_n 3, 1) := by decide +kernel
theorem dX13_singIt_168 : decode cX13_singIt 168 = .ok (.putfield 471, 3) := by decide +kernel
theorem dX13_singIt_171 : decode cX13_singIt 171 = .ok (.aload_n 0, 1) := by decide +kernel
theorem dX13_singIt_172 : decode cX13_singIt 172 = .ok (.invokevirtual 167, 3) := by decide +kernel
theorem dX13_singIt_175 : decode cX13_singIt 175 = .ok (.goto 49, 3) := by decide +kernel
theorem dX13_singIt_75 : decode cX13_singIt 75 = .ok (.if_icmp .lt 7, 3) := by decide +kernel
theorem dX13_singIt_82 : decode cX13_singIt 82 = .ok (.iconst 0, 1) := by decide +kernel
theorem dX13_singIt_78 : decode cX13_singIt 78 = .ok (.iconst 1, 1) := by decide +kernel
theorem dX13_singIt_79 : decode cX13_singIt 79 = .ok (.goto 4, 3) := by decide +kernel
set_option maxHeartbeats 4000000 in
set_option maxRecDepth 100000 in
theorem k_X13_singIt (l : Launch) (D : va_G) (cy : Nat → ClassId) (ld ad : Nat → Nat) (am : Nat) (hD : mz_D ad am) (Fa : Nat → Int32) (Ga : Nat → Int64) (Ra : Nat → Nat → Int32) (Sa : Nat → Nat → Int64) (p1 : Int32) (g12 : Int32) (g13 : Int32) (g15 : Int32) (g16 : Int32) (hIF : mz_IF true Fa) (hIG : mz_IG Ga) (hIR : mz_IR [] true Ra) (hg_0 : Ra 3 12 = g12) (hg_1 : Ra 3 13 = g13) (hg_2 : Ra 3 15 = g15) (hg_3 : Ra 3 16 = g16) (hp_0 : 0 ≤ p1.toInt) (hp_1 : p1.toInt ≤ 9) (hp_2 : 0 ≤ g12.toInt) : Met l yX13_singIt (wl yX13_singIt cX13_singIt 7 (some .int)) ({ frames := 9, cells := 0, slots := 0, locals := 560 }) (mz_p D cy ld ad am Fa Ga Ra Sa [.ref am, .int p1]) (mz_i D cy ad am (fun r F G R S => mz_IF true F ∧ mz_IG G ∧ mz_IR [] true R ∧ (∀ k : Nat, k ∉ ([34, 38, 41] : List Nat) → F k = Fa k) ∧ (∀ k : Nat, k ∉ ([3] : List Nat) → R k = Ra k) ∧ (∀ k : Nat, k ∉ ([39, 40] : List Nat) → G k = Ga k) ∧ rK2 (Ra 3) (R 3) ∧ 0 ≤ r.toInt ∧ r.toInt ≤ 999 ∧ (0 ≤ (R 3 12).toInt → (-1) * g12.toInt + (R 3 12).toInt = 0 ∧ 0 ≤ (-1) * g15.toInt + (R 3 15).toInt) ∧ (0 ≤ (R 3 12).toInt → 0 ≤ (-1) * g12.toInt + g16.toInt + (-1) → 0 ≤ (-1) * g15.toInt + (R 3 15).toInt + (-1)) ∧ (0 ≤ (R 3 12).toInt → 0 ≤ g12.toInt + (-1) * g16.toInt + (-1) → 0 ≤ (-1) * g15.toInt + (R 3 15).toInt + (-1)) ∧ (0 ≤ (R 3 12).toInt → 0 ≤ g15.toInt + (-1) * (R 3 15).toInt → (-1) * g12.toInt + (R 3 16).toInt = 0 → 0 ≤ (-1)))) 0 0 (mz_W ad am) := by
  refine mz_met (y := yX13_singIt) (cc := cX13_singIt) (maxL := 7) (ret := (some .int)) (av := [.ref am, .int p1]) _ (by decide) (Nat.le_of_ble_eq_true rfl) ?_
  intro p e s m args below meth c hx hb hr hml hts htl hown hlocks hK H locs hM hS ls hl
  have hown : s.vm.findClass RX13 = some m.cls := hown
  have hl : lv_has ls 7 [(0, .ref am), (1, .int p1)] := hl
  have hr_p1 := tk_rng p1
  have hq_g12 := tk_rng g12
  have hq_g13 := tk_rng g13
  have hq_g15 := tk_rng g15
  have hq_g16 := tk_rng g16
  have hr_g12 : (-1) ≤ g12.toInt ∧ g12.toInt ≤ 7 := by have h9 := hIR.d; unfold dO at h9; rw [hg_0] at h9; omega
  have hr_g13 : (-1) ≤ g13.toInt ∧ g13.toInt ≤ 7 := by have h9 := hIR.d; unfold dO at h9; rw [hg_1] at h9; omega
  have hti_0 : g12.toInt ≠ -1 → g13.toInt ≠ -1 := by have h9 := hIR.d.2.2.2.2.2; rw [hg_0, hg_1] at h9; exact fun h8 => (h9 h8).1
  have hwk_2 : 0 ≤ g13.toInt := by omega
  have hr_g15 : (-1) ≤ g15.toInt ∧ g15.toInt ≤ 11 := by have h9 := hIR.d; unfold dO at h9; rw [hg_2] at h9; omega
  have hti_2 : g12.toInt ≠ -1 → g15.toInt ≠ -1 := by have h9 := hIR.d.2.2.2.2.2; rw [hg_0, hg_2] at h9; exact fun h8 => (h9 h8).2.1
  have hwk_4 : 0 ≤ g15.toInt := by omega
  have hr_g16 : (-1) ≤ g16.toInt ∧ g16.toInt ≤ 7 := by have h9 := hIR.d; unfold dO at h9; rw [hg_3] at h9; omega
  have hti_4 : g12.toInt ≠ -1 → g16.toInt ≠ -1 := by have h9 := hIR.d.2.2.2.2.2; rw [hg_0, hg_3] at h9; exact fun h8 => (h9 h8).2.2
  have hwk_6 : 0 ≤ g16.toInt := by omega
  refine lv_aload_n hx hb dX13_singIt_0 rfl (lv_at hl 0 rfl) ?_
  refine lv_iconst (v := 4) hx hb dX13_singIt_1 (by decide) ?_
  have hk_4 : (4 : Int32).toInt = 4 := by decide
  refine mz_Vj (As := [.int 4]) (rest := []) ⟨hx, hb, hml, hown, hts⟩ hK hM hS (k_X13_inDuel_4 l D cy ld ad am hD _ _ _ _ g16 hg_3) ⟨callB_of 1 hts (wl_in mw_1046) rfl rfl rfl (htl _ mw_5) (htl _ mw_1043) hd_yX13_inDuel ⟨(Nat.le_of_ble_eq_true rfl), (Nat.le_of_ble_eq_true rfl)⟩, htl _ mw_1044, htl _ mw_1045⟩ rfl hl.1 rfl (Nat.le_of_ble_eq_true rfl) dX13_singIt_2 ⟨(Nat.le_of_ble_eq_true rfl), (Nat.le_of_ble_eq_true rfl)⟩ (fun v10 H locs hpo hM hS => ?_)
  have hpo11 := hpo
  have hq_v10 := tk_rng v10
  refine lv_istore_n (lv' := [(2, .int v10), (0, .ref am), (1, .int p1)]) hx hb dX13_singIt_5 rfl hl (by decide) rfl (fun ls hl => ?_)
  refine lv_aload_n hx hb dX13_singIt_6 rfl (lv_at hl 1 rfl) ?_
  refine mz_Vj (As := []) (rest := []) ⟨hx, hb, hml, hown, hts⟩ hK hM hS (k_X13_listener l D cy ld ad am hD _ _ _ _ g12 g13 g16 (hIF.weak) hIG hIR hg_0 hg_1 hg_3) ⟨callB_of 0 hts (wl_in mw_1095) rfl rfl rfl (htl _ mw_5) (htl _ mw_1092) hd_yX13_listener ⟨(Nat.le_of_ble_eq_true rfl), (Nat.le_of_ble_eq_true rfl)⟩, htl _ mw_1093, htl _ mw_1094⟩ rfl hl.1 rfl (Nat.le_of_ble_eq_true rfl) dX13_singIt_7 ⟨(Nat.le_of_ble_eq_true rfl), (Nat.le_of_ble_eq_true rfl)⟩ (fun v13 H locs hpo hM hS => ?_)
  obtain ⟨hpo14, hpo15, hpo16, hpo17, hpo18, hpo19⟩ := hpo
  have hq_v13 := tk_rng v13
  have hwk_21 : 0 ≤ v13.toInt := by omega
  refine lv_istore_n (lv' := [(3, .int v13), (2, .int v10), (0, .ref am), (1, .int p1)]) hx hb dX13_singIt_10 rfl hl (by decide) rfl (fun ls hl => ?_)
  refine lv_aload_n hx hb dX13_singIt_11 rfl (lv_at hl 2 rfl) ?_
  refine lv_iload_n hx hb dX13_singIt_12 rfl (lv_at hl 3 rfl) ?_
  refine mz_Vv (As := [.int p1]) (rest := []) ⟨hx, hb, hml, hown, hts⟩ hK hM hS (k_X13_layVerse l D cy ld ad am hD _ _ _ _ p1 hIF hIG hIR (by omega) (by omega)) ⟨callB_of 1 hts (wl_in mw_1091) rfl rfl rfl (htl _ mw_5) (htl _ mw_1088) hd_yX13_layVerse ⟨(Nat.le_of_ble_eq_true rfl), (Nat.le_of_ble_eq_true rfl)⟩, htl _ mw_1089, htl _ mw_1090⟩ rfl hl.1 rfl (Nat.le_of_ble_eq_true rfl) dX13_singIt_13 ⟨(Nat.le_of_ble_eq_true rfl), (Nat.le_of_ble_eq_true rfl)⟩ (fun H locs F G R S hpo hM hS => ?_)
  obtain ⟨hIF, hIG, hIR, hfr9, hrr9, hgr9⟩ := hpo
  have hFF := mz_fr (K := [34, 38, 41]) (Fa := Fa) hfr9 (fun _ _ => rfl) (by decide)
  have hRR := mz_fr (K := [3]) (Fa := Ra) hrr9 (fun _ _ => rfl) (by decide)
  have hGG := mz_fr (K := [39, 40]) (Fa := Ga) hgr9 (fun _ _ => rfl) (by decide)
  have hrel : rK2 (Ra 3) (R 3) := (rK2.refl rfl).trans (rK2.refl (hrr9 3 (by decide)))
  have hg_0 : R 3 12 = _ := (congrFun (hrr9 3 (by decide)) 12).trans hg_0
  have hg_1 : R 3 13 = _ := (congrFun (hrr9 3 (by decide)) 13).trans hg_1
  have hg_2 : R 3 15 = _ := (congrFun (hrr9 3 (by decide)) 15).trans hg_2
  have hg_3 : R 3 16 = _ := (congrFun (hrr9 3 (by decide)) 16).trans hg_3
  refine lv_aload_n hx hb dX13_singIt_16 rfl (lv_at hl 2 rfl) ?_
  refine mz_Vi (As := []) (rest := []) ⟨hx, hb, hml, hown, hts⟩ hK hM hS (k_X13_lullsSet l D cy ld ad am hD _ _ _ _ hIF hIG hIR) ⟨callB_of 0 hts (wl_in mw_1121) rfl rfl rfl (htl _ mw_5) (htl _ mw_1118) hd_yX13_lullsSet ⟨(Nat.le_of_ble_eq_true rfl), (Nat.le_of_ble_eq_true rfl)⟩, htl _ mw_1119, htl _ mw_1120⟩ rfl hl.1 rfl (Nat.le_of_ble_eq_true rfl) dX13_singIt_17 ⟨(Nat.le_of_ble_eq_true rfl), (Nat.le_of_ble_eq_true rfl)⟩ (fun v23 H locs F G R S hpo hM hS => ?_)
  obtain ⟨hIF, hIG, hIR, hfr9, hrr9, hgr9, hpo24, hpo25⟩ := hpo
  have hq_v23 := tk_rng v23
  have hFF := mz_fr (K := [34, 38, 41]) (Fa := Fa) hfr9 hFF (by decide)
  have hRR := mz_fr (K := [3]) (Fa := Ra) hrr9 hRR (by decide)
  have hGG := mz_fr (K := [39, 40]) (Fa := Ga) hgr9 hGG (by decide)
  have hrel : rK2 (Ra 3) (R 3) := hrel.trans (rK2.refl (hrr9 3 (by decide)))
  have hg_0 : R 3 12 = _ := (congrFun (hrr9 3 (by decide)) 12).trans hg_0
  have hg_1 : R 3 13 = _ := (congrFun (hrr9 3 (by decide)) 13).trans hg_1
  have hg_2 : R 3 15 = _ := (congrFun (hrr9 3 (by decide)) 15).trans hg_2
  have hg_3 : R 3 16 = _ := (congrFun (hrr9 3 (by decide)) 16).trans hg_3
  refine lv_istore (lv' := [(4, .int v23), (3, .int v13), (2, .int v10), (0, .ref am), (1, .int p1)]) hx hb dX13_singIt_20 hl (by decide) rfl (fun ls hl => ?_)
  refine lv_aload_n hx hb dX13_singIt_22 rfl (lv_at hl 3 rfl) ?_
  refine mz_Vi (As := []) (rest := []) ⟨hx, hb, hml, hown, hts⟩ hK hM hS (k_X13_tiresSet l D cy ld ad am hD _ _ _ _ hIF hIG hIR) ⟨callB_of 0 hts (wl_in mw_1129) rfl rfl rfl (htl _ mw_5) (htl _ mw_1126) hd_yX13_tiresSet ⟨(Nat.le_of_ble_eq_true rfl), (Nat.le_of_ble_eq_true rfl)⟩, htl _ mw_1127, htl _ mw_1128⟩ rfl hl.1 rfl (Nat.le_of_ble_eq_true rfl) dX13_singIt_23 ⟨(Nat.le_of_ble_eq_true rfl), (Nat.le_of_ble_eq_true rfl)⟩ (fun v27 H locs F G R S hpo hM hS => ?_)
  obtain ⟨hIF, hIG, hIR, hfr9, hrr9, hgr9, hpo28, hpo29⟩ := hpo
  have hq_v27 := tk_rng v27
  have hFF := mz_fr (K := [34, 38, 41]) (Fa := Fa) hfr9 hFF (by decide)
  have hRR := mz_fr (K := [3]) (Fa := Ra) hrr9 hRR (by decide)
  have hGG := mz_fr (K := [39, 40]) (Fa := Ga) hgr9 hGG (by decide)
  have hrel : rK2 (Ra 3) (R 3) := hrel.trans (rK2.refl (hrr9 3 (by decide)))
  have hg_0 : R 3 12 = _ := (congrFun (hrr9 3 (by decide)) 12).trans hg_0
  have hg_1 : R 3 13 = _ := (congrFun (hrr9 3 (by decide)) 13).trans hg_1
  have hg_2 : R 3 15 = _ := (congrFun (hrr9 3 (by decide)) 15).trans hg_2
  have hg_3 : R 3 16 = _ := (congrFun (hrr9 3 (by decide)) 16).trans hg_3
  refine lv_istore (lv' := [(5, .int v27), (4, .int v23), (3, .int v13), (2, .int v10), (0, .ref am), (1, .int p1)]) hx hb dX13_singIt_26 hl (by decide) rfl (fun ls hl => ?_)
  refine lv_aload_n hx hb dX13_singIt_28 rfl (lv_at hl 4 rfl) ?_
  refine lv_iload_n hx hb dX13_singIt_29 rfl (lv_at hl 2 rfl) ?_
  refine lv_iconst (v := 0) hx hb dX13_singIt_30 (by decide) ?_
  have hk_0 : (0 : Int32).toInt = 0 := by decide
  refine mz_Vj (As := [.int v13, .int 0]) (rest := []) ⟨hx, hb, hml, hown, hts⟩ hK hM hS (k_X13_ofSinger_0 l D cy ld ad am hD _ _ _ _ v13 (hIF.weak) hIG hIR (by omega) (by omega)) ⟨callB_of 2 hts (wl_in mw_324) rfl rfl rfl (htl _ mw_5) (htl _ mw_321) hd_yX13_ofSinger ⟨(Nat.le_of_ble_eq_true rfl), (Nat.le_of_ble_eq_true rfl)⟩, htl _ mw_322, htl _ mw_323⟩ rfl hl.1 rfl (Nat.le_of_ble_eq_true rfl) dX13_singIt_31 ⟨(Nat.le_of_ble_eq_true rfl), (Nat.le_of_ble_eq_true rfl)⟩ (fun v31 H locs hpo hM hS => ?_)
  have hq_v31 := tk_rng v31
  refine lv_iload hx hb dX13_singIt_34 (lv_at hl 1 rfl) ?_
  refine lv_isub hx hb dX13_singIt_36 ?_
  obtain ⟨v33, hm_v33⟩ : ∃ z : Int32, v31 - v23 = z := ⟨_, rfl⟩
  refine fx_ti hm_v33 ?_
  obtain ⟨w34, e_w34, h_w34⟩ : ∃ z : Int64, v33.toInt64 = z ∧ z.toInt = v33.toInt := ⟨_, rfl, fl_w _⟩
  refine lv_i2l (v := w34) hx hb dX13_singIt_37 e_w34 ?_
  refine lv_iconst (v := 0) hx hb dX13_singIt_38 (by decide) ?_
  refine lv_sipush (v := 999) hx hb dX13_singIt_39 (by decide) ?_
  have hk_0 : (0 : Int32).toInt = 0 := by decide
  have hk_999 : (999 : Int32).toInt = 999 := by decide
  refine mz_Sj (As := [.long w34, .int 0, .int 999]) (rest := []) ⟨hx, hb, hml, hown, hts⟩ hK hM hS (k_X13_within l D cy ld ad am hD _ _ _ _ w34 0 999 (by omega)) ⟨callB_of 3 hts (wl_in mw_1125) rfl rfl rfl (htl _ mw_5) (htl _ mw_1123) hd_yX13_within ⟨(Nat.le_of_ble_eq_true rfl), (Nat.le_of_ble_eq_true rfl)⟩, htl _ mw_1124⟩ rfl hl.1 rfl (Nat.le_of_ble_eq_true rfl) dX13_singIt_42 ⟨(Nat.le_of_ble_eq_true rfl), (Nat.le_of_ble_eq_true rfl)⟩ (fun v35 H locs hpo hM hS => ?_)
  obtain ⟨hpo36, hpo37⟩ := hpo
  have hq_v35 := tk_rng v35
  refine lv_istore (lv' := [(6, .int v35), (5, .int v27), (4, .int v23), (3, .int v13), (2, .int v10), (0, .ref am), (1, .int p1)]) hx hb dX13_singIt_45 hl (by decide) rfl (fun ls hl => ?_)
  refine lv_aload_n hx hb dX13_singIt_47 rfl (lv_at hl 5 rfl) ?_
  refine lv_iload_n hx hb dX13_singIt_48 rfl (lv_at hl 3 rfl) ?_
  refine lv_iload hx hb dX13_singIt_49 (lv_at hl 0 rfl) ?_
  obtain ⟨v40, hf39⟩ : ∃ z : Int32, R 3 14 = z := ⟨_, rfl⟩
  have hq_v40 := tk_rng v40
  have hr_v40 : (-1) ≤ v40.toInt ∧ v40.toInt ≤ 99 := by have h9 := hIR.d; unfold dO at h9; rw [hf39] at h9; omega
  have hti_40 : g12.toInt ≠ -1 → g13.toInt ≠ -1 := by have h9 := hIR.d.2.2.2.2.2; rw [hg_0, hg_1] at h9; exact fun h8 => (h9 h8).1
  have hti_41 : g12.toInt ≠ -1 → g15.toInt ≠ -1 := by have h9 := hIR.d.2.2.2.2.2; rw [hg_0, hg_2] at h9; exact fun h8 => (h9 h8).2.1
  have hti_42 : g12.toInt ≠ -1 → g16.toInt ≠ -1 := by have h9 := hIR.d.2.2.2.2.2; rw [hg_0, hg_3] at h9; exact fun h8 => (h9 h8).2.2
  refine mz_Vv (As := [.int v13, .int v35]) (rest := []) ⟨hx, hb, hml, hown, hts⟩ hK hM hS (k_X13_setWake l D cy ld ad am hD _ _ _ _ v13 v35 g12 g13 v40 g15 g16 hIF hIG hIR hg_0 hg_1 hf39 hg_2 hg_3 (by omega) (by omega)) ⟨callB_of 2 hts (wl_in mw_1133) rfl rfl rfl (htl _ mw_5) (htl _ mw_1130) hd_yX13_setWake ⟨(Nat.le_of_ble_eq_true rfl), (Nat.le_of_ble_eq_true rfl)⟩, htl _ mw_1131, htl _ mw_1132⟩ rfl hl.1 rfl (Nat.le_of_ble_eq_true rfl) dX13_singIt_51 ⟨(Nat.le_of_ble_eq_true rfl), (Nat.le_of_ble_eq_true rfl)⟩ (fun H locs F G R S hpo hM hS => ?_)
  obtain ⟨hIF, hIG, hIR, hfr9, hrr9, hgr9, hrel9, hf44, hf45, hf46, hf47, hf48⟩ := hpo
  have hFF := mz_fr (K := [34, 38, 41]) (Fa := Fa) hfr9 hFF (by decide)
  have hRR := mz_fr (K := [3]) (Fa := Ra) hrr9 hRR (by decide)
  have hGG := mz_fr (K := [39, 40]) (Fa := Ga) hgr9 hGG (by decide)
  have hrel := hrel.trans hrel9
  have hr_g12 : (-1) ≤ g12.toInt ∧ g12.toInt ≤ 7 := by have h9 := hIR.d; unfold dO at h9; rw [hf44] at h9; omega
  have hr_g13 : (-1) ≤ g13.toInt ∧ g13.toInt ≤ 7 := by have h9 := hIR.d; unfold dO at h9; rw [hf45] at h9; omega
  have hti_49 : g12.toInt ≠ -1 → g13.toInt ≠ -1 := by have h9 := hIR.d.2.2.2.2.2; rw [hf44, hf45] at h9; exact fun h8 => (h9 h8).1
  have hr_v40 : (-1) ≤ v40.toInt ∧ v40.toInt ≤ 99 := by have h9 := hIR.d; unfold dO at h9; rw [hf46] at h9; omega
  have hr_g15 : (-1) ≤ g15.toInt ∧ g15.toInt ≤ 11 := by have h9 := hIR.d; unfold dO at h9; rw [hf47] at h9; omega
  have hti_50 : g12.toInt ≠ -1 → g15.toInt ≠ -1 := by have h9 := hIR.d.2.2.2.2.2; rw [hf44, hf47] at h9; exact fun h8 => (h9 h8).2.1
  have hr_g16 : (-1) ≤ g16.toInt ∧ g16.toInt ≤ 7 := by have h9 := hIR.d; unfold dO at h9; rw [hf48] at h9; omega
  have hti_51 : g12.toInt ≠ -1 → g16.toInt ≠ -1 := by have h9 := hIR.d.2.2.2.2.2; rw [hf44, hf48] at h9; exact fun h8 => (h9 h8).2.2
  refine lv_aload_n hx hb dX13_singIt_54 rfl (lv_at hl 5 rfl) ?_
  refine mz_getR hx hb htl hown hK hM 3 (Nat.le_of_ble_eq_true rfl) (Nat.le_of_ble_eq_true rfl) (htl _ mw_188) (fun _ h9 => h9) dX13_singIt_55 ?_
  refine lv_bipush (v := 18) hx hb dX13_singIt_58 (by decide) ?_
  refine lv_iconst (v := 5) hx hb dX13_singIt_60 (by decide) ?_
  refine lv_iload_n hx hb dX13_singIt_61 rfl (lv_at hl 3 rfl) ?_
  refine lv_imul hx hb dX13_singIt_62 ?_
  refine tk_mul (show (5 : Int32).toInt = 5 by decide) rfl (by omega) (by omega) (fun v53 h_v53 => ?_)
  refine lv_iadd hx hb dX13_singIt_63 ?_
  refine tk_add (show (18 : Int32).toInt = 18 by decide) rfl (by omega) (by omega) (fun v54 h_v54 => ?_)
  refine lv_iconst (v := 4) hx hb dX13_singIt_64 (by decide) ?_
  refine lv_iadd hx hb dX13_singIt_65 ?_
  refine tk_add rfl (show (4 : Int32).toInt = 4 by decide) (by omega) (by omega) (fun v55 h_v55 => ?_)
  refine lv_dup2_11 hx hb dX13_singIt_66 rfl rfl ?_
  refine mz_iald hx hb hK hM 3 (Nat.le_of_ble_eq_true rfl) rfl (nn := 5560) rfl rfl (by omega) (by omega) dX13_singIt_67 (fun v56 e_v56 => ?_)
  have hq_v56 := tk_rng v56
  refine lv_iload hx hb dX13_singIt_68 (lv_at hl 2 rfl) ?_
  refine lv_aload_n hx hb dX13_singIt_70 rfl (lv_at hl 5 rfl) ?_
  refine lv_iconst (v := 1) hx hb dX13_singIt_71 (by decide) ?_
  obtain ⟨v58, hf57⟩ : ∃ z : Int32, R 3 7 = z := ⟨_, rfl⟩
  have hq_v58 := tk_rng v58
  have hk_1 : (1 : Int32).toInt = 1 := by decide
  refine mz_Vj (As := [.int 1]) (rest := [.int v23, .int v56, .int v55, .ref (ad 3)]) ⟨hx, hb, hml, hown, hts⟩ hK hM hS (k_X13_term_1 l D cy ld ad am hD _ _ _ _ v58 hf57) ⟨callB_of 1 hts (wl_in mw_1042) rfl rfl rfl (htl _ mw_5) (htl _ mw_1039) hd_yX13_term ⟨(Nat.le_of_ble_eq_true rfl), (Nat.le_of_ble_eq_true rfl)⟩, htl _ mw_1040, htl _ mw_1041⟩ rfl hl.1 rfl (Nat.le_of_ble_eq_true rfl) dX13_singIt_72 ⟨(Nat.le_of_ble_eq_true rfl), (Nat.le_of_ble_eq_true rfl)⟩ (fun v59 H locs hpo hM hS => ?_)
  have hpo60 := hpo
  have hq_v59 := tk_rng v59
  have hj65 : ∀ (v64 : Int32), (0 ≤ v64.toInt) → (v64.toInt ≤ 1) → ∀ ls : Array Slot, lv_has ls 7 [(6, .int v35), (5, .int v27), (3, .int v13), (2, .int v10), (0, .ref am), (1, .int p1)] → W p l e ({ frames := 9, cells := 0, slots := 0, locals := 560 }) s m args below meth c H locs 0 0 (MQ below (mz_i D cy ad am (fun r F G R S => mz_IF true F ∧ mz_IG G ∧ mz_IR [] true R ∧ (∀ k : Nat, k ∉ ([34, 38, 41] : List Nat) → F k = Fa k) ∧ (∀ k : Nat, k ∉ ([3] : List Nat) → R k = Ra k) ∧ (∀ k : Nat, k ∉ ([39, 40] : List Nat) → G k = Ga k) ∧ rK2 (Ra 3) (R 3) ∧ 0 ≤ r.toInt ∧ r.toInt ≤ 999 ∧ (0 ≤ (R 3 12).toInt → (-1) * g12.toInt + (R 3 12).toInt = 0 ∧ 0 ≤ (-1) * g15.toInt + (R 3 15).toInt) ∧ (0 ≤ (R 3 12).toInt → 0 ≤ (-1) * g12.toInt + g16.toInt + (-1) → 0 ≤ (-1) * g15.toInt + (R 3 15).toInt + (-1)) ∧ (0 ≤ (R 3 12).toInt → 0 ≤ g12.toInt + (-1) * g16.toInt + (-1) → 0 ≤ (-1) * g15.toInt + (R 3 15).toInt + (-1)) ∧ (0 ≤ (R 3 12).toInt → 0 ≤ g15.toInt + (-1) * (R 3 15).toInt → (-1) * g12.toInt + (R 3 16).toInt = 0 → 0 ≤ (-1)))) args s 0 0 (mz_W ad am)) (F0 m 83 ls [.int v64, .int v56, .int v55, .ref (ad 3)]) := by
    intro v64 hq0_j65 hq1_j65 ls hl
    have hti_65 : g12.toInt ≠ -1 → g13.toInt ≠ -1 := by have h9 := hIR.d.2.2.2.2.2; rw [hf44, hf45] at h9; exact fun h8 => (h9 h8).1
    have hti_66 : g12.toInt ≠ -1 → g15.toInt ≠ -1 := by have h9 := hIR.d.2.2.2.2.2; rw [hf44, hf47] at h9; exact fun h8 => (h9 h8).2.1
    have hti_67 : g12.toInt ≠ -1 → g16.toInt ≠ -1 := by have h9 := hIR.d.2.2.2.2.2; rw [hf44, hf48] at h9; exact fun h8 => (h9 h8).2.2
    refine lv_iadd hx hb dX13_singIt_83 ?_
    obtain ⟨v69, hm_v69⟩ : ∃ z : Int32, v56 + v64 = z := ⟨_, rfl⟩
    refine fx_ti hm_v69 ?_
    refine mz_iast (x := v69) hx hb hK hD hM hS 3 (Nat.le_of_ble_eq_true rfl) rfl (nn := 5560) rfl rfl (by omega) (by omega) dX13_singIt_84 (fun H locs R hM hS hw9 hj9 => ?_)
    have hIR := hIR.put hw9 hj9 (mz_r3 (hIR.at 3) (I := v55.toInt) rfl (by omega) (by omega) (fun h9 => by first | (cases h9; done) | omega) (by unfold mE; omega))
    have hRR := mz_frp (K := [3]) (Fa := Ra) hj9 hRR (by decide)
    have hrel := rK2.put (I := v55.toInt) hrel hw9 rfl (by omega) (by omega) (by omega)
    have hf44 : R 3 12 = _ := (congrFun hw9 12).trans ((pk_un (fun h9 => by have h8 := tk_nat (i := v55) rfl (by omega); omega)).trans hf44)
    have hf45 : R 3 13 = _ := (congrFun hw9 13).trans ((pk_un (fun h9 => by have h8 := tk_nat (i := v55) rfl (by omega); omega)).trans hf45)
    have hf46 : R 3 14 = _ := (congrFun hw9 14).trans ((pk_un (fun h9 => by have h8 := tk_nat (i := v55) rfl (by omega); omega)).trans hf46)
    have hf47 : R 3 15 = _ := (congrFun hw9 15).trans ((pk_un (fun h9 => by have h8 := tk_nat (i := v55) rfl (by omega); omega)).trans hf47)
    have hf48 : R 3 16 = _ := (congrFun hw9 16).trans ((pk_un (fun h9 => by have h8 := tk_nat (i := v55) rfl (by omega); omega)).trans hf48)
    have hf57 : R 3 7 = _ := (congrFun hw9 7).trans ((pk_un (fun h9 => by have h8 := tk_nat (i := v55) rfl (by omega); omega)).trans hf57)
    refine lv_aload_n hx hb dX13_singIt_85 rfl (lv_at hl 4 rfl) ?_
    refine lv_iload_n hx hb dX13_singIt_86 rfl (lv_at hl 3 rfl) ?_
    refine lv_aload_n hx hb dX13_singIt_87 rfl (lv_at hl 4 rfl) ?_
    refine lv_iload_n hx hb dX13_singIt_88 rfl (lv_at hl 3 rfl) ?_
    refine lv_iconst (v := 0) hx hb dX13_singIt_89 (by decide) ?_
    have hk_0 : (0 : Int32).toInt = 0 := by decide
    refine mz_Vj (As := [.int v10, .int 0]) (rest := [.int v10, .ref am]) ⟨hx, hb, hml, hown, hts⟩ hK hM hS (k_X13_ofSinger_0 l D cy ld ad am hD _ _ _ _ v10 (hIF.weak) hIG hIR (by omega) (by omega)) ⟨callB_of 2 hts (wl_in mw_324) rfl rfl rfl (htl _ mw_5) (htl _ mw_321) hd_yX13_ofSinger ⟨(Nat.le_of_ble_eq_true rfl), (Nat.le_of_ble_eq_true rfl)⟩, htl _ mw_322, htl _ mw_323⟩ rfl hl.1 rfl (Nat.le_of_ble_eq_true rfl) dX13_singIt_90 ⟨(Nat.le_of_ble_eq_true rfl), (Nat.le_of_ble_eq_true rfl)⟩ (fun v71 H locs hpo hM hS => ?_)
    have hq_v71 := tk_rng v71
    refine lv_iload hx hb dX13_singIt_93 (lv_at hl 1 rfl) ?_
    refine lv_isub hx hb dX13_singIt_95 ?_
    obtain ⟨v73, hm_v73⟩ : ∃ z : Int32, v71 - v27 = z := ⟨_, rfl⟩
    refine fx_ti hm_v73 ?_
    obtain ⟨w74, e_w74, h_w74⟩ : ∃ z : Int64, v73.toInt64 = z ∧ z.toInt = v73.toInt := ⟨_, rfl, fl_w _⟩
    refine lv_i2l (v := w74) hx hb dX13_singIt_96 e_w74 ?_
    refine lv_iconst (v := 1) hx hb dX13_singIt_97 (by decide) ?_
    refine lv_sipush (v := 999) hx hb dX13_singIt_98 (by decide) ?_
    have hk_1 : (1 : Int32).toInt = 1 := by decide
    have hk_999 : (999 : Int32).toInt = 999 := by decide
    refine mz_Sj (As := [.long w74, .int 1, .int 999]) (rest := [.int v10, .ref am]) ⟨hx, hb, hml, hown, hts⟩ hK hM hS (k_X13_within l D cy ld ad am hD _ _ _ _ w74 1 999 (by omega)) ⟨callB_of 3 hts (wl_in mw_1125) rfl rfl rfl (htl _ mw_5) (htl _ mw_1123) hd_yX13_within ⟨(Nat.le_of_ble_eq_true rfl), (Nat.le_of_ble_eq_true rfl)⟩, htl _ mw_1124⟩ rfl hl.1 rfl (Nat.le_of_ble_eq_true rfl) dX13_singIt_101 ⟨(Nat.le_of_ble_eq_true rfl), (Nat.le_of_ble_eq_true rfl)⟩ (fun v75 H locs hpo hM hS => ?_)
    obtain ⟨hpo76, hpo77⟩ := hpo
    have hq_v75 := tk_rng v75
    refine mz_Vv (As := [.int v10, .int v75]) (rest := []) ⟨hx, hb, hml, hown, hts⟩ hK hM hS (k_X13_setWake l D cy ld ad am hD _ _ _ _ v10 v75 g12 g13 v40 g15 g16 hIF hIG hIR hf44 hf45 hf46 hf47 hf48 (by omega) (by omega)) ⟨callB_of 2 hts (wl_in mw_1133) rfl rfl rfl (htl _ mw_5) (htl _ mw_1130) hd_yX13_setWake ⟨(Nat.le_of_ble_eq_true rfl), (Nat.le_of_ble_eq_true rfl)⟩, htl _ mw_1131, htl _ mw_1132⟩ rfl hl.1 rfl (Nat.le_of_ble_eq_true rfl) dX13_singIt_104 ⟨(Nat.le_of_ble_eq_true rfl), (Nat.le_of_ble_eq_true rfl)⟩ (fun H locs F G R S hpo hM hS => ?_)
    obtain ⟨hIF, hIG, hIR, hfr9, hrr9, hgr9, hrel9, hf79, hf80, hf81, hf82, hf83⟩ := hpo
    have hFF := mz_fr (K := [34, 38, 41]) (Fa := Fa) hfr9 hFF (by decide)
    have hRR := mz_fr (K := [3]) (Fa := Ra) hrr9 hRR (by decide)
    have hGG := mz_fr (K := [39, 40]) (Fa := Ga) hgr9 hGG (by decide)
    have hrel := hrel.trans hrel9
    have hr_g12 : (-1) ≤ g12.toInt ∧ g12.toInt ≤ 7 := by have h9 := hIR.d; unfold dO at h9; rw [hf79] at h9; omega
    have hr_g13 : (-1) ≤ g13.toInt ∧ g13.toInt ≤ 7 := by have h9 := hIR.d; unfold dO at h9; rw [hf80] at h9; omega
    have hti_84 : g12.toInt ≠ -1 → g13.toInt ≠ -1 := by have h9 := hIR.d.2.2.2.2.2; rw [hf79, hf80] at h9; exact fun h8 => (h9 h8).1
    have hr_v40 : (-1) ≤ v40.toInt ∧ v40.toInt ≤ 99 := by have h9 := hIR.d; unfold dO at h9; rw [hf81] at h9; omega
    have hr_g15 : (-1) ≤ g15.toInt ∧ g15.toInt ≤ 11 := by have h9 := hIR.d; unfold dO at h9; rw [hf82] at h9; omega
    have hti_85 : g12.toInt ≠ -1 → g15.toInt ≠ -1 := by have h9 := hIR.d.2.2.2.2.2; rw [hf79, hf82] at h9; exact fun h8 => (h9 h8).2.1
    have hr_g16 : (-1) ≤ g16.toInt ∧ g16.toInt ≤ 7 := by have h9 := hIR.d; unfold dO at h9; rw [hf83] at h9; omega
    have hti_86 : g12.toInt ≠ -1 → g16.toInt ≠ -1 := by have h9 := hIR.d.2.2.2.2.2; rw [hf79, hf83] at h9; exact fun h8 => (h9 h8).2.2
    refine lv_aload_n hx hb dX13_singIt_107 rfl (lv_at hl 4 rfl) ?_
    refine mz_getR hx hb htl hown hK hM 3 (Nat.le_of_ble_eq_true rfl) (Nat.le_of_ble_eq_true rfl) (htl _ mw_188) (fun _ h9 => h9) dX13_singIt_108 ?_
    refine lv_bipush (v := 17) hx hb dX13_singIt_111 (by decide) ?_
    refine lv_aload_n hx hb dX13_singIt_113 rfl (lv_at hl 4 rfl) ?_
    refine mz_getR hx hb htl hown hK hM 3 (Nat.le_of_ble_eq_true rfl) (Nat.le_of_ble_eq_true rfl) (htl _ mw_188) (fun _ h9 => h9) dX13_singIt_114 ?_
    refine lv_bipush (v := 58) hx hb dX13_singIt_117 (by decide) ?_
    refine lv_iconst (v := 2) hx hb dX13_singIt_119 (by decide) ?_
    refine lv_iload_n hx hb dX13_singIt_120 rfl (lv_at hl 5 rfl) ?_
    refine lv_imul hx hb dX13_singIt_121 ?_
    refine tk_mul (show (2 : Int32).toInt = 2 by decide) rfl (by omega) (by omega) (fun v88 h_v88 => ?_)
    refine lv_iadd hx hb dX13_singIt_122 ?_
    refine tk_add (show (58 : Int32).toInt = 58 by decide) rfl (by omega) (by omega) (fun v89 h_v89 => ?_)
    refine lv_iconst (v := 1) hx hb dX13_singIt_123 (by decide) ?_
    refine lv_iadd hx hb dX13_singIt_124 ?_
    refine tk_add rfl (show (1 : Int32).toInt = 1 by decide) (by omega) (by omega) (fun v90 h_v90 => ?_)
    refine mz_iald hx hb hK hM 3 (Nat.le_of_ble_eq_true rfl) rfl (nn := 5560) rfl rfl (by omega) (by omega) dX13_singIt_125 (fun v91 e_v91 => ?_)
    have hq_v91 := tk_rng v91
    have hk_17 : (17 : Int32).toInt = 17 := by decide
    refine mz_iast (x := v91) hx hb hK hD hM hS 3 (Nat.le_of_ble_eq_true rfl) rfl (nn := 5560) rfl (I := 17) (by decide) (by decide) (by decide) dX13_singIt_126 (fun H locs R hM hS hw9 hj9 => ?_)
    have hIR := hIR.put hw9 hj9 (mz_r3 (hIR.at 3) (I := 17) (by decide) (by omega) (by omega) (fun h9 => by first | (cases h9; done) | omega) (by unfold mE; omega))
    have hRR := mz_frp (K := [3]) (Fa := Ra) hj9 hRR (by decide)
    have hrel := rK2.put (I := 17) hrel hw9 (by decide) (by omega) (by omega) (by omega)
    have hf79 : R 3 12 = _ := (congrFun hw9 12).trans ((pk_un (by decide)).trans hf79)
    have hf80 : R 3 13 = _ := (congrFun hw9 13).trans ((pk_un (by decide)).trans hf80)
    have hf81 : R 3 14 = _ := (congrFun hw9 14).trans ((pk_un (by decide)).trans hf81)
    have hf82 : R 3 15 = _ := (congrFun hw9 15).trans ((pk_un (by decide)).trans hf82)
    have hf83 : R 3 16 = _ := (congrFun hw9 16).trans ((pk_un (by decide)).trans hf83)
    have hf93 : R 3 17 = v91 := (congrFun hw9 17).trans pk_us
    refine lv_aload_n hx hb dX13_singIt_127 rfl (lv_at hl 4 rfl) ?_
    refine lv_iconst (v := (-1)) hx hb dX13_singIt_128 (by decide) ?_
    have hk_m1 : ((-1) : Int32).toInt = (-1) := by decide
    have hk_m1 : ((-1) : Int32).toInt = (-1) := by decide
    refine mz_putI (ty := .int) (x := (-1)) hx hb htl hown hK hD hM hS 41 (Nat.le_of_ble_eq_true rfl) rfl (htl _ mw_1117) (fun _ h9 => h9) rfl (tyX13_ok 41 (by decide)) rfl rfl dX13_singIt_129 (fun H locs F hM hS hf9 hj9 => ?_)
    have hIF := hIF.put hf9 hj9 (show (-1) ≤ ((-1) : Int32).toInt by omega) (show ((-1) : Int32).toInt ≤ 7 by omega) (by decide)
    have hFF := mz_frp (K := [34, 38, 41]) (Fa := Fa) hj9 hFF (by decide)
    have hf95 := hf9
    refine lv_iload hx hb dX13_singIt_132 (lv_at hl 0 rfl) ?_
    refine lv_if_ne (tgt := 178) hx hb dX13_singIt_134 (by decide) (fun c9 => ?_) (fun c9 => ?_)
    · have hc96 : ¬ (v35.toInt = 0) := fun h9 => c9 ((fi_eq rfl (show (0 : Int32).toInt = 0 by decide)).mpr h9)
      refine lv_aload_n hx hb dX13_singIt_178 rfl (lv_at hl 4 rfl) ?_
      refine mz_getR hx hb htl hown hK hM 3 (Nat.le_of_ble_eq_true rfl) (Nat.le_of_ble_eq_true rfl) (htl _ mw_188) (fun _ h9 => h9) dX13_singIt_179 ?_
      refine lv_bipush (v := 16) hx hb dX13_singIt_182 (by decide) ?_
      refine lv_iload_n hx hb dX13_singIt_184 rfl (lv_at hl 2 rfl) ?_
      have hk_16 : (16 : Int32).toInt = 16 := by decide
      have hIR := hIR.bare
      refine mz_iast (x := v13) hx hb hK hD hM hS 3 (Nat.le_of_ble_eq_true rfl) rfl (nn := 5560) rfl (I := 16) (by decide) (by decide) (by decide) dX13_singIt_185 (fun H locs R hM hS hw9 hj9 => ?_)
      have hIR := hIR.put hw9 hj9 (mz_r3 (hIR.at 3) (I := 16) (by decide) (by omega) (by omega) (fun h9 => by first | (cases h9; done) | omega) (by unfold mE; omega))
      have hRR := mz_frp (K := [3]) (Fa := Ra) hj9 hRR (by decide)
      have hrel := rK2.put (I := 16) hrel hw9 (by decide) (by omega) (by omega) (by omega)
      have hf79 : R 3 12 = _ := (congrFun hw9 12).trans ((pk_un (by decide)).trans hf79)
      have hf80 : R 3 13 = _ := (congrFun hw9 13).trans ((pk_un (by decide)).trans hf80)
      have hf81 : R 3 14 = _ := (congrFun hw9 14).trans ((pk_un (by decide)).trans hf81)
      have hf82 : R 3 15 = _ := (congrFun hw9 15).trans ((pk_un (by decide)).trans hf82)
      have hf93 : R 3 17 = _ := (congrFun hw9 17).trans ((pk_un (by decide)).trans hf93)
      have hf98 : R 3 16 = v13 := (congrFun hw9 16).trans pk_us
      refine lv_aload_n hx hb dX13_singIt_186 rfl (lv_at hl 4 rfl) ?_
      refine mz_getR hx hb htl hown hK hM 3 (Nat.le_of_ble_eq_true rfl) (Nat.le_of_ble_eq_true rfl) (htl _ mw_188) (fun _ h9 => h9) dX13_singIt_187 ?_
      refine lv_bipush (v := 15) hx hb dX13_singIt_190 (by decide) ?_
      refine lv_dup2_11 hx hb dX13_singIt_192 rfl rfl ?_
      refine mz_iald hx hb hK hM 3 (Nat.le_of_ble_eq_true rfl) rfl (nn := 5560) rfl (I := 15) (by decide) (by decide) (by decide) dX13_singIt_193 (fun v9 e9 => ?_)
      refine fx_ti (v := g15) (e9.symm.trans (show R 3 (15 : Int32).toNatClampNeg = _ from hf82)) ?_
      refine lv_iload_n hx hb dX13_singIt_194 rfl (lv_at hl 2 rfl) ?_
      refine lv_aload_n hx hb dX13_singIt_195 rfl (lv_at hl 4 rfl) ?_
      refine lv_iconst (v := 0) hx hb dX13_singIt_196 (by decide) ?_
      have hk_0 : (0 : Int32).toInt = 0 := by decide
      refine mz_Vj (As := [.int 0]) (rest := [.int v13, .int g15, .int 15, .ref (ad 3)]) ⟨hx, hb, hml, hown, hts⟩ hK hM hS (k_X13_inDuel_0 l D cy ld ad am hD _ _ _ _ g12 hf79) ⟨callB_of 1 hts (wl_in mw_1046) rfl rfl rfl (htl _ mw_5) (htl _ mw_1043) hd_yX13_inDuel ⟨(Nat.le_of_ble_eq_true rfl), (Nat.le_of_ble_eq_true rfl)⟩, htl _ mw_1044, htl _ mw_1045⟩ rfl hl.1 rfl (Nat.le_of_ble_eq_true rfl) dX13_singIt_197 ⟨(Nat.le_of_ble_eq_true rfl), (Nat.le_of_ble_eq_true rfl)⟩ (fun v99 H locs hpo hM hS => ?_)
      have hpo100 := hpo
      have hq_v99 := tk_rng v99
      refine lv_icmp_ne (tgt := 207) hx hb dX13_singIt_200 (by decide) (fun c9 => ?_) (fun c9 => ?_)
      · have hc102 : ¬ (v13.toInt = v99.toInt) := fun h9 => c9 ((fi_eq rfl rfl).mpr h9)
        refine lv_iconst (v := 0) hx hb dX13_singIt_207 (by decide) ?_
        refine lv_iadd hx hb dX13_singIt_208 ?_
        refine tk_add rfl (show (0 : Int32).toInt = 0 by decide) (by omega) (by omega) (fun v103 h_v103 => ?_)
        have hk_15 : (15 : Int32).toInt = 15 := by decide
        refine mz_iast (x := v103) hx hb hK hD hM hS 3 (Nat.le_of_ble_eq_true rfl) rfl (nn := 5560) rfl (I := 15) (by decide) (by decide) (by decide) dX13_singIt_209 (fun H locs R hM hS hw9 hj9 => ?_)
        have hIR := hIR.put hw9 hj9 (mz_r3 (hIR.at 3) (I := 15) (by decide) (by omega) (by omega) (fun h9 => by first | (cases h9; done) | omega) (by unfold mE; omega))
        have hRR := mz_frp (K := [3]) (Fa := Ra) hj9 hRR (by decide)
        have hrel := rK2.put (I := 15) hrel hw9 (by decide) (by omega) (by omega) (by omega)
        have hf79 : R 3 12 = _ := (congrFun hw9 12).trans ((pk_un (by decide)).trans hf79)
        have hf80 : R 3 13 = _ := (congrFun hw9 13).trans ((pk_un (by decide)).trans hf80)
        have hf81 : R 3 14 = _ := (congrFun hw9 14).trans ((pk_un (by decide)).trans hf81)
        have hf93 : R 3 17 = _ := (congrFun hw9 17).trans ((pk_un (by decide)).trans hf93)
        have hf98 : R 3 16 = _ := (congrFun hw9 16).trans ((pk_un (by decide)).trans hf98)
        have hf105 : R 3 15 = v103 := (congrFun hw9 15).trans pk_us
        refine lv_aload_n hx hb dX13_singIt_210 rfl (lv_at hl 4 rfl) ?_
        refine lv_iconst (v := 3) hx hb dX13_singIt_211 (by decide) ?_
        have hk_3 : (3 : Int32).toInt = 3 := by decide
        refine mz_Vj (As := [.int 3]) (rest := []) ⟨hx, hb, hml, hown, hts⟩ hK hM hS (k_X13_inDuel_3 l D cy ld ad am hD _ _ _ _ v103 hf105) ⟨callB_of 1 hts (wl_in mw_1046) rfl rfl rfl (htl _ mw_5) (htl _ mw_1043) hd_yX13_inDuel ⟨(Nat.le_of_ble_eq_true rfl), (Nat.le_of_ble_eq_true rfl)⟩, htl _ mw_1044, htl _ mw_1045⟩ rfl hl.1 rfl (Nat.le_of_ble_eq_true rfl) dX13_singIt_212 ⟨(Nat.le_of_ble_eq_true rfl), (Nat.le_of_ble_eq_true rfl)⟩ (fun v106 H locs hpo hM hS => ?_)
        have hpo107 := hpo
        have hq_v106 := tk_rng v106
        refine lv_bipush (v := 12) hx hb dX13_singIt_215 (by decide) ?_
        refine lv_icmp_ne (tgt := 224) hx hb dX13_singIt_217 (by decide) (fun _ => ?_) (fun c9 => absurd (show v106.toInt = 12 from (fi_eq rfl (show (12 : Int32).toInt = 12 by decide)).mp c9) (by omega))
        refine lv_iload hx hb dX13_singIt_224 (lv_at hl 0 rfl) ?_
        have hIR := hIR.duel (by unfold dO; rw [hf79, show R 3 (12 + 1) = _ from hf80, show R 3 (12 + 2) = _ from hf81, show R 3 (12 + 3) = _ from hf105, show R 3 (12 + 4) = _ from hf98]; omega)
        exact mz_iret (v := v35) hx hb hr rfl hlocks ⟨hIF, hIG, hIR, hFF, hRR, hGG, hrel, (by omega), (by omega), (by rw [hf79, hf105]; omega), (by rw [hf79, hf105]; omega), (by rw [hf79, hf105]; omega), (by rw [hf79, hf105, hf98]; omega)⟩ hM hS dX13_singIt_226
      · have hc102 : v13.toInt = v99.toInt := (fi_eq rfl rfl).mp c9
        refine lv_iconst (v := 1) hx hb dX13_singIt_203 (by decide) ?_
        refine lv_goto (tgt := 208) hx hb dX13_singIt_204 (by decide) ?_
        refine lv_iadd hx hb dX13_singIt_208 ?_
        refine tk_add rfl (show (1 : Int32).toInt = 1 by decide) (by omega) (by omega) (fun v109 h_v109 => ?_)
        have hk_15 : (15 : Int32).toInt = 15 := by decide
        refine mz_iast (x := v109) hx hb hK hD hM hS 3 (Nat.le_of_ble_eq_true rfl) rfl (nn := 5560) rfl (I := 15) (by decide) (by decide) (by decide) dX13_singIt_209 (fun H locs R hM hS hw9 hj9 => ?_)
        have hIR := hIR.put hw9 hj9 (mz_r3 (hIR.at 3) (I := 15) (by decide) (by omega) (by omega) (fun h9 => by first | (cases h9; done) | omega) (by unfold mE; omega))
        have hRR := mz_frp (K := [3]) (Fa := Ra) hj9 hRR (by decide)
        have hrel := rK2.put (I := 15) hrel hw9 (by decide) (by omega) (by omega) (by omega)
        have hf79 : R 3 12 = _ := (congrFun hw9 12).trans ((pk_un (by decide)).trans hf79)
        have hf80 : R 3 13 = _ := (congrFun hw9 13).trans ((pk_un (by decide)).trans hf80)
        have hf81 : R 3 14 = _ := (congrFun hw9 14).trans ((pk_un (by decide)).trans hf81)
        have hf93 : R 3 17 = _ := (congrFun hw9 17).trans ((pk_un (by decide)).trans hf93)
        have hf98 : R 3 16 = _ := (congrFun hw9 16).trans ((pk_un (by decide)).trans hf98)
        have hf111 : R 3 15 = v109 := (congrFun hw9 15).trans pk_us
        refine lv_aload_n hx hb dX13_singIt_210 rfl (lv_at hl 4 rfl) ?_
        refine lv_iconst (v := 3) hx hb dX13_singIt_211 (by decide) ?_
        have hk_3 : (3 : Int32).toInt = 3 := by decide
        refine mz_Vj (As := [.int 3]) (rest := []) ⟨hx, hb, hml, hown, hts⟩ hK hM hS (k_X13_inDuel_3 l D cy ld ad am hD _ _ _ _ v109 hf111) ⟨callB_of 1 hts (wl_in mw_1046) rfl rfl rfl (htl _ mw_5) (htl _ mw_1043) hd_yX13_inDuel ⟨(Nat.le_of_ble_eq_true rfl), (Nat.le_of_ble_eq_true rfl)⟩, htl _ mw_1044, htl _ mw_1045⟩ rfl hl.1 rfl (Nat.le_of_ble_eq_true rfl) dX13_singIt_212 ⟨(Nat.le_of_ble_eq_true rfl), (Nat.le_of_ble_eq_true rfl)⟩ (fun v112 H locs hpo hM hS => ?_)
        have hpo113 := hpo
        have hq_v112 := tk_rng v112
        refine lv_bipush (v := 12) hx hb dX13_singIt_215 (by decide) ?_
        refine lv_icmp_ne (tgt := 224) hx hb dX13_singIt_217 (by decide) (fun c9 => ?_) (fun c9 => ?_)
        · have hc115 : ¬ (v112.toInt = 12) := fun h9 => c9 ((fi_eq rfl (show (12 : Int32).toInt = 12 by decide)).mpr h9)
          refine lv_iload hx hb dX13_singIt_224 (lv_at hl 0 rfl) ?_
          have hIR := hIR.duel (by unfold dO; rw [hf79, show R 3 (12 + 1) = _ from hf80, show R 3 (12 + 2) = _ from hf81, show R 3 (12 + 3) = _ from hf111, show R 3 (12 + 4) = _ from hf98]; omega)
          exact mz_iret (v := v35) hx hb hr rfl hlocks ⟨hIF, hIG, hIR, hFF, hRR, hGG, hrel, (by omega), (by omega), (by rw [hf79, hf111]; omega), (by rw [hf79, hf111]; omega), (by rw [hf79, hf111]; omega), (by rw [hf79, hf111, hf98]; omega)⟩ hM hS dX13_singIt_226
        · have hc115 : v112.toInt = 12 := (fi_eq rfl (show (12 : Int32).toInt = 12 by decide)).mp c9
          refine lv_aload_n hx hb dX13_singIt_220 rfl (lv_at hl 4 rfl) ?_
          refine mz_Vv (As := []) (rest := []) ⟨hx, hb, hml, hown, hts⟩ hK hM hS (k_X13_endDuel l D cy ld ad am hD _ _ _ _ hIF hIG hIR) ⟨callB_of 0 hts (wl_in mw_248) rfl rfl rfl (htl _ mw_5) (htl _ mw_245) hd_yX13_endDuel ⟨(Nat.le_of_ble_eq_true rfl), (Nat.le_of_ble_eq_true rfl)⟩, htl _ mw_246, htl _ mw_247⟩ rfl hl.1 rfl (Nat.le_of_ble_eq_true rfl) dX13_singIt_221 ⟨(Nat.le_of_ble_eq_true rfl), (Nat.le_of_ble_eq_true rfl)⟩ (fun H locs F G R S hpo hM hS => ?_)
          obtain ⟨hIF, hIG, hIR, hfr9, hrr9, hgr9, hrel9, hf116, hf117, hf118, hf119, hf120⟩ := hpo
          have hFF := mz_fr (K := [34, 38, 41]) (Fa := Fa) hfr9 hFF (by decide)
          have hRR := mz_fr (K := [3]) (Fa := Ra) hrr9 hRR (by decide)
          have hGG := mz_fr (K := [39, 40]) (Fa := Ga) hgr9 hGG (by decide)
          have hrel := hrel.trans hrel9
          have hf95 := (hfr9 41 (by decide)).trans hf95
          refine lv_iload hx hb dX13_singIt_224 (lv_at hl 0 rfl) ?_
          have hk_m1 : ((-1) : Int32).toInt = (-1) := by decide
          have hk_m1 : ((-1) : Int32).toInt = (-1) := by decide
          have hk_m1 : ((-1) : Int32).toInt = (-1) := by decide
          exact mz_iret (v := v35) hx hb hr rfl hlocks ⟨hIF, hIG, hIR, hFF, hRR, hGG, hrel, (by omega), (by omega), (by rw [hf116, hf119]; omega), (by rw [hf116, hf119]; omega), (by rw [hf116, hf119]; omega), (by rw [hf116, hf119, hf120]; omega)⟩ hM hS dX13_singIt_226
    · have hc96 : v35.toInt = 0 := (fi_eq rfl (show (0 : Int32).toInt = 0 by decide)).mp c9
      refine lv_aload_n hx hb dX13_singIt_137 rfl (lv_at hl 4 rfl) ?_
      refine mz_getR hx hb htl hown hK hM 3 (Nat.le_of_ble_eq_true rfl) (Nat.le_of_ble_eq_true rfl) (htl _ mw_188) (fun _ h9 => h9) dX13_singIt_138 ?_
      refine lv_bipush (v := 18) hx hb dX13_singIt_141 (by decide) ?_
      refine lv_iconst (v := 5) hx hb dX13_singIt_143 (by decide) ?_
      refine lv_iload_n hx hb dX13_singIt_144 rfl (lv_at hl 2 rfl) ?_
      refine lv_imul hx hb dX13_singIt_145 ?_
      refine tk_mul (show (5 : Int32).toInt = 5 by decide) rfl (by omega) (by omega) (fun v122 h_v122 => ?_)
      refine lv_iadd hx hb dX13_singIt_146 ?_
      refine tk_add (show (18 : Int32).toInt = 18 by decide) rfl (by omega) (by omega) (fun v123 h_v123 => ?_)
      refine lv_iconst (v := 3) hx hb dX13_singIt_147 (by decide) ?_
      refine lv_iadd hx hb dX13_singIt_148 ?_
      refine tk_add rfl (show (3 : Int32).toInt = 3 by decide) (by omega) (by omega) (fun v124 h_v124 => ?_)
      refine lv_iconst (v := 1) hx hb dX13_singIt_149 (by decide) ?_
      have hk_1 : (1 : Int32).toInt = 1 := by decide
      refine mz_iast (x := 1) hx hb hK hD hM hS 3 (Nat.le_of_ble_eq_true rfl) rfl (nn := 5560) rfl rfl (by omega) (by omega) dX13_singIt_150 (fun H locs R hM hS hw9 hj9 => ?_)
      have hIR := hIR.put hw9 hj9 (mz_r3 (hIR.at 3) (I := v124.toInt) rfl (by omega) (by omega) (fun h9 => by first | (cases h9; done) | omega) (by unfold mE; omega))
      have hRR := mz_frp (K := [3]) (Fa := Ra) hj9 hRR (by decide)
      have hrel := rK2.put (I := v124.toInt) hrel hw9 rfl (by omega) (by omega) (by omega)
      have hf79 : R 3 12 = _ := (congrFun hw9 12).trans ((pk_un (fun h9 => by have h8 := tk_nat (i := v124) rfl (by omega); omega)).trans hf79)
      have hf80 : R 3 13 = _ := (congrFun hw9 13).trans ((pk_un (fun h9 => by have h8 := tk_nat (i := v124) rfl (by omega); omega)).trans hf80)
      have hf81 : R 3 14 = _ := (congrFun hw9 14).trans ((pk_un (fun h9 => by have h8 := tk_nat (i := v124) rfl (by omega); omega)).trans hf81)
      have hf82 : R 3 15 = _ := (congrFun hw9 15).trans ((pk_un (fun h9 => by have h8 := tk_nat (i := v124) rfl (by omega); omega)).trans hf82)
      have hf83 : R 3 16 = _ := (congrFun hw9 16).trans ((pk_un (fun h9 => by have h8 := tk_nat (i := v124) rfl (by omega); omega)).trans hf83)
      have hf93 : R 3 17 = _ := (congrFun hw9 17).trans ((pk_un (fun h9 => by have h8 := tk_nat (i := v124) rfl (by omega); omega)).trans hf93)
      refine lv_aload_n hx hb dX13_singIt_151 rfl (lv_at hl 4 rfl) ?_
      refine lv_aload_n hx hb dX13_singIt_152 rfl (lv_at hl 4 rfl) ?_
      refine lv_iload_n hx hb dX13_singIt_153 rfl (lv_at hl 3 rfl) ?_
      refine lv_iconst (v := 2) hx hb dX13_singIt_154 (by decide) ?_
      have hk_2 : (2 : Int32).toInt = 2 := by decide
      refine mz_Vj (As := [.int v10, .int 2]) (rest := [.ref am]) ⟨hx, hb, hml, hown, hts⟩ hK hM hS (k_X13_ofSinger_2 l D cy ld ad am hD _ _ _ _ v10 (hIF.weak) hIG hIR (by omega) (by omega)) ⟨callB_of 2 hts (wl_in mw_324) rfl rfl rfl (htl _ mw_5) (htl _ mw_321) hd_yX13_ofSinger ⟨(Nat.le_of_ble_eq_true rfl), (Nat.le_of_ble_eq_true rfl)⟩, htl _ mw_322, htl _ mw_323⟩ rfl hl.1 rfl (Nat.le_of_ble_eq_true rfl) dX13_singIt_155 ⟨(Nat.le_of_ble_eq_true rfl), (Nat.le_of_ble_eq_true rfl)⟩ (fun v126 H locs hpo hM hS => ?_)
      obtain ⟨hpo127, hpo128⟩ := hpo
      have hq_v126 := tk_rng v126
      refine lv_aload_n hx hb dX13_singIt_158 rfl (lv_at hl 4 rfl) ?_
      refine lv_iconst (v := 2) hx hb dX13_singIt_159 (by decide) ?_
      have hk_2 : (2 : Int32).toInt = 2 := by decide
      refine mz_Vj (As := [.int 2]) (rest := [.int v126, .ref am]) ⟨hx, hb, hml, hown, hts⟩ hK hM hS (k_X13_inDuel_2 l D cy ld ad am hD _ _ _ _ v40 hf81) ⟨callB_of 1 hts (wl_in mw_1046) rfl rfl rfl (htl _ mw_5) (htl _ mw_1043) hd_yX13_inDuel ⟨(Nat.le_of_ble_eq_true rfl), (Nat.le_of_ble_eq_true rfl)⟩, htl _ mw_1044, htl _ mw_1045⟩ rfl hl.1 rfl (Nat.le_of_ble_eq_true rfl) dX13_singIt_160 ⟨(Nat.le_of_ble_eq_true rfl), (Nat.le_of_ble_eq_true rfl)⟩ (fun v130 H locs hpo hM hS => ?_)
      have hpo131 := hpo
      have hq_v130 := tk_rng v130
      refine mz_Vv (As := [.int v126, .int v130]) (rest := []) ⟨hx, hb, hml, hown, hts⟩ hK hM hS (k_X13_giveCows l D cy ld ad am hD _ _ _ _ v126 v130 g12 g13 v40 g15 g16 hIF hIG hIR hf79 hf80 hf81 hf82 hf83 (by omega) (by omega)) ⟨callB_of 2 hts (wl_in mw_1137) rfl rfl rfl (htl _ mw_5) (htl _ mw_1134) hd_yX13_giveCows ⟨(Nat.le_of_ble_eq_true rfl), (Nat.le_of_ble_eq_true rfl)⟩, htl _ mw_1135, htl _ mw_1136⟩ rfl hl.1 rfl (Nat.le_of_ble_eq_true rfl) dX13_singIt_163 ⟨(Nat.le_of_ble_eq_true rfl), (Nat.le_of_ble_eq_true rfl)⟩ (fun H locs F G R S hpo hM hS => ?_)
      obtain ⟨hIF, hIG, hIR, hfr9, hrr9, hgr9, hrel9, hf133, hf134, hf135, hf136, hf137⟩ := hpo
      have hFF := mz_fr (K := [34, 38, 41]) (Fa := Fa) hfr9 hFF (by decide)
      have hRR := mz_fr (K := [3]) (Fa := Ra) hrr9 hRR (by decide)
      have hGG := mz_fr (K := [39, 40]) (Fa := Ga) hgr9 hGG (by decide)
      have hrel := hrel.trans hrel9
      have hf95 := (hfr9 41 (by decide)).trans hf95
      have hr_g12 : (-1) ≤ g12.toInt ∧ g12.toInt ≤ 7 := by have h9 := hIR.d; unfold dO at h9; rw [hf133] at h9; omega
      have hr_g13 : (-1) ≤ g13.toInt ∧ g13.toInt ≤ 7 := by have h9 := hIR.d; unfold dO at h9; rw [hf134] at h9; omega
      have hti_138 : g12.toInt ≠ -1 → g13.toInt ≠ -1 := by have h9 := hIR.d.2.2.2.2.2; rw [hf133, hf134] at h9; exact fun h8 => (h9 h8).1
      have hr_v40 : (-1) ≤ v40.toInt ∧ v40.toInt ≤ 99 := by have h9 := hIR.d; unfold dO at h9; rw [hf135] at h9; omega
      have hr_g15 : (-1) ≤ g15.toInt ∧ g15.toInt ≤ 11 := by have h9 := hIR.d; unfold dO at h9; rw [hf136] at h9; omega
      have hti_139 : g12.toInt ≠ -1 → g15.toInt ≠ -1 := by have h9 := hIR.d.2.2.2.2.2; rw [hf133, hf136] at h9; exact fun h8 => (h9 h8).2.1
      have hr_g16 : (-1) ≤ g16.toInt ∧ g16.toInt ≤ 7 := by have h9 := hIR.d; unfold dO at h9; rw [hf137] at h9; omega
      have hti_140 : g12.toInt ≠ -1 → g16.toInt ≠ -1 := by have h9 := hIR.d.2.2.2.2.2; rw [hf133, hf137] at h9; exact fun h8 => (h9 h8).2.2
      refine lv_aload_n hx hb dX13_singIt_166 rfl (lv_at hl 4 rfl) ?_
      refine lv_iload_n hx hb dX13_singIt_167 rfl (lv_at hl 2 rfl) ?_
      refine mz_putI (ty := .int) (x := v13) hx hb htl hown hK hD hM hS 41 (Nat.le_of_ble_eq_true rfl) rfl (htl _ mw_1117) (fun _ h9 => h9) rfl (tyX13_ok 41 (by decide)) rfl rfl dX13_singIt_168 (fun H locs F hM hS hf9 hj9 => ?_)
      have hIF := hIF.put hf9 hj9 (show (-1) ≤ (v13 : Int32).toInt by omega) (show (v13 : Int32).toInt ≤ 7 by omega) (by decide)
      have hFF := mz_frp (K := [34, 38, 41]) (Fa := Fa) hj9 hFF (by decide)
      have hf143 := hf9
      refine lv_aload_n hx hb dX13_singIt_171 rfl (lv_at hl 4 rfl) ?_
      have hIR := hIR.bare
      refine mz_Vv (As := []) (rest := []) ⟨hx, hb, hml, hown, hts⟩ hK hM hS (k_X13_endDuel l D cy ld ad am hD _ _ _ _ hIF hIG hIR) ⟨callB_of 0 hts (wl_in mw_248) rfl rfl rfl (htl _ mw_5) (htl _ mw_245) hd_yX13_endDuel ⟨(Nat.le_of_ble_eq_true rfl), (Nat.le_of_ble_eq_true rfl)⟩, htl _ mw_246, htl _ mw_247⟩ rfl hl.1 rfl (Nat.le_of_ble_eq_true rfl) dX13_singIt_172 ⟨(Nat.le_of_ble_eq_true rfl), (Nat.le_of_ble_eq_true rfl)⟩ (fun H locs F G R S hpo hM hS => ?_)
      obtain ⟨hIF, hIG, hIR, hfr9, hrr9, hgr9, hrel9, hf144, hf145, hf146, hf147, hf148⟩ := hpo
      have hFF := mz_fr (K := [34, 38, 41]) (Fa := Fa) hfr9 hFF (by decide)
      have hRR := mz_fr (K := [3]) (Fa := Ra) hrr9 hRR (by decide)
      have hGG := mz_fr (K := [39, 40]) (Fa := Ga) hgr9 hGG (by decide)
      have hrel := hrel.trans hrel9
      have hf143 := (hfr9 41 (by decide)).trans hf143
      refine lv_goto (tgt := 224) hx hb dX13_singIt_175 (by decide) ?_
      refine lv_iload hx hb dX13_singIt_224 (lv_at hl 0 rfl) ?_
      have hk_m1 : ((-1) : Int32).toInt = (-1) := by decide
      have hk_m1 : ((-1) : Int32).toInt = (-1) := by decide
      have hk_m1 : ((-1) : Int32).toInt = (-1) := by decide
      exact mz_iret (v := v35) hx hb hr rfl hlocks ⟨hIF, hIG, hIR, hFF, hRR, hGG, hrel, (by omega), (by omega), (by rw [hf144, hf147]; omega), (by rw [hf144, hf147]; omega), (by rw [hf144, hf147]; omega), (by rw [hf144, hf147, hf148]; omega)⟩ hM hS dX13_singIt_226
  refine lv_icmp_lt (tgt := 82) hx hb dX13_singIt_75 (by decide) (fun c9 => ?_) (fun c9 => ?_)
  · have hc62 : v23.toInt < v59.toInt := (fi_lt rfl rfl).mp c9
    refine lv_iconst (v := 0) hx hb dX13_singIt_82 (by decide) ?_
    have hk_0 : (0 : Int32).toInt = 0 := by decide
    exact hj65 0 (by omega) (by omega) _ (lv_sub hl [0, 1, 3, 4, 5, 6] rfl)
  · have hc62 : ¬ (v23.toInt < v59.toInt) := fun h9 => c9 ((fi_lt rfl rfl).mpr h9)
    refine lv_iconst (v := 1) hx hb dX13_singIt_78 (by decide) ?_
    refine lv_goto (tgt := 83) hx hb dX13_singIt_79 (by decide) ?_
    have hk_1 : (1 : Int32).toInt = 1 := by decide
    exact hj65 1 (by omega) (by omega) _ (lv_sub hl [0, 1, 3, 4, 5, 6] rfl)
