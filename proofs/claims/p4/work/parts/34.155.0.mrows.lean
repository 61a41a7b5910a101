theorem hd_yX13_beginText : yX13_beginText.cls ≠ "java/lang/invoke/MethodHandle" ∧ yX13_beginText.cls ≠ "java/lang/invoke/VarHandle" ∧ (parseMethodDescriptor yX13_beginText.desc).map (fun d => d.parameters.length) = some 1 := by decide +kernel
theorem hd_yX13_readLaw : yX13_readLaw.cls ≠ "java/lang/invoke/MethodHandle" ∧ yX13_readLaw.cls ≠ "java/lang/invoke/VarHandle" ∧ (parseMethodDescriptor yX13_readLaw.desc).map (fun d => d.parameters.length) = some 0 := by decide +kernel
theorem hd_yX13_endText : yX13_endText.cls ≠ "java/lang/invoke/MethodHandle" ∧ yX13_endText.cls ≠ "java/lang/invoke/VarHandle" ∧ (parseMethodDescriptor yX13_endText.desc).map (fun d => d.parameters.length) = some 0 := by decide +kernel
theorem dX13_law_82 : decode cX13_law 82 = .ok (.sipush 160, 3) := by decide +kernel
theorem dX13_law_85 : decode cX13_law 85 = .ok (.sipush 900, 3) := by decide +kernel
theorem dX13_law_88 : decode cX13_law 88 = .ok (.aload_n 0, 1) := by decide +kernel
theorem dX13_law_89 : decode cX13_law 89 = .ok (.getfield 13, 3) := by decide +kernel
theorem dX13_law_92 : decode cX13_law 92 = .ok (.iconst 4, 1) := by decide +kernel
theorem dX13_law_93 : decode cX13_law 93 = .ok (.iaload, 1) := by decide +kernel
theorem dX13_law_94 : decode cX13_law 94 = .ok (.imul, 1) := by decide +kernel
theorem dX13_law_95 : decode cX13_law 95 = .ok (.iadd, 1) := by decide +kernel
theorem dX13_law_96 : decode cX13_law 96 = .ok (.istore_n 1, 1) := by decide +kernel
theorem dX13_law_97 : decode cX13_law 97 = .ok (.aload_n 0, 1) := by decide +kernel
theorem dX13_law_98 : decode cX13_law 98 = .ok (.getfield 13, 3) := by decide +kernel
theorem dX13_law_101 : decode cX13_law 101 = .ok (.iload_n 1, 1) := by decide +kernel
theorem dX13_law_102 : decode cX13_law 102 = .ok (.iconst 1, 1) := by decide +kernel
theorem dX13_law_103 : decode cX13_law 103 = .ok (.iadd, 1) := by decide +kernel
theorem dX13_law_104 : decode cX13_law 104 = .ok (.aload_n 0, 1) := by decide +kernel
theorem dX13_law_105 : decode cX13_law 105 = .ok (.getfield 369, 3) := by decide +kernel
theorem dX13_law_108 : decode cX13_law 108 = .ok (.iastore, 1) := by decide +kernel
theorem dX13_law_109 : decode cX13_law 109 = .ok (.iconst 0, 1) := by decide +kernel
theorem dX13_law_110 : decode cX13_law 110 = .ok (.istore_n 2, 1) := by decide +kernel
theorem dX13_law_111 : decode cX13_law 111 = .ok (.iload_n 2, 1) := by decide +kernel
theorem dX13_law_112 : decode cX13_law 112 = .ok (.bipush 8, 2) := by decide +kernel
theorem dX13_law_114 : decode cX13_law 114 = .ok (.aload_n 0, 1) := by decide +kernel
theorem dX13_law_115 : decode cX13_law 115 = .ok (.getfield 369, 3) := by decide +kernel
theorem dX13_law_118 : decode cX13_law 118 = .ok (.imul, 1) := by decide +kernel
theorem dX13_law_119 : decode cX13_law 119 = .ok (.if_icmp .ge 25, 3) := by decide +kernel
theorem dX13_law_144 : decode cX13_law 144 = .ok (.iconst 0, 1) := by decide +kernel
theorem dX13_law_145 : decode cX13_law 145 = .ok (.istore_n 2, 1) := by decide +kernel
theorem dX13_law_146 : decode cX13_law 146 = .ok (.iload_n 2, 1) := by decide +kernel
theorem dX13_law_147 : decode cX13_law 147 = .ok (.aload_n 0, 1) := by decide +kernel
theorem dX13_law_148 : decode cX13_law 148 = .ok (.getfield 275, 3) := by decide +kernel
theorem dX13_law_151 : decode cX13_law 151 = .ok (.if_icmp .ge 49, 3) := by decide +kernel
theorem dX13_law_200 : decode cX13_law 200 = .ok (.aload_n 0, 1) := by decide +kernel
theorem dX13_law_201 : decode cX13_law 201 = .ok (.getfield 13, 3) := by decide +kernel
theorem dX13_law_204 : decode cX13_law 204 = .ok (.iconst 4, 1) := by decide +kernel
theorem dX13_law_205 : decode cX13_law 205 = .ok (.dup2, 1) := by decide +kernel
theorem dX13_law_206 : decode cX13_law 206 = .ok (.iaload, 1) := by decide +kernel
theorem dX13_law_207 : decode cX13_law 207 = .ok (.iconst 1, 1) := by decide +kernel
theorem dX13_law_208 : decode cX13_law 208 = .ok (.iadd, 1) := by decide +kernel
theorem dX13_law_209 : decode cX13_law 209 = .ok (.iastore, 1) := by decide +kernel
theorem dX13_law_210 : decode cX13_law 210 = .ok (.aload_n 0, 1) := by decide +kernel
theorem dX13_law_211 : decode cX13_law 211 = .ok (.aload_n 0, 1) := by decide +kernel
theorem dX13_law_212 : decode cX13_law 212 = .ok (.getfield 13, 3) := by decide +kernel
theorem dX13_law_215 : decode cX13_law 215 = .ok (.iconst 4, 1) := by decide +kernel
theorem dX13_law_216 : decode cX13_law 216 = .ok (.iaload, 1) := by decide +kernel
theorem dX13_law_217 : decode cX13_law 217 = .ok (.iconst 1, 1) := by decide +kernel
theorem dX13_law_218 : decode cX13_law 218 = .ok (.isub, 1) := by decide +kernel
theorem dX13_law_219 : decode cX13_law 219 = .ok (.invokevirtual 183, 3) := by decide +kernel
theorem dX13_law_222 : decode cX13_law 222 = .ok (.ireturn, 1) := by decide +kernel
theorem dX13_law_154 : decode cX13_law 154 = .ok (.aload_n 0, 1) := by decide +kernel
theorem dX13_law_155 : decode cX13_law 155 = .ok (.getfield 13, 3) := by decide +kernel
theorem dX13_law_158 : decode cX13_law 158 = .ok (.iload_n 1, 1) := by decide +kernel
theorem dX13_law_159 : decode cX13_law 159 = .ok (.bipush 98, 2) := by decide +kernel
theorem dX13_law_161 : decode cX13_law 161 = .ok (.iadd, 1) := by decide +kernel
theorem dX13_law_162 : decode cX13_law 162 = .ok (.iconst 2, 1) := by decide +kernel
theorem dX13_law_163 : decode cX13_law 163 = .ok (.iload_n 2, 1) := by decide +kernel
theorem dX13_law_164 : decode cX13_law 164 = .ok (.imul, 1) := by decide +kernel
theorem dX13_law_165 : decode cX13_law 165 = .ok (.iadd, 1) := by decide +kernel
theorem dX13_law_166 : decode cX13_law 166 = .ok (.aload_n 0, 1) := by decide +kernel
theorem dX13_law_167 : decode cX13_law 167 = .ok (.getfield 45, 3) := by decide +kernel
theorem dX13_law_170 : decode cX13_law 170 = .ok (.iload_n 2, 1) := by decide +kernel
theorem dX13_law_171 : decode cX13_law 171 = .ok (.iaload, 1) := by decide +kernel
theorem dX13_law_172 : decode cX13_law 172 = .ok (.iastore, 1) := by decide +kernel
theorem dX13_law_173 : decode cX13_law 173 = .ok (.aload_n 0, 1) := by decide +kernel
theorem dX13_law_174 : decode cX13_law 174 = .ok (.getfield 13, 3) := by decide +kernel
theorem dX13_law_177 : decode cX13_law 177 = .ok (.iload_n 1, 1) := by decide +kernel
theorem dX13_law_178 : decode cX13_law 178 = .ok (.bipush 98, 2) := by decide +kernel
theorem dX13_law_180 : decode cX13_law 180 = .ok (.iadd, 1) := by decide +kernel
theorem dX13_law_181 : decode cX13_law 181 = .ok (.iconst 2, 1) := by decide +kernel
theorem dX13_law_182 : decode cX13_law 182 = .ok (.iload_n 2, 1) := by decide +kernel
theorem dX13_law_183 : decode cX13_law 183 = .ok (.imul, 1) := by decide +kernel
theorem dX13_law_184 : decode cX13_law 184 = .ok (.iadd, 1) := by decide +kernel
theorem dX13_law_185 : decode cX13_law 185 = .ok (.iconst 1, 1) := by decide +kernel
theorem dX13_law_186 : decode cX13_law 186 = .ok (.iadd, 1) := by decide +kernel
theorem dX13_law_187 : decode cX13_law 187 = .ok (.aload_n 0, 1) := by decide +kernel
theorem dX13_law_188 : decode cX13_law 188 = .ok (.getfield 48, 3) := by decide +kernel
theorem dX13_law_191 : decode cX13_law 191 = .ok (.iload_n 2, 1) := by decide +kernel
theorem dX13_law_192 : decode cX13_law 192 = .ok (.iaload, 1) := by decide +kernel
theorem dX13_law_193 : decode cX13_law 193 = .ok (.iastore, 1) := by decide +kernel
theorem dX13_law_194 : decode cX13_law 194 = .ok (.iinc 2 1, 3) := by decide +kernel
theorem dX13_law_197 : decode cX13_law 197 = .ok (.goto (-51), 3) := by decide +kernel
theorem dX13_law_122 : decode cX13_law 122 = .ok (.aload_n 0, 1) := by decide +kernel
theorem dX13_law_123 : decode cX13_law 123 = .ok (.getfield 13, 3) := by decide +kernel
theorem dX13_law_126 : decode cX13_law 126 = .ok (.iload_n 1, 1) := by decide +kernel
theorem dX13_law_127 : decode cX13_law 127 = .ok (.iconst 2, 1) := by decide +kernel
theorem dX13_law_128 : decode cX13_law 128 = .ok (.iadd, 1) := by decide +kernel
theorem dX13_law_129 : decode cX13_law 129 = .ok (.iload_n 2, 1) := by decide +kernel
theorem dX13_law_130 : decode cX13_law 130 = .ok (.iadd, 1) := by decide +kernel
theorem dX13_law_131 : decode cX13_law 131 = .ok (.aload_n 0, 1) := by decide +kernel
theorem dX13_law_132 : decode cX13_law 132 = .ok (.getfield 42, 3) := by decide +kernel
theorem dX13_law_135 : decode cX13_law 135 = .ok (.iload_n 2, 1) := by decide +kernel
theorem dX13_law_136 : decode cX13_law 136 = .ok (.iaload, 1) := by decide +kernel
theorem dX13_law_137 : decode cX13_law 137 = .ok (.iastore, 1) := by decide +kernel
theorem dX13_law_138 : decode cX13_law 138 = .ok (.iinc 2 1, 3) := by decide +kernel
theorem dX13_law_141 : decode cX13_law 141 = .ok (.goto (-30), 3) := by decide +kernel
theorem dX13_law_0 : decode cX13_law 0 = .ok (.aload_n 0, 1) := by decide +kernel
theorem dX13_law_1 : decode cX13_law 1 = .ok (.iconst 0, 1) := by decide +kernel
theorem dX13_law_2 : decode cX13_law 2 = .ok (.putfield 170, 3) := by decide +kernel
theorem dX13_law_5 : decode cX13_law 5 = .ok (.aload_n 0, 1) := by decide +kernel
theorem dX13_law_6 : decode cX13_law 6 = .ok (.getfield 13, 3) := by decide +kernel
theorem dX13_law_9 : decode cX13_law 9 = .ok (.iconst 4, 1) := by decide +kernel
theorem dX13_law_10 : decode cX13_law 10 = .ok (.iaload, 1) := by decide +kernel
theorem dX13_law_11 : decode cX13_law 11 = .ok (.bipush 6, 2) := by decide +kernel
theorem dX13_law_13 : decode cX13_law 13 = .ok (.if_icmp .ne 15, 3) := by decide +kernel
theorem dX13_law_28 : decode cX13_law 28 = .ok (.aload_n 0, 1) := by decide +kernel
theorem dX13_law_29 : decode cX13_law 29 = .ok (.iconst 0, 1) := by decide +kernel
theorem dX13_law_30 : decode cX13_law 30 = .ok (.invokevirtual 377, 3) := by decide +kernel
theorem dX13_law_33 : decode cX13_law 33 = .ok (.aload_n 0, 1) := by decide +kernel
theorem dX13_law_34 : decode cX13_law 34 = .ok (.invokevirtual 380, 3) := by decide +kernel
theorem dX13_law_37 : decode cX13_law 37 = .ok (.aload_n 0, 1) := by decide +kernel
theorem dX13_law_38 : decode cX13_law 38 = .ok (.getfield 236, 3) := by decide +kernel
theorem dX13_law_41 : decode cX13_law 41 = .ok (.ifCond .ne 23, 3) := by decide +kernel
theorem dX13_law_64 : decode cX13_law 64 = .ok (.aload_n 0, 1) := by decide +kernel
theorem dX13_law_65 : decode cX13_law 65 = .ok (.invokevirtual 383, 3) := by decide +kernel
theorem dX13_law_68 : decode cX13_law 68 = .ok (.aload_n 0, 1) := by decide +kernel
theorem dX13_law_69 : decode cX13_law 69 = .ok (.getfield 236, 3) := by decide +kernel
theorem dX13_law_72 : decode cX13_law 72 = .ok (.ifCond .eq 10, 3) := by decide +kernel
theorem dX13_law_75 : decode cX13_law 75 = .ok (.aload_n 0, 1) := by decide +kernel
theorem dX13_law_76 : decode cX13_law 76 = .ok (.bipush (-6), 2) := by decide +kernel
theorem dX13_law_78 : decode cX13_law 78 = .ok (.invokevirtual 183, 3) := by decide +kernel
theorem dX13_law_81 : decode cX13_law 81 = .ok (.ireturn, 1) := by decide +kernel
theorem dX13_law_44 : decode cX13_law 44 = .ok (.aload_n 0, 1) := by decide +kernel
theorem dX13_law_45 : decode cX13_law 45 = .ok (.bipush 59, 2) := by decide +kernel
theorem dX13_law_47 : decode cX13_law 47 = .ok (.invokevirtual 309, 3) := by decide +kernel
theorem dX13_law_50 : decode cX13_law 50 = .ok (.ifCond .eq 14, 3) := by decide +kernel
theorem dX13_law_53 : decode cX13_law 53 = .ok (.aload_n 0, 1) := by decide +kernel
theorem dX13_law_54 : decode cX13_law 54 = .ok (.invokevirtual 240, 3) := by decide +kernel
theorem dX13_law_57 : decode cX13_law 57 = .ok (.aload_n 0, 1) := by decide +kernel
theorem dX13_law_58 : decode cX13_law 58 = .ok (.invokevirtual 380, 3) := by decide +kernel
theorem dX13_law_61 : decode cX13_law 61 = .ok (.goto (-24), 3) := by decide +kernel
theorem dX13_law_16 : decode cX13_law 16 = .ok (.aload_n 0, 1) := by decide +kernel
theorem dX13_law_17 : decode cX13_law 17 = .ok (.iconst 0, 1) := by decide +kernel
theorem dX13_law_18 : decode cX13_law 18 = .ok (.putfield 224, 3) := by decide +kernel
theorem dX13_law_21 : decode cX13_law 21 = .ok (.aload_n 0, 1) := by decide +kernel
theorem dX13_law_22 : decode cX13_law 22 = .ok (.bipush (-5), 2) := by decide +kernel
theorem dX13_law_24 : decode cX13_law 24 = .ok (.invokevirtual 183, 3) := by decide +kernel
theorem dX13_law_27 : decode cX13_law 27 = .ok (.ireturn, 1) := by decide +kernel
set_option maxHeartbeats 4000000 in
set_option maxRecDepth 100000 in
theorem kz_X13_law_c1 (l : Launch) (D : va_G) (cy : Nat → ClassId) (ld ad : Nat → Nat) (am : Nat) (hD : mz_D ad am) (Fa : Nat → Int32) (Ga : Nat → Int64) (Ra : Nat → Nat → Int32) (Sa : Nat → Nat → Int64) {p : Program} {e : Env} {s : State} {m : MethodId} {args : Array Value} {below : List Frame} {meth : Method} {c : Code} (hx : p.tables.exec = Jvm.exec) (hb : c.code = cX13_law) (hr : meth.sig.returnType = (some .int)) (hml : c.maxLocals = 3) (hts : ∀ w ∈ wl yX13_law cX13_law 3 (some .int), w.before args s = true) (htl : ∀ w ∈ wsA, w.before args s = true) (hown : s.vm.findClass RX13 = some m.cls) (hlocks : meth.locks = false) (hK : kk_K D cy ld s) (v11443 : Int32) (v11445 : Int32) (v1621 : Int32) (v1622 : Int32) (v4 : Int32) (H : Heap) (locs : List Loc) (F : Nat → Int32) (G : Nat → Int64) (R : Nat → Nat → Int32) (S : Nat → Nat → Int64) (hq0_kz_X13_law_c1 : 0 ≤ v11443.toInt) (hq1_kz_X13_law_c1 : v11443.toInt ≤ 0) (hq2_kz_X13_law_c1 : 0 ≤ v11445.toInt) (hq3_kz_X13_law_c1 : v11445.toInt ≤ 0) (hq4_kz_X13_law_c1 : 0 ≤ v1621.toInt) (hq5_kz_X13_law_c1 : v1621.toInt ≤ 400) (hq6_kz_X13_law_c1 : 0 ≤ v1622.toInt) (hq7_kz_X13_law_c1 : v1622.toInt ≤ 12) (hq8_kz_X13_law_c1 : 0 ≤ v4.toInt) (hq9_kz_X13_law_c1 : v4.toInt ≤ 5) (hM : mz_S D cy ad am F G R S H) (hS : va_S (mz_W ad am) s.heap H locs) (hIF : mz_IF true F) (hIG : mz_IG G) (hIR : mz_IR [] true R) (hFF : ∀ k : Nat, k ∉ ([0, 1, 13, 14, 15, 16, 18, 19, 20, 21, 23, 26, 29, 30] : List Nat) → F k = Fa k) (hGG : ∀ k : Nat, k ∉ ([17] : List Nat) → G k = Ga k) (hRR : ∀ k : Nat, k ∉ ([2, 3, 22, 24, 25, 27, 28] : List Nat) → R k = Ra k) (hrel : rK3 (Ra 3) (R 3)) (hf2 : F 0 = 0) (hf3 : R 3 4 = v4) (hf54 : F 23 = v1621) (hf56 : F 21 = v1622) (hf11442 : F 19 = v11443) (hf11444 : F 13 = v11445) (hCL : (F 19).toInt = 0 → CLS 8 [3, 5] (R 24) (R 25) (R 22) (F 23).toInt (F 21).toInt) (ls : Array Slot) (hl : lv_has ls 3 [(0, .ref am)]) : W p l e ({ frames := 11, cells := 0, slots := 0, locals := 700 }) s m args below meth c H locs 0 0 (MQ below (mz_i D cy ad am (fun r F G R S => mz_IF true F ∧ mz_IG G ∧ mz_IR [] true R ∧ (∀ k : Nat, k ∉ ([0, 1, 13, 14, 15, 16, 18, 19, 20, 21, 23, 26, 29, 30] : List Nat) → F k = Fa k) ∧ (∀ k : Nat, k ∉ ([2, 3, 22, 24, 25, 27, 28] : List Nat) → R k = Ra k) ∧ (∀ k : Nat, k ∉ ([17] : List Nat) → G k = Ga k) ∧ rK3 (Ra 3) (R 3) ∧ (F 13).toInt = 0 ∧ (-6) ≤ r.toInt ∧ r.toInt ≤ 5)) args s 0 0 (mz_W ad am)) (F0 m 82 ls []) := by
  have hq_v11443 := tk_rng v11443
  have hq_v11445 := tk_rng v11445
  have hq_v1621 := tk_rng v1621
  have hq_v1622 := tk_rng v1622
  have hq_v4 := tk_rng v4
  have hr_v4 : 0 ≤ v4.toInt ∧ v4.toInt ≤ 6 := by have h9 := mz_r3c 4 (hIR.at 3) hf3 (by decide); unfold mE at h9; omega
  have hr_v1621 : 0 ≤ v1621.toInt ∧ v1621.toInt ≤ 400 := hIF.at hf54
  have hr_v1622 : 0 ≤ v1622.toInt ∧ v1622.toInt ≤ 12 := hIF.at hf56
  have hr_v11443 : 0 ≤ v11443.toInt ∧ v11443.toInt ≤ 1 := hIF.at hf11442
  have hr_v11445 : 0 ≤ v11445.toInt ∧ v11445.toInt ≤ 400 := hIF.at hf11444
  refine lv_sipush (v := 160) hx hb dX13_law_82 (by decide) ?_
  refine lv_sipush (v := 900) hx hb dX13_law_85 (by decide) ?_
  refine lv_aload_n hx hb dX13_law_88 rfl (lv_at hl 0 rfl) ?_
  refine mz_getR hx hb htl hown hK hM 3 (Nat.le_of_ble_eq_true rfl) (Nat.le_of_ble_eq_true rfl) (htl _ mw_188) (fun _ h9 => h9) dX13_law_89 ?_
  refine lv_iconst (v := 4) hx hb dX13_law_92 (by decide) ?_
  refine mz_iald hx hb hK hM 3 (Nat.le_of_ble_eq_true rfl) rfl (nn := 5560) rfl (I := 4) (by decide) (by decide) (by decide) dX13_law_93 (fun v9 e9 => ?_)
  refine fx_ti (v := v4) (e9.symm.trans (show R 3 (4 : Int32).toNatClampNeg = _ from hf3)) ?_
  refine lv_imul hx hb dX13_law_94 ?_
  refine tk_mul (show (900 : Int32).toInt = 900 by decide) rfl (by omega) (by omega) (fun v11448 h_v11448 => ?_)
  refine lv_iadd hx hb dX13_law_95 ?_
  refine tk_add (show (160 : Int32).toInt = 160 by decide) rfl (by omega) (by omega) (fun v11449 h_v11449 => ?_)
  refine lv_istore_n (lv' := [(1, .int v11449), (0, .ref am)]) hx hb dX13_law_96 rfl hl (by decide) rfl (fun ls hl => ?_)
  have hI9 := hIR
  have hIR := hIR.hole (X := [3])
  obtain ⟨cf, ecf⟩ : ∃ z : Nat → Int32, R 3 = z := ⟨_, rfl⟩
  have ecf9 := ecf
  obtain ⟨cl9, ecl⟩ : ∃ z : Nat → Int32, R 22 = z := ⟨_, rfl⟩
  obtain ⟨co9, eco⟩ : ∃ z : Nat → Int32, R 24 = z := ⟨_, rfl⟩
  obtain ⟨ca9, eca⟩ : ∃ z : Nat → Int32, R 25 = z := ⟨_, rfl⟩
  have hCL9 := hCL (by rw [hf11442]; omega)
  rw [hf54, hf56, ecl, eco, eca] at hCL9
  have hCL9 : CLS 8 [3, 5] co9 ca9 cl9 ((v1621.toInt.toNat : Nat) : Int) ((v1622.toInt.toNat : Nat) : Int) := by rw [show ((v1621.toInt.toNat : Nat) : Int) = v1621.toInt by omega, show ((v1622.toInt.toNat : Nat) : Int) = v1622.toInt by omega]; exact hCL9
  refine lv_aload_n hx hb dX13_law_97 rfl (lv_at hl 1 rfl) ?_
  refine mz_getR hx hb htl hown hK hM 3 (Nat.le_of_ble_eq_true rfl) (Nat.le_of_ble_eq_true rfl) (htl _ mw_188) (fun _ h9 => h9) dX13_law_98 ?_
  refine lv_iload_n hx hb dX13_law_101 rfl (lv_at hl 0 rfl) ?_
  refine lv_iconst (v := 1) hx hb dX13_law_102 (by decide) ?_
  refine lv_iadd hx hb dX13_law_103 ?_
  refine tk_add rfl (show (1 : Int32).toInt = 1 by decide) (by omega) (by omega) (fun v11450 h_v11450 => ?_)
  refine lv_aload_n hx hb dX13_law_104 rfl (lv_at hl 1 rfl) ?_
  refine mz_getI hx hb htl hown hK hM 21 (Nat.le_of_ble_eq_true rfl) rfl (htl _ mw_669) (fun _ h9 => h9) dX13_law_105 (fun v9 e9 => ?_)
  refine fx_ti (v := v1622) (e9.symm.trans hf56) ?_
  refine mz_iast (x := v1622) hx hb hK hD hM hS 3 (Nat.le_of_ble_eq_true rfl) rfl (nn := 5560) rfl rfl (by omega) (by omega) dX13_law_108 (fun H locs R hM hS hw9 hj9 => ?_)
  have hIR := hIR.putX hj9 (by decide)
  have ecl0 := ecl
  have ecl := (hj9 22 (by decide)).trans ecl
  have eco0 := eco
  have eco := (hj9 24 (by decide)).trans eco
  have eca0 := eca
  have eca := (hj9 25 (by decide)).trans eca
  have hcp : R 3 = upd cf (160 + 900 * v4.toInt.toNat + 1) v1622 := by rw [hw9, ecf, show (v11450 : Int32).toNatClampNeg = 160 + 900 * v4.toInt.toNat + 1 by show v11450.toInt.toNat = _; omega]
  have hRR := mz_frp (K := [2, 3, 22, 24, 25, 27, 28]) (Fa := Ra) hj9 hRR (by decide)
  have hrel := rK3.put (I := v11450.toInt) hrel hw9 rfl (Or.inr (by omega))
  have hf3 : R 3 4 = _ := (congrFun hw9 4).trans ((pk_un (fun h9 => by have h8 := tk_nat (i := v11450) rfl (by omega); omega)).trans hf3)
  refine lv_iconst (v := 0) hx hb dX13_law_109 (by decide) ?_
  refine lv_istore_n (lv' := [(2, .int 0), (1, .int v11449), (0, .ref am)]) hx hb dX13_law_110 rfl hl (by decide) rfl (fun ls hl => ?_)
  have hl12294 : ∀ (N_l12294 : Nat) (v11452 : Int32) (H : Heap) (locs : List Loc) (R : Nat → Nat → Int32), (0 ≤ v11452.toInt) → (0 ≤ (-1) * v11452.toInt + 8 * v1622.toInt) → (mz_S D cy ad am F G R S H) → (va_S (mz_W ad am) s.heap H locs) → (mz_IR [3] true R) → (∀ k : Nat, k ∉ ([2, 3, 22, 24, 25, 27, 28] : List Nat) → R k = Ra k) → (rK3 (Ra 3) (R 3)) → (R 3 4 = v4) → (R 3 = va_cpy cl9 (upd cf (160 + 900 * v4.toInt.toNat + 1) v1622) 0 (160 + 900 * v4.toInt.toNat + 2) v11452.toInt.toNat) → (R 22 = cl9) → (R 24 = co9) → (R 25 = ca9) → ((-1) * v11452.toInt + 96 < (N_l12294 : Int)) → ∀ ls : Array Slot, lv_has ls 3 [(2, .int v11452), (1, .int v11449), (0, .ref am)] → W p l e ({ frames := 11, cells := 0, slots := 0, locals := 700 }) s m args below meth c H locs 0 0 (MQ below (mz_i D cy ad am (fun r F G R S => mz_IF true F ∧ mz_IG G ∧ mz_IR [] true R ∧ (∀ k : Nat, k ∉ ([0, 1, 13, 14, 15, 16, 18, 19, 20, 21, 23, 26, 29, 30] : List Nat) → F k = Fa k) ∧ (∀ k : Nat, k ∉ ([2, 3, 22, 24, 25, 27, 28] : List Nat) → R k = Ra k) ∧ (∀ k : Nat, k ∉ ([17] : List Nat) → G k = Ga k) ∧ rK3 (Ra 3) (R 3) ∧ (F 13).toInt = 0 ∧ (-6) ≤ r.toInt ∧ r.toInt ≤ 5)) args s 0 0 (mz_W ad am)) (F0 m 111 ls []) := by
    intro N_l12294
    induction N_l12294 with
    | zero => intro v11452 H locs R hq0_l12294 hq1_l12294 hM hS hIR hRR hrel hf3 hcp ecl eco eca hm_l12294 ls hl; exfalso; omega
    | succ N_l12294 ih_l12294 =>
      intro v11452 H locs R hq0_l12294 hq1_l12294 hM hS hIR hRR hrel hf3 hcp ecl eco eca hm_l12294 ls hl
      refine lv_iload_n hx hb dX13_law_111 rfl (lv_at hl 0 rfl) ?_
      refine lv_bipush (v := 8) hx hb dX13_law_112 (by decide) ?_
      refine lv_aload_n hx hb dX13_law_114 rfl (lv_at hl 2 rfl) ?_
      refine mz_getI hx hb htl hown hK hM 21 (Nat.le_of_ble_eq_true rfl) rfl (htl _ mw_669) (fun _ h9 => h9) dX13_law_115 (fun v9 e9 => ?_)
      refine fx_ti (v := v1622) (e9.symm.trans hf56) ?_
      refine lv_imul hx hb dX13_law_118 ?_
      refine tk_mul (show (8 : Int32).toInt = 8 by decide) rfl (by omega) (by omega) (fun v12295 h_v12295 => ?_)
      refine lv_icmp_ge (tgt := 144) hx hb dX13_law_119 (by decide) (fun c9 => ?_) (fun c9 => ?_)
      · have hc12296 : v12295.toInt ≤ v11452.toInt := (fi_le rfl rfl).mp c9
        refine lv_iconst (v := 0) hx hb dX13_law_144 (by decide) ?_
        have e9 : v11452.toInt.toNat = 8 * v1622.toInt.toNat := by omega
        rw [e9] at hcp
        refine lv_istore_n (lv' := [(2, .int 0), (1, .int v11449), (0, .ref am)]) hx hb dX13_law_145 rfl hl (by decide) rfl (fun ls hl => ?_)
        have hl12479 : ∀ (N_l12479 : Nat) (v12297 : Int32) (H : Heap) (locs : List Loc) (R : Nat → Nat → Int32), (0 ≤ v12297.toInt) → (0 ≤ (-1) * v12297.toInt + v1621.toInt) → (mz_S D cy ad am F G R S H) → (va_S (mz_W ad am) s.heap H locs) → (mz_IR [3] true R) → (∀ k : Nat, k ∉ ([2, 3, 22, 24, 25, 27, 28] : List Nat) → R k = Ra k) → (rK3 (Ra 3) (R 3)) → (R 3 4 = v4) → (R 3 = cpi (va_cpy cl9 (upd cf (160 + 900 * v4.toInt.toNat + 1) v1622) 0 (160 + 900 * v4.toInt.toNat + 2) (8 * v1622.toInt.toNat)) co9 ca9 (160 + 900 * v4.toInt.toNat + 98) v12297.toInt.toNat) → (R 22 = cl9) → (R 24 = co9) → (R 25 = ca9) → ((-1) * v12297.toInt + 400 < (N_l12479 : Int)) → ∀ ls : Array Slot, lv_has ls 3 [(2, .int v12297), (1, .int v11449), (0, .ref am)] → W p l e ({ frames := 11, cells := 0, slots := 0, locals := 700 }) s m args below meth c H locs 0 0 (MQ below (mz_i D cy ad am (fun r F G R S => mz_IF true F ∧ mz_IG G ∧ mz_IR [] true R ∧ (∀ k : Nat, k ∉ ([0, 1, 13, 14, 15, 16, 18, 19, 20, 21, 23, 26, 29, 30] : List Nat) → F k = Fa k) ∧ (∀ k : Nat, k ∉ ([2, 3, 22, 24, 25, 27, 28] : List Nat) → R k = Ra k) ∧ (∀ k : Nat, k ∉ ([17] : List Nat) → G k = Ga k) ∧ rK3 (Ra 3) (R 3) ∧ (F 13).toInt = 0 ∧ (-6) ≤ r.toInt ∧ r.toInt ≤ 5)) args s 0 0 (mz_W ad am)) (F0 m 146 ls []) := by
          intro N_l12479
          induction N_l12479 with
          | zero => intro v12297 H locs R hq0_l12479 hq1_l12479 hM hS hIR hRR hrel hf3 hcp ecl eco eca hm_l12479 ls hl; exfalso; omega
          | succ N_l12479 ih_l12479 =>
            intro v12297 H locs R hq0_l12479 hq1_l12479 hM hS hIR hRR hrel hf3 hcp ecl eco eca hm_l12479 ls hl
            refine lv_iload_n hx hb dX13_law_146 rfl (lv_at hl 0 rfl) ?_
            refine lv_aload_n hx hb dX13_law_147 rfl (lv_at hl 2 rfl) ?_
            refine mz_getI hx hb htl hown hK hM 23 (Nat.le_of_ble_eq_true rfl) rfl (htl _ mw_670) (fun _ h9 => h9) dX13_law_148 (fun v9 e9 => ?_)
            refine fx_ti (v := v1621) (e9.symm.trans hf54) ?_
            refine lv_icmp_ge (tgt := 200) hx hb dX13_law_151 (by decide) (fun c9 => ?_) (fun c9 => ?_)
            · have hc12480 : v1621.toInt ≤ v12297.toInt := (fi_le rfl rfl).mp c9
              refine lv_aload_n hx hb dX13_law_200 rfl (lv_at hl 2 rfl) ?_
              have e9 : v12297.toInt.toNat = v1621.toInt.toNat := by omega
              rw [e9] at hcp
              refine mz_getR hx hb htl hown hK hM 3 (Nat.le_of_ble_eq_true rfl) (Nat.le_of_ble_eq_true rfl) (htl _ mw_188) (fun _ h9 => h9) dX13_law_201 ?_
              refine lv_iconst (v := 4) hx hb dX13_law_204 (by decide) ?_
              refine lv_dup2_11 hx hb dX13_law_205 rfl rfl ?_
              refine mz_iald hx hb hK hM 3 (Nat.le_of_ble_eq_true rfl) rfl (nn := 5560) rfl (I := 4) (by decide) (by decide) (by decide) dX13_law_206 (fun v9 e9 => ?_)
              refine fx_ti (v := v4) (e9.symm.trans (show R 3 (4 : Int32).toNatClampNeg = _ from hf3)) ?_
              refine lv_iconst (v := 1) hx hb dX13_law_207 (by decide) ?_
              refine lv_iadd hx hb dX13_law_208 ?_
              refine tk_add rfl (show (1 : Int32).toInt = 1 by decide) (by omega) (by omega) (fun v12481 h_v12481 => ?_)
              have hk_4 : (4 : Int32).toInt = 4 := by decide
              refine mz_iast (x := v12481) hx hb hK hD hM hS 3 (Nat.le_of_ble_eq_true rfl) rfl (nn := 5560) rfl (I := 4) (by decide) (by decide) (by decide) dX13_law_209 (fun H locs R hM hS hw9 hj9 => ?_)
              have hIR := hIR.putX hj9 (by decide)
              have ecl0 := ecl
              have ecl := (hj9 22 (by decide)).trans ecl
              have eco0 := eco
              have eco := (hj9 24 (by decide)).trans eco
              have eca0 := eca
              have eca := (hj9 25 (by decide)).trans eca
              have hcp : R 3 = upd (cpi (va_cpy cl9 (upd cf (160 + 900 * v4.toInt.toNat + 1) v1622) 0 (160 + 900 * v4.toInt.toNat + 2) (8 * v1622.toInt.toNat)) co9 ca9 (160 + 900 * v4.toInt.toNat + 98) v1621.toInt.toNat) 4 v12481 := by rw [hw9, hcp]; rfl
              have hIR := hIR.close (by rw [hcp]; exact mz_newlaw (by rw [← ecf9]; exact hI9.at 3) (by omega) (by omega) (by omega) (by omega) (by omega) hCL9)
              have hRR := mz_frp (K := [2, 3, 22, 24, 25, 27, 28]) (Fa := Ra) hj9 hRR (by decide)
              have hrel := rK3.put (I := 4) hrel hw9 (by decide) (Or.inl ⟨by omega, by omega⟩)
              have hf12483 : R 3 4 = v12481 := (congrFun hw9 4).trans pk_us
              refine lv_aload_n hx hb dX13_law_210 rfl (lv_at hl 2 rfl) ?_
              refine lv_aload_n hx hb dX13_law_211 rfl (lv_at hl 2 rfl) ?_
              refine mz_getR hx hb htl hown hK hM 3 (Nat.le_of_ble_eq_true rfl) (Nat.le_of_ble_eq_true rfl) (htl _ mw_188) (fun _ h9 => h9) dX13_law_212 ?_
              refine lv_iconst (v := 4) hx hb dX13_law_215 (by decide) ?_
              refine mz_iald hx hb hK hM 3 (Nat.le_of_ble_eq_true rfl) rfl (nn := 5560) rfl (I := 4) (by decide) (by decide) (by decide) dX13_law_216 (fun v9 e9 => ?_)
              refine fx_ti (v := v12481) (e9.symm.trans (show R 3 (4 : Int32).toNatClampNeg = _ from hf12483)) ?_
              refine lv_iconst (v := 1) hx hb dX13_law_217 (by decide) ?_
              refine lv_isub hx hb dX13_law_218 ?_
              refine tk_sub rfl (show (1 : Int32).toInt = 1 by decide) (by omega) (by omega) (fun v12484 h_v12484 => ?_)
              refine mz_Vi (As := [.int v12484]) (rest := []) ⟨hx, hb, hml, hown, hts⟩ hK hM hS (k_X13_tell l D cy ld ad am hD _ _ _ _ v12484 hIF hIG hIR (by omega) (by omega)) ⟨callB_of 1 hts (wl_in mw_296) rfl rfl rfl (htl _ mw_5) (htl _ mw_293) hd_yX13_tell ⟨(Nat.le_of_ble_eq_true rfl), (Nat.le_of_ble_eq_true rfl)⟩, htl _ mw_294, htl _ mw_295⟩ rfl hl.1 rfl (Nat.le_of_ble_eq_true rfl) dX13_law_219 ⟨(Nat.le_of_ble_eq_true rfl), (Nat.le_of_ble_eq_true rfl)⟩ (fun v12485 H locs F G R S hpo hM hS => ?_)
              obtain ⟨hIF, hIG, hIR, hfr9, hrr9, hgr9, hpo12486⟩ := hpo
              have hq_v12485 := tk_rng v12485
              have hFF := mz_fr (K := [0, 1, 13, 14, 15, 16, 18, 19, 20, 21, 23, 26, 29, 30]) (Fa := Fa) hfr9 hFF (by decide)
              have hRR := mz_fr (K := [2, 3, 22, 24, 25, 27, 28]) (Fa := Ra) hrr9 hRR (by decide)
              have hGG := mz_fr (K := [17]) (Fa := Ga) hgr9 hGG (by decide)
              have hrel : rK3 (Ra 3) (R 3) := hrel.trans (rK3.refl (hrr9 3 (by decide)))
              have hf2 := (hfr9 0 (by decide)).trans hf2
              have hf54 := (hfr9 23 (by decide)).trans hf54
              have hf56 := (hfr9 21 (by decide)).trans hf56
              have hf11442 := (hfr9 19 (by decide)).trans hf11442
              have hf11444 := (hfr9 13 (by decide)).trans hf11444
              have hf12483 : R 3 4 = _ := (congrFun (hrr9 3 (by decide)) 4).trans hf12483
              exact mz_iret (v := v12485) hx hb hr rfl hlocks ⟨hIF, hIG, hIR, hFF, hRR, hGG, hrel, (by rw [hf11444]; omega), (by omega), (by omega)⟩ hM hS dX13_law_222
            · have hc12480 : ¬ (v1621.toInt ≤ v12297.toInt) := fun h9 => c9 ((fi_le rfl rfl).mpr h9)
              refine lv_aload_n hx hb dX13_law_154 rfl (lv_at hl 2 rfl) ?_
              refine mz_getR hx hb htl hown hK hM 3 (Nat.le_of_ble_eq_true rfl) (Nat.le_of_ble_eq_true rfl) (htl _ mw_188) (fun _ h9 => h9) dX13_law_155 ?_
              refine lv_iload_n hx hb dX13_law_158 rfl (lv_at hl 1 rfl) ?_
              refine lv_bipush (v := 98) hx hb dX13_law_159 (by decide) ?_
              refine lv_iadd hx hb dX13_law_161 ?_
              refine tk_add rfl (show (98 : Int32).toInt = 98 by decide) (by omega) (by omega) (fun v12488 h_v12488 => ?_)
              refine lv_iconst (v := 2) hx hb dX13_law_162 (by decide) ?_
              refine lv_iload_n hx hb dX13_law_163 rfl (lv_at hl 0 rfl) ?_
              refine lv_imul hx hb dX13_law_164 ?_
              refine tk_mul (show (2 : Int32).toInt = 2 by decide) rfl (by omega) (by omega) (fun v12489 h_v12489 => ?_)
              refine lv_iadd hx hb dX13_law_165 ?_
              refine tk_add rfl rfl (by omega) (by omega) (fun v12490 h_v12490 => ?_)
              refine lv_aload_n hx hb dX13_law_166 rfl (lv_at hl 2 rfl) ?_
              refine mz_getR hx hb htl hown hK hM 24 (Nat.le_of_ble_eq_true rfl) (Nat.le_of_ble_eq_true rfl) (htl _ mw_198) (fun _ h9 => h9) dX13_law_167 ?_
              refine lv_iload_n hx hb dX13_law_170 rfl (lv_at hl 0 rfl) ?_
              refine mz_iald hx hb hK hM 24 (Nat.le_of_ble_eq_true rfl) rfl (nn := 400) rfl rfl (by omega) (by omega) dX13_law_171 (fun v12491 e_v12491 => ?_)
              have hq_v12491 := tk_rng v12491
              refine mz_iast (x := v12491) hx hb hK hD hM hS 3 (Nat.le_of_ble_eq_true rfl) rfl (nn := 5560) rfl rfl (by omega) (by omega) dX13_law_172 (fun H locs R hM hS hw9 hj9 => ?_)
              have hIR := hIR.putX hj9 (by decide)
              have ecl0 := ecl
              have ecl := (hj9 22 (by decide)).trans ecl
              have eco0 := eco
              have eco := (hj9 24 (by decide)).trans eco
              have eca0 := eca
              have eca := (hj9 25 (by decide)).trans eca
              have eA : co9 v12297.toInt.toNat = v12491 := by rw [← eco0]; exact e_v12491
              have hwA := hw9
              have hcpA := hcp
              have hRR := mz_frp (K := [2, 3, 22, 24, 25, 27, 28]) (Fa := Ra) hj9 hRR (by decide)
              have hrel := rK3.put (I := v12490.toInt) hrel hw9 rfl (Or.inr (by omega))
              have e_v12491 : R 24 (v12297 : Int32).toNatClampNeg = _ := (congrFun (hj9 24 (by decide)) _).trans e_v12491
              have hf3 : R 3 4 = _ := (congrFun hw9 4).trans ((pk_un (fun h9 => by have h8 := tk_nat (i := v12490) rfl (by omega); omega)).trans hf3)
              refine lv_aload_n hx hb dX13_law_173 rfl (lv_at hl 2 rfl) ?_
              refine mz_getR hx hb htl hown hK hM 3 (Nat.le_of_ble_eq_true rfl) (Nat.le_of_ble_eq_true rfl) (htl _ mw_188) (fun _ h9 => h9) dX13_law_174 ?_
              refine lv_iload_n hx hb dX13_law_177 rfl (lv_at hl 1 rfl) ?_
              refine lv_bipush (v := 98) hx hb dX13_law_178 (by decide) ?_
              refine lv_iadd hx hb dX13_law_180 ?_
              refine tk_add rfl (show (98 : Int32).toInt = 98 by decide) (by omega) (by omega) (fun v12493 h_v12493 => ?_)
              refine lv_iconst (v := 2) hx hb dX13_law_181 (by decide) ?_
              refine lv_iload_n hx hb dX13_law_182 rfl (lv_at hl 0 rfl) ?_
              refine lv_imul hx hb dX13_law_183 ?_
              refine tk_mul (show (2 : Int32).toInt = 2 by decide) rfl (by omega) (by omega) (fun v12494 h_v12494 => ?_)
              refine lv_iadd hx hb dX13_law_184 ?_
              refine tk_add rfl rfl (by omega) (by omega) (fun v12495 h_v12495 => ?_)
              refine lv_iconst (v := 1) hx hb dX13_law_185 (by decide) ?_
              refine lv_iadd hx hb dX13_law_186 ?_
              refine tk_add rfl (show (1 : Int32).toInt = 1 by decide) (by omega) (by omega) (fun v12496 h_v12496 => ?_)
              refine lv_aload_n hx hb dX13_law_187 rfl (lv_at hl 2 rfl) ?_
              refine mz_getR hx hb htl hown hK hM 25 (Nat.le_of_ble_eq_true rfl) (Nat.le_of_ble_eq_true rfl) (htl _ mw_199) (fun _ h9 => h9) dX13_law_188 ?_
              refine lv_iload_n hx hb dX13_law_191 rfl (lv_at hl 0 rfl) ?_
              refine mz_iald hx hb hK hM 25 (Nat.le_of_ble_eq_true rfl) rfl (nn := 400) rfl rfl (by omega) (by omega) dX13_law_192 (fun v12497 e_v12497 => ?_)
              have hq_v12497 := tk_rng v12497
              refine mz_iast (x := v12497) hx hb hK hD hM hS 3 (Nat.le_of_ble_eq_true rfl) rfl (nn := 5560) rfl rfl (by omega) (by omega) dX13_law_193 (fun H locs R hM hS hw9 hj9 => ?_)
              have hIR := hIR.putX hj9 (by decide)
              have ecl0 := ecl
              have ecl := (hj9 22 (by decide)).trans ecl
              have eco0 := eco
              have eco := (hj9 24 (by decide)).trans eco
              have eca0 := eca
              have eca := (hj9 25 (by decide)).trans eca
              have hcp := cpi.step (b := 160 + 900 * v4.toInt.toNat + 98) (n := v12297.toInt.toNat) (x := v12491) (i := v12490) hcpA hwA (by omega) eA.symm hw9 (by omega) (by rw [← e_v12497, eca0]; congr 1 <;> (have h9 := tk_nat (i := v12297) rfl (by omega); omega))
              have hRR := mz_frp (K := [2, 3, 22, 24, 25, 27, 28]) (Fa := Ra) hj9 hRR (by decide)
              have hrel := rK3.put (I := v12496.toInt) hrel hw9 rfl (Or.inr (by omega))
              have e_v12491 : R 24 (v12297 : Int32).toNatClampNeg = _ := (congrFun (hj9 24 (by decide)) _).trans e_v12491
              have e_v12497 : R 25 (v12297 : Int32).toNatClampNeg = _ := (congrFun (hj9 25 (by decide)) _).trans e_v12497
              have hf3 : R 3 4 = _ := (congrFun hw9 4).trans ((pk_un (fun h9 => by have h8 := tk_nat (i := v12496) rfl (by omega); omega)).trans hf3)
              obtain ⟨v12499, h_v12499, e_v12499⟩ := tk_inc v12297 1 (by decide) (by omega) (by omega)
              refine lv_iinc (v := v12499) (lv' := [(2, .int v12499), (1, .int v11449), (0, .ref am)]) hx hb dX13_law_194 hl (k := 0) rfl e_v12499 (by decide) rfl (fun ls hl => ?_)
              refine lv_goto (tgt := 146) hx hb dX13_law_197 (by decide) ?_
              exact ih_l12479 v12499 _ _ _ (by omega) (by omega) hM hS hIR hRR hrel hf3 (by rw [show v12499.toInt.toNat = v12297.toInt.toNat + 1 by omega]; exact hcp) ecl eco eca (by omega) _ (lv_sub hl [0, 1, 2] rfl)
        have hk_0 : (0 : Int32).toInt = 0 := by decide
        exact hl12479 401 0 _ _ _ (by omega) (by omega) hM hS hIR hRR hrel hf3 (by rw [show (0 : Int32).toInt.toNat = 0 by decide, cpi.zero]; exact hcp) ecl eco eca (by omega) _ (lv_sub hl [0, 1, 2] rfl)
      · have hc12296 : ¬ (v12295.toInt ≤ v11452.toInt) := fun h9 => c9 ((fi_le rfl rfl).mpr h9)
        refine lv_aload_n hx hb dX13_law_122 rfl (lv_at hl 2 rfl) ?_
        refine mz_getR hx hb htl hown hK hM 3 (Nat.le_of_ble_eq_true rfl) (Nat.le_of_ble_eq_true rfl) (htl _ mw_188) (fun _ h9 => h9) dX13_law_123 ?_
        refine lv_iload_n hx hb dX13_law_126 rfl (lv_at hl 1 rfl) ?_
        refine lv_iconst (v := 2) hx hb dX13_law_127 (by decide) ?_
        refine lv_iadd hx hb dX13_law_128 ?_
        refine tk_add rfl (show (2 : Int32).toInt = 2 by decide) (by omega) (by omega) (fun v12500 h_v12500 => ?_)
        refine lv_iload_n hx hb dX13_law_129 rfl (lv_at hl 0 rfl) ?_
        refine lv_iadd hx hb dX13_law_130 ?_
        refine tk_add rfl rfl (by omega) (by omega) (fun v12501 h_v12501 => ?_)
        refine lv_aload_n hx hb dX13_law_131 rfl (lv_at hl 2 rfl) ?_
        refine mz_getR hx hb htl hown hK hM 22 (Nat.le_of_ble_eq_true rfl) (Nat.le_of_ble_eq_true rfl) (htl _ mw_197) (fun _ h9 => h9) dX13_law_132 ?_
        refine lv_iload_n hx hb dX13_law_135 rfl (lv_at hl 0 rfl) ?_
        refine mz_iald hx hb hK hM 22 (Nat.le_of_ble_eq_true rfl) rfl (nn := 96) rfl rfl (by omega) (by omega) dX13_law_136 (fun v12502 e_v12502 => ?_)
        have hq_v12502 := tk_rng v12502
        refine mz_iast (x := v12502) hx hb hK hD hM hS 3 (Nat.le_of_ble_eq_true rfl) rfl (nn := 5560) rfl rfl (by omega) (by omega) dX13_law_137 (fun H locs R hM hS hw9 hj9 => ?_)
        have hIR := hIR.putX hj9 (by decide)
        have ecl0 := ecl
        have ecl := (hj9 22 (by decide)).trans ecl
        have eco0 := eco
        have eco := (hj9 24 (by decide)).trans eco
        have eca0 := eca
        have eca := (hj9 25 (by decide)).trans eca
        have hcp := mz_cps (sp := 0) (dp := 160 + 900 * v4.toInt.toNat + 2) (n := v11452.toInt.toNat) hw9 hcp (by omega) (by rw [← e_v12502, ecl0]; congr 1 <;> (have h9 := tk_nat (i := v11452) rfl (by omega); omega))
        have hRR := mz_frp (K := [2, 3, 22, 24, 25, 27, 28]) (Fa := Ra) hj9 hRR (by decide)
        have hrel := rK3.put (I := v12501.toInt) hrel hw9 rfl (Or.inr (by omega))
        have e_v12502 : R 22 (v11452 : Int32).toNatClampNeg = _ := (congrFun (hj9 22 (by decide)) _).trans e_v12502
        have hf3 : R 3 4 = _ := (congrFun hw9 4).trans ((pk_un (fun h9 => by have h8 := tk_nat (i := v12501) rfl (by omega); omega)).trans hf3)
        obtain ⟨v12504, h_v12504, e_v12504⟩ := tk_inc v11452 1 (by decide) (by omega) (by omega)
        refine lv_iinc (v := v12504) (lv' := [(2, .int v12504), (1, .int v11449), (0, .ref am)]) hx hb dX13_law_138 hl (k := 0) rfl e_v12504 (by decide) rfl (fun ls hl => ?_)
        refine lv_goto (tgt := 111) hx hb dX13_law_141 (by decide) ?_
        exact ih_l12294 v12504 _ _ _ (by omega) (by omega) hM hS hIR hRR hrel hf3 (by rw [show v12504.toInt.toNat = v11452.toInt.toNat + 1 by omega]; exact hcp) ecl eco eca (by omega) _ (lv_sub hl [0, 1, 2] rfl)
  have hk_0 : (0 : Int32).toInt = 0 := by decide
  exact hl12294 97 0 _ _ _ (by omega) (by omega) hM hS hIR hRR hrel hf3 (by rw [show (0 : Int32).toInt.toNat = 0 by decide, mz_cp0]; exact hcp) ecl eco eca (by omega) _ (lv_sub hl [0, 1, 2] rfl)
