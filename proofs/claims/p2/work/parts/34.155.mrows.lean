theorem hd_yX13_beginText : yX13_beginText.cls ≠ "java/lang/invoke/MethodHandle" ∧ yX13_beginText.cls ≠ "java/lang/invoke/VarHandle" ∧ (parseMethodDescriptor yX13_beginText.desc).map (fun d => d.parameters.length) = some 1 := by decide +kernel
theorem hd_yX13_readLaw : yX13_readLaw.cls ≠ "java/lang/invoke/MethodHandle" ∧ yX13_readLaw.cls ≠ "java/lang/invoke/VarHandle" ∧ (parseMethodDescriptor yX13_readLaw.desc).map (fun d => d.parameters.length) = some 0 := by decide +kernel
theorem hd_yX13_endText : yX13_endText.cls ≠ "java/lang/invoke/MethodHandle" ∧ yX13_endText.cls ≠ "java/lang/invoke/VarHandle" ∧ (parseMethodDescriptor yX13_endText.desc).map (fun d => d.parameters.length) = some 0 := by decide +kernel
theorem dX13_law_82 : decode cX13_law 82 = .ok (.sipush 160, 3) := by decide +kernel
theorem dX13_law_85 : decode cX13_law 85 = .ok (.sipush 900, 3) := by decide +kernel
theorem dX13_law_88 : decode cX13_law 88 = .ok (.aload_n 0, 1) := by decide +kernel
theorem dX13_law_89 : decode cX13_law 89 = .ok (.getfield 13, 3) := by decide +kernel
theorem dX13_law_92 : decode cX13_law 92 = .ok (.iconst 4, 1) := by decide +kernel
theorem dX13_law_93 : decode cX13_law 93 = .ok (.iaload, 1) := by decide +kernel
theorem dX13_law_94 : decode cX13_law 94 = .ok (.imul, 1) := by decide +kernel
theorem dX13_law_95 : decode cX13_law 95 = .ok (.iadd, 1) := by decide +kernel
theorem dX13_law_96 : decode cX13_law 96 = .ok (.istore_n 1, 1) := by decide +kernel
theorem dX13_law_97 : decode cX13_law 97 = .ok (.aload_n 0, 1) := by decide +kernel
theorem dX13_law_98 : decode cX13_law 98 = .ok (.getfield 13, 3) := by decide +kernel
theorem dX13_law_101 : decode cX13_law 101 = .ok (.iload_n 1, 1) := by decide +kernel
theorem dX13_law_102 : decode cX13_law 102 = .ok (.iconst 1, 1) := by decide +kernel
theorem dX13_law_103 : decode cX13_law 103 = .ok (.iadd, 1) := by decide +kernel
theorem dX13_law_104 : decode cX13_law 104 = .ok (.aload_n 0, 1) := by decide +kernel
theorem dX13_law_105 : decode cX13_law 105 = .ok (.getfield 369, 3) := by decide +kernel
theorem dX13_law_108 : decode cX13_law 108 = .ok (.iastore, 1) := by decide +kernel
theorem dX13_law_109 : decode cX13_law 109 = .ok (.iconst 0, 1) := by decide +kernel
theorem dX13_law_110 : decode cX13_law 110 = .ok (.istore_n 2, 1) := by decide +kernel
theorem dX13_law_111 : decode cX13_law 111 = .ok (.iload_n 2, 1) := by decide +kernel
theorem dX13_law_112 : decode cX13_law 112 = .ok (.bipush 8, 2) := by decide +kernel
theorem dX13_law_114 : decode cX13_law 114 = .ok (.aload_n 0, 1) := by decide +kernel
theorem dX13_law_115 : decode cX13_law 115 = .ok (.getfield 369, 3) := by decide +kernel
theorem dX13_law_118 : decode cX13_law 118 = .ok (.imul, 1) := by decide +kernel
theorem dX13_law_119 : decode cX13_law 119 = .ok (.if_icmp .ge 25, 3) := by decide +kernel
theorem dX13_law_144 : decode cX13_law 144 = .ok (.iconst 0, 1) := by decide +kernel
theorem dX13_law_145 : decode cX13_law 145 = .ok (.istore_n 2, 1) := by decide +kernel
theorem dX13_law_146 : decode cX13_law 146 = .ok (.iload_n 2, 1) := by decide +kernel
theorem dX13_law_147 : decode cX13_law 147 = .ok (.aload_n 0, 1) := by decide +kernel
theorem dX13_law_148 : decode cX13_law 148 = .ok (.getfield 275, 3) := by decide +kernel
theorem dX13_law_151 : decode cX13_law 151 = .ok (.if_icmp .ge 49, 3) := by decide +kernel
theorem dX13_law_200 : decode cX13_law 200 = .ok (.aload_n 0, 1) := by decide +kernel
theorem dX13_law_201 : decode cX13_law 201 = .ok (.getfield 13, 3) := by decide +kernel
theorem dX13_law_204 : decode cX13_law 204 = .ok (.iconst 4, 1) := by decide +kernel
theorem dX13_law_205 : decode cX13_law 205 = .ok (.dup2, 1) := by decide +kernel
theorem dX13_law_206 : decode cX13_law 206 = .ok (.iaload, 1) := by decide +kernel
theorem dX13_law_207 : decode cX13_law 207 = .ok (.iconst 1, 1) := by decide +kernel
theorem dX13_law_208 : decode cX13_law 208 = .ok (.iadd, 1) := by decide +kernel
theorem dX13_law_209 : decode cX13_law 209 = .ok (.iastore, 1) := by decide +kernel
theorem dX13_law_210 : decode cX13_law 210 = .ok (.aload_n 0, 1) := by decide +kernel
theorem dX13_law_211 : decode cX13_law 211 = .ok (.aload_n 0, 1) := by decide +kernel
theorem dX13_law_212 : decode cX13_law 212 = .ok (.getfield 13, 3) := by decide +kernel
theorem dX13_law_215 : decode cX13_law 215 = .ok (.iconst 4, 1) := by decide +kernel
theorem dX13_law_216 : decode cX13_law 216 = .ok (.iaload, 1) := by decide +kernel
theorem dX13_law_217 : decode cX13_law 217 = .ok (.iconst 1, 1) := by decide +kernel
theorem dX13_law_218 : decode cX13_law 218 = .ok (.isub, 1) := by decide +kernel
theorem dX13_law_219 : decode cX13_law 219 = .ok (.invokevirtual 183, 3) := by decide +kernel
theorem dX13_law_222 : decode cX13_law 222 = .ok (.ireturn, 1) := by decide +kernel
theorem dX13_law_154 : decode cX13_law 154 = .ok (.aload_n 0, 1) := by decide +kernel
theorem dX13_law_155 : decode cX13_law 155 = .ok (.getfield 13, 3) := by decide +kernel
theorem dX13_law_158 : decode cX13_law 158 = .ok (.iload_n 1, 1) := by decide +kernel
theorem dX13_law_159 : decode cX13_law 159 = .ok (.bipush 98, 2) := by decide +kernel
theorem dX13_law_161 : decode cX13_law 161 = .ok (.iadd, 1) := by decide +kernel
theorem dX13_law_162 : decode cX13_law 162 = .ok (.iconst 2, 1) := by decide +kernel
theorem dX13_law_163 : decode cX13_law 163 = .ok (.iload_n 2, 1) := by decide +kernel
theorem dX13_law_164 : decode cX13_law 164 = .ok (.imul, 1) := by decide +kernel
theorem dX13_law_165 : decode cX13_law 165 = .ok (.iadd, 1) := by decide +kernel
theorem dX13_law_166 : decode cX13_law 166 = .ok (.aload_n 0, 1) := by decide +kernel
theorem dX13_law_167 : decode cX13_law 167 = .ok (.getfield 45, 3) := by decide +kernel
theorem dX13_law_170 : decode cX13_law 170 = .ok (.iload_n 2, 1) := by decide +kernel
theorem dX13_law_171 : decode cX13_law 171 = .ok (.iaload, 1) := by decide +kernel
theorem dX13_law_172 : decode cX13_law 172 = .ok (.iastore, 1) := by decide +kernel
theorem dX13_law_173 : decode cX13_law 173 = .ok (.aload_n 0, 1) := by decide +kernel
theorem dX13_law_174 : decode cX13_law 174 = .ok (.getfield 13, 3) := by decide +kernel
theorem dX13_law_177 : decode cX13_law 177 = .ok (.iload_n 1, 1) := by decide +kernel
theorem dX13_law_178 : decode cX13_law 178 = .ok (.bipush 98, 2) := by decide +kernel
theorem dX13_law_180 : decode cX13_law 180 = .ok (.iadd, 1) := by decide +kernel
theorem dX13_law_181 : decode cX13_law 181 = .ok (.iconst 2, 1) := by decide +kernel
theorem dX13_law_182 : decode cX13_law 182 = .ok (.iload_n 2, 1) := by decide +kernel
theorem dX13_law_183 : decode cX13_law 183 = .ok (.imul, 1) := by decide +kernel
theorem dX13_law_184 : decode cX13_law 184 = .ok (.iadd, 1) := by decide +kernel
theorem dX13_law_185 : decode cX13_law 185 = .ok (.iconst 1, 1) := by decide +kernel
theorem dX13_law_186 : decode cX13_law 186 = .ok (.iadd, 1) := by decide +kernel
theorem dX13_law_187 : decode cX13_law 187 = .ok (.aload_n 0, 1) := by decide +kernel
theorem dX13_law_188 : decode cX13_law 188 = .ok (.getfield 48, 3) := by decide +kernel
theorem dX13_law_191 : decode cX13_law 191 = .ok (.iload_n 2, 1) := by decide +kernel
theorem dX13_law_192 : decode cX13_law 192 = .ok (.iaload, 1) := by decide +kernel
theorem dX13_law_193 : decode cX13_law 193 = .ok (.iastore, 1) := by decide +kernel
theorem dX13_law_194 : decode cX13_law 194 = .ok (.iinc 2 1, 3) := by decide +kernel
theorem dX13_law_197 : decode cX13_law 197 = .ok (.goto (-51), 3) := by decide +kernel
theorem dX13_law_122 : decode cX13_law 122 = .ok (.aload_n 0, 1) := by decide +kernel
theorem dX13_law_123 : decode cX13_law 123 = .ok (.getfield 13, 3) := by decide +kernel
theorem dX13_law_126 : decode cX13_law 126 = .ok (.iload_n 1, 1) := by decide +kernel
theorem dX13_law_127 : decode cX13_law 127 = .ok (.iconst 2, 1) := by decide +kernel
theorem dX13_law_128 : decode cX13_law 128 = .ok (.iadd, 1) := by decide +kernel
theorem dX13_law_129 : decode cX13_law 129 = .ok (.iload_n 2, 1) := by decide +kernel
theorem dX13_law_130 : decode cX13_law 130 = .ok (.iadd, 1) := by decide +kernel
theorem dX13_law_131 : decode cX13_law 131 = .ok (.aload_n 0, 1) := by decide +kernel
theorem dX13_law_132 : decode cX13_law 132 = .ok (.getfield 42, 3) := by decide +kernel
theorem dX13_law_135 : decode cX13_law 135 = .ok (.iload_n 2, 1) := by decide +kernel
theorem dX13_law_136 : decode cX13_law 136 = .ok (.iaload, 1) := by decide +kernel
theorem dX13_law_137 : decode cX13_law 137 = .ok (.iastore, 1) := by decide +kernel
theorem dX13_law_138 : decode cX13_law 138 = .ok (.iinc 2 1, 3) := by decide +kernel
theorem dX13_law_141 : decode cX13_law 141 = .ok (.goto (-30), 3) := by decide +kernel
theorem dX13_law_0 : decode cX13_law 0 = .ok (.aload_n 0, 1) := by decide +kernel
theorem dX13_law_1 : decode cX13_law 1 = .ok (.iconst 0, 1) := by decide +kernel
theorem dX13_law_2 : decode cX13_law 2 = .ok (.putfield 170, 3) := by decide +kernel
theorem dX13_law_5 : decode cX13_law 5 = .ok (.aload_n 0, 1) := by decide +kernel
theorem dX13_law_6 : decode cX13_law 6 = .ok (.getfield 13, 3) := by decide +kernel
theorem dX13_law_9 : decode cX13_law 9 = .ok (.iconst 4, 1) := by decide +kernel
theorem dX13_law_10 : decode cX13_law 10 = .ok (.iaload, 1) := by decide +kernel
theorem dX13_law_11 : decode cX13_law 11 = .ok (.bipush 6, 2) := by decide +kernel
theorem dX13_law_13 : decode cX13_law 13 = .ok (.if_icmp .ne 15, 3) := by decide +kernel
theorem dX13_law_28 : decode cX13_law 28 = .ok (.aload_n 0, 1) := by decide +kernel
theorem dX13_law_29 : decode cX13_law 29 = .ok (.iconst 0, 1) := by decide +kernel
theorem dX13_law_30 : decode cX13_law 30 = .ok (.invokevirtual 377, 3) := by decide +kernel
theorem dX13_law_33 : decode cX13_law 33 = .ok (.aload_n 0, 1) := by decide +kernel
theorem dX13_law_34 : decode cX13_law 34 = .ok (.invokevirtual 380, 3) := by decide +kernel
theorem dX13_law_37 : decode cX13_law 37 = .ok (.aload_n 0, 1) := by decide +kernel
theorem dX13_law_38 : decode cX13_law 38 = .ok (.getfield 236, 3) := by decide +kernel
theorem dX13_law_41 : decode cX13_law 41 = .ok (.ifCond .ne 23, 3) := by decide +kernel
theorem dX13_law_64 : decode cX13_law 64 = .ok (.aload_n 0, 1) := by decide +kernel
theorem dX13_law_65 : decode cX13_law 65 = .ok (.invokevirtual 383, 3) := by decide +kernel
theorem dX13_law_68 : decode cX13_law 68 = .ok (.aload_n 0, 1) := by decide +kernel
theorem dX13_law_69 : decode cX13_law 69 = .ok (.getfield 236, 3) := by decide +kernel
theorem dX13_law_72 : decode cX13_law 72 = .ok (.ifCond .eq 10, 3) := by decide +kernel
theorem dX13_law_75 : decode cX13_law 75 = .ok (.aload_n 0, 1) := by decide +kernel
theorem dX13_law_76 : decode cX13_law 76 = .ok (.bipush (-6), 2) := by decide +kernel
theorem dX13_law_78 : decode cX13_law 78 = .ok (.invokevirtual 183, 3) := by decide +kernel
theorem dX13_law_81 : decode cX13_law 81 = .ok (.ireturn, 1) := by decide +kernel
theorem dX13_law_44 : decode cX13_law 44 = .ok (.aload_n 0, 1) := by decide +kernel
theorem dX13_law_45 : decode cX13_law 45 = .ok (.bipush 59, 2) := by decide +kernel
theorem dX13_law_47 : decode cX13_law 47 = .ok (.invokevirtual 309, 3) := by decide +kernel
theorem dX13_law_50 : decode cX13_law 50 = .ok (.ifCond .eq 14, 3) := by decide +kernel
theorem dX13_law_53 : decode cX13_law 53 = .ok (.aload_n 0, 1) := by decide +kernel
theorem dX13_law_54 : decode cX13_law 54 = .ok (.invokevirtual 240, 3) := by decide +kernel
theorem dX13_law_57 : decode cX13_law 57 = .ok (.aload_n 0, 1) := by decide +kernel
theorem dX13_law_58 : decode cX13_law 58 = .ok (.invokevirtual 380, 3) := by decide +kernel
theorem dX13_law_61 : decode cX13_law 61 = .ok (.goto (-24), 3) := by decide +kernel
theorem dX13_law_16 : decode cX13_law 16 = .ok (.aload_n 0, 1) := by decide +kernel
theorem dX13_law_17 : decode cX13_law 17 = .ok (.iconst 0, 1) := by decide +kernel
theorem dX13_law_18 : decode cX13_law 18 = .ok (.putfield 224, 3) := by decide +kernel
theorem dX13_law_21 : decode cX13_law 21 = .ok (.aload_n 0, 1) := by decide +kernel
theorem dX13_law_22 : decode cX13_law 22 = .ok (.bipush (-5), 2) := by decide +kernel
theorem dX13_law_24 : decode cX13_law 24 = .ok (.invokevirtual 183, 3) := by decide +kernel
theorem dX13_law_27 : decode cX13_law 27 = .ok (.ireturn, 1) := by decide +kernel
set_option maxHeartbeats 4000000 in
set_option maxRecDepth 100000 in
theorem kz_X13_law_c1 (l : Launch) (D : va_G) (cy : Nat → ClassId) (ld ad : Nat → Nat) (am : Nat) (hD : mz_D ad am) (Fa : Nat → Int32) (Ga : Nat → Int64) (Ra : Nat → Nat → Int32) (Sa : Nat → Nat → Int64) {p : Program} {e : Env} {s : State} {m : MethodId} {args : Array Value} {below : List Frame} {meth : Method} {c : Code} (hx : p.tables.exec = Jvm.exec) (hb : c.code = cX13_law) (hr : meth.sig.returnType = (some .int)) (hml : c.maxLocals = 3) (hts : ∀ w ∈ wl yX13_law cX13_law 3 (some .int), w.before args s = true) (htl : ∀ w ∈ wsA, w.before args s = true) (hown : s.vm.findClass RX13 = some m.cls) (hlocks : meth.locks = false) (hK : kk_K D cy ld s) (v11443 : Int32) (v11445 : Int32) (v1621 : Int32) (v1622 : Int32) (v4 : Int32) (H : Heap) (locs : List Loc) (F : Nat → Int32) (G : Nat → Int64) (R : Nat → Nat → Int32) (S : Nat → Nat → Int64) (hq0_kz_X13_law_c1 : 0 ≤ v11443.toInt) (hq1_kz_X13_law_c1 : v11443.toInt ≤ 0) (hq2_kz_X13_law_c1 : 0 ≤ v11445.toInt) (hq3_kz_X13_law_c1 : v11445.toInt ≤ 0) (hq4_kz_X13_law_c1 : 0 ≤ v1621.toInt) (hq5_kz_X13_law_c1 : v1621.toInt ≤ 400) (hq6_kz_X13_law_c1 : 0 ≤ v1622.toInt) (hq7_kz_X13_law_c1 : v1622.toInt ≤ 12) (hq8_kz_X13_law_c1 : 0 ≤ v4.toInt) (hq9_kz_X13_law_c1 : v4.toInt ≤ 5) (hM : mz_S D cy ad am F G R S H) (hS : va_S (mz_W ad am) s.heap H locs) (hIF : mz_IF true F) (hIG : mz_IG G) (hIR : mz_IR [] true R) (hFF : ∀ k : Nat, k ∉ ([0, 1, 13, 14, 15, 16, 18, 19, 20, 21, 23, 26, 29, 30] : List Nat) → F k = Fa k) (hGG : ∀ k : Nat, k ∉ ([17] : List Nat) → G k = Ga k) (hRR : ∀ k : Nat, k ∉ ([2, 3, 22, 24, 25, 27, 28] : List Nat) → R k = Ra k) (hrel : rK3 (Ra 3) (R 3)) (hf2 : F 0 = 0) (hf3 : R 3 4 = v4) (hf54 : F 23 = v1621) (hf56 : F 21 = v1622) (hf11442 : F 19 = v11443) (hf11444 : F 13 = v11445) (hCL : (F 19).toInt = 0 → CLS 8 [3, 5] (R 24) (R 25) (R 22) (F 23).toInt (F 21).toInt) (ls : Array Slot) (hl : lv_has ls 3 [(0, .ref am)]) : W p l e ({ frames := 11, cells := 0, slots := 0, locals := 700 }) s m args below meth c H locs 0 0 (MQ below (mz_i D cy ad am (fun r F G R S => mz_IF true F ∧ mz_IG G ∧ mz_IR [] true R ∧ (∀ k : Nat, k ∉ ([0, 1, 13, 14, 15, 16, 18, 19, 20, 21, 23, 26, 29, 30] : List Nat) → F k = Fa k) ∧ (∀ k : Nat, k ∉ ([2, 3, 22, 24, 25, 27, 28] : List Nat) → R k = Ra k) ∧ (∀ k : Nat, k ∉ ([17] : List Nat) → G k = Ga k) ∧ rK3 (Ra 3) (R 3) ∧ (F 13).toInt = 0 ∧ (-6) ≤ r.toInt ∧ r.toInt ≤ 5)) args s 0 0 (mz_W ad am)) (F0 m 82 ls []) := by sorry
set_option maxHeartbeats 4000000 in
set_option maxRecDepth 100000 in
theorem k_X13_law (l : Launch) (D : va_G) (cy : Nat → ClassId) (ld ad : Nat → Nat) (am : Nat) (hD : mz_D ad am) (Fa : Nat → Int32) (Ga : Nat → Int64) (Ra : Nat → Nat → Int32) (Sa : Nat → Nat → Int64) (hIF : mz_IF true Fa) (hIG : mz_IG Ga) (hIR : mz_IR [] true Ra) : Met l yX13_law (wl yX13_law cX13_law 3 (some .int)) ({ frames := 11, cells := 0, slots := 0, locals := 700 }) (mz_p D cy ld ad am Fa Ga Ra Sa [.ref am]) (mz_i D cy ad am (fun r F G R S => mz_IF true F ∧ mz_IG G ∧ mz_IR [] true R ∧ (∀ k : Nat, k ∉ ([0, 1, 13, 14, 15, 16, 18, 19, 20, 21, 23, 26, 29, 30] : List Nat) → F k = Fa k) ∧ (∀ k : Nat, k ∉ ([2, 3, 22, 24, 25, 27, 28] : List Nat) → R k = Ra k) ∧ (∀ k : Nat, k ∉ ([17] : List Nat) → G k = Ga k) ∧ rK3 (Ra 3) (R 3) ∧ (F 13).toInt = 0 ∧ (-6) ≤ r.toInt ∧ r.toInt ≤ 5)) 0 0 (mz_W ad am) := by sorry
