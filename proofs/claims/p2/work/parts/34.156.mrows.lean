theorem hd_yX13_run : yX13_run.cls ≠ "java/lang/invoke/MethodHandle" ∧ yX13_run.cls ≠ "java/lang/invoke/VarHandle" ∧ (parseMethodDescriptor yX13_run.desc).map (fun d => d.parameters.length) = some 1 := by decide +kernel
theorem hd_yX13_giveBack : yX13_giveBack.cls ≠ "java/lang/invoke/MethodHandle" ∧ yX13_giveBack.cls ≠ "java/lang/invoke/VarHandle" ∧ (parseMethodDescriptor yX13_giveBack.desc).map (fun d => d.parameters.length) = some 1 := by decide +kernel
theorem hd_yX13_readOrder : yX13_readOrder.cls ≠ "java/lang/invoke/MethodHandle" ∧ yX13_readOrder.cls ≠ "java/lang/invoke/VarHandle" ∧ (parseMethodDescriptor yX13_readOrder.desc).map (fun d => d.parameters.length) = some 0 := by decide +kernel
theorem dX13_orders_64 : decode cX13_orders 64 = .ok (.aload_n 0, 1) := by decide +kernel
theorem dX13_orders_65 : decode cX13_orders 65 = .ok (.bipush 22, 2) := by decide +kernel
theorem dX13_orders_67 : decode cX13_orders 67 = .ok (.invokevirtual 179, 3) := by decide +kernel
theorem dX13_orders_70 : decode cX13_orders 70 = .ok (.aload_n 0, 1) := by decide +kernel
theorem dX13_orders_71 : decode cX13_orders 71 = .ok (.getfield 176, 3) := by decide +kernel
theorem dX13_orders_74 : decode cX13_orders 74 = .ok (.istore_n 1, 1) := by decide +kernel
theorem dX13_orders_75 : decode cX13_orders 75 = .ok (.iconst 0, 1) := by decide +kernel
theorem dX13_orders_76 : decode cX13_orders 76 = .ok (.istore_n 2, 1) := by decide +kernel
theorem dX13_orders_77 : decode cX13_orders 77 = .ok (.iload_n 2, 1) := by decide +kernel
theorem dX13_orders_78 : decode cX13_orders 78 = .ok (.sipush 832, 3) := by decide +kernel
theorem dX13_orders_81 : decode cX13_orders 81 = .ok (.if_icmp .ge 21, 3) := by decide +kernel
theorem dX13_orders_102 : decode cX13_orders 102 = .ok (.iconst 0, 1) := by decide +kernel
theorem dX13_orders_103 : decode cX13_orders 103 = .ok (.istore_n 2, 1) := by decide +kernel
theorem dX13_orders_104 : decode cX13_orders 104 = .ok (.iload_n 2, 1) := by decide +kernel
theorem dX13_orders_105 : decode cX13_orders 105 = .ok (.bipush 16, 2) := by decide +kernel
theorem dX13_orders_107 : decode cX13_orders 107 = .ok (.if_icmp .ge 21, 3) := by decide +kernel
theorem dX13_orders_128 : decode cX13_orders 128 = .ok (.aload_n 0, 1) := by decide +kernel
theorem dX13_orders_129 : decode cX13_orders 129 = .ok (.iconst 0, 1) := by decide +kernel
theorem dX13_orders_130 : decode cX13_orders 130 = .ok (.putfield 617, 3) := by decide +kernel
theorem dX13_orders_133 : decode cX13_orders 133 = .ok (.aload_n 0, 1) := by decide +kernel
theorem dX13_orders_134 : decode cX13_orders 134 = .ok (.iconst (-1), 1) := by decide +kernel
theorem dX13_orders_135 : decode cX13_orders 135 = .ok (.putfield 620, 3) := by decide +kernel
theorem dX13_orders_138 : decode cX13_orders 138 = .ok (.iconst 0, 1) := by decide +kernel
theorem dX13_orders_139 : decode cX13_orders 139 = .ok (.istore_n 2, 1) := by decide +kernel
theorem dX13_orders_140 : decode cX13_orders 140 = .ok (.iload_n 2, 1) := by decide +kernel
theorem dX13_orders_141 : decode cX13_orders 141 = .ok (.aload_n 0, 1) := by decide +kernel
theorem dX13_orders_142 : decode cX13_orders 142 = .ok (.getfield 369, 3) := by decide +kernel
theorem dX13_orders_145 : decode cX13_orders 145 = .ok (.if_icmp .ge 61, 3) := by decide +kernel
theorem dX13_orders_206 : decode cX13_orders 206 = .ok (.aload_n 0, 1) := by decide +kernel
theorem dX13_orders_207 : decode cX13_orders 207 = .ok (.aload_n 0, 1) := by decide +kernel
theorem dX13_orders_208 : decode cX13_orders 208 = .ok (.getfield 617, 3) := by decide +kernel
theorem dX13_orders_211 : decode cX13_orders 211 = .ok (.invokevirtual 183, 3) := by decide +kernel
theorem dX13_orders_214 : decode cX13_orders 214 = .ok (.ireturn, 1) := by decide +kernel
theorem dX13_orders_148 : decode cX13_orders 148 = .ok (.iconst 0, 1) := by decide +kernel
theorem dX13_orders_149 : decode cX13_orders 149 = .ok (.istore_n 3, 1) := by decide +kernel
theorem dX13_orders_150 : decode cX13_orders 150 = .ok (.iload_n 3, 1) := by decide +kernel
theorem dX13_orders_151 : decode cX13_orders 151 = .ok (.aload_n 0, 1) := by decide +kernel
theorem dX13_orders_152 : decode cX13_orders 152 = .ok (.getfield 149, 3) := by decide +kernel
theorem dX13_orders_155 : decode cX13_orders 155 = .ok (.bipush 10, 2) := by decide +kernel
theorem dX13_orders_157 : decode cX13_orders 157 = .ok (.iload_n 2, 1) := by decide +kernel
theorem dX13_orders_158 : decode cX13_orders 158 = .ok (.imul, 1) := by decide +kernel
theorem dX13_orders_159 : decode cX13_orders 159 = .ok (.bipush 9, 2) := by decide +kernel
theorem dX13_orders_161 : decode cX13_orders 161 = .ok (.iadd, 1) := by decide +kernel
theorem dX13_orders_162 : decode cX13_orders 162 = .ok (.iaload, 1) := by decide +kernel
theorem dX13_orders_163 : decode cX13_orders 163 = .ok (.if_icmp .ge 37, 3) := by decide +kernel
theorem dX13_orders_200 : decode cX13_orders 200 = .ok (.iinc 2 1, 3) := by decide +kernel
theorem dX13_orders_203 : decode cX13_orders 203 = .ok (.goto (-63), 3) := by decide +kernel
theorem dX13_orders_166 : decode cX13_orders 166 = .ok (.aload_n 0, 1) := by decide +kernel
theorem dX13_orders_167 : decode cX13_orders 167 = .ok (.bipush 10, 2) := by decide +kernel
theorem dX13_orders_169 : decode cX13_orders 169 = .ok (.iload_n 2, 1) := by decide +kernel
theorem dX13_orders_170 : decode cX13_orders 170 = .ok (.imul, 1) := by decide +kernel
theorem dX13_orders_171 : decode cX13_orders 171 = .ok (.invokevirtual 629, 3) := by decide +kernel
theorem dX13_orders_174 : decode cX13_orders 174 = .ok (.ifCond .ge 20, 3) := by decide +kernel
theorem dX13_orders_194 : decode cX13_orders 194 = .ok (.iinc 3 1, 3) := by decide +kernel
theorem dX13_orders_197 : decode cX13_orders 197 = .ok (.goto (-47), 3) := by decide +kernel
theorem dX13_orders_177 : decode cX13_orders 177 = .ok (.aload_n 0, 1) := by decide +kernel
theorem dX13_orders_178 : decode cX13_orders 178 = .ok (.iload_n 1, 1) := by decide +kernel
theorem dX13_orders_179 : decode cX13_orders 179 = .ok (.invokevirtual 632, 3) := by decide +kernel
theorem dX13_orders_182 : decode cX13_orders 182 = .ok (.aload_n 0, 1) := by decide +kernel
theorem dX13_orders_183 : decode cX13_orders 183 = .ok (.iload_n 2, 1) := by decide +kernel
theorem dX13_orders_184 : decode cX13_orders 184 = .ok (.putfield 152, 3) := by decide +kernel
theorem dX13_orders_187 : decode cX13_orders 187 = .ok (.aload_n 0, 1) := by decide +kernel
theorem dX13_orders_188 : decode cX13_orders 188 = .ok (.bipush (-3), 2) := by decide +kernel
theorem dX13_orders_190 : decode cX13_orders 190 = .ok (.invokevirtual 183, 3) := by decide +kernel
theorem dX13_orders_193 : decode cX13_orders 193 = .ok (.ireturn, 1) := by decide +kernel
theorem dX13_orders_110 : decode cX13_orders 110 = .ok (.aload_n 0, 1) := by decide +kernel
theorem dX13_orders_111 : decode cX13_orders 111 = .ok (.getfield 32, 3) := by decide +kernel
theorem dX13_orders_114 : decode cX13_orders 114 = .ok (.iload_n 2, 1) := by decide +kernel
theorem dX13_orders_115 : decode cX13_orders 115 = .ok (.aload_n 0, 1) := by decide +kernel
theorem dX13_orders_116 : decode cX13_orders 116 = .ok (.getfield 26, 3) := by decide +kernel
theorem dX13_orders_119 : decode cX13_orders 119 = .ok (.iload_n 2, 1) := by decide +kernel
theorem dX13_orders_120 : decode cX13_orders 120 = .ok (.iaload, 1) := by decide +kernel
theorem dX13_orders_121 : decode cX13_orders 121 = .ok (.iastore, 1) := by decide +kernel
theorem dX13_orders_122 : decode cX13_orders 122 = .ok (.iinc 2 1, 3) := by decide +kernel
theorem dX13_orders_125 : decode cX13_orders 125 = .ok (.goto (-21), 3) := by decide +kernel
theorem dX13_orders_84 : decode cX13_orders 84 = .ok (.aload_n 0, 1) := by decide +kernel
theorem dX13_orders_85 : decode cX13_orders 85 = .ok (.getfield 29, 3) := by decide +kernel
theorem dX13_orders_88 : decode cX13_orders 88 = .ok (.iload_n 2, 1) := by decide +kernel
theorem dX13_orders_89 : decode cX13_orders 89 = .ok (.aload_n 0, 1) := by decide +kernel
theorem dX13_orders_90 : decode cX13_orders 90 = .ok (.getfield 23, 3) := by decide +kernel
theorem dX13_orders_93 : decode cX13_orders 93 = .ok (.iload_n 2, 1) := by decide +kernel
theorem dX13_orders_94 : decode cX13_orders 94 = .ok (.iaload, 1) := by decide +kernel
theorem dX13_orders_95 : decode cX13_orders 95 = .ok (.iastore, 1) := by decide +kernel
theorem dX13_orders_96 : decode cX13_orders 96 = .ok (.iinc 2 1, 3) := by decide +kernel
theorem dX13_orders_99 : decode cX13_orders 99 = .ok (.goto (-22), 3) := by decide +kernel
theorem dX13_orders_0 : decode cX13_orders 0 = .ok (.aload_n 0, 1) := by decide +kernel
theorem dX13_orders_1 : decode cX13_orders 1 = .ok (.iconst 0, 1) := by decide +kernel
theorem dX13_orders_2 : decode cX13_orders 2 = .ok (.putfield 170, 3) := by decide +kernel
theorem dX13_orders_5 : decode cX13_orders 5 = .ok (.aload_n 0, 1) := by decide +kernel
theorem dX13_orders_6 : decode cX13_orders 6 = .ok (.iconst (-1), 1) := by decide +kernel
theorem dX13_orders_7 : decode cX13_orders 7 = .ok (.putfield 152, 3) := by decide +kernel
theorem dX13_orders_10 : decode cX13_orders 10 = .ok (.aload_n 0, 1) := by decide +kernel
theorem dX13_orders_11 : decode cX13_orders 11 = .ok (.iconst 1, 1) := by decide +kernel
theorem dX13_orders_12 : decode cX13_orders 12 = .ok (.invokevirtual 377, 3) := by decide +kernel
theorem dX13_orders_15 : decode cX13_orders 15 = .ok (.aload_n 0, 1) := by decide +kernel
theorem dX13_orders_16 : decode cX13_orders 16 = .ok (.invokevirtual 626, 3) := by decide +kernel
theorem dX13_orders_19 : decode cX13_orders 19 = .ok (.aload_n 0, 1) := by decide +kernel
theorem dX13_orders_20 : decode cX13_orders 20 = .ok (.getfield 236, 3) := by decide +kernel
theorem dX13_orders_23 : decode cX13_orders 23 = .ok (.ifCond .ne 23, 3) := by decide +kernel
theorem dX13_orders_46 : decode cX13_orders 46 = .ok (.aload_n 0, 1) := by decide +kernel
theorem dX13_orders_47 : decode cX13_orders 47 = .ok (.invokevirtual 383, 3) := by decide +kernel
theorem dX13_orders_50 : decode cX13_orders 50 = .ok (.aload_n 0, 1) := by decide +kernel
theorem dX13_orders_51 : decode cX13_orders 51 = .ok (.getfield 236, 3) := by decide +kernel
theorem dX13_orders_54 : decode cX13_orders 54 = .ok (.ifCond .eq 10, 3) := by decide +kernel
theorem dX13_orders_57 : decode cX13_orders 57 = .ok (.aload_n 0, 1) := by decide +kernel
theorem dX13_orders_58 : decode cX13_orders 58 = .ok (.bipush (-6), 2) := by decide +kernel
theorem dX13_orders_60 : decode cX13_orders 60 = .ok (.invokevirtual 183, 3) := by decide +kernel
theorem dX13_orders_63 : decode cX13_orders 63 = .ok (.ireturn, 1) := by decide +kernel
theorem dX13_orders_26 : decode cX13_orders 26 = .ok (.aload_n 0, 1) := by decide +kernel
theorem dX13_orders_27 : decode cX13_orders 27 = .ok (.bipush 59, 2) := by decide +kernel
theorem dX13_orders_29 : decode cX13_orders 29 = .ok (.invokevirtual 309, 3) := by decide +kernel
theorem dX13_orders_32 : decode cX13_orders 32 = .ok (.ifCond .eq 14, 3) := by decide +kernel
theorem dX13_orders_35 : decode cX13_orders 35 = .ok (.aload_n 0, 1) := by decide +kernel
theorem dX13_orders_36 : decode cX13_orders 36 = .ok (.invokevirtual 240, 3) := by decide +kernel
theorem dX13_orders_39 : decode cX13_orders 39 = .ok (.aload_n 0, 1) := by decide +kernel
theorem dX13_orders_40 : decode cX13_orders 40 = .ok (.invokevirtual 626, 3) := by decide +kernel
theorem dX13_orders_43 : decode cX13_orders 43 = .ok (.goto (-24), 3) := by decide +kernel
set_option maxHeartbeats 4000000 in
set_option maxRecDepth 100000 in
theorem kz_X13_orders_c1 (l : Launch) (D : va_G) (cy : Nat → ClassId) (ld ad : Nat → Nat) (am : Nat) (hD : mz_D ad am) (Fa : Nat → Int32) (Ga : Nat → Int64) (Ra : Nat → Nat → Int32) (Sa : Nat → Nat → Int64) {p : Program} {e : Env} {s : State} {m : MethodId} {args : Array Value} {below : List Frame} {meth : Method} {c : Code} (hx : p.tables.exec = Jvm.exec) (hb : c.code = cX13_orders) (hr : meth.sig.returnType = (some .int)) (hml : c.maxLocals = 4) (hts : ∀ w ∈ wl yX13_orders cX13_orders 4 (some .int), w.before args s = true) (htl : ∀ w ∈ wsA, w.before args s = true) (hown : s.vm.findClass RX13 = some m.cls) (hlocks : meth.locks = false) (hK : kk_K D cy ld s) (v103436 : Int32) (v103438 : Int32) (v20037 : Int32) (v20038 : Int32) (H : Heap) (locs : List Loc) (F : Nat → Int32) (G : Nat → Int64) (R : Nat → Nat → Int32) (S : Nat → Nat → Int64) (hq0_kz_X13_orders_c1 : 0 ≤ v103436.toInt) (hq1_kz_X13_orders_c1 : v103436.toInt ≤ 0) (hq2_kz_X13_orders_c1 : 0 ≤ v103438.toInt) (hq3_kz_X13_orders_c1 : v103438.toInt ≤ 0) (hq4_kz_X13_orders_c1 : 0 ≤ v20037.toInt) (hq5_kz_X13_orders_c1 : v20037.toInt ≤ 400) (hq6_kz_X13_orders_c1 : 0 ≤ v20038.toInt) (hq7_kz_X13_orders_c1 : v20038.toInt ≤ 12) (hM : mz_S D cy ad am F G R S H) (hS : va_S (mz_W ad am) s.heap H locs) (hIF : mz_IF true F) (hIG : mz_IG G) (hIR : mz_IR [] true R) (hFF : ∀ k : Nat, k ∉ ([0, 1, 8, 13, 14, 15, 16, 18, 19, 20, 21, 23, 26, 29, 30, 34, 38, 41, 62, 63, 64, 65] : List Nat) → F k = Fa k) (hGG : ∀ k : Nat, k ∉ ([17, 39, 40] : List Nat) → G k = Ga k) (hRR : ∀ k : Nat, k ∉ ([2, 3, 6, 7, 9, 10, 24, 25, 27, 28, 42, 61] : List Nat) → R k = Ra k) (hrel : rK1 (Ra 3) (R 3)) (hf2 : F 0 = 0) (hf4 : F 64 = (-1)) (hf54 : F 23 = v20037) (hf56 : F 21 = v20038) (hf103435 : F 19 = v103436) (hf103437 : F 13 = v103438) (hCL : (F 19).toInt = 0 → CLS 10 [1, 3, 5, 7] (R 24) (R 25) (R 61) (F 23).toInt (F 21).toInt ∧ TMS (R 61) (F 21).toInt) (ls : Array Slot) (hl : lv_has ls 4 [(0, .ref am)]) : W p l e ({ frames := 13, cells := 0, slots := 0, locals := 840 }) s m args below meth c H locs 0 0 (MQ below (mz_i D cy ad am (fun r F G R S => mz_IF true F ∧ mz_IG G ∧ mz_IR [] true R ∧ (∀ k : Nat, k ∉ ([0, 1, 8, 13, 14, 15, 16, 18, 19, 20, 21, 23, 26, 29, 30, 34, 38, 41, 62, 63, 64, 65] : List Nat) → F k = Fa k) ∧ (∀ k : Nat, k ∉ ([2, 3, 6, 7, 9, 10, 24, 25, 27, 28, 42, 61] : List Nat) → R k = Ra k) ∧ (∀ k : Nat, k ∉ ([17, 39, 40] : List Nat) → G k = Ga k) ∧ rK1 (Ra 3) (R 3) ∧ (F 13).toInt = 0 ∧ (-6) ≤ r.toInt ∧ r.toInt ≤ 255)) args s 0 0 (mz_W ad am)) (F0 m 64 ls []) := by sorry
set_option maxHeartbeats 4000000 in
set_option maxRecDepth 100000 in
theorem k_X13_orders (l : Launch) (D : va_G) (cy : Nat → ClassId) (ld ad : Nat → Nat) (am : Nat) (hD : mz_D ad am) (Fa : Nat → Int32) (Ga : Nat → Int64) (Ra : Nat → Nat → Int32) (Sa : Nat → Nat → Int64) (hIF : mz_IF true Fa) (hIG : mz_IG Ga) (hIR : mz_IR [] true Ra) : Met l yX13_orders (wl yX13_orders cX13_orders 4 (some .int)) ({ frames := 13, cells := 0, slots := 0, locals := 840 }) (mz_p D cy ld ad am Fa Ga Ra Sa [.ref am]) (mz_i D cy ad am (fun r F G R S => mz_IF true F ∧ mz_IG G ∧ mz_IR [] true R ∧ (∀ k : Nat, k ∉ ([0, 1, 8, 13, 14, 15, 16, 18, 19, 20, 21, 23, 26, 29, 30, 34, 38, 41, 62, 63, 64, 65] : List Nat) → F k = Fa k) ∧ (∀ k : Nat, k ∉ ([2, 3, 6, 7, 9, 10, 24, 25, 27, 28, 42, 61] : List Nat) → R k = Ra k) ∧ (∀ k : Nat, k ∉ ([17, 39, 40] : List Nat) → G k = Ga k) ∧ rK1 (Ra 3) (R 3) ∧ (F 13).toInt = 0 ∧ (-6) ≤ r.toInt ∧ r.toInt ≤ 255)) 0 0 (mz_W ad am) := by sorry
