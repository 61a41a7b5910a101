theorem hd_yX13_run : yX13_run.cls ≠ "java/lang/invoke/MethodHandle" ∧ yX13_run.cls ≠ "java/lang/invoke/VarHandle" ∧ (parseMethodDescriptor yX13_run.desc).map (fun d => d.parameters.length) = some 1 := by decide +kernel
theorem hd_yX13_giveBack : yX13_giveBack.cls ≠ "java/lang/invoke/MethodHandle" ∧ yX13_giveBack.cls ≠ "java/lang/invoke/VarHandle" ∧ (parseMethodDescriptor yX13_giveBack.desc).map (fun d => d.parameters.length) = some 1 := by decide +kernel
theorem hd_yX13_readOrder : yX13_readOrder.cls ≠ "java/lang/invoke/MethodHandle" ∧ yX13_readOrder.cls ≠ "java/lang/invoke/VarHandle" ∧ (parseMethodDescriptor yX13_readOrder.desc).map (fun d => d.parameters.length) = some 0 := by decide +kernel
theorem dX13_orders_64 : decode cX13_orders 64 = .ok (.aload_n 0, 1) := by decide +kernel
theorem dX13_orders_65 : decode cX13_orders 65 = .ok (.bipush 22, 2) := by decide +kernel
theorem dX13_orders_67 : decode cX13_orders 67 = .ok (.invokevirtual 179, 3) := by decide +kernel
theorem dX13_orders_70 : decode cX13_orders 70 = .ok (.aload_n 0, 1) := by decide +kernel
theorem dX13_orders_71 : decode cX13_orders 71 = .ok (.getfield 176, 3) := by decide +kernel
theorem dX13_orders_74 : decode cX13_orders 74 = .ok (.istore_n 1, 1) := by decide +kernel
theorem dX13_orders_75 : decode cX13_orders 75 = .ok (.iconst 0, 1) := by decide +kernel
theorem dX13_orders_76 : decode cX13_orders 76 = .ok (.istore_n 2, 1) := by decide +kernel
theorem dX13_orders_77 : decode cX13_orders 77 = .ok (.iload_n 2, 1) := by decide +kernel
theorem dX13_orders_78 : decode cX13_orders 78 = .ok (.sipush 832, 3) := by decide +kernel
theorem dX13_orders_81 : decode cX13_orders 81 = .ok (.if_icmp .ge 21, 3) := by decide +kernel
theorem dX13_orders_102 : decode cX13_orders 102 = .ok (.iconst 0, 1) := by decide +kernel
theorem dX13_orders_103 : decode cX13_orders 103 = .ok (.istore_n 2, 1) := by decide +kernel
theorem dX13_orders_104 : decode cX13_orders 104 = .ok (.iload_n 2, 1) := by decide +kernel
theorem dX13_orders_105 : decode cX13_orders 105 = .ok (.bipush 16, 2) := by decide +kernel
theorem dX13_orders_107 : decode cX13_orders 107 = .ok (.if_icmp .ge 21, 3) := by decide +kernel
theorem dX13_orders_128 : decode cX13_orders 128 = .ok (.aload_n 0, 1) := by decide +kernel
theorem dX13_orders_129 : decode cX13_orders 129 = .ok (.iconst 0, 1) := by decide +kernel
theorem dX13_orders_130 : decode cX13_orders 130 = .ok (.putfield 617, 3) := by decide +kernel
theorem dX13_orders_133 : decode cX13_orders 133 = .ok (.aload_n 0, 1) := by decide +kernel
theorem dX13_orders_134 : decode cX13_orders 134 = .ok (.iconst (-1), 1) := by decide +kernel
theorem dX13_orders_135 : decode cX13_orders 135 = .ok (.putfield 620, 3) := by decide +kernel
theorem dX13_orders_138 : decode cX13_orders 138 = .ok (.iconst 0, 1) := by decide +kernel
theorem dX13_orders_139 : decode cX13_orders 139 = .ok (.istore_n 2, 1) := by decide +kernel
theorem dX13_orders_140 : decode cX13_orders 140 = .ok (.iload_n 2, 1) := by decide +kernel
theorem dX13_orders_141 : decode cX13_orders 141 = .ok (.aload_n 0, 1) := by decide +kernel
theorem dX13_orders_142 : decode cX13_orders 142 = .ok (.getfield 369, 3) := by decide +kernel
theorem dX13_orders_145 : decode cX13_orders 145 = .ok (.if_icmp .ge 61, 3) := by decide +kernel
theorem dX13_orders_206 : decode cX13_orders 206 = .ok (.aload_n 0, 1) := by decide +kernel
theorem dX13_orders_207 : decode cX13_orders 207 = .ok (.aload_n 0, 1) := by decide +kernel
theorem dX13_orders_208 : decode cX13_orders 208 = .ok (.getfield 617, 3) := by decide +kernel
theorem dX13_orders_211 : decode cX13_orders 211 = .ok (.invokevirtual 183, 3) := by decide +kernel
theorem dX13_orders_214 : decode cX13_orders 214 = .ok (.ireturn, 1) := by decide +kernel
theorem dX13_orders_148 : decode cX13_orders 148 = .ok (.iconst 0, 1) := by decide +kernel
theorem dX13_orders_149 : decode cX13_orders 149 = .ok (.istore_n 3, 1) := by decide +kernel
theorem dX13_orders_150 : decode cX13_orders 150 = .ok (.iload_n 3, 1) := by decide +kernel
theorem dX13_orders_151 : decode cX13_orders 151 = .ok (.aload_n 0, 1) := by decide +kernel
theorem dX13_orders_152 : decode cX13_orders 152 = .ok (.getfield 149, 3) := by decide +kernel
theorem dX13_orders_155 : decode cX13_orders 155 = .ok (.bipush 10, 2) := by decide +kernel
theorem dX13_orders_157 : decode cX13_orders 157 = .ok (.iload_n 2, 1) := by decide +kernel
theorem dX13_orders_158 : decode cX13_orders 158 = .ok (.imul, 1) := by decide +kernel
theorem dX13_orders_159 : decode cX13_orders 159 = .ok (.bipush 9, 2) := by decide +kernel
theorem dX13_orders_161 : decode cX13_orders 161 = .ok (.iadd, 1) := by decide +kernel
theorem dX13_orders_162 : decode cX13_orders 162 = .ok (.iaload, 1) := by decide +kernel
theorem dX13_orders_163 : decode cX13_orders 163 = .ok (.if_icmp .ge 37, 3) := by decide +kernel
theorem dX13_orders_200 : decode cX13_orders 200 = .ok (.iinc 2 1, 3) := by decide +kernel
theorem dX13_orders_203 : decode cX13_orders 203 = .ok (.goto (-63), 3) := by decide +kernel
theorem dX13_orders_166 : decode cX13_orders 166 = .ok (.aload_n 0, 1) := by decide +kernel
theorem dX13_orders_167 : decode cX13_orders 167 = .ok (.bipush 10, 2) := by decide +kernel
theorem dX13_orders_169 : decode cX13_orders 169 = .ok (.iload_n 2, 1) := by decide +kernel
theorem dX13_orders_170 : decode cX13_orders 170 = .ok (.imul, 1) := by decide +kernel
theorem dX13_orders_171 : decode cX13_orders 171 = .ok (.invokevirtual 629, 3) := by decide +kernel
theorem dX13_orders_174 : decode cX13_orders 174 = .ok (.ifCond .ge 20, 3) := by decide +kernel
theorem dX13_orders_194 : decode cX13_orders 194 = .ok (.iinc 3 1, 3) := by decide +kernel
theorem dX13_orders_197 : decode cX13_orders 197 = .ok (.goto (-47), 3) := by decide +kernel
theorem dX13_orders_177 : decode cX13_orders 177 = .ok (.aload_n 0, 1) := by decide +kernel
theorem dX13_orders_178 : decode cX13_orders 178 = .ok (.iload_n 1, 1) := by decide +kernel
theorem dX13_orders_179 : decode cX13_orders 179 = .ok (.invokevirtual 632, 3) := by decide +kernel
theorem dX13_orders_182 : decode cX13_orders 182 = .ok (.aload_n 0, 1) := by decide +kernel
theorem dX13_orders_183 : decode cX13_orders 183 = .ok (.iload_n 2, 1) := by decide +kernel
theorem dX13_orders_184 : decode cX13_orders 184 = .ok (.putfield 152, 3) := by decide +kernel
theorem dX13_orders_187 : decode cX13_orders 187 = .ok (.aload_n 0, 1) := by decide +kernel
theorem dX13_orders_188 : decode cX13_orders 188 = .ok (.bipush (-3), 2) := by decide +kernel
theorem dX13_orders_190 : decode cX13_orders 190 = .ok (.invokevirtual 183, 3) := by decide +kernel
theorem dX13_orders_193 : decode cX13_orders 193 = .ok (.ireturn, 1) := by decide +kernel
theorem dX13_orders_110 : decode cX13_orders 110 = .ok (.aload_n 0, 1) := by decide +kernel
theorem dX13_orders_111 : decode cX13_orders 111 = .ok (.getfield 32, 3) := by decide +kernel
theorem dX13_orders_114 : decode cX13_orders 114 = .ok (.iload_n 2, 1) := by decide +kernel
theorem dX13_orders_115 : decode cX13_orders 115 = .ok (.aload_n 0, 1) := by decide +kernel
theorem dX13_orders_116 : decode cX13_orders 116 = .ok (.getfield 26, 3) := by decide +kernel
theorem dX13_orders_119 : decode cX13_orders 119 = .ok (.iload_n 2, 1) := by decide +kernel
theorem dX13_orders_120 : decode cX13_orders 120 = .ok (.iaload, 1) := by decide +kernel
theorem dX13_orders_121 : decode cX13_orders 121 = .ok (.iastore, 1) := by decide +kernel
theorem dX13_orders_122 : decode cX13_orders 122 = .ok (.iinc 2 1, 3) := by decide +kernel
theorem dX13_orders_125 : decode cX13_orders 125 = .ok (.goto (-21), 3) := by decide +kernel
theorem dX13_orders_84 : decode cX13_orders 84 = .ok (.aload_n 0, 1) := by decide +kernel
theorem dX13_orders_85 : decode cX13_orders 85 = .ok (.getfield 29, 3) := by decide +kernel
theorem dX13_orders_88 : decode cX13_orders 88 = .ok (.iload_n 2, 1) := by decide +kernel
theorem dX13_orders_89 : decode cX13_orders 89 = .ok (.aload_n 0, 1) := by decide +kernel
theorem dX13_orders_90 : decode cX13_orders 90 = .ok (.getfield 23, 3) := by decide +kernel
theorem dX13_orders_93 : decode cX13_orders 93 = .ok (.iload_n 2, 1) := by decide +kernel
theorem dX13_orders_94 : decode cX13_orders 94 = .ok (.iaload, 1) := by decide +kernel
theorem dX13_orders_95 : decode cX13_orders 95 = .ok (.iastore, 1) := by decide +kernel
theorem dX13_orders_96 : decode cX13_orders 96 = .ok (.iinc 2 1, 3) := by decide +kernel
theorem dX13_orders_99 : decode cX13_orders 99 = .ok (.goto (-22), 3) := by decide +kernel
theorem dX13_orders_0 : decode cX13_orders 0 = .ok (.aload_n 0, 1) := by decide +kernel
theorem dX13_orders_1 : decode cX13_orders 1 = .ok (.iconst 0, 1) := by decide +kernel
theorem dX13_orders_2 : decode cX13_orders 2 = .ok (.putfield 170, 3) := by decide +kernel
theorem dX13_orders_5 : decode cX13_orders 5 = .ok (.aload_n 0, 1) := by decide +kernel
theorem dX13_orders_6 : decode cX13_orders 6 = .ok (.iconst (-1), 1) := by decide +kernel
theorem dX13_orders_7 : decode cX13_orders 7 = .ok (.putfield 152, 3) := by decide +kernel
theorem dX13_orders_10 : decode cX13_orders 10 = .ok (.aload_n 0, 1) := by decide +kernel
theorem dX13_orders_11 : decode cX13_orders 11 = .ok (.iconst 1, 1) := by decide +kernel
theorem dX13_orders_12 : decode cX13_orders 12 = .ok (.invokevirtual 377, 3) := by decide +kernel
theorem dX13_orders_15 : decode cX13_orders 15 = .ok (.aload_n 0, 1) := by decide +kernel
theorem dX13_orders_16 : decode cX13_orders 16 = .ok (.invokevirtual 626, 3) := by decide +kernel
theorem dX13_orders_19 : decode cX13_orders 19 = .ok (.aload_n 0, 1) := by decide +kernel
theorem dX13_orders_20 : decode cX13_orders 20 = .ok (.getfield 236, 3) := by decide +kernel
theorem dX13_orders_23 : decode cX13_orders 23 = .ok (.ifCond .ne 23, 3) := by decide +kernel
theorem dX13_orders_46 : decode cX13_orders 46 = .ok (.aload_n 0, 1) := by decide +kernel
theorem dX13_orders_47 : decode cX13_orders 47 = .ok (.invokevirtual 383, 3) := by decide +kernel
theorem dX13_orders_50 : decode cX13_orders 50 = .ok (.aload_n 0, 1) := by decide +kernel
theorem dX13_orders_51 : decode cX13_orders 51 = .ok (.getfield 236, 3) := by decide +kernel
theorem dX13_orders_54 : decode cX13_orders 54 = .ok (.ifCond .eq 10, 3) := by decide +kernel
theorem dX13_orders_57 : decode cX13_orders 57 = .ok (.aload_n 0, 1) := by decide +kernel
theorem dX13_orders_58 : decode cX13_orders 58 = .ok (.bipush (-6), 2) := by decide +kernel
theorem dX13_orders_60 : decode cX13_orders 60 = .ok (.invokevirtual 183, 3) := by decide +kernel
theorem dX13_orders_63 : decode cX13_orders 63 = .ok (.ireturn, 1) := by decide +kernel
theorem dX13_orders_26 : decode cX13_orders 26 = .ok (.aload_n 0, 1) := by decide +kernel
theorem dX13_orders_27 : decode cX13_orders 27 = .ok (.bipush 59, 2) := by decide +kernel
theorem dX13_orders_29 : decode cX13_orders 29 = .ok (.invokevirtual 309, 3) := by decide +kernel
theorem dX13_orders_32 : decode cX13_orders 32 = .ok (.ifCond .eq 14, 3) := by decide +kernel
theorem dX13_orders_35 : decode cX13_orders 35 = .ok (.aload_n 0, 1) := by decide +kernel
theorem dX13_orders_36 : decode cX13_orders 36 = .ok (.invokevirtual 240, 3) := by decide +kernel
theorem dX13_orders_39 : decode cX13_orders 39 = .ok (.aload_n 0, 1) := by decide +kernel
theorem dX13_orders_40 : decode cX13_orders 40 = .ok (.invokevirtual 626, 3) := by decide +kernel
theorem dX13_orders_43 : decode cX13_orders 43 = .ok (.goto (-24), 3) := by decide +kernel
set_option maxHeartbeats 4000000 in
set_option maxRecDepth 100000 in
theorem kz_X13_orders_c1 (l : Launch) (D : va_G) (cy : Nat → ClassId) (ld ad : Nat → Nat) (am : Nat) (hD : mz_D ad am) (Fa : Nat → Int32) (Ga : Nat → Int64) (Ra : Nat → Nat → Int32) (Sa : Nat → Nat → Int64) {p : Program} {e : Env} {s : State} {m : MethodId} {args : Array Value} {below : List Frame} {meth : Method} {c : Code} (hx : p.tables.exec = Jvm.exec) (hb : c.code = cX13_orders) (hr : meth.sig.returnType = (some .int)) (hml : c.maxLocals = 4) (hts : ∀ w ∈ wl yX13_orders cX13_orders 4 (some .int), w.before args s = true) (htl : ∀ w ∈ wsA, w.before args s = true) (hown : s.vm.findClass RX13 = some m.cls) (hlocks : meth.locks = false) (hK : kk_K D cy ld s) (v103384 : Int32) (v20025 : Int32) (v20026 : Int32) (H : Heap) (locs : List Loc) (F : Nat → Int32) (G : Nat → Int64) (R : Nat → Nat → Int32) (S : Nat → Nat → Int64) (hq0_kz_X13_orders_c1 : 0 ≤ v103384.toInt) (hq1_kz_X13_orders_c1 : v103384.toInt ≤ 0) (hq2_kz_X13_orders_c1 : 0 ≤ v20025.toInt) (hq3_kz_X13_orders_c1 : v20025.toInt ≤ 400) (hq4_kz_X13_orders_c1 : 0 ≤ v20026.toInt) (hq5_kz_X13_orders_c1 : v20026.toInt ≤ 12) (hM : mz_S D cy ad am F G R S H) (hS : va_S (mz_W ad am) s.heap H locs) (hIF : mz_IF true F) (hIG : mz_IG G) (hIR : mz_IR [] true R) (hFF : ∀ k : Nat, k ∉ ([0, 1, 8, 13, 14, 15, 16, 18, 19, 20, 21, 23, 26, 29, 30, 34, 38, 41, 62, 63, 64, 65] : List Nat) → F k = Fa k) (hGG : ∀ k : Nat, k ∉ ([17, 39, 40] : List Nat) → G k = Ga k) (hRR : ∀ k : Nat, k ∉ ([2, 3, 6, 7, 9, 10, 24, 25, 27, 28, 42, 61] : List Nat) → R k = Ra k) (hf2 : F 0 = 0) (hf4 : F 64 = (-1)) (hf54 : F 23 = v20025) (hf56 : F 21 = v20026) (hf103383 : F 19 = v103384) (hCL : (F 19).toInt = 0 → CLS 10 [1, 3, 5, 7] (R 24) (R 25) (R 61) (F 23).toInt (F 21).toInt ∧ TMS (R 61) (F 21).toInt) (ls : Array Slot) (hl : lv_has ls 4 [(0, .ref am)]) : W p l e ({ frames := 13, cells := 0, slots := 0, locals := 840 }) s m args below meth c H locs 0 0 (MQ below (mz_i D cy ad am (fun r F G R S => mz_IF true F ∧ mz_IG G ∧ mz_IR [] true R ∧ (∀ k : Nat, k ∉ ([0, 1, 8, 13, 14, 15, 16, 18, 19, 20, 21, 23, 26, 29, 30, 34, 38, 41, 62, 63, 64, 65] : List Nat) → F k = Fa k) ∧ (∀ k : Nat, k ∉ ([2, 3, 6, 7, 9, 10, 24, 25, 27, 28, 42, 61] : List Nat) → R k = Ra k) ∧ (∀ k : Nat, k ∉ ([17, 39, 40] : List Nat) → G k = Ga k) ∧ (-6) ≤ r.toInt ∧ r.toInt ≤ 255)) args s 0 0 (mz_W ad am)) (F0 m 64 ls []) := by
  have hq_v103384 := tk_rng v103384
  have hq_v20025 := tk_rng v20025
  have hq_v20026 := tk_rng v20026
  have hr_v20025 : 0 ≤ v20025.toInt ∧ v20025.toInt ≤ 400 := hIF.at hf54
  have hr_v20026 : 0 ≤ v20026.toInt ∧ v20026.toInt ≤ 12 := hIF.at hf56
  have hr_v103384 : 0 ≤ v103384.toInt ∧ v103384.toInt ≤ 1 := hIF.at hf103383
  refine lv_aload_n hx hb dX13_orders_64 rfl (lv_at hl 0 rfl) ?_
  have hCL9 := hCL (by rw [hf103383]; omega)
  rw [hf54, hf56] at hCL9
  obtain ⟨co9, hre_24⟩ : ∃ z : Nat → Int32, R 24 = z := ⟨_, rfl⟩
  obtain ⟨ca9, hre_25⟩ : ∃ z : Nat → Int32, R 25 = z := ⟨_, rfl⟩
  obtain ⟨cl9, hre_61⟩ : ∃ z : Nat → Int32, R 61 = z := ⟨_, rfl⟩
  rw [hre_24, hre_25, hre_61] at hCL9
  refine lv_bipush (v := 22) hx hb dX13_orders_65 (by decide) ?_
  have hk_22 : (22 : Int32).toInt = 22 := by decide
  refine mz_Vv (As := [.int 22]) (rest := []) ⟨hx, hb, hml, hown, hts⟩ hK hM hS (k_X13_keepAll l D cy ld ad am hD _ _ _ _ 22 hIF hIG hIR (by omega) (by omega)) ⟨callB_of 1 hts (wl_in mw_1033) rfl rfl rfl (htl _ mw_5) (htl _ mw_1030) hd_yX13_keepAll ⟨(Nat.le_of_ble_eq_true rfl), (Nat.le_of_ble_eq_true rfl)⟩, htl _ mw_1031, htl _ mw_1032⟩ rfl hl.1 rfl (Nat.le_of_ble_eq_true rfl) dX13_orders_67 ⟨(Nat.le_of_ble_eq_true rfl), (Nat.le_of_ble_eq_true rfl)⟩ (fun H locs F G R S hpo hM hS => ?_)
  obtain ⟨hIF, hIG, hIR, hfr9, hrr9, hgr9⟩ := hpo
  have hFF := mz_fr (K := [0, 1, 8, 13, 14, 15, 16, 18, 19, 20, 21, 23, 26, 29, 30, 34, 38, 41, 62, 63, 64, 65]) (Fa := Fa) hfr9 hFF (by decide)
  have hRR := mz_fr (K := [2, 3, 6, 7, 9, 10, 24, 25, 27, 28, 42, 61]) (Fa := Ra) hrr9 hRR (by decide)
  have hGG := mz_fr (K := [17, 39, 40]) (Fa := Ga) hgr9 hGG (by decide)
  have hre_24 : R 24 = co9 := (hrr9 24 (by decide)).trans hre_24
  have hre_25 : R 25 = ca9 := (hrr9 25 (by decide)).trans hre_25
  have hre_61 : R 61 = cl9 := (hrr9 61 (by decide)).trans hre_61
  have hf2 := (hfr9 0 (by decide)).trans hf2
  have hf4 := (hfr9 64 (by decide)).trans hf4
  have hf54 := (hfr9 23 (by decide)).trans hf54
  have hf56 := (hfr9 21 (by decide)).trans hf56
  have hf103383 := (hfr9 19 (by decide)).trans hf103383
  refine lv_aload_n hx hb dX13_orders_70 rfl (lv_at hl 0 rfl) ?_
  refine mz_getI hx hb htl hown hK hM 8 (Nat.le_of_ble_eq_true rfl) rfl (htl _ mw_289) (fun _ h9 => h9) dX13_orders_71 (fun v103389 hf103388 => ?_)
  have hq_v103389 := tk_rng v103389
  have hr_v103389 : 0 ≤ v103389.toInt ∧ v103389.toInt ≤ 16 := hIF.at hf103388
  refine lv_istore_n (lv' := [(1, .int v103389), (0, .ref am)]) hx hb dX13_orders_74 rfl hl (by decide) rfl (fun ls hl => ?_)
  refine lv_iconst (v := 0) hx hb dX13_orders_75 (by decide) ?_
  refine lv_istore_n (lv' := [(2, .int 0), (1, .int v103389), (0, .ref am)]) hx hb dX13_orders_76 rfl hl (by decide) rfl (fun ls hl => ?_)
  have hI9 := hIR
  have hIR := hIR.hole (X := [9])
  obtain ⟨cf, ecf⟩ : ∃ z : Nat → Int32, R 6 = z := ⟨_, rfl⟩
  obtain ⟨cg, ecg⟩ : ∃ z : Nat → Int32, R 9 = z := ⟨_, rfl⟩
  have hl113582 : ∀ (N_l113582 : Nat) (v103390 : Int32) (H : Heap) (locs : List Loc) (R : Nat → Nat → Int32), (0 ≤ (-1) * v103384.toInt + v103390.toInt) → (v103390.toInt ≤ 832) → (mz_S D cy ad am F G R S H) → (va_S (mz_W ad am) s.heap H locs) → (mz_IR [9] true R) → (∀ k : Nat, k ∉ ([2, 3, 6, 7, 9, 10, 24, 25, 27, 28, 42, 61] : List Nat) → R k = Ra k) → (R 24 = co9) → (R 25 = ca9) → (R 61 = cl9) → (R 9 = va_cpy cf cg 0 0 v103390.toInt.toNat) → (R 6 = cf) → ((-1) * v103390.toInt + 998 < (N_l113582 : Int)) → ∀ ls : Array Slot, lv_has ls 4 [(2, .int v103390), (1, .int v103389), (0, .ref am)] → W p l e ({ frames := 13, cells := 0, slots := 0, locals := 840 }) s m args below meth c H locs 0 0 (MQ below (mz_i D cy ad am (fun r F G R S => mz_IF true F ∧ mz_IG G ∧ mz_IR [] true R ∧ (∀ k : Nat, k ∉ ([0, 1, 8, 13, 14, 15, 16, 18, 19, 20, 21, 23, 26, 29, 30, 34, 38, 41, 62, 63, 64, 65] : List Nat) → F k = Fa k) ∧ (∀ k : Nat, k ∉ ([2, 3, 6, 7, 9, 10, 24, 25, 27, 28, 42, 61] : List Nat) → R k = Ra k) ∧ (∀ k : Nat, k ∉ ([17, 39, 40] : List Nat) → G k = Ga k) ∧ (-6) ≤ r.toInt ∧ r.toInt ≤ 255)) args s 0 0 (mz_W ad am)) (F0 m 77 ls []) := by
    intro N_l113582
    induction N_l113582 with
    | zero => intro v103390 H locs R hq0_l113582 hq1_l113582 hM hS hIR hRR hre_24 hre_25 hre_61 hcp hcs hm_l113582 ls hl; exfalso; omega
    | succ N_l113582 ih_l113582 =>
      intro v103390 H locs R hq0_l113582 hq1_l113582 hM hS hIR hRR hre_24 hre_25 hre_61 hcp hcs hm_l113582 ls hl
      refine lv_iload_n hx hb dX13_orders_77 rfl (lv_at hl 0 rfl) ?_
      refine lv_sipush (v := 832) hx hb dX13_orders_78 (by decide) ?_
      refine lv_icmp_ge (tgt := 102) hx hb dX13_orders_81 (by decide) (fun c9 => ?_) (fun c9 => ?_)
      · have hc113583 : 832 ≤ v103390.toInt := (fi_le (show (832 : Int32).toInt = 832 by decide) rfl).mp c9
        have e9 : v103390.toInt.toNat = 832 := by omega
        rw [e9] at hcp
        have hIR := hIR.close (by rw [hcp]; exact mz_bef (by rw [← ecf]; exact hI9.at 6))
        refine lv_iconst (v := 0) hx hb dX13_orders_102 (by decide) ?_
        refine lv_istore_n (lv' := [(2, .int 0), (1, .int v103389), (0, .ref am)]) hx hb dX13_orders_103 rfl hl (by decide) rfl (fun ls hl => ?_)
        have hl116481 : ∀ (N_l116481 : Nat) (v113584 : Int32) (H : Heap) (locs : List Loc) (R : Nat → Nat → Int32), (v113584.toInt ≤ 16) → (0 ≤ (-1) * v103384.toInt + v113584.toInt) → (mz_S D cy ad am F G R S H) → (va_S (mz_W ad am) s.heap H locs) → (mz_IR [] true R) → (∀ k : Nat, k ∉ ([2, 3, 6, 7, 9, 10, 24, 25, 27, 28, 42, 61] : List Nat) → R k = Ra k) → (R 24 = co9) → (R 25 = ca9) → (R 61 = cl9) → ((-1) * v113584.toInt + 16 < (N_l116481 : Int)) → ∀ ls : Array Slot, lv_has ls 4 [(2, .int v113584), (1, .int v103389), (0, .ref am)] → W p l e ({ frames := 13, cells := 0, slots := 0, locals := 840 }) s m args below meth c H locs 0 0 (MQ below (mz_i D cy ad am (fun r F G R S => mz_IF true F ∧ mz_IG G ∧ mz_IR [] true R ∧ (∀ k : Nat, k ∉ ([0, 1, 8, 13, 14, 15, 16, 18, 19, 20, 21, 23, 26, 29, 30, 34, 38, 41, 62, 63, 64, 65] : List Nat) → F k = Fa k) ∧ (∀ k : Nat, k ∉ ([2, 3, 6, 7, 9, 10, 24, 25, 27, 28, 42, 61] : List Nat) → R k = Ra k) ∧ (∀ k : Nat, k ∉ ([17, 39, 40] : List Nat) → G k = Ga k) ∧ (-6) ≤ r.toInt ∧ r.toInt ≤ 255)) args s 0 0 (mz_W ad am)) (F0 m 104 ls []) := by
          intro N_l116481
          induction N_l116481 with
          | zero => intro v113584 H locs R hq0_l116481 hq1_l116481 hM hS hIR hRR hre_24 hre_25 hre_61 hm_l116481 ls hl; exfalso; omega
          | succ N_l116481 ih_l116481 =>
            intro v113584 H locs R hq0_l116481 hq1_l116481 hM hS hIR hRR hre_24 hre_25 hre_61 hm_l116481 ls hl
            refine lv_iload_n hx hb dX13_orders_104 rfl (lv_at hl 0 rfl) ?_
            refine lv_bipush (v := 16) hx hb dX13_orders_105 (by decide) ?_
            refine lv_icmp_ge (tgt := 128) hx hb dX13_orders_107 (by decide) (fun c9 => ?_) (fun c9 => ?_)
            · have hc116482 : 16 ≤ v113584.toInt := (fi_le (show (16 : Int32).toInt = 16 by decide) rfl).mp c9
              refine lv_aload_n hx hb dX13_orders_128 rfl (lv_at hl 2 rfl) ?_
              refine lv_iconst (v := 0) hx hb dX13_orders_129 (by decide) ?_
              have hk_0 : (0 : Int32).toInt = 0 := by decide
              refine mz_putI (ty := .int) (x := 0) hx hb htl hown hK hD hM hS 62 (Nat.le_of_ble_eq_true rfl) rfl (htl _ mw_1009) (fun _ h9 => h9) rfl (tyX13_ok 62 (by decide)) rfl rfl dX13_orders_130 (fun H locs F hM hS hf9 hj9 => ?_)
              have hIF := hIF.put hf9 hj9 (tk_rng _).1 (tk_rng _).2 (by decide)
              have hFF := mz_frp (K := [0, 1, 8, 13, 14, 15, 16, 18, 19, 20, 21, 23, 26, 29, 30, 34, 38, 41, 62, 63, 64, 65]) (Fa := Fa) hj9 hFF (by decide)
              have hf2 := (hj9 0 (by decide)).trans hf2
              have hf4 := (hj9 64 (by decide)).trans hf4
              have hf54 := (hj9 23 (by decide)).trans hf54
              have hf56 := (hj9 21 (by decide)).trans hf56
              have hf103383 := (hj9 19 (by decide)).trans hf103383
              have hf103388 := (hj9 8 (by decide)).trans hf103388
              have hf116484 := hf9
              refine lv_aload_n hx hb dX13_orders_133 rfl (lv_at hl 2 rfl) ?_
              refine lv_iconst (v := (-1)) hx hb dX13_orders_134 (by decide) ?_
              have hk_m1 : ((-1) : Int32).toInt = (-1) := by decide
              refine mz_putI (ty := .int) (x := (-1)) hx hb htl hown hK hD hM hS 63 (Nat.le_of_ble_eq_true rfl) rfl (htl _ mw_1010) (fun _ h9 => h9) rfl (tyX13_ok 63 (by decide)) rfl rfl dX13_orders_135 (fun H locs F hM hS hf9 hj9 => ?_)
              have hIF := hIF.put hf9 hj9 (tk_rng _).1 (tk_rng _).2 (by decide)
              have hFF := mz_frp (K := [0, 1, 8, 13, 14, 15, 16, 18, 19, 20, 21, 23, 26, 29, 30, 34, 38, 41, 62, 63, 64, 65]) (Fa := Fa) hj9 hFF (by decide)
              have hf2 := (hj9 0 (by decide)).trans hf2
              have hf4 := (hj9 64 (by decide)).trans hf4
              have hf54 := (hj9 23 (by decide)).trans hf54
              have hf56 := (hj9 21 (by decide)).trans hf56
              have hf103383 := (hj9 19 (by decide)).trans hf103383
              have hf103388 := (hj9 8 (by decide)).trans hf103388
              have hf116484 := (hj9 62 (by decide)).trans hf116484
              have hf116486 := hf9
              refine lv_iconst (v := 0) hx hb dX13_orders_138 (by decide) ?_
              refine lv_istore_n (lv' := [(2, .int 0), (1, .int v103389), (0, .ref am)]) hx hb dX13_orders_139 rfl hl (by decide) rfl (fun ls hl => ?_)
              have hl117228 : ∀ (N_l117228 : Nat) (v116487 : Int32) (v116488 : Int32) (H : Heap) (locs : List Loc) (F : Nat → Int32) (G : Nat → Int64) (R : Nat → Nat → Int32) (S : Nat → Nat → Int64), (0 ≤ (-1) * v116487.toInt + v20026.toInt) → (0 ≤ v116488.toInt) → (0 ≤ 20 * v116487.toInt + (-1) * v116488.toInt) → (mz_S D cy ad am F G R S H) → (va_S (mz_W ad am) s.heap H locs) → (mz_IF true F) → (mz_IG G) → (mz_IR [] true R) → (∀ k : Nat, k ∉ ([0, 1, 8, 13, 14, 15, 16, 18, 19, 20, 21, 23, 26, 29, 30, 34, 38, 41, 62, 63, 64, 65] : List Nat) → F k = Fa k) → (∀ k : Nat, k ∉ ([17, 39, 40] : List Nat) → G k = Ga k) → (∀ k : Nat, k ∉ ([2, 3, 6, 7, 9, 10, 24, 25, 27, 28, 42, 61] : List Nat) → R k = Ra k) → (F 0 = 0) → (F 64 = (-1)) → (F 23 = v20025) → (F 21 = v20026) → (F 19 = v103384) → (F 62 = v116488) → (R 24 = co9) → (R 25 = ca9) → (R 61 = cl9) → ((-1) * v116487.toInt + 12 < (N_l117228 : Int)) → ∀ ls : Array Slot, lv_has ls 4 [(2, .int v116487), (1, .int v103389), (0, .ref am)] → W p l e ({ frames := 13, cells := 0, slots := 0, locals := 840 }) s m args below meth c H locs 0 0 (MQ below (mz_i D cy ad am (fun r F G R S => mz_IF true F ∧ mz_IG G ∧ mz_IR [] true R ∧ (∀ k : Nat, k ∉ ([0, 1, 8, 13, 14, 15, 16, 18, 19, 20, 21, 23, 26, 29, 30, 34, 38, 41, 62, 63, 64, 65] : List Nat) → F k = Fa k) ∧ (∀ k : Nat, k ∉ ([2, 3, 6, 7, 9, 10, 24, 25, 27, 28, 42, 61] : List Nat) → R k = Ra k) ∧ (∀ k : Nat, k ∉ ([17, 39, 40] : List Nat) → G k = Ga k) ∧ (-6) ≤ r.toInt ∧ r.toInt ≤ 255)) args s 0 0 (mz_W ad am)) (F0 m 140 ls []) := by
                intro N_l117228
                induction N_l117228 with
                | zero => intro v116487 v116488 H locs F G R S hq0_l117228 hq1_l117228 hq2_l117228 hM hS hIF hIG hIR hFF hGG hRR hf2 hf4 hf54 hf56 hf103383 hf116484 hre_24 hre_25 hre_61 hm_l117228 ls hl; exfalso; omega
                | succ N_l117228 ih_l117228 =>
                  intro v116487 v116488 H locs F G R S hq0_l117228 hq1_l117228 hq2_l117228 hM hS hIF hIG hIR hFF hGG hRR hf2 hf4 hf54 hf56 hf103383 hf116484 hre_24 hre_25 hre_61 hm_l117228 ls hl
                  refine lv_iload_n hx hb dX13_orders_140 rfl (lv_at hl 0 rfl) ?_
                  refine lv_aload_n hx hb dX13_orders_141 rfl (lv_at hl 2 rfl) ?_
                  refine mz_getI hx hb htl hown hK hM 21 (Nat.le_of_ble_eq_true rfl) rfl (htl _ mw_669) (fun _ h9 => h9) dX13_orders_142 (fun v9 e9 => ?_)
                  refine fx_ti (v := v20026) (e9.symm.trans hf56) ?_
                  refine lv_icmp_ge (tgt := 206) hx hb dX13_orders_145 (by decide) (fun c9 => ?_) (fun c9 => ?_)
                  · have hc117229 : v20026.toInt ≤ v116487.toInt := (fi_le rfl rfl).mp c9
                    refine lv_aload_n hx hb dX13_orders_206 rfl (lv_at hl 2 rfl) ?_
                    refine lv_aload_n hx hb dX13_orders_207 rfl (lv_at hl 2 rfl) ?_
                    refine mz_getI hx hb htl hown hK hM 62 (Nat.le_of_ble_eq_true rfl) rfl (htl _ mw_1009) (fun _ h9 => h9) dX13_orders_208 (fun v9 e9 => ?_)
                    refine fx_ti (v := v116488) (e9.symm.trans hf116484) ?_
                    refine mz_Vi (As := [.int v116488]) (rest := []) ⟨hx, hb, hml, hown, hts⟩ hK hM hS (k_X13_tell l D cy ld ad am hD _ _ _ _ v116488 hIF hIG hIR (by omega) (by omega)) ⟨callB_of 1 hts (wl_in mw_296) rfl rfl rfl (htl _ mw_5) (htl _ mw_293) hd_yX13_tell ⟨(Nat.le_of_ble_eq_true rfl), (Nat.le_of_ble_eq_true rfl)⟩, htl _ mw_294, htl _ mw_295⟩ rfl hl.1 rfl (Nat.le_of_ble_eq_true rfl) dX13_orders_211 ⟨(Nat.le_of_ble_eq_true rfl), (Nat.le_of_ble_eq_true rfl)⟩ (fun v117230 H locs F G R S hpo hM hS => ?_)
                    obtain ⟨hIF, hIG, hIR, hfr9, hrr9, hgr9, hpo117231⟩ := hpo
                    have hq_v117230 := tk_rng v117230
                    have hFF := mz_fr (K := [0, 1, 8, 13, 14, 15, 16, 18, 19, 20, 21, 23, 26, 29, 30, 34, 38, 41, 62, 63, 64, 65]) (Fa := Fa) hfr9 hFF (by decide)
                    have hRR := mz_fr (K := [2, 3, 6, 7, 9, 10, 24, 25, 27, 28, 42, 61]) (Fa := Ra) hrr9 hRR (by decide)
                    have hGG := mz_fr (K := [17, 39, 40]) (Fa := Ga) hgr9 hGG (by decide)
                    have hre_24 : R 24 = co9 := (hrr9 24 (by decide)).trans hre_24
                    have hre_25 : R 25 = ca9 := (hrr9 25 (by decide)).trans hre_25
                    have hre_61 : R 61 = cl9 := (hrr9 61 (by decide)).trans hre_61
                    have hf2 := (hfr9 0 (by decide)).trans hf2
                    have hf4 := (hfr9 64 (by decide)).trans hf4
                    have hf54 := (hfr9 23 (by decide)).trans hf54
                    have hf56 := (hfr9 21 (by decide)).trans hf56
                    have hf103383 := (hfr9 19 (by decide)).trans hf103383
                    have hf116484 := (hfr9 62 (by decide)).trans hf116484
                    exact mz_iret (v := v117230) hx hb hr rfl hlocks ⟨hIF, hIG, hIR, hFF, hRR, hGG, (by omega), (by omega)⟩ hM hS dX13_orders_214
                  · have hc117229 : ¬ (v20026.toInt ≤ v116487.toInt) := fun h9 => c9 ((fi_le rfl rfl).mpr h9)
                    refine lv_iconst (v := 0) hx hb dX13_orders_148 (by decide) ?_
                    refine lv_istore_n (lv' := [(3, .int 0), (2, .int v116487), (1, .int v103389), (0, .ref am)]) hx hb dX13_orders_149 rfl hl (by decide) rfl (fun ls hl => ?_)
                    have hl117368 : ∀ (N_l117368 : Nat) (v117233 : Int32) (v117234 : Int32) (H : Heap) (locs : List Loc) (F : Nat → Int32) (G : Nat → Int64) (R : Nat → Nat → Int32) (S : Nat → Nat → Int64), (0 ≤ (-1) * v116488.toInt + v117234.toInt) → (0 ≤ v117233.toInt) → (v117233.toInt ≤ 20) → (0 ≤ 20 * v116487.toInt + v117233.toInt + (-1) * v117234.toInt) → (mz_S D cy ad am F G R S H) → (va_S (mz_W ad am) s.heap H locs) → (mz_IF true F) → (mz_IG G) → (mz_IR [] true R) → (∀ k : Nat, k ∉ ([0, 1, 8, 13, 14, 15, 16, 18, 19, 20, 21, 23, 26, 29, 30, 34, 38, 41, 62, 63, 64, 65] : List Nat) → F k = Fa k) → (∀ k : Nat, k ∉ ([17, 39, 40] : List Nat) → G k = Ga k) → (∀ k : Nat, k ∉ ([2, 3, 6, 7, 9, 10, 24, 25, 27, 28, 42, 61] : List Nat) → R k = Ra k) → (F 0 = 0) → (F 64 = (-1)) → (F 23 = v20025) → (F 21 = v20026) → (F 19 = v103384) → (F 62 = v117234) → (R 24 = co9) → (R 25 = ca9) → (R 61 = cl9) → ((-1) * v117233.toInt + 20 < (N_l117368 : Int)) → ∀ ls : Array Slot, lv_has ls 4 [(3, .int v117233), (2, .int v116487), (1, .int v103389), (0, .ref am)] → W p l e ({ frames := 13, cells := 0, slots := 0, locals := 840 }) s m args below meth c H locs 0 0 (MQ below (mz_i D cy ad am (fun r F G R S => mz_IF true F ∧ mz_IG G ∧ mz_IR [] true R ∧ (∀ k : Nat, k ∉ ([0, 1, 8, 13, 14, 15, 16, 18, 19, 20, 21, 23, 26, 29, 30, 34, 38, 41, 62, 63, 64, 65] : List Nat) → F k = Fa k) ∧ (∀ k : Nat, k ∉ ([2, 3, 6, 7, 9, 10, 24, 25, 27, 28, 42, 61] : List Nat) → R k = Ra k) ∧ (∀ k : Nat, k ∉ ([17, 39, 40] : List Nat) → G k = Ga k) ∧ (-6) ≤ r.toInt ∧ r.toInt ≤ 255)) args s 0 0 (mz_W ad am)) (F0 m 150 ls []) := by
                      intro N_l117368
                      induction N_l117368 with
                      | zero => intro v117233 v117234 H locs F G R S hq0_l117368 hq1_l117368 hq2_l117368 hq3_l117368 hM hS hIF hIG hIR hFF hGG hRR hf2 hf4 hf54 hf56 hf103383 hf116484 hre_24 hre_25 hre_61 hm_l117368 ls hl; exfalso; omega
                      | succ N_l117368 ih_l117368 =>
                        intro v117233 v117234 H locs F G R S hq0_l117368 hq1_l117368 hq2_l117368 hq3_l117368 hM hS hIF hIG hIR hFF hGG hRR hf2 hf4 hf54 hf56 hf103383 hf116484 hre_24 hre_25 hre_61 hm_l117368 ls hl
                        refine lv_iload_n hx hb dX13_orders_150 rfl (lv_at hl 0 rfl) ?_
                        refine lv_aload_n hx hb dX13_orders_151 rfl (lv_at hl 3 rfl) ?_
                        refine mz_getR hx hb htl hown hK hM 61 (Nat.le_of_ble_eq_true rfl) (Nat.le_of_ble_eq_true rfl) (htl _ mw_239) (fun _ h9 => h9) dX13_orders_152 ?_
                        refine lv_bipush (v := 10) hx hb dX13_orders_155 (by decide) ?_
                        refine lv_iload_n hx hb dX13_orders_157 rfl (lv_at hl 1 rfl) ?_
                        refine lv_imul hx hb dX13_orders_158 ?_
                        refine tk_mul (show (10 : Int32).toInt = 10 by decide) rfl (by omega) (by omega) (fun v117369 h_v117369 => ?_)
                        refine lv_bipush (v := 9) hx hb dX13_orders_159 (by decide) ?_
                        refine lv_iadd hx hb dX13_orders_161 ?_
                        refine tk_add rfl (show (9 : Int32).toInt = 9 by decide) (by omega) (by omega) (fun v117370 h_v117370 => ?_)
                        refine mz_iald hx hb hK hM 61 (Nat.le_of_ble_eq_true rfl) rfl (nn := 120) rfl rfl (by omega) (by omega) dX13_orders_162 (fun v117371 e_v117371 => ?_)
                        have hq_v117371 := tk_rng v117371
                        have htm_v117371 : 0 ≤ v117371.toInt ∧ v117371.toInt ≤ 20 := by have h9 := hCL9.2 v116487.toInt.toNat (by omega); rw [show 10 * v116487.toInt.toNat + 9 = (v117370 : Int32).toNatClampNeg by show _ = v117370.toInt.toNat; omega, ← hre_61, e_v117371] at h9; exact h9
                        refine lv_icmp_ge (tgt := 200) hx hb dX13_orders_163 (by decide) (fun c9 => ?_) (fun c9 => ?_)
                        · have hc117372 : v117371.toInt ≤ v117233.toInt := (fi_le rfl rfl).mp c9
                          obtain ⟨v117373, h_v117373, e_v117373⟩ := tk_inc v116487 1 (by decide) (by omega) (by omega)
                          refine lv_iinc (v := v117373) (lv' := [(2, .int v117373), (3, .int v117233), (1, .int v103389), (0, .ref am)]) hx hb dX13_orders_200 hl (k := 1) rfl e_v117373 (by decide) rfl (fun ls hl => ?_)
                          refine lv_goto (tgt := 140) hx hb dX13_orders_203 (by decide) ?_
                          exact ih_l117228 v117373 v117234 _ _ _ _ _ _ (by omega) (by omega) (by omega) hM hS hIF hIG hIR hFF hGG hRR hf2 hf4 hf54 hf56 hf103383 hf116484 hre_24 hre_25 hre_61 (by omega) _ (lv_sub hl [0, 2, 3] rfl)
                        · have hc117372 : ¬ (v117371.toInt ≤ v117233.toInt) := fun h9 => c9 ((fi_le rfl rfl).mpr h9)
                          refine lv_aload_n hx hb dX13_orders_166 rfl (lv_at hl 3 rfl) ?_
                          refine lv_bipush (v := 10) hx hb dX13_orders_167 (by decide) ?_
                          refine lv_iload_n hx hb dX13_orders_169 rfl (lv_at hl 1 rfl) ?_
                          refine lv_imul hx hb dX13_orders_170 ?_
                          refine tk_mul (show (10 : Int32).toInt = 10 by decide) rfl (by omega) (by omega) (fun v117374 h_v117374 => ?_)
                          refine mz_Vi (As := [.int v117374]) (rest := []) ⟨hx, hb, hml, hown, hts⟩ hK hM hS (k_X13_run l D cy ld ad am hD _ _ _ _ v117374 v117234 hIF hIG hIR hf116484 (by omega) (by omega) (by omega) (by omega) (fun d hd => by rw [hre_24, hre_25, hre_61, show v117374.toInt.toNat = 10 * v116487.toInt.toNat by omega]; exact (hCL9.1 v116487.toInt.toNat d (by omega) hd).1)) ⟨callB_of 1 hts (wl_in mw_1037) rfl rfl rfl (htl _ mw_5) (htl _ mw_1034) hd_yX13_run ⟨(Nat.le_of_ble_eq_true rfl), (Nat.le_of_ble_eq_true rfl)⟩, htl _ mw_1035, htl _ mw_1036⟩ rfl hl.1 rfl (Nat.le_of_ble_eq_true rfl) dX13_orders_171 ⟨(Nat.le_of_ble_eq_true rfl), (Nat.le_of_ble_eq_true rfl)⟩ (fun v117375 H locs F G R S hpo hM hS => ?_)
                          obtain ⟨hIF, hIG, hIR, hfr9, hrr9, hgr9, hpo117376, hpo117377, hpo117378, hpo117379⟩ := hpo
                          have hq_v117375 := tk_rng v117375
                          have hFF := mz_fr (K := [0, 1, 8, 13, 14, 15, 16, 18, 19, 20, 21, 23, 26, 29, 30, 34, 38, 41, 62, 63, 64, 65]) (Fa := Fa) hfr9 hFF (by decide)
                          have hRR := mz_fr (K := [2, 3, 6, 7, 9, 10, 24, 25, 27, 28, 42, 61]) (Fa := Ra) hrr9 hRR (by decide)
                          have hGG := mz_fr (K := [17, 39, 40]) (Fa := Ga) hgr9 hGG (by decide)
                          have hre_24 : R 24 = co9 := (hrr9 24 (by decide)).trans hre_24
                          have hre_25 : R 25 = ca9 := (hrr9 25 (by decide)).trans hre_25
                          have hre_61 : R 61 = cl9 := (hrr9 61 (by decide)).trans hre_61
                          have e_v117371 : R 61 (v117370 : Int32).toNatClampNeg = _ := (congrFun (hrr9 61 (by decide)) _).trans e_v117371
                          have hf2 := (hfr9 0 (by decide)).trans hf2
                          have hf4 := (hfr9 64 (by decide)).trans hf4
                          have hf54 := (hfr9 23 (by decide)).trans hf54
                          have hf56 := (hfr9 21 (by decide)).trans hf56
                          have hf103383 := (hfr9 19 (by decide)).trans hf103383
                          obtain ⟨v117382, hf117381⟩ : ∃ z : Int32, F 62 = z := ⟨_, rfl⟩
                          have hq_v117382 := tk_rng v117382
                          rw [hf117381] at hpo117378 hpo117379
                          refine lv_if_ge (tgt := 194) hx hb dX13_orders_174 (by decide) (fun c9 => ?_) (fun c9 => ?_)
                          · have hc117383 : 0 ≤ v117375.toInt := (fi_le (show (0 : Int32).toInt = 0 by decide) rfl).mp c9
                            obtain ⟨v117384, h_v117384, e_v117384⟩ := tk_inc v117233 1 (by decide) (by omega) (by omega)
                            refine lv_iinc (v := v117384) (lv' := [(3, .int v117384), (2, .int v116487), (1, .int v103389), (0, .ref am)]) hx hb dX13_orders_194 hl (k := 0) rfl e_v117384 (by decide) rfl (fun ls hl => ?_)
                            refine lv_goto (tgt := 150) hx hb dX13_orders_197 (by decide) ?_
                            exact ih_l117368 v117384 v117382 _ _ _ _ _ _ (by omega) (by omega) (by omega) (by omega) hM hS hIF hIG hIR hFF hGG hRR hf2 hf4 hf54 hf56 hf103383 hf117381 hre_24 hre_25 hre_61 (by omega) _ (lv_sub hl [0, 1, 2, 3] rfl)
                          · have hc117383 : ¬ (0 ≤ v117375.toInt) := fun h9 => c9 ((fi_le (show (0 : Int32).toInt = 0 by decide) rfl).mpr h9)
                            refine lv_aload_n hx hb dX13_orders_177 rfl (lv_at hl 3 rfl) ?_
                            refine lv_iload_n hx hb dX13_orders_178 rfl (lv_at hl 2 rfl) ?_
                            refine mz_Vv (As := [.int v103389]) (rest := []) ⟨hx, hb, hml, hown, hts⟩ hK hM hS (k_X13_giveBack l D cy ld ad am hD _ _ _ _ v103389 hIF hIG hIR (by omega) (by omega)) ⟨callB_of 1 hts (wl_in mw_1158) rfl rfl rfl (htl _ mw_5) (htl _ mw_1155) hd_yX13_giveBack ⟨(Nat.le_of_ble_eq_true rfl), (Nat.le_of_ble_eq_true rfl)⟩, htl _ mw_1156, htl _ mw_1157⟩ rfl hl.1 rfl (Nat.le_of_ble_eq_true rfl) dX13_orders_179 ⟨(Nat.le_of_ble_eq_true rfl), (Nat.le_of_ble_eq_true rfl)⟩ (fun H locs F G R S hpo hM hS => ?_)
                            obtain ⟨hIF, hIG, hIR, hfr9, hrr9, hgr9⟩ := hpo
                            have hFF := mz_fr (K := [0, 1, 8, 13, 14, 15, 16, 18, 19, 20, 21, 23, 26, 29, 30, 34, 38, 41, 62, 63, 64, 65]) (Fa := Fa) hfr9 hFF (by decide)
                            have hRR := mz_fr (K := [2, 3, 6, 7, 9, 10, 24, 25, 27, 28, 42, 61]) (Fa := Ra) hrr9 hRR (by decide)
                            have hGG := mz_fr (K := [17, 39, 40]) (Fa := Ga) hgr9 hGG (by decide)
                            have hre_24 : R 24 = co9 := (hrr9 24 (by decide)).trans hre_24
                            have hre_25 : R 25 = ca9 := (hrr9 25 (by decide)).trans hre_25
                            have hre_61 : R 61 = cl9 := (hrr9 61 (by decide)).trans hre_61
                            have e_v117371 : R 61 (v117370 : Int32).toNatClampNeg = _ := (congrFun (hrr9 61 (by decide)) _).trans e_v117371
                            have hf2 := (hfr9 0 (by decide)).trans hf2
                            have hf4 := (hfr9 64 (by decide)).trans hf4
                            have hf54 := (hfr9 23 (by decide)).trans hf54
                            have hf56 := (hfr9 21 (by decide)).trans hf56
                            have hf103383 := (hfr9 19 (by decide)).trans hf103383
                            have hf117381 := (hfr9 62 (by decide)).trans hf117381
                            refine lv_aload_n hx hb dX13_orders_182 rfl (lv_at hl 3 rfl) ?_
                            refine lv_iload_n hx hb dX13_orders_183 rfl (lv_at hl 1 rfl) ?_
                            refine mz_putI (ty := .int) (x := v116487) hx hb htl hown hK hD hM hS 64 (Nat.le_of_ble_eq_true rfl) rfl (htl _ mw_240) (fun _ h9 => h9) rfl (tyX13_ok 64 (by decide)) rfl rfl dX13_orders_184 (fun H locs F hM hS hf9 hj9 => ?_)
                            have hIF := hIF.put hf9 hj9 (tk_rng _).1 (tk_rng _).2 (by decide)
                            have hFF := mz_frp (K := [0, 1, 8, 13, 14, 15, 16, 18, 19, 20, 21, 23, 26, 29, 30, 34, 38, 41, 62, 63, 64, 65]) (Fa := Fa) hj9 hFF (by decide)
                            have hf2 := (hj9 0 (by decide)).trans hf2
                            have hf54 := (hj9 23 (by decide)).trans hf54
                            have hf56 := (hj9 21 (by decide)).trans hf56
                            have hf103383 := (hj9 19 (by decide)).trans hf103383
                            have hf117381 := (hj9 62 (by decide)).trans hf117381
                            have hf117387 := hf9
                            refine lv_aload_n hx hb dX13_orders_187 rfl (lv_at hl 3 rfl) ?_
                            refine lv_bipush (v := (-3)) hx hb dX13_orders_188 (by decide) ?_
                            have hk_m3 : ((-3) : Int32).toInt = (-3) := by decide
                            refine mz_Vi (As := [.int (-3)]) (rest := []) ⟨hx, hb, hml, hown, hts⟩ hK hM hS (k_X13_tell l D cy ld ad am hD _ _ _ _ (-3) hIF hIG hIR (by omega) (by omega)) ⟨callB_of 1 hts (wl_in mw_296) rfl rfl rfl (htl _ mw_5) (htl _ mw_293) hd_yX13_tell ⟨(Nat.le_of_ble_eq_true rfl), (Nat.le_of_ble_eq_true rfl)⟩, htl _ mw_294, htl _ mw_295⟩ rfl hl.1 rfl (Nat.le_of_ble_eq_true rfl) dX13_orders_190 ⟨(Nat.le_of_ble_eq_true rfl), (Nat.le_of_ble_eq_true rfl)⟩ (fun v117388 H locs F G R S hpo hM hS => ?_)
                            obtain ⟨hIF, hIG, hIR, hfr9, hrr9, hgr9, hpo117389⟩ := hpo
                            have hq_v117388 := tk_rng v117388
                            have hFF := mz_fr (K := [0, 1, 8, 13, 14, 15, 16, 18, 19, 20, 21, 23, 26, 29, 30, 34, 38, 41, 62, 63, 64, 65]) (Fa := Fa) hfr9 hFF (by decide)
                            have hRR := mz_fr (K := [2, 3, 6, 7, 9, 10, 24, 25, 27, 28, 42, 61]) (Fa := Ra) hrr9 hRR (by decide)
                            have hGG := mz_fr (K := [17, 39, 40]) (Fa := Ga) hgr9 hGG (by decide)
                            have hre_24 : R 24 = co9 := (hrr9 24 (by decide)).trans hre_24
                            have hre_25 : R 25 = ca9 := (hrr9 25 (by decide)).trans hre_25
                            have hre_61 : R 61 = cl9 := (hrr9 61 (by decide)).trans hre_61
                            have e_v117371 : R 61 (v117370 : Int32).toNatClampNeg = _ := (congrFun (hrr9 61 (by decide)) _).trans e_v117371
                            have hf2 := (hfr9 0 (by decide)).trans hf2
                            have hf54 := (hfr9 23 (by decide)).trans hf54
                            have hf56 := (hfr9 21 (by decide)).trans hf56
                            have hf103383 := (hfr9 19 (by decide)).trans hf103383
                            have hf117381 := (hfr9 62 (by decide)).trans hf117381
                            have hf117387 := (hfr9 64 (by decide)).trans hf117387
                            exact mz_iret (v := v117388) hx hb hr rfl hlocks ⟨hIF, hIG, hIR, hFF, hRR, hGG, (by omega), (by omega)⟩ hM hS dX13_orders_193
                    have hk_0 : (0 : Int32).toInt = 0 := by decide
                    exact hl117368 21 0 v116488 _ _ _ _ _ _ (by omega) (by omega) (by omega) (by omega) hM hS hIF hIG hIR hFF hGG hRR hf2 hf4 hf54 hf56 hf103383 hf116484 hre_24 hre_25 hre_61 (by omega) _ (lv_sub hl [0, 1, 2, 3] rfl)
              have hk_0 : (0 : Int32).toInt = 0 := by decide
              have hk_0 : (0 : Int32).toInt = 0 := by decide
              exact hl117228 13 0 0 _ _ _ _ _ _ (by omega) (by omega) (by omega) hM hS hIF hIG hIR hFF hGG hRR hf2 hf4 hf54 hf56 hf103383 hf116484 hre_24 hre_25 hre_61 (by omega) _ (lv_sub hl [0, 1, 2] rfl)
            · have hc116482 : ¬ (16 ≤ v113584.toInt) := fun h9 => c9 ((fi_le (show (16 : Int32).toInt = 16 by decide) rfl).mpr h9)
              refine lv_aload_n hx hb dX13_orders_110 rfl (lv_at hl 2 rfl) ?_
              refine mz_getR hx hb htl hown hK hM 10 (Nat.le_of_ble_eq_true rfl) (Nat.le_of_ble_eq_true rfl) (htl _ mw_194) (fun _ h9 => h9) dX13_orders_111 ?_
              refine lv_iload_n hx hb dX13_orders_114 rfl (lv_at hl 0 rfl) ?_
              refine lv_aload_n hx hb dX13_orders_115 rfl (lv_at hl 2 rfl) ?_
              refine mz_getR hx hb htl hown hK hM 7 (Nat.le_of_ble_eq_true rfl) (Nat.le_of_ble_eq_true rfl) (htl _ mw_192) (fun _ h9 => h9) dX13_orders_116 ?_
              refine lv_iload_n hx hb dX13_orders_119 rfl (lv_at hl 0 rfl) ?_
              refine mz_iald hx hb hK hM 7 (Nat.le_of_ble_eq_true rfl) rfl (nn := 16) rfl rfl (by omega) (by omega) dX13_orders_120 (fun v117391 e_v117391 => ?_)
              have hq_v117391 := tk_rng v117391
              have he_v117391 : 0 ≤ v117391.toInt ∧ v117391.toInt ≤ 3 := mz_elg (n := 16) (hIR.at 7) e_v117391 rfl (by omega) (by omega)
              refine mz_iast (x := v117391) hx hb hK hD hM hS 10 (Nat.le_of_ble_eq_true rfl) rfl (nn := 16) rfl rfl (by omega) (by omega) dX13_orders_121 (fun H locs R hM hS hw9 hj9 => ?_)
              have hIR := hIR.put hw9 hj9 (mz_elp (hIR.at 10) (show 0 ≤ (v117391 : Int32).toInt by omega) (show (v117391 : Int32).toInt ≤ 3 by omega))
              have hRR := mz_frp (K := [2, 3, 6, 7, 9, 10, 24, 25, 27, 28, 42, 61]) (Fa := Ra) hj9 hRR (by decide)
              have hre_24 : R 24 = co9 := (hj9 24 (by decide)).trans hre_24
              have hre_25 : R 25 = ca9 := (hj9 25 (by decide)).trans hre_25
              have hre_61 : R 61 = cl9 := (hj9 61 (by decide)).trans hre_61
              have e_v117391 : R 7 (v113584 : Int32).toNatClampNeg = _ := (congrFun (hj9 7 (by decide)) _).trans e_v117391
              obtain ⟨v117393, h_v117393, e_v117393⟩ := tk_inc v113584 1 (by decide) (by omega) (by omega)
              refine lv_iinc (v := v117393) (lv' := [(2, .int v117393), (1, .int v103389), (0, .ref am)]) hx hb dX13_orders_122 hl (k := 0) rfl e_v117393 (by decide) rfl (fun ls hl => ?_)
              refine lv_goto (tgt := 104) hx hb dX13_orders_125 (by decide) ?_
              exact ih_l116481 v117393 _ _ _ (by omega) (by omega) hM hS hIR hRR hre_24 hre_25 hre_61 (by omega) _ (lv_sub hl [0, 1, 2] rfl)
        have hk_0 : (0 : Int32).toInt = 0 := by decide
        exact hl116481 17 0 _ _ _ (by omega) (by omega) hM hS hIR hRR hre_24 hre_25 hre_61 (by omega) _ (lv_sub hl [0, 1, 2] rfl)
      · have hc113583 : ¬ (832 ≤ v103390.toInt) := fun h9 => c9 ((fi_le (show (832 : Int32).toInt = 832 by decide) rfl).mpr h9)
        refine lv_aload_n hx hb dX13_orders_84 rfl (lv_at hl 2 rfl) ?_
        refine mz_getR hx hb htl hown hK hM 9 (Nat.le_of_ble_eq_true rfl) (Nat.le_of_ble_eq_true rfl) (htl _ mw_193) (fun _ h9 => h9) dX13_orders_85 ?_
        refine lv_iload_n hx hb dX13_orders_88 rfl (lv_at hl 0 rfl) ?_
        refine lv_aload_n hx hb dX13_orders_89 rfl (lv_at hl 2 rfl) ?_
        refine mz_getR hx hb htl hown hK hM 6 (Nat.le_of_ble_eq_true rfl) (Nat.le_of_ble_eq_true rfl) (htl _ mw_191) (fun _ h9 => h9) dX13_orders_90 ?_
        refine lv_iload_n hx hb dX13_orders_93 rfl (lv_at hl 0 rfl) ?_
        refine mz_iald hx hb hK hM 6 (Nat.le_of_ble_eq_true rfl) rfl (nn := 1196) rfl rfl (by omega) (by omega) dX13_orders_94 (fun v117394 e_v117394 => ?_)
        have hq_v117394 := tk_rng v117394
        refine mz_iast (x := v117394) hx hb hK hD hM hS 9 (Nat.le_of_ble_eq_true rfl) rfl (nn := 832) rfl rfl (by omega) (by omega) dX13_orders_95 (fun H locs R hM hS hw9 hj9 => ?_)
        have hIR := hIR.putX hj9 (by decide)
        have hcp := mz_cps (sp := 0) (dp := 0) (n := v103390.toInt.toNat) hw9 hcp (by omega) (by rw [← e_v117394, hcs]; congr 1; have h9 := tk_nat (i := v103390) rfl (by omega); omega)
        have hcs := (hj9 6 (by decide)).trans hcs
        have hRR := mz_frp (K := [2, 3, 6, 7, 9, 10, 24, 25, 27, 28, 42, 61]) (Fa := Ra) hj9 hRR (by decide)
        have hre_24 : R 24 = co9 := (hj9 24 (by decide)).trans hre_24
        have hre_25 : R 25 = ca9 := (hj9 25 (by decide)).trans hre_25
        have hre_61 : R 61 = cl9 := (hj9 61 (by decide)).trans hre_61
        have e_v117394 : R 6 (v103390 : Int32).toNatClampNeg = _ := (congrFun (hj9 6 (by decide)) _).trans e_v117394
        obtain ⟨v117396, h_v117396, e_v117396⟩ := tk_inc v103390 1 (by decide) (by omega) (by omega)
        refine lv_iinc (v := v117396) (lv' := [(2, .int v117396), (1, .int v103389), (0, .ref am)]) hx hb dX13_orders_96 hl (k := 0) rfl e_v117396 (by decide) rfl (fun ls hl => ?_)
        refine lv_goto (tgt := 77) hx hb dX13_orders_99 (by decide) ?_
        exact ih_l113582 v117396 _ _ _ (by omega) (by omega) hM hS hIR hRR hre_24 hre_25 hre_61 (by rw [show v117396.toInt.toNat = v103390.toInt.toNat + 1 by omega]; exact hcp) hcs (by omega) _ (lv_sub hl [0, 1, 2] rfl)
  have hk_0 : (0 : Int32).toInt = 0 := by decide
  exact hl113582 999 0 _ _ _ (by omega) (by omega) hM hS hIR hRR hre_24 hre_25 hre_61 (by rw [show (0 : Int32).toInt.toNat = 0 by decide, mz_cp0]; exact ecg) ecf (by omega) _ (lv_sub hl [0, 1, 2] rfl)
set_option maxHeartbeats 4000000 in
set_option maxRecDepth 100000 in
theorem k_X13_orders (l : Launch) (D : va_G) (cy : Nat → ClassId) (ld ad : Nat → Nat) (am : Nat) (hD : mz_D ad am) (Fa : Nat → Int32) (Ga : Nat → Int64) (Ra : Nat → Nat → Int32) (Sa : Nat → Nat → Int64) (hIF : mz_IF true Fa) (hIG : mz_IG Ga) (hIR : mz_IR [] true Ra) : Met l yX13_orders (wl yX13_orders cX13_orders 4 (some .int)) ({ frames := 13, cells := 0, slots := 0, locals := 840 }) (mz_p D cy ld ad am Fa Ga Ra Sa [.ref am]) (mz_i D cy ad am (fun r F G R S => mz_IF true F ∧ mz_IG G ∧ mz_IR [] true R ∧ (∀ k : Nat, k ∉ ([0, 1, 8, 13, 14, 15, 16, 18, 19, 20, 21, 23, 26, 29, 30, 34, 38, 41, 62, 63, 64, 65] : List Nat) → F k = Fa k) ∧ (∀ k : Nat, k ∉ ([2, 3, 6, 7, 9, 10, 24, 25, 27, 28, 42, 61] : List Nat) → R k = Ra k) ∧ (∀ k : Nat, k ∉ ([17, 39, 40] : List Nat) → G k = Ga k) ∧ (-6) ≤ r.toInt ∧ r.toInt ≤ 255)) 0 0 (mz_W ad am) := by
  refine mz_met (y := yX13_orders) (cc := cX13_orders) (maxL := 4) (ret := (some .int)) (av := [.ref am]) _ (by decide) (Nat.le_of_ble_eq_true rfl) ?_
  intro p e s m args below meth c hx hb hr hml hts htl hown hlocks hK H locs hM hS ls hl
  have hown : s.vm.findClass RX13 = some m.cls := hown
  have hl : lv_has ls 4 [(0, .ref am)] := hl
  refine lv_aload_n hx hb dX13_orders_0 rfl (lv_at hl 0 rfl) ?_
  refine lv_iconst (v := 0) hx hb dX13_orders_1 (by decide) ?_
  have hk_0 : (0 : Int32).toInt = 0 := by decide
  refine mz_putI (ty := .int) (x := 0) hx hb htl hown hK hD hM hS 0 (Nat.le_of_ble_eq_true rfl) rfl (htl _ mw_286) (fun _ h9 => h9) rfl (tyX13_ok 0 (by decide)) rfl rfl dX13_orders_2 (fun H locs F hM hS hf9 hj9 => ?_)
  have hIF := hIF.put hf9 hj9 (tk_rng _).1 (tk_rng _).2 (by decide)
  have hFF := mz_frp (K := [0, 1, 8, 13, 14, 15, 16, 18, 19, 20, 21, 23, 26, 29, 30, 34, 38, 41, 62, 63, 64, 65]) (Fa := Fa) hj9 (fun _ _ => rfl) (by decide)
  have hf2 := hf9
  refine lv_aload_n hx hb dX13_orders_5 rfl (lv_at hl 0 rfl) ?_
  refine lv_iconst (v := (-1)) hx hb dX13_orders_6 (by decide) ?_
  have hk_m1 : ((-1) : Int32).toInt = (-1) := by decide
  refine mz_putI (ty := .int) (x := (-1)) hx hb htl hown hK hD hM hS 64 (Nat.le_of_ble_eq_true rfl) rfl (htl _ mw_240) (fun _ h9 => h9) rfl (tyX13_ok 64 (by decide)) rfl rfl dX13_orders_7 (fun H locs F hM hS hf9 hj9 => ?_)
  have hIF := hIF.put hf9 hj9 (tk_rng _).1 (tk_rng _).2 (by decide)
  have hFF := mz_frp (K := [0, 1, 8, 13, 14, 15, 16, 18, 19, 20, 21, 23, 26, 29, 30, 34, 38, 41, 62, 63, 64, 65]) (Fa := Fa) hj9 hFF (by decide)
  have hf2 := (hj9 0 (by decide)).trans hf2
  have hf4 := hf9
  refine lv_aload_n hx hb dX13_orders_10 rfl (lv_at hl 0 rfl) ?_
  refine lv_iconst (v := 1) hx hb dX13_orders_11 (by decide) ?_
  obtain ⟨v6, hf5⟩ : ∃ z : Int32, F 13 = z := ⟨_, rfl⟩
  have hq_v6 := tk_rng v6
  have hr_v6 : 0 ≤ v6.toInt ∧ v6.toInt ≤ 400 := hIF.at hf5
  have hk_1 : (1 : Int32).toInt = 1 := by decide
  refine mz_Vv (As := [.int 1]) (rest := []) ⟨hx, hb, hml, hown, hts⟩ hK hM hS (k_X13_beginText l D cy ld ad am hD _ _ _ _ 1 v6 hIF hIG hIR hf5 (by omega) (by omega)) ⟨callB_of 1 hts (wl_in mw_674) rfl rfl rfl (htl _ mw_5) (htl _ mw_671) hd_yX13_beginText ⟨(Nat.le_of_ble_eq_true rfl), (Nat.le_of_ble_eq_true rfl)⟩, htl _ mw_672, htl _ mw_673⟩ rfl hl.1 rfl (Nat.le_of_ble_eq_true rfl) dX13_orders_12 ⟨(Nat.le_of_ble_eq_true rfl), (Nat.le_of_ble_eq_true rfl)⟩ (fun H locs F G R S hpo hM hS => ?_)
  obtain ⟨hIF, hIG, hIR, hfr9, hrr9, hgr9, hpo10, hpo11, hpo12, hpo13, hpo14, hpo15, hpo16⟩ := hpo
  have hFF := mz_fr (K := [0, 1, 8, 13, 14, 15, 16, 18, 19, 20, 21, 23, 26, 29, 30, 34, 38, 41, 62, 63, 64, 65]) (Fa := Fa) hfr9 hFF (by decide)
  have hRR := mz_fr (K := [2, 3, 6, 7, 9, 10, 24, 25, 27, 28, 42, 61]) (Fa := Ra) hrr9 (fun _ _ => rfl) (by decide)
  have hGG := mz_fr (K := [17, 39, 40]) (Fa := Ga) hgr9 (fun _ _ => rfl) (by decide)
  have hf2 := (hfr9 0 (by decide)).trans hf2
  have hf4 := (hfr9 64 (by decide)).trans hf4
  have hf5 := (hfr9 13 (by decide)).trans hf5
  obtain ⟨v19, hf18⟩ : ∃ z : Int32, F 14 = z := ⟨_, rfl⟩
  have hq_v19 := tk_rng v19
  rw [hf18] at hpo10 hpo12 hpo13
  have hr_v19 : 0 ≤ v19.toInt ∧ v19.toInt ≤ 400 := hIF.at hf18
  obtain ⟨v21, hf20⟩ : ∃ z : Int32, F 15 = z := ⟨_, rfl⟩
  have hq_v21 := tk_rng v21
  rw [hf20] at hpo10 hpo11 hpo12 hpo13
  have hr_v21 : 0 ≤ v21.toInt ∧ v21.toInt ≤ 400 := hIF.at hf20
  obtain ⟨v23, hf22⟩ : ∃ z : Int32, F 16 = z := ⟨_, rfl⟩
  have hq_v23 := tk_rng v23
  rw [hf22] at hpo12 hpo13
  have hr_v23 : 0 ≤ v23.toInt ∧ v23.toInt ≤ 3 := hIF.at hf22
  obtain ⟨w25, hf24⟩ : ∃ z : Int64, G 17 = z := ⟨_, rfl⟩
  have hq_w25 := tk_rngL w25
  rw [hf24] at hpo13
  obtain ⟨v27, hf26⟩ : ∃ z : Int32, F 19 = z := ⟨_, rfl⟩
  have hq_v27 := tk_rng v27
  rw [hf26] at hpo14
  have hr_v27 : 0 ≤ v27.toInt ∧ v27.toInt ≤ 1 := hIF.at hf26
  obtain ⟨v29, hf28⟩ : ∃ z : Int32, F 23 = z := ⟨_, rfl⟩
  have hq_v29 := tk_rng v29
  rw [hf28] at hpo15
  have hr_v29 : 0 ≤ v29.toInt ∧ v29.toInt ≤ 400 := hIF.at hf28
  obtain ⟨v31, hf30⟩ : ∃ z : Int32, F 21 = z := ⟨_, rfl⟩
  have hq_v31 := tk_rng v31
  rw [hf30] at hpo16
  have hr_v31 : 0 ≤ v31.toInt ∧ v31.toInt ≤ 12 := hIF.at hf30
  refine lv_aload_n hx hb dX13_orders_15 rfl (lv_at hl 0 rfl) ?_
  refine mz_Vv (As := []) (rest := []) ⟨hx, hb, hml, hown, hts⟩ hK hM hS (k_X13_readOrder l D cy ld ad am hD _ _ _ _ v19 v21 v23 v6 w25 v27 v29 v31 hIF hIG hIR hf18 hf20 hf22 hf5 hf24 hf26 hf28 hf30 (by omega) (by omega) (by omega) (by omega) (by omega) (by omega) (by rw [show v31.toInt = 0 by omega]; exact CLS.none _ _ _ _ _ _) (by rw [show v31.toInt = 0 by omega]; exact TMS.none _)) ⟨callB_of 0 hts (wl_in mw_1014) rfl rfl rfl (htl _ mw_5) (htl _ mw_1011) hd_yX13_readOrder ⟨(Nat.le_of_ble_eq_true rfl), (Nat.le_of_ble_eq_true rfl)⟩, htl _ mw_1012, htl _ mw_1013⟩ rfl hl.1 rfl (Nat.le_of_ble_eq_true rfl) dX13_orders_16 ⟨(Nat.le_of_ble_eq_true rfl), (Nat.le_of_ble_eq_true rfl)⟩ (fun H locs F G R S hpo hM hS => ?_)
  obtain ⟨hIF, hIG, hIR, hfr9, hrr9, hgr9, hpo32, hpo33, hpo34, hpo35, hpo36, hpo37, hpo38, hpo39, hpo40, hx41, hx42⟩ := hpo
  have hFF := mz_fr (K := [0, 1, 8, 13, 14, 15, 16, 18, 19, 20, 21, 23, 26, 29, 30, 34, 38, 41, 62, 63, 64, 65]) (Fa := Fa) hfr9 hFF (by decide)
  have hRR := mz_fr (K := [2, 3, 6, 7, 9, 10, 24, 25, 27, 28, 42, 61]) (Fa := Ra) hrr9 hRR (by decide)
  have hGG := mz_fr (K := [17, 39, 40]) (Fa := Ga) hgr9 hGG (by decide)
  have hf2 := (hfr9 0 (by decide)).trans hf2
  have hf4 := (hfr9 64 (by decide)).trans hf4
  have hf5 := (hfr9 13 (by decide)).trans hf5
  obtain ⟨v45, hf44⟩ : ∃ z : Int32, F 14 = z := ⟨_, rfl⟩
  have hq_v45 := tk_rng v45
  rw [hf44] at hpo32 hpo34 hpo35 hpo36 hpo38 hpo40
  have hr_v45 : 0 ≤ v45.toInt ∧ v45.toInt ≤ 400 := hIF.at hf44
  obtain ⟨v47, hf46⟩ : ∃ z : Int32, F 15 = z := ⟨_, rfl⟩
  have hq_v47 := tk_rng v47
  rw [hf46] at hpo32 hpo33 hpo34 hpo35
  have hr_v47 : 0 ≤ v47.toInt ∧ v47.toInt ≤ 400 := hIF.at hf46
  obtain ⟨v49, hf48⟩ : ∃ z : Int32, F 16 = z := ⟨_, rfl⟩
  have hq_v49 := tk_rng v49
  rw [hf48] at hpo34 hpo35
  have hr_v49 : 0 ≤ v49.toInt ∧ v49.toInt ≤ 3 := hIF.at hf48
  obtain ⟨w51, hf50⟩ : ∃ z : Int64, G 17 = z := ⟨_, rfl⟩
  have hq_w51 := tk_rngL w51
  rw [hf50] at hpo35
  obtain ⟨v53, hf52⟩ : ∃ z : Int32, F 19 = z := ⟨_, rfl⟩
  have hq_v53 := tk_rng v53
  rw [hf52] at hpo39 hpo40
  have hr_v53 : 0 ≤ v53.toInt ∧ v53.toInt ≤ 1 := hIF.at hf52
  obtain ⟨v55, hf54⟩ : ∃ z : Int32, F 23 = z := ⟨_, rfl⟩
  have hq_v55 := tk_rng v55
  rw [hf54] at hpo37 hpo38
  have hr_v55 : 0 ≤ v55.toInt ∧ v55.toInt ≤ 400 := hIF.at hf54
  obtain ⟨v57, hf56⟩ : ∃ z : Int32, F 21 = z := ⟨_, rfl⟩
  have hq_v57 := tk_rng v57
  have hr_v57 : 0 ≤ v57.toInt ∧ v57.toInt ≤ 12 := hIF.at hf56
  have hCL : (F 19).toInt = 0 → CLS 10 [1, 3, 5, 7] (R 24) (R 25) (R 61) (F 23).toInt (F 21).toInt ∧ TMS (R 61) (F 21).toInt := fun h9 => ⟨hx41 h9, hx42 h9⟩
  have hl103363 : ∀ (N_l103363 : Nat) (v20020 : Int32) (v20021 : Int32) (v20022 : Int32) (v20023 : Int64) (v20024 : Int32) (v20025 : Int32) (v20026 : Int32) (H : Heap) (locs : List Loc) (F : Nat → Int32) (G : Nat → Int64) (R : Nat → Nat → Int32) (S : Nat → Nat → Int64), (0 ≤ v20022.toInt) → (v20024.toInt ≤ 1) → (0 ≤ v20026.toInt) → (v20026.toInt ≤ 12) → (0 ≤ v20020.toInt + (-1) * v45.toInt) → (0 ≤ v20021.toInt + (-1) * v47.toInt) → (0 ≤ (-1) * v20022.toInt + v49.toInt) → (0 ≤ v20024.toInt + (-1) * v53.toInt) → (0 ≤ v20025.toInt + (-1) * v55.toInt) → (0 ≤ (-1) * v20020.toInt + v20021.toInt) → (0 ≤ (-1) * v20021.toInt + v6.toInt) → (0 ≤ v20020.toInt + (-1) * v20025.toInt) → (mz_S D cy ad am F G R S H) → (va_S (mz_W ad am) s.heap H locs) → (mz_IF false F) → (mz_IG G) → (mz_IR [] true R) → (∀ k : Nat, k ∉ ([0, 1, 8, 13, 14, 15, 16, 18, 19, 20, 21, 23, 26, 29, 30, 34, 38, 41, 62, 63, 64, 65] : List Nat) → F k = Fa k) → (∀ k : Nat, k ∉ ([17, 39, 40] : List Nat) → G k = Ga k) → (∀ k : Nat, k ∉ ([2, 3, 6, 7, 9, 10, 24, 25, 27, 28, 42, 61] : List Nat) → R k = Ra k) → (F 0 = 0) → (F 64 = (-1)) → (F 13 = v6) → (F 14 = v20020) → (F 15 = v20021) → (F 16 = v20022) → (G 17 = v20023) → (F 19 = v20024) → (F 23 = v20025) → (F 21 = v20026) → ((1 ≤ v20022.toInt → 0 ≤ (-1) * v20020.toInt + v20021.toInt + (-1))) → ((27 ≤ v20023.toInt → 1 ≤ v20022.toInt → v20022.toInt ≤ 1 → 0 ≤ (-1) * v20020.toInt + v20021.toInt + (-2))) → ((F 19).toInt = 0 → CLS 10 [1, 3, 5, 7] (R 24) (R 25) (R 61) (F 23).toInt (F 21).toInt ∧ TMS (R 61) (F 21).toInt) → (mz_me v20024.toInt 0 v20020.toInt < (N_l103363 : Int)) → ∀ ls : Array Slot, lv_has ls 4 [(0, .ref am)] → W p l e ({ frames := 13, cells := 0, slots := 0, locals := 840 }) s m args below meth c H locs 0 0 (MQ below (mz_i D cy ad am (fun r F G R S => mz_IF true F ∧ mz_IG G ∧ mz_IR [] true R ∧ (∀ k : Nat, k ∉ ([0, 1, 8, 13, 14, 15, 16, 18, 19, 20, 21, 23, 26, 29, 30, 34, 38, 41, 62, 63, 64, 65] : List Nat) → F k = Fa k) ∧ (∀ k : Nat, k ∉ ([2, 3, 6, 7, 9, 10, 24, 25, 27, 28, 42, 61] : List Nat) → R k = Ra k) ∧ (∀ k : Nat, k ∉ ([17, 39, 40] : List Nat) → G k = Ga k) ∧ (-6) ≤ r.toInt ∧ r.toInt ≤ 255)) args s 0 0 (mz_W ad am)) (F0 m 19 ls []) := by
    intro N_l103363
    induction N_l103363 with
    | zero => intro v20020 v20021 v20022 v20023 v20024 v20025 v20026 H locs F G R S hq0_l103363 hq1_l103363 hq2_l103363 hq3_l103363 hq4_l103363 hq5_l103363 hq6_l103363 hq7_l103363 hq8_l103363 hq9_l103363 hq10_l103363 hq11_l103363 hM hS hIF hIG hIR hFF hGG hRR hf2 hf4 hf5 hf44 hf46 hf48 hf50 hf52 hf54 hf56 hc0_l103363 hc1_l103363 hCL hm_l103363 ls hl; exfalso; have h9 := mz_me.nn (b := v20024.toInt) (t := 0) (f := v20020.toInt) (by decide) (by omega); omega
    | succ N_l103363 ih_l103363 =>
      intro v20020 v20021 v20022 v20023 v20024 v20025 v20026 H locs F G R S hq0_l103363 hq1_l103363 hq2_l103363 hq3_l103363 hq4_l103363 hq5_l103363 hq6_l103363 hq7_l103363 hq8_l103363 hq9_l103363 hq10_l103363 hq11_l103363 hM hS hIF hIG hIR hFF hGG hRR hf2 hf4 hf5 hf44 hf46 hf48 hf50 hf52 hf54 hf56 hc0_l103363 hc1_l103363 hCL hm_l103363 ls hl
      refine lv_aload_n hx hb dX13_orders_19 rfl (lv_at hl 0 rfl) ?_
      refine mz_getI hx hb htl hown hK hM 19 (Nat.le_of_ble_eq_true rfl) rfl (htl _ mw_668) (fun _ h9 => h9) dX13_orders_20 (fun v9 e9 => ?_)
      refine fx_ti (v := v20024) (e9.symm.trans hf52) ?_
      refine lv_if_ne (tgt := 46) hx hb dX13_orders_23 (by decide) (fun c9 => ?_) (fun c9 => ?_)
      · have hc103364 : ¬ (v20024.toInt = 0) := fun h9 => c9 ((fi_eq rfl (show (0 : Int32).toInt = 0 by decide)).mpr h9)
        refine lv_aload_n hx hb dX13_orders_46 rfl (lv_at hl 0 rfl) ?_
        have hf520 := hf52
        refine mz_Vv (As := []) (rest := []) ⟨hx, hb, hml, hown, hts⟩ hK hM hS (k_X13_endText l D cy ld ad am hD _ _ _ _ v20020 v20021 v20022 v6 v20023 v20024 hIF hIG hIR hf44 hf46 hf48 hf5 hf50 hf52 (by omega) (by omega) (by omega) (by omega)) ⟨callB_of 0 hts (wl_in mw_795) rfl rfl rfl (htl _ mw_5) (htl _ mw_792) hd_yX13_endText ⟨(Nat.le_of_ble_eq_true rfl), (Nat.le_of_ble_eq_true rfl)⟩, htl _ mw_793, htl _ mw_794⟩ rfl hl.1 rfl (Nat.le_of_ble_eq_true rfl) dX13_orders_47 ⟨(Nat.le_of_ble_eq_true rfl), (Nat.le_of_ble_eq_true rfl)⟩ (fun H locs F G R S hpo hM hS => ?_)
        obtain ⟨hIF, hIG, hIR, hfr9, hrr9, hgr9, hpo103365⟩ := hpo
        have hFF := mz_fr (K := [0, 1, 8, 13, 14, 15, 16, 18, 19, 20, 21, 23, 26, 29, 30, 34, 38, 41, 62, 63, 64, 65]) (Fa := Fa) hfr9 hFF (by decide)
        have hRR := mz_fr (K := [2, 3, 6, 7, 9, 10, 24, 25, 27, 28, 42, 61]) (Fa := Ra) hrr9 hRR (by decide)
        have hGG := mz_fr (K := [17, 39, 40]) (Fa := Ga) hgr9 hGG (by decide)
        have hf2 := (hfr9 0 (by decide)).trans hf2
        have hf4 := (hfr9 64 (by decide)).trans hf4
        have hf54 := (hfr9 23 (by decide)).trans hf54
        have hf56 := (hfr9 21 (by decide)).trans hf56
        obtain ⟨v103368, hf103367⟩ : ∃ z : Int32, F 19 = z := ⟨_, rfl⟩
        have hq_v103368 := tk_rng v103368
        rw [hf103367] at hpo103365
        have hr_v103368 : 0 ≤ v103368.toInt ∧ v103368.toInt ≤ 1 := hIF.at hf103367
        have hCL : (F 19).toInt = 0 → CLS 10 [1, 3, 5, 7] (R 24) (R 25) (R 61) (F 23).toInt (F 21).toInt ∧ TMS (R 61) (F 21).toInt := by rw [hf103367, hfr9 23 (by decide), hfr9 21 (by decide), hrr9 24 (by decide), hrr9 25 (by decide), hrr9 61 (by decide)]; exact fun h9 => hCL (by rw [hf520]; omega)
        refine lv_aload_n hx hb dX13_orders_50 rfl (lv_at hl 0 rfl) ?_
        refine mz_getI hx hb htl hown hK hM 19 (Nat.le_of_ble_eq_true rfl) rfl (htl _ mw_668) (fun _ h9 => h9) dX13_orders_51 (fun v9 e9 => ?_)
        refine fx_ti (v := v103368) (e9.symm.trans hf103367) ?_
        refine lv_if_eq (tgt := 64) hx hb dX13_orders_54 (by decide) (fun c9 => absurd (show v103368.toInt = 0 from (fi_eq rfl (show (0 : Int32).toInt = 0 by decide)).mp c9) (by omega)) (fun _ => ?_)
        refine lv_aload_n hx hb dX13_orders_57 rfl (lv_at hl 0 rfl) ?_
        refine lv_bipush (v := (-6)) hx hb dX13_orders_58 (by decide) ?_
        have hk_m6 : ((-6) : Int32).toInt = (-6) := by decide
        refine mz_Vi (As := [.int (-6)]) (rest := []) ⟨hx, hb, hml, hown, hts⟩ hK hM hS (k_X13_tell l D cy ld ad am hD _ _ _ _ (-6) hIF hIG hIR (by omega) (by omega)) ⟨callB_of 1 hts (wl_in mw_296) rfl rfl rfl (htl _ mw_5) (htl _ mw_293) hd_yX13_tell ⟨(Nat.le_of_ble_eq_true rfl), (Nat.le_of_ble_eq_true rfl)⟩, htl _ mw_294, htl _ mw_295⟩ rfl hl.1 rfl (Nat.le_of_ble_eq_true rfl) dX13_orders_60 ⟨(Nat.le_of_ble_eq_true rfl), (Nat.le_of_ble_eq_true rfl)⟩ (fun v103369 H locs F G R S hpo hM hS => ?_)
        obtain ⟨hIF, hIG, hIR, hfr9, hrr9, hgr9, hpo103370⟩ := hpo
        have hq_v103369 := tk_rng v103369
        have hFF := mz_fr (K := [0, 1, 8, 13, 14, 15, 16, 18, 19, 20, 21, 23, 26, 29, 30, 34, 38, 41, 62, 63, 64, 65]) (Fa := Fa) hfr9 hFF (by decide)
        have hRR := mz_fr (K := [2, 3, 6, 7, 9, 10, 24, 25, 27, 28, 42, 61]) (Fa := Ra) hrr9 hRR (by decide)
        have hGG := mz_fr (K := [17, 39, 40]) (Fa := Ga) hgr9 hGG (by decide)
        have hf2 := (hfr9 0 (by decide)).trans hf2
        have hf4 := (hfr9 64 (by decide)).trans hf4
        have hf54 := (hfr9 23 (by decide)).trans hf54
        have hf56 := (hfr9 21 (by decide)).trans hf56
        have hf103367 := (hfr9 19 (by decide)).trans hf103367
        exact mz_iret (v := v103369) hx hb hr rfl hlocks ⟨hIF, hIG, hIR, hFF, hRR, hGG, (by omega), (by omega)⟩ hM hS dX13_orders_63
      · have hc103364 : v20024.toInt = 0 := (fi_eq rfl (show (0 : Int32).toInt = 0 by decide)).mp c9
        have hwk_103372 : 0 ≤ (-1) * v19.toInt + v45.toInt + (-1) := by omega
        refine lv_aload_n hx hb dX13_orders_26 rfl (lv_at hl 0 rfl) ?_
        refine lv_bipush (v := 59) hx hb dX13_orders_27 (by decide) ?_
        have hk_59 : (59 : Int32).toInt = 59 := by decide
        refine mz_Vj (As := [.int 59]) (rest := []) ⟨hx, hb, hml, hown, hts⟩ hK hM hS (k_X13_isSign l D cy ld ad am hD _ _ _ _ 59 v20022 hIF hIG hIR hf48) ⟨callB_of 1 hts (wl_in mw_732) rfl rfl rfl (htl _ mw_5) (htl _ mw_729) hd_yX13_isSign ⟨(Nat.le_of_ble_eq_true rfl), (Nat.le_of_ble_eq_true rfl)⟩, htl _ mw_730, htl _ mw_731⟩ rfl hl.1 rfl (Nat.le_of_ble_eq_true rfl) dX13_orders_29 ⟨(Nat.le_of_ble_eq_true rfl), (Nat.le_of_ble_eq_true rfl)⟩ (fun v103373 H locs hpo hM hS => ?_)
        obtain ⟨hpo103374, hpo103375, hpo103376, hpo103377, hpo103378⟩ := hpo
        have hq_v103373 := tk_rng v103373
        refine lv_if_eq (tgt := 46) hx hb dX13_orders_32 (by decide) (fun c9 => ?_) (fun c9 => ?_)
        · have hc103380 : v103373.toInt = 0 := (fi_eq rfl (show (0 : Int32).toInt = 0 by decide)).mp c9
          refine lv_aload_n hx hb dX13_orders_46 rfl (lv_at hl 0 rfl) ?_
          have hf520 := hf52
          refine mz_Vv (As := []) (rest := []) ⟨hx, hb, hml, hown, hts⟩ hK hM hS (k_X13_endText l D cy ld ad am hD _ _ _ _ v20020 v20021 v20022 v6 v20023 v20024 hIF hIG hIR hf44 hf46 hf48 hf5 hf50 hf52 (by omega) (by omega) (by omega) (by omega)) ⟨callB_of 0 hts (wl_in mw_795) rfl rfl rfl (htl _ mw_5) (htl _ mw_792) hd_yX13_endText ⟨(Nat.le_of_ble_eq_true rfl), (Nat.le_of_ble_eq_true rfl)⟩, htl _ mw_793, htl _ mw_794⟩ rfl hl.1 rfl (Nat.le_of_ble_eq_true rfl) dX13_orders_47 ⟨(Nat.le_of_ble_eq_true rfl), (Nat.le_of_ble_eq_true rfl)⟩ (fun H locs F G R S hpo hM hS => ?_)
          obtain ⟨hIF, hIG, hIR, hfr9, hrr9, hgr9, hpo103381⟩ := hpo
          have hFF := mz_fr (K := [0, 1, 8, 13, 14, 15, 16, 18, 19, 20, 21, 23, 26, 29, 30, 34, 38, 41, 62, 63, 64, 65]) (Fa := Fa) hfr9 hFF (by decide)
          have hRR := mz_fr (K := [2, 3, 6, 7, 9, 10, 24, 25, 27, 28, 42, 61]) (Fa := Ra) hrr9 hRR (by decide)
          have hGG := mz_fr (K := [17, 39, 40]) (Fa := Ga) hgr9 hGG (by decide)
          have hf2 := (hfr9 0 (by decide)).trans hf2
          have hf4 := (hfr9 64 (by decide)).trans hf4
          have hf54 := (hfr9 23 (by decide)).trans hf54
          have hf56 := (hfr9 21 (by decide)).trans hf56
          obtain ⟨v103384, hf103383⟩ : ∃ z : Int32, F 19 = z := ⟨_, rfl⟩
          have hq_v103384 := tk_rng v103384
          rw [hf103383] at hpo103381
          have hr_v103384 : 0 ≤ v103384.toInt ∧ v103384.toInt ≤ 1 := hIF.at hf103383
          have hCL : (F 19).toInt = 0 → CLS 10 [1, 3, 5, 7] (R 24) (R 25) (R 61) (F 23).toInt (F 21).toInt ∧ TMS (R 61) (F 21).toInt := by rw [hf103383, hfr9 23 (by decide), hfr9 21 (by decide), hrr9 24 (by decide), hrr9 25 (by decide), hrr9 61 (by decide)]; exact fun h9 => hCL (by rw [hf520]; omega)
          refine lv_aload_n hx hb dX13_orders_50 rfl (lv_at hl 0 rfl) ?_
          refine mz_getI hx hb htl hown hK hM 19 (Nat.le_of_ble_eq_true rfl) rfl (htl _ mw_668) (fun _ h9 => h9) dX13_orders_51 (fun v9 e9 => ?_)
          refine fx_ti (v := v103384) (e9.symm.trans hf103383) ?_
          refine lv_if_eq (tgt := 64) hx hb dX13_orders_54 (by decide) (fun c9 => ?_) (fun c9 => ?_)
          · have hc103385 : v103384.toInt = 0 := (fi_eq rfl (show (0 : Int32).toInt = 0 by decide)).mp c9
            have hk_0 : (0 : Int32).toInt = 0 := by decide
            have hk_m1 : ((-1) : Int32).toInt = (-1) := by decide
            exact kz_X13_orders_c1 l D cy ld ad am hD Fa Ga Ra Sa hx hb hr hml hts htl hown hlocks hK v103384 v20025 v20026 _ _ _ _ _ _ (by omega) (by omega) (by omega) (by omega) (by omega) (by omega) hM hS hIF hIG hIR hFF hGG hRR hf2 hf4 hf54 hf56 hf103383 hCL _ (lv_sub hl [0] rfl)
          · have hc103385 : ¬ (v103384.toInt = 0) := fun h9 => c9 ((fi_eq rfl (show (0 : Int32).toInt = 0 by decide)).mpr h9)
            refine lv_aload_n hx hb dX13_orders_57 rfl (lv_at hl 0 rfl) ?_
            refine lv_bipush (v := (-6)) hx hb dX13_orders_58 (by decide) ?_
            have hk_m6 : ((-6) : Int32).toInt = (-6) := by decide
            refine mz_Vi (As := [.int (-6)]) (rest := []) ⟨hx, hb, hml, hown, hts⟩ hK hM hS (k_X13_tell l D cy ld ad am hD _ _ _ _ (-6) hIF hIG hIR (by omega) (by omega)) ⟨callB_of 1 hts (wl_in mw_296) rfl rfl rfl (htl _ mw_5) (htl _ mw_293) hd_yX13_tell ⟨(Nat.le_of_ble_eq_true rfl), (Nat.le_of_ble_eq_true rfl)⟩, htl _ mw_294, htl _ mw_295⟩ rfl hl.1 rfl (Nat.le_of_ble_eq_true rfl) dX13_orders_60 ⟨(Nat.le_of_ble_eq_true rfl), (Nat.le_of_ble_eq_true rfl)⟩ (fun v117397 H locs F G R S hpo hM hS => ?_)
            obtain ⟨hIF, hIG, hIR, hfr9, hrr9, hgr9, hpo117398⟩ := hpo
            have hq_v117397 := tk_rng v117397
            have hFF := mz_fr (K := [0, 1, 8, 13, 14, 15, 16, 18, 19, 20, 21, 23, 26, 29, 30, 34, 38, 41, 62, 63, 64, 65]) (Fa := Fa) hfr9 hFF (by decide)
            have hRR := mz_fr (K := [2, 3, 6, 7, 9, 10, 24, 25, 27, 28, 42, 61]) (Fa := Ra) hrr9 hRR (by decide)
            have hGG := mz_fr (K := [17, 39, 40]) (Fa := Ga) hgr9 hGG (by decide)
            have hf2 := (hfr9 0 (by decide)).trans hf2
            have hf4 := (hfr9 64 (by decide)).trans hf4
            have hf54 := (hfr9 23 (by decide)).trans hf54
            have hf56 := (hfr9 21 (by decide)).trans hf56
            have hf103383 := (hfr9 19 (by decide)).trans hf103383
            exact mz_iret (v := v117397) hx hb hr rfl hlocks ⟨hIF, hIG, hIR, hFF, hRR, hGG, (by omega), (by omega)⟩ hM hS dX13_orders_63
        · have hc103380 : ¬ (v103373.toInt = 0) := fun h9 => c9 ((fi_eq rfl (show (0 : Int32).toInt = 0 by decide)).mpr h9)
          have hwk_117400 : v20022.toInt + (-3) = 0 := by omega
          have hwk_117401 : 0 ≤ (-1) * v45.toInt + v47.toInt + (-1) := by omega
          have hwk_117402 : 0 ≤ (-1) * v20020.toInt + v20021.toInt + (-1) := by omega
          refine lv_aload_n hx hb dX13_orders_35 rfl (lv_at hl 0 rfl) ?_
          refine mz_Vv (As := []) (rest := []) ⟨hx, hb, hml, hown, hts⟩ hK hM hS (k_X13_next l D cy ld ad am hD _ _ _ _ v20021 v6 hIF hIG hIR hf46 hf5 (by omega)) ⟨callB_of 0 hts (wl_in mw_685) rfl rfl rfl (htl _ mw_5) (htl _ mw_682) hd_yX13_next ⟨(Nat.le_of_ble_eq_true rfl), (Nat.le_of_ble_eq_true rfl)⟩, htl _ mw_683, htl _ mw_684⟩ rfl hl.1 rfl (Nat.le_of_ble_eq_true rfl) dX13_orders_36 ⟨(Nat.le_of_ble_eq_true rfl), (Nat.le_of_ble_eq_true rfl)⟩ (fun H locs F G R S hpo hM hS => ?_)
          obtain ⟨hIF, hIG, hIR, hfr9, hrr9, hgr9, hpo117403, hpo117404, hpo117405, hpo117406, hpo117407⟩ := hpo
          have hFF := mz_fr (K := [0, 1, 8, 13, 14, 15, 16, 18, 19, 20, 21, 23, 26, 29, 30, 34, 38, 41, 62, 63, 64, 65]) (Fa := Fa) hfr9 hFF (by decide)
          have hRR := mz_fr (K := [2, 3, 6, 7, 9, 10, 24, 25, 27, 28, 42, 61]) (Fa := Ra) hrr9 hRR (by decide)
          have hGG := mz_fr (K := [17, 39, 40]) (Fa := Ga) hgr9 hGG (by decide)
          have hf2 := (hfr9 0 (by decide)).trans hf2
          have hf4 := (hfr9 64 (by decide)).trans hf4
          have hf5 := (hfr9 13 (by decide)).trans hf5
          have hf52 := (hfr9 19 (by decide)).trans hf52
          have hf54 := (hfr9 23 (by decide)).trans hf54
          have hf56 := (hfr9 21 (by decide)).trans hf56
          obtain ⟨v117410, hf117409⟩ : ∃ z : Int32, F 14 = z := ⟨_, rfl⟩
          have hq_v117410 := tk_rng v117410
          rw [hf117409] at hpo117403 hpo117404 hpo117406 hpo117407
          have hr_v117410 : 0 ≤ v117410.toInt ∧ v117410.toInt ≤ 400 := hIF.at hf117409
          obtain ⟨v117412, hf117411⟩ : ∃ z : Int32, F 15 = z := ⟨_, rfl⟩
          have hq_v117412 := tk_rng v117412
          rw [hf117411] at hpo117404 hpo117405 hpo117406 hpo117407
          have hr_v117412 : 0 ≤ v117412.toInt ∧ v117412.toInt ≤ 400 := hIF.at hf117411
          obtain ⟨v117414, hf117413⟩ : ∃ z : Int32, F 16 = z := ⟨_, rfl⟩
          have hq_v117414 := tk_rng v117414
          rw [hf117413] at hpo117406 hpo117407
          have hr_v117414 : 0 ≤ v117414.toInt ∧ v117414.toInt ≤ 3 := hIF.at hf117413
          obtain ⟨w117416, hf117415⟩ : ∃ z : Int64, G 17 = z := ⟨_, rfl⟩
          have hq_w117416 := tk_rngL w117416
          rw [hf117415] at hpo117407
          have hCL : (F 19).toInt = 0 → CLS 10 [1, 3, 5, 7] (R 24) (R 25) (R 61) (F 23).toInt (F 21).toInt ∧ TMS (R 61) (F 21).toInt := by rw [hfr9 19 (by decide), hfr9 23 (by decide), hfr9 21 (by decide), hrr9 24 (by decide), hrr9 25 (by decide), hrr9 61 (by decide)]; exact hCL
          refine lv_aload_n hx hb dX13_orders_39 rfl (lv_at hl 0 rfl) ?_
          refine mz_Vv (As := []) (rest := []) ⟨hx, hb, hml, hown, hts⟩ hK hM hS (k_X13_readOrder l D cy ld ad am hD _ _ _ _ v117410 v117412 v117414 v6 w117416 v20024 v20025 v20026 hIF hIG hIR hf117409 hf117411 hf117413 hf5 hf117415 hf52 hf54 hf56 (by omega) (by omega) (by omega) (by omega) (by omega) (by omega) (by have h9 := (hCL (by rw [hf52]; omega)).1; rw [hf54, hf56] at h9; exact h9) (by have h9 := (hCL (by rw [hf52]; omega)).2; rw [hf56] at h9; exact h9)) ⟨callB_of 0 hts (wl_in mw_1014) rfl rfl rfl (htl _ mw_5) (htl _ mw_1011) hd_yX13_readOrder ⟨(Nat.le_of_ble_eq_true rfl), (Nat.le_of_ble_eq_true rfl)⟩, htl _ mw_1012, htl _ mw_1013⟩ rfl hl.1 rfl (Nat.le_of_ble_eq_true rfl) dX13_orders_40 ⟨(Nat.le_of_ble_eq_true rfl), (Nat.le_of_ble_eq_true rfl)⟩ (fun H locs F G R S hpo hM hS => ?_)
          obtain ⟨hIF, hIG, hIR, hfr9, hrr9, hgr9, hpo117417, hpo117418, hpo117419, hpo117420, hpo117421, hpo117422, hpo117423, hpo117424, hpo117425, hx117426, hx117427⟩ := hpo
          have hFF := mz_fr (K := [0, 1, 8, 13, 14, 15, 16, 18, 19, 20, 21, 23, 26, 29, 30, 34, 38, 41, 62, 63, 64, 65]) (Fa := Fa) hfr9 hFF (by decide)
          have hRR := mz_fr (K := [2, 3, 6, 7, 9, 10, 24, 25, 27, 28, 42, 61]) (Fa := Ra) hrr9 hRR (by decide)
          have hGG := mz_fr (K := [17, 39, 40]) (Fa := Ga) hgr9 hGG (by decide)
          have hf2 := (hfr9 0 (by decide)).trans hf2
          have hf4 := (hfr9 64 (by decide)).trans hf4
          have hf5 := (hfr9 13 (by decide)).trans hf5
          obtain ⟨v117430, hf117429⟩ : ∃ z : Int32, F 14 = z := ⟨_, rfl⟩
          have hq_v117430 := tk_rng v117430
          rw [hf117429] at hpo117417 hpo117419 hpo117420 hpo117421 hpo117423 hpo117425
          have hr_v117430 : 0 ≤ v117430.toInt ∧ v117430.toInt ≤ 400 := hIF.at hf117429
          obtain ⟨v117432, hf117431⟩ : ∃ z : Int32, F 15 = z := ⟨_, rfl⟩
          have hq_v117432 := tk_rng v117432
          rw [hf117431] at hpo117417 hpo117418 hpo117419 hpo117420
          have hr_v117432 : 0 ≤ v117432.toInt ∧ v117432.toInt ≤ 400 := hIF.at hf117431
          obtain ⟨v117434, hf117433⟩ : ∃ z : Int32, F 16 = z := ⟨_, rfl⟩
          have hq_v117434 := tk_rng v117434
          rw [hf117433] at hpo117419 hpo117420
          have hr_v117434 : 0 ≤ v117434.toInt ∧ v117434.toInt ≤ 3 := hIF.at hf117433
          obtain ⟨w117436, hf117435⟩ : ∃ z : Int64, G 17 = z := ⟨_, rfl⟩
          have hq_w117436 := tk_rngL w117436
          rw [hf117435] at hpo117420
          obtain ⟨v117438, hf117437⟩ : ∃ z : Int32, F 19 = z := ⟨_, rfl⟩
          have hq_v117438 := tk_rng v117438
          rw [hf117437] at hpo117424 hpo117425
          have hr_v117438 : 0 ≤ v117438.toInt ∧ v117438.toInt ≤ 1 := hIF.at hf117437
          obtain ⟨v117440, hf117439⟩ : ∃ z : Int32, F 23 = z := ⟨_, rfl⟩
          have hq_v117440 := tk_rng v117440
          rw [hf117439] at hpo117422 hpo117423
          have hr_v117440 : 0 ≤ v117440.toInt ∧ v117440.toInt ≤ 400 := hIF.at hf117439
          obtain ⟨v117442, hf117441⟩ : ∃ z : Int32, F 21 = z := ⟨_, rfl⟩
          have hq_v117442 := tk_rng v117442
          have hr_v117442 : 0 ≤ v117442.toInt ∧ v117442.toInt ≤ 12 := hIF.at hf117441
          have hCL : (F 19).toInt = 0 → CLS 10 [1, 3, 5, 7] (R 24) (R 25) (R 61) (F 23).toInt (F 21).toInt ∧ TMS (R 61) (F 21).toInt := fun h9 => ⟨hx117426 h9, hx117427 h9⟩
          refine lv_goto (tgt := 19) hx hb dX13_orders_43 (by decide) ?_
          exact ih_l103363 v117430 v117432 v117434 w117436 v117438 v117440 v117442 _ _ _ _ _ _ (by omega) (by omega) (by omega) (by omega) (by omega) (by omega) (by omega) (by omega) (by omega) (by omega) (by omega) (by omega) hM hS hIF hIG hIR hFF hGG hRR hf2 hf4 hf5 hf117429 hf117431 hf117433 hf117435 hf117437 hf117439 hf117441 (by omega) (by omega) hCL (mz_me.lt hm_l103363 (by omega) (by decide) (by decide) (by omega) (by omega)) _ (lv_sub hl [0] rfl)
  exact hl103363 2011 v45 v47 v49 w51 v53 v55 v57 _ _ _ _ _ _ (by omega) (by omega) (by omega) (by omega) (by omega) (by omega) (by omega) (by omega) (by omega) (by omega) (by omega) (by omega) hM hS hIF hIG hIR hFF hGG hRR hf2 hf4 hf5 hf44 hf46 hf48 hf50 hf52 hf54 hf56 (by omega) (by omega) hCL (mz_me.le (by omega) (by decide)) _ (lv_sub hl [0] rfl)
