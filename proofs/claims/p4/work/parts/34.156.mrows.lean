theorem hd_yX13_run : yX13_run.cls ≠ "java/lang/invoke/MethodHandle" ∧ yX13_run.cls ≠ "java/lang/invoke/VarHandle" ∧ (parseMethodDescriptor yX13_run.desc).map (fun d => d.parameters.length) = some 1 := by decide +kernel
theorem hd_yX13_giveBack : yX13_giveBack.cls ≠ "java/lang/invoke/MethodHandle" ∧ yX13_giveBack.cls ≠ "java/lang/invoke/VarHandle" ∧ (parseMethodDescriptor yX13_giveBack.desc).map (fun d => d.parameters.length) = some 1 := by decide +kernel
theorem hd_yX13_readOrder : yX13_readOrder.cls ≠ "java/lang/invoke/MethodHandle" ∧ yX13_readOrder.cls ≠ "java/lang/invoke/VarHandle" ∧ (parseMethodDescriptor yX13_readOrder.desc).map (fun d => d.parameters.length) = some 0 := by decide +kernel
theorem dX13_orders_64 : decode cX13_orders 64 = .ok (.aload_n 0, 1) := by decide +kernel
theorem dX13_orders_65 : decode cX13_orders 65 = .ok (.bipush 22, 2) := by decide +kernel
theorem dX13_orders_67 : decode cX13_orders 67 = .ok (.invokevirtual 179, 3) := by decide +kernel
theorem dX13_orders_70 : decode cX13_orders 70 = .ok (.aload_n 0, 1) := by decide +kernel
theorem dX13_orders_71 : decode cX13_orders 71 = .ok (.getfield 176, 3) := by decide +kernel
theorem dX13_orders_74 : decode cX13_orders 74 = .ok (.istore_n 1, 1) := by decide +kernel
theorem dX13_orders_75 : decode cX13_orders 75 = .ok (.iconst 0, 1) := by decide +kernel
theorem dX13_orders_76 : decode cX13_orders 76 = .ok (.istore_n 2, 1) := by decide +kernel
theorem dX13_orders_77 : decode cX13_orders 77 = .ok (.iload_n 2, 1) := by decide +kernel
theorem dX13_orders_78 : decode cX13_orders 78 = .ok (.sipush 832, 3) := by decide +kernel
theorem dX13_orders_81 : decode cX13_orders 81 = .ok (.if_icmp .ge 21, 3) := by decide +kernel
theorem dX13_orders_102 : decode cX13_orders 102 = .ok (.iconst 0, 1) := by decide +kernel
theorem dX13_orders_103 : decode cX13_orders 103 = .ok (.istore_n 2, 1) := by decide +kernel
theorem dX13_orders_104 : decode cX13_orders 104 = .ok (.iload_n 2, 1) := by decide +kernel
theorem dX13_orders_105 : decode cX13_orders 105 = .ok (.bipush 16, 2) := by decide +kernel
theorem dX13_orders_107 : decode cX13_orders 107 = .ok (.if_icmp .ge 21, 3) := by decide +kernel
theorem dX13_orders_128 : decode cX13_orders 128 = .ok (.aload_n 0, 1) := by decide +kernel
theorem dX13_orders_129 : decode cX13_orders 129 = .ok (.iconst 0, 1) := by decide +kernel
theorem dX13_orders_130 : decode cX13_orders 130 = .ok (.putfield 617, 3) := by decide +kernel
theorem dX13_orders_133 : decode cX13_orders 133 = .ok (.aload_n 0, 1) := by decide +kernel
theorem dX13_orders_134 : decode cX13_orders 134 = .ok (.iconst (-1), 1) := by decide +kernel
theorem dX13_orders_135 : decode cX13_orders 135 = .ok (.putfield 620, 3) := by decide +kernel
theorem dX13_orders_138 : decode cX13_orders 138 = .ok (.iconst 0, 1) := by decide +kernel
theorem dX13_orders_139 : decode cX13_orders 139 = .ok (.istore_n 2, 1) := by decide +kernel
theorem dX13_orders_140 : decode cX13_orders 140 = .ok (.iload_n 2, 1) := by decide +kernel
theorem dX13_orders_141 : decode cX13_orders 141 = .ok (.aload_n 0, 1) := by decide +kernel
theorem dX13_orders_142 : decode cX13_orders 142 = .ok (.getfield 369, 3) := by decide +kernel
theorem dX13_orders_145 : decode cX13_orders 145 = .ok (.if_icmp .ge 61, 3) := by decide +kernel
theorem dX13_orders_206 : decode cX13_orders 206 = .ok (.aload_n 0, 1) := by decide +kernel
theorem dX13_orders_207 : decode cX13_orders 207 = .ok (.aload_n 0, 1) := by decide +kernel
theorem dX13_orders_208 : decode cX13_orders 208 = .ok (.getfield 617, 3) := by decide +kernel
theorem dX13_orders_211 : decode cX13_orders 211 = .ok (.invokevirtual 183, 3) := by decide +kernel
theorem dX13_orders_214 : decode cX13_orders 214 = .ok (.ireturn, 1) := by decide +kernel
theorem dX13_orders_148 : decode cX13_orders 148 = .ok (.iconst 0, 1) := by decide +kernel
theorem dX13_orders_149 : decode cX13_orders 149 = .ok (.istore_n 3, 1) := by decide +kernel
theorem dX13_orders_150 : decode cX13_orders 150 = .ok (.iload_n 3, 1) := by decide +kernel
theorem dX13_orders_151 : decode cX13_orders 151 = .ok (.aload_n 0, 1) := by decide +kernel
theorem dX13_orders_152 : decode cX13_orders 152 = .ok (.getfield 149, 3) := by decide +kernel
theorem dX13_orders_155 : decode cX13_orders 155 = .ok (.bipush 10, 2) := by decide +kernel
theorem dX13_orders_157 : decode cX13_orders 157 = .ok (.iload_n 2, 1) := by decide +kernel
theorem dX13_orders_158 : decode cX13_orders 158 = .ok (.imul, 1) := by decide +kernel
theorem dX13_orders_159 : decode cX13_orders 159 = .ok (.bipush 9, 2) := by decide +kernel
theorem dX13_orders_161 : decode cX13_orders 161 = .ok (.iadd, 1) := by decide +kernel
theorem dX13_orders_162 : decode cX13_orders 162 = .ok (.iaload, 1) := by decide +kernel
theorem dX13_orders_163 : decode cX13_orders 163 = .ok (.if_icmp .ge 37, 3) := by decide +kernel
theorem dX13_orders_200 : decode cX13_orders 200 = .ok (.iinc 2 1, 3) := by decide +kernel
theorem dX13_orders_203 : decode cX13_orders 203 = .ok (.goto (-63), 3) := by decide +kernel
theorem dX13_orders_166 : decode cX13_orders 166 = .ok (.aload_n 0, 1) := by decide +kernel
theorem dX13_orders_167 : decode cX13_orders 167 = .ok (.bipush 10, 2) := by decide +kernel
theorem dX13_orders_169 : decode cX13_orders 169 = .ok (.iload_n 2, 1) := by decide +kernel
theorem dX13_orders_170 : decode cX13_orders 170 = .ok (.imul, 1) := by decide +kernel
theorem dX13_orders_171 : decode cX13_orders 171 = .ok (.invokevirtual 629, 3) := by decide +kernel
theorem dX13_orders_174 : decode cX13_orders 174 = .ok (.ifCond .ge 20, 3) := by decide +kernel
theorem dX13_orders_194 : decode cX13_orders 194 = .ok (.iinc 3 1, 3) := by decide +kernel
theorem dX13_orders_197 : decode cX13_orders 197 = .ok (.goto (-47), 3) := by decide +kernel
theorem dX13_orders_177 : decode cX13_orders 177 = .ok (.aload_n 0, 1) := by decide +kernel
theorem dX13_orders_178 : decode cX13_orders 178 = .ok (.iload_n 1, 1) := by decide +kernel
theorem dX13_orders_179 : decode cX13_orders 179 = .ok (.invokevirtual 632, 3) := by decide +kernel
theorem dX13_orders_182 : decode cX13_orders 182 = .ok (.aload_n 0, 1) := by decide +kernel
theorem dX13_orders_183 : decode cX13_orders 183 = .ok (.iload_n 2, 1) := by decide +kernel
theorem dX13_orders_184 : decode cX13_orders 184 = .ok (.putfield 152, 3) := by decide +kernel
theorem dX13_orders_187 : decode cX13_orders 187 = .ok (.aload_n 0, 1) := by decide +kernel
theorem dX13_orders_188 : decode cX13_orders 188 = .ok (.bipush (-3), 2) := by decide +kernel
theorem dX13_orders_190 : decode cX13_orders 190 = .ok (.invokevirtual 183, 3) := by decide +kernel
theorem dX13_orders_193 : decode cX13_orders 193 = .ok (.ireturn, 1) := by decide +kernel
theorem dX13_orders_110 : decode cX13_orders 110 = .ok (.aload_n 0, 1) := by decide +kernel
theorem dX13_orders_111 : decode cX13_orders 111 = .ok (.getfield 32, 3) := by decide +kernel
theorem dX13_orders_114 : decode cX13_orders 114 = .ok (.iload_n 2, 1) := by decide +kernel
theorem dX13_orders_115 : decode cX13_orders 115 = .ok (.aload_n 0, 1) := by decide +kernel
theorem dX13_orders_116 : decode cX13_orders 116 = .ok (.getfield 26, 3) := by decide +kernel
theorem dX13_orders_119 : decode cX13_orders 119 = .ok (.iload_n 2, 1) := by decide +kernel
theorem dX13_orders_120 : decode cX13_orders 120 = .ok (.iaload, 1) := by decide +kernel
theorem dX13_orders_121 : decode cX13_orders 121 = .ok (.iastore, 1) := by decide +kernel
theorem dX13_orders_122 : decode cX13_orders 122 = .ok (.iinc 2 1, 3) := by decide +kernel
theorem dX13_orders_125 : decode cX13_orders 125 = .ok (.goto (-21), 3) := by decide +kernel
theorem dX13_orders_84 : decode cX13_orders 84 = .ok (.aload_n 0, 1) := by decide +kernel
theorem dX13_orders_85 : decode cX13_orders 85 = .ok (.getfield 29, 3) := by decide +kernel
theorem dX13_orders_88 : decode cX13_orders 88 = .ok (.iload_n 2, 1) := by decide +kernel
theorem dX13_orders_89 : decode cX13_orders 89 = .ok (.aload_n 0, 1) := by decide +kernel
theorem dX13_orders_90 : decode cX13_orders 90 = .ok (.getfield 23, 3) := by decide +kernel
theorem dX13_orders_93 : decode cX13_orders 93 = .ok (.iload_n 2, 1) := by decide +kernel
theorem dX13_orders_94 : decode cX13_orders 94 = .ok (.iaload, 1) := by decide +kernel
theorem dX13_orders_95 : decode cX13_orders 95 = .ok (.iastore, 1) := by decide +kernel
theorem dX13_orders_96 : decode cX13_orders 96 = .ok (.iinc 2 1, 3) := by decide +kernel
theorem dX13_orders_99 : decode cX13_orders 99 = .ok (.goto (-22), 3) := by decide +kernel
theorem dX13_orders_0 : decode cX13_orders 0 = .ok (.aload_n 0, 1) := by decide +kernel
theorem dX13_orders_1 : decode cX13_orders 1 = .ok (.iconst 0, 1) := by decide +kernel
theorem dX13_orders_2 : decode cX13_orders 2 = .ok (.putfield 170, 3) := by decide +kernel
theorem dX13_orders_5 : decode cX13_orders 5 = .ok (.aload_n 0, 1) := by decide +kernel
theorem dX13_orders_6 : decode cX13_orders 6 = .ok (.iconst (-1), 1) := by decide +kernel
theorem dX13_orders_7 : decode cX13_orders 7 = .ok (.putfield 152, 3) := by decide +kernel
theorem dX13_orders_10 : decode cX13_orders 10 = .ok (.aload_n 0, 1) := by decide +kernel
theorem dX13_orders_11 : decode cX13_orders 11 = .ok (.iconst 1, 1) := by decide +kernel
theorem dX13_orders_12 : decode cX13_orders 12 = .ok (.invokevirtual 377, 3) := by decide +kernel
theorem dX13_orders_15 : decode cX13_orders 15 = .ok (.aload_n 0, 1) := by decide +kernel
theorem dX13_orders_16 : decode cX13_orders 16 = .ok (.invokevirtual 626, 3) := by decide +kernel
theorem dX13_orders_19 : decode cX13_orders 19 = .ok (.aload_n 0, 1) := by decide +kernel
theorem dX13_orders_20 : decode cX13_orders 20 = .ok (.getfield 236, 3) := by decide +kernel
theorem dX13_orders_23 : decode cX13_orders 23 = .ok (.ifCond .ne 23, 3) := by decide +kernel
theorem dX13_orders_46 : decode cX13_orders 46 = .ok (.aload_n 0, 1) := by decide +kernel
theorem dX13_orders_47 : decode cX13_orders 47 = .ok (.invokevirtual 383, 3) := by decide +kernel
theorem dX13_orders_50 : decode cX13_orders 50 = .ok (.aload_n 0, 1) := by decide +kernel
theorem dX13_orders_51 : decode cX13_orders 51 = .ok (.getfield 236, 3) := by decide +kernel
theorem dX13_orders_54 : decode cX13_orders 54 = .ok (.ifCond .eq 10, 3) := by decide +kernel
theorem dX13_orders_57 : decode cX13_orders 57 = .ok (.aload_n 0, 1) := by decide +kernel
theorem dX13_orders_58 : decode cX13_orders 58 = .ok (.bipush (-6), 2) := by decide +kernel
theorem dX13_orders_60 : decode cX13_orders 60 = .ok (.invokevirtual 183, 3) := by decide +kernel
theorem dX13_orders_63 : decode cX13_orders 63 = .ok (.ireturn, 1) := by decide +kernel
theorem dX13_orders_26 : decode cX13_orders 26 = .ok (.aload_n 0, 1) := by decide +kernel
theorem dX13_orders_27 : decode cX13_orders 27 = .ok (.bipush 59, 2) := by decide +kernel
theorem dX13_orders_29 : decode cX13_orders 29 = .ok (.invokevirtual 309, 3) := by decide +kernel
theorem dX13_orders_32 : decode cX13_orders 32 = .ok (.ifCond .eq 14, 3) := by decide +kernel
theorem dX13_orders_35 : decode cX13_orders 35 = .ok (.aload_n 0, 1) := by decide +kernel
theorem dX13_orders_36 : decode cX13_orders 36 = .ok (.invokevirtual 240, 3) := by decide +kernel
theorem dX13_orders_39 : decode cX13_orders 39 = .ok (.aload_n 0, 1) := by decide +kernel
theorem dX13_orders_40 : decode cX13_orders 40 = .ok (.invokevirtual 626, 3) := by decide +kernel
theorem dX13_orders_43 : decode cX13_orders 43 = .ok (.goto (-24), 3) := by decide +kernel
set_option maxHeartbeats 4000000 in
set_option maxRecDepth 100000 in
theorem kz_X13_orders_c1 (l : Launch) (D : va_G) (cy : Nat → ClassId) (ld ad : Nat → Nat) (am : Nat) (hD : mz_D ad am) (Fa : Nat → Int32) (Ga : Nat → Int64) (Ra : Nat → Nat → Int32) (Sa : Nat → Nat → Int64) {p : Program} {e : Env} {s : State} {m : MethodId} {args : Array Value} {below : List Frame} {meth : Method} {c : Code} (hx : p.tables.exec = Jvm.exec) (hb : c.code = cX13_orders) (hr : meth.sig.returnType = (some .int)) (hml : c.maxLocals = 4) (hts : ∀ w ∈ wl yX13_orders cX13_orders 4 (some .int), w.before args s = true) (htl : ∀ w ∈ wsA, w.before args s = true) (hown : s.vm.findClass RX13 = some m.cls) (hlocks : meth.locks = false) (hK : kk_K D cy ld s) (v103436 : Int32) (v103438 : Int32) (v20037 : Int32) (v20038 : Int32) (H : Heap) (locs : List Loc) (F : Nat → Int32) (G : Nat → Int64) (R : Nat → Nat → Int32) (S : Nat → Nat → Int64) (hq0_kz_X13_orders_c1 : 0 ≤ v103436.toInt) (hq1_kz_X13_orders_c1 : v103436.toInt ≤ 0) (hq2_kz_X13_orders_c1 : 0 ≤ v103438.toInt) (hq3_kz_X13_orders_c1 : v103438.toInt ≤ 0) (hq4_kz_X13_orders_c1 : 0 ≤ v20037.toInt) (hq5_kz_X13_orders_c1 : v20037.toInt ≤ 400) (hq6_kz_X13_orders_c1 : 0 ≤ v20038.toInt) (hq7_kz_X13_orders_c1 : v20038.toInt ≤ 12) (hM : mz_S D cy ad am F G R S H) (hS : va_S (mz_W ad am) s.heap H locs) (hIF : mz_IF true F) (hIG : mz_IG G) (hIR : mz_IR [] true R) (hFF : ∀ k : Nat, k ∉ ([0, 1, 8, 13, 14, 15, 16, 18, 19, 20, 21, 23, 26, 29, 30, 34, 38, 41, 62, 63, 64, 65] : List Nat) → F k = Fa k) (hGG : ∀ k : Nat, k ∉ ([17, 39, 40] : List Nat) → G k = Ga k) (hRR : ∀ k : Nat, k ∉ ([2, 3, 6, 7, 9, 10, 24, 25, 27, 28, 42, 61] : List Nat) → R k = Ra k) (hrel : rK1 (Ra 3) (R 3)) (hf2 : F 0 = 0) (hf4 : F 64 = (-1)) (hf54 : F 23 = v20037) (hf56 : F 21 = v20038) (hf103435 : F 19 = v103436) (hf103437 : F 13 = v103438) (hCL : (F 19).toInt = 0 → CLS 10 [1, 3, 5, 7] (R 24) (R 25) (R 61) (F 23).toInt (F 21).toInt ∧ TMS (R 61) (F 21).toInt) (ls : Array Slot) (hl : lv_has ls 4 [(0, .ref am)]) : W p l e ({ frames := 13, cells := 0, slots := 0, locals := 840 }) s m args below meth c H locs 0 0 (MQ below (mz_i D cy ad am (fun r F G R S => mz_IF true F ∧ mz_IG G ∧ mz_IR [] true R ∧ (∀ k : Nat, k ∉ ([0, 1, 8, 13, 14, 15, 16, 18, 19, 20, 21, 23, 26, 29, 30, 34, 38, 41, 62, 63, 64, 65] : List Nat) → F k = Fa k) ∧ (∀ k : Nat, k ∉ ([2, 3, 6, 7, 9, 10, 24, 25, 27, 28, 42, 61] : List Nat) → R k = Ra k) ∧ (∀ k : Nat, k ∉ ([17, 39, 40] : List Nat) → G k = Ga k) ∧ rK1 (Ra 3) (R 3) ∧ (F 13).toInt = 0 ∧ (-6) ≤ r.toInt ∧ r.toInt ≤ 255)) args s 0 0 (mz_W ad am)) (F0 m 64 ls []) := by
  have hq_v103436 := tk_rng v103436
  have hq_v103438 := tk_rng v103438
  have hq_v20037 := tk_rng v20037
  have hq_v20038 := tk_rng v20038
  have hr_v20037 : 0 ≤ v20037.toInt ∧ v20037.toInt ≤ 400 := hIF.at hf54
  have hr_v20038 : 0 ≤ v20038.toInt ∧ v20038.toInt ≤ 12 := hIF.at hf56
  have hr_v103436 : 0 ≤ v103436.toInt ∧ v103436.toInt ≤ 1 := hIF.at hf103435
  have hr_v103438 : 0 ≤ v103438.toInt ∧ v103438.toInt ≤ 400 := hIF.at hf103437
  refine lv_aload_n hx hb dX13_orders_64 rfl (lv_at hl 0 rfl) ?_
  have hCL9 := hCL (by rw [hf103435]; omega)
  rw [hf54, hf56] at hCL9
  obtain ⟨co9, hre_24⟩ : ∃ z : Nat → Int32, R 24 = z := ⟨_, rfl⟩
  obtain ⟨ca9, hre_25⟩ : ∃ z : Nat → Int32, R 25 = z := ⟨_, rfl⟩
  obtain ⟨cl9, hre_61⟩ : ∃ z : Nat → Int32, R 61 = z := ⟨_, rfl⟩
  rw [hre_24, hre_25, hre_61] at hCL9
  refine lv_bipush (v := 22) hx hb dX13_orders_65 (by decide) ?_
  have hk_22 : (22 : Int32).toInt = 22 := by decide
  refine mz_Vv (As := [.int 22]) (rest := []) ⟨hx, hb, hml, hown, hts⟩ hK hM hS (k_X13_keepAll l D cy ld ad am hD _ _ _ _ 22 hIF hIG hIR (by omega) (by omega)) ⟨callB_of 1 hts (wl_in mw_1033) rfl rfl rfl (htl _ mw_5) (htl _ mw_1030) hd_yX13_keepAll ⟨(Nat.le_of_ble_eq_true rfl), (Nat.le_of_ble_eq_true rfl)⟩, htl _ mw_1031, htl _ mw_1032⟩ rfl hl.1 rfl (Nat.le_of_ble_eq_true rfl) dX13_orders_67 ⟨(Nat.le_of_ble_eq_true rfl), (Nat.le_of_ble_eq_true rfl)⟩ (fun H locs F G R S hpo hM hS => ?_)
  obtain ⟨hIF, hIG, hIR, hfr9, hrr9, hgr9⟩ := hpo
  have hFF := mz_fr (K := [0, 1, 8, 13, 14, 15, 16, 18, 19, 20, 21, 23, 26, 29, 30, 34, 38, 41, 62, 63, 64, 65]) (Fa := Fa) hfr9 hFF (by decide)
  have hRR := mz_fr (K := [2, 3, 6, 7, 9, 10, 24, 25, 27, 28, 42, 61]) (Fa := Ra) hrr9 hRR (by decide)
  have hGG := mz_fr (K := [17, 39, 40]) (Fa := Ga) hgr9 hGG (by decide)
  have hrel : rK1 (Ra 3) (R 3) := hrel.trans (rK1.refl (hrr9 3 (by decide)))
  have hre_24 : R 24 = co9 := (hrr9 24 (by decide)).trans hre_24
  have hre_25 : R 25 = ca9 := (hrr9 25 (by decide)).trans hre_25
  have hre_61 : R 61 = cl9 := (hrr9 61 (by decide)).trans hre_61
  have hf2 := (hfr9 0 (by decide)).trans hf2
  have hf4 := (hfr9 64 (by decide)).trans hf4
  have hf54 := (hfr9 23 (by decide)).trans hf54
  have hf56 := (hfr9 21 (by decide)).trans hf56
  have hf103435 := (hfr9 19 (by decide)).trans hf103435
  have hf103437 := (hfr9 13 (by decide)).trans hf103437
  refine lv_aload_n hx hb dX13_orders_70 rfl (lv_at hl 0 rfl) ?_
  refine mz_getI hx hb htl hown hK hM 8 (Nat.le_of_ble_eq_true rfl) rfl (htl _ mw_289) (fun _ h9 => h9) dX13_orders_71 (fun v103443 hf103442 => ?_)
  have hq_v103443 := tk_rng v103443
  have hr_v103443 : 0 ≤ v103443.toInt ∧ v103443.toInt ≤ 16 := hIF.at hf103442
  refine lv_istore_n (lv' := [(1, .int v103443), (0, .ref am)]) hx hb dX13_orders_74 rfl hl (by decide) rfl (fun ls hl => ?_)
  refine lv_iconst (v := 0) hx hb dX13_orders_75 (by decide) ?_
  refine lv_istore_n (lv' := [(2, .int 0), (1, .int v103443), (0, .ref am)]) hx hb dX13_orders_76 rfl hl (by decide) rfl (fun ls hl => ?_)
  have hI9 := hIR
  have hIR := hIR.hole (X := [9])
  obtain ⟨cf, ecf⟩ : ∃ z : Nat → Int32, R 6 = z := ⟨_, rfl⟩
  obtain ⟨cg, ecg⟩ : ∃ z : Nat → Int32, R 9 = z := ⟨_, rfl⟩
  have hl113636 : ∀ (N_l113636 : Nat) (v103444 : Int32) (H : Heap) (locs : List Loc) (R : Nat → Nat → Int32), (0 ≤ (-1) * v103438.toInt + v103444.toInt) → (v103444.toInt ≤ 832) → (mz_S D cy ad am F G R S H) → (va_S (mz_W ad am) s.heap H locs) → (mz_IR [9] true R) → (∀ k : Nat, k ∉ ([2, 3, 6, 7, 9, 10, 24, 25, 27, 28, 42, 61] : List Nat) → R k = Ra k) → (rK1 (Ra 3) (R 3)) → (R 24 = co9) → (R 25 = ca9) → (R 61 = cl9) → (R 9 = va_cpy cf cg 0 0 v103444.toInt.toNat) → (R 6 = cf) → ((-1) * v103444.toInt + 998 < (N_l113636 : Int)) → ∀ ls : Array Slot, lv_has ls 4 [(2, .int v103444), (1, .int v103443), (0, .ref am)] → W p l e ({ frames := 13, cells := 0, slots := 0, locals := 840 }) s m args below meth c H locs 0 0 (MQ below (mz_i D cy ad am (fun r F G R S => mz_IF true F ∧ mz_IG G ∧ mz_IR [] true R ∧ (∀ k : Nat, k ∉ ([0, 1, 8, 13, 14, 15, 16, 18, 19, 20, 21, 23, 26, 29, 30, 34, 38, 41, 62, 63, 64, 65] : List Nat) → F k = Fa k) ∧ (∀ k : Nat, k ∉ ([2, 3, 6, 7, 9, 10, 24, 25, 27, 28, 42, 61] : List Nat) → R k = Ra k) ∧ (∀ k : Nat, k ∉ ([17, 39, 40] : List Nat) → G k = Ga k) ∧ rK1 (Ra 3) (R 3) ∧ (F 13).toInt = 0 ∧ (-6) ≤ r.toInt ∧ r.toInt ≤ 255)) args s 0 0 (mz_W ad am)) (F0 m 77 ls []) := by
    intro N_l113636
    induction N_l113636 with
    | zero => intro v103444 H locs R hq0_l113636 hq1_l113636 hM hS hIR hRR hrel hre_24 hre_25 hre_61 hcp hcs hm_l113636 ls hl; exfalso; omega
    | succ N_l113636 ih_l113636 =>
      intro v103444 H locs R hq0_l113636 hq1_l113636 hM hS hIR hRR hrel hre_24 hre_25 hre_61 hcp hcs hm_l113636 ls hl
      refine lv_iload_n hx hb dX13_orders_77 rfl (lv_at hl 0 rfl) ?_
      refine lv_sipush (v := 832) hx hb dX13_orders_78 (by decide) ?_
      refine lv_icmp_ge (tgt := 102) hx hb dX13_orders_81 (by decide) (fun c9 => ?_) (fun c9 => ?_)
      · have hc113637 : 832 ≤ v103444.toInt := (fi_le (show (832 : Int32).toInt = 832 by decide) rfl).mp c9
        have e9 : v103444.toInt.toNat = 832 := by omega
        rw [e9] at hcp
        have hIR := hIR.close (by rw [hcp]; exact mz_bef (by rw [← ecf]; exact hI9.at 6))
        refine lv_iconst (v := 0) hx hb dX13_orders_102 (by decide) ?_
        refine lv_istore_n (lv' := [(2, .int 0), (1, .int v103443), (0, .ref am)]) hx hb dX13_orders_103 rfl hl (by decide) rfl (fun ls hl => ?_)
        have hl116535 : ∀ (N_l116535 : Nat) (v113638 : Int32) (H : Heap) (locs : List Loc) (R : Nat → Nat → Int32), (v113638.toInt ≤ 16) → (0 ≤ (-1) * v103438.toInt + v113638.toInt) → (mz_S D cy ad am F G R S H) → (va_S (mz_W ad am) s.heap H locs) → (mz_IR [] true R) → (∀ k : Nat, k ∉ ([2, 3, 6, 7, 9, 10, 24, 25, 27, 28, 42, 61] : List Nat) → R k = Ra k) → (rK1 (Ra 3) (R 3)) → (R 24 = co9) → (R 25 = ca9) → (R 61 = cl9) → ((-1) * v113638.toInt + 16 < (N_l116535 : Int)) → ∀ ls : Array Slot, lv_has ls 4 [(2, .int v113638), (1, .int v103443), (0, .ref am)] → W p l e ({ frames := 13, cells := 0, slots := 0, locals := 840 }) s m args below meth c H locs 0 0 (MQ below (mz_i D cy ad am (fun r F G R S => mz_IF true F ∧ mz_IG G ∧ mz_IR [] true R ∧ (∀ k : Nat, k ∉ ([0, 1, 8, 13, 14, 15, 16, 18, 19, 20, 21, 23, 26, 29, 30, 34, 38, 41, 62, 63, 64, 65] : List Nat) → F k = Fa k) ∧ (∀ k : Nat, k ∉ ([2, 3, 6, 7, 9, 10, 24, 25, 27, 28, 42, 61] : List Nat) → R k = Ra k) ∧ (∀ k : Nat, k ∉ ([17, 39, 40] : List Nat) → G k = Ga k) ∧ rK1 (Ra 3) (R 3) ∧ (F 13).toInt = 0 ∧ (-6) ≤ r.toInt ∧ r.toInt ≤ 255)) args s 0 0 (mz_W ad am)) (F0 m 104 ls []) := by
          intro N_l116535
          induction N_l116535 with
          | zero => intro v113638 H locs R hq0_l116535 hq1_l116535 hM hS hIR hRR hrel hre_24 hre_25 hre_61 hm_l116535 ls hl; exfalso; omega
          | succ N_l116535 ih_l116535 =>
            intro v113638 H locs R hq0_l116535 hq1_l116535 hM hS hIR hRR hrel hre_24 hre_25 hre_61 hm_l116535 ls hl
            refine lv_iload_n hx hb dX13_orders_104 rfl (lv_at hl 0 rfl) ?_
            refine lv_bipush (v := 16) hx hb dX13_orders_105 (by decide) ?_
            refine lv_icmp_ge (tgt := 128) hx hb dX13_orders_107 (by decide) (fun c9 => ?_) (fun c9 => ?_)
            · have hc116536 : 16 ≤ v113638.toInt := (fi_le (show (16 : Int32).toInt = 16 by decide) rfl).mp c9
              refine lv_aload_n hx hb dX13_orders_128 rfl (lv_at hl 2 rfl) ?_
              refine lv_iconst (v := 0) hx hb dX13_orders_129 (by decide) ?_
              have hk_0 : (0 : Int32).toInt = 0 := by decide
              refine mz_putI (ty := .int) (x := 0) hx hb htl hown hK hD hM hS 62 (Nat.le_of_ble_eq_true rfl) rfl (htl _ mw_1009) (fun _ h9 => h9) rfl (tyX13_ok 62 (by decide)) rfl rfl dX13_orders_130 (fun H locs F hM hS hf9 hj9 => ?_)
              have hIF := hIF.put hf9 hj9 (tk_rng _).1 (tk_rng _).2 (by decide)
              have hFF := mz_frp (K := [0, 1, 8, 13, 14, 15, 16, 18, 19, 20, 21, 23, 26, 29, 30, 34, 38, 41, 62, 63, 64, 65]) (Fa := Fa) hj9 hFF (by decide)
              have hf2 := (hj9 0 (by decide)).trans hf2
              have hf4 := (hj9 64 (by decide)).trans hf4
              have hf54 := (hj9 23 (by decide)).trans hf54
              have hf56 := (hj9 21 (by decide)).trans hf56
              have hf103435 := (hj9 19 (by decide)).trans hf103435
              have hf103437 := (hj9 13 (by decide)).trans hf103437
              have hf103442 := (hj9 8 (by decide)).trans hf103442
              have hf116538 := hf9
              refine lv_aload_n hx hb dX13_orders_133 rfl (lv_at hl 2 rfl) ?_
              refine lv_iconst (v := (-1)) hx hb dX13_orders_134 (by decide) ?_
              have hk_m1 : ((-1) : Int32).toInt = (-1) := by decide
              refine mz_putI (ty := .int) (x := (-1)) hx hb htl hown hK hD hM hS 63 (Nat.le_of_ble_eq_true rfl) rfl (htl _ mw_1010) (fun _ h9 => h9) rfl (tyX13_ok 63 (by decide)) rfl rfl dX13_orders_135 (fun H locs F hM hS hf9 hj9 => ?_)
              have hIF := hIF.put hf9 hj9 (tk_rng _).1 (tk_rng _).2 (by decide)
              have hFF := mz_frp (K := [0, 1, 8, 13, 14, 15, 16, 18, 19, 20, 21, 23, 26, 29, 30, 34, 38, 41, 62, 63, 64, 65]) (Fa := Fa) hj9 hFF (by decide)
              have hf2 := (hj9 0 (by decide)).trans hf2
              have hf4 := (hj9 64 (by decide)).trans hf4
              have hf54 := (hj9 23 (by decide)).trans hf54
              have hf56 := (hj9 21 (by decide)).trans hf56
              have hf103435 := (hj9 19 (by decide)).trans hf103435
              have hf103437 := (hj9 13 (by decide)).trans hf103437
              have hf103442 := (hj9 8 (by decide)).trans hf103442
              have hf116538 := (hj9 62 (by decide)).trans hf116538
              have hf116540 := hf9
              refine lv_iconst (v := 0) hx hb dX13_orders_138 (by decide) ?_
              refine lv_istore_n (lv' := [(2, .int 0), (1, .int v103443), (0, .ref am)]) hx hb dX13_orders_139 rfl hl (by decide) rfl (fun ls hl => ?_)
              have hl117282 : ∀ (N_l117282 : Nat) (v116541 : Int32) (v116542 : Int32) (H : Heap) (locs : List Loc) (F : Nat → Int32) (G : Nat → Int64) (R : Nat → Nat → Int32) (S : Nat → Nat → Int64), (0 ≤ (-1) * v116541.toInt + v20038.toInt) → (0 ≤ v116542.toInt) → (0 ≤ 20 * v116541.toInt + (-1) * v116542.toInt) → (mz_S D cy ad am F G R S H) → (va_S (mz_W ad am) s.heap H locs) → (mz_IF true F) → (mz_IG G) → (mz_IR [] true R) → (∀ k : Nat, k ∉ ([0, 1, 8, 13, 14, 15, 16, 18, 19, 20, 21, 23, 26, 29, 30, 34, 38, 41, 62, 63, 64, 65] : List Nat) → F k = Fa k) → (∀ k : Nat, k ∉ ([17, 39, 40] : List Nat) → G k = Ga k) → (∀ k : Nat, k ∉ ([2, 3, 6, 7, 9, 10, 24, 25, 27, 28, 42, 61] : List Nat) → R k = Ra k) → (rK1 (Ra 3) (R 3)) → (F 0 = 0) → (F 64 = (-1)) → (F 23 = v20037) → (F 21 = v20038) → (F 19 = v103436) → (F 13 = v103438) → (F 62 = v116542) → (R 24 = co9) → (R 25 = ca9) → (R 61 = cl9) → ((-1) * v116541.toInt + 12 < (N_l117282 : Int)) → ∀ ls : Array Slot, lv_has ls 4 [(2, .int v116541), (1, .int v103443), (0, .ref am)] → W p l e ({ frames := 13, cells := 0, slots := 0, locals := 840 }) s m args below meth c H locs 0 0 (MQ below (mz_i D cy ad am (fun r F G R S => mz_IF true F ∧ mz_IG G ∧ mz_IR [] true R ∧ (∀ k : Nat, k ∉ ([0, 1, 8, 13, 14, 15, 16, 18, 19, 20, 21, 23, 26, 29, 30, 34, 38, 41, 62, 63, 64, 65] : List Nat) → F k = Fa k) ∧ (∀ k : Nat, k ∉ ([2, 3, 6, 7, 9, 10, 24, 25, 27, 28, 42, 61] : List Nat) → R k = Ra k) ∧ (∀ k : Nat, k ∉ ([17, 39, 40] : List Nat) → G k = Ga k) ∧ rK1 (Ra 3) (R 3) ∧ (F 13).toInt = 0 ∧ (-6) ≤ r.toInt ∧ r.toInt ≤ 255)) args s 0 0 (mz_W ad am)) (F0 m 140 ls []) := by
                intro N_l117282
                induction N_l117282 with
                | zero => intro v116541 v116542 H locs F G R S hq0_l117282 hq1_l117282 hq2_l117282 hM hS hIF hIG hIR hFF hGG hRR hrel hf2 hf4 hf54 hf56 hf103435 hf103437 hf116538 hre_24 hre_25 hre_61 hm_l117282 ls hl; exfalso; omega
                | succ N_l117282 ih_l117282 =>
                  intro v116541 v116542 H locs F G R S hq0_l117282 hq1_l117282 hq2_l117282 hM hS hIF hIG hIR hFF hGG hRR hrel hf2 hf4 hf54 hf56 hf103435 hf103437 hf116538 hre_24 hre_25 hre_61 hm_l117282 ls hl
                  refine lv_iload_n hx hb dX13_orders_140 rfl (lv_at hl 0 rfl) ?_
                  refine lv_aload_n hx hb dX13_orders_141 rfl (lv_at hl 2 rfl) ?_
                  refine mz_getI hx hb htl hown hK hM 21 (Nat.le_of_ble_eq_true rfl) rfl (htl _ mw_669) (fun _ h9 => h9) dX13_orders_142 (fun v9 e9 => ?_)
                  refine fx_ti (v := v20038) (e9.symm.trans hf56) ?_
                  refine lv_icmp_ge (tgt := 206) hx hb dX13_orders_145 (by decide) (fun c9 => ?_) (fun c9 => ?_)
                  · have hc117283 : v20038.toInt ≤ v116541.toInt := (fi_le rfl rfl).mp c9
                    refine lv_aload_n hx hb dX13_orders_206 rfl (lv_at hl 2 rfl) ?_
                    refine lv_aload_n hx hb dX13_orders_207 rfl (lv_at hl 2 rfl) ?_
                    refine mz_getI hx hb htl hown hK hM 62 (Nat.le_of_ble_eq_true rfl) rfl (htl _ mw_1009) (fun _ h9 => h9) dX13_orders_208 (fun v9 e9 => ?_)
                    refine fx_ti (v := v116542) (e9.symm.trans hf116538) ?_
                    refine mz_Vi (As := [.int v116542]) (rest := []) ⟨hx, hb, hml, hown, hts⟩ hK hM hS (k_X13_tell l D cy ld ad am hD _ _ _ _ v116542 hIF hIG hIR (by omega) (by omega)) ⟨callB_of 1 hts (wl_in mw_296) rfl rfl rfl (htl _ mw_5) (htl _ mw_293) hd_yX13_tell ⟨(Nat.le_of_ble_eq_true rfl), (Nat.le_of_ble_eq_true rfl)⟩, htl _ mw_294, htl _ mw_295⟩ rfl hl.1 rfl (Nat.le_of_ble_eq_true rfl) dX13_orders_211 ⟨(Nat.le_of_ble_eq_true rfl), (Nat.le_of_ble_eq_true rfl)⟩ (fun v117284 H locs F G R S hpo hM hS => ?_)
                    obtain ⟨hIF, hIG, hIR, hfr9, hrr9, hgr9, hpo117285⟩ := hpo
                    have hq_v117284 := tk_rng v117284
                    have hFF := mz_fr (K := [0, 1, 8, 13, 14, 15, 16, 18, 19, 20, 21, 23, 26, 29, 30, 34, 38, 41, 62, 63, 64, 65]) (Fa := Fa) hfr9 hFF (by decide)
                    have hRR := mz_fr (K := [2, 3, 6, 7, 9, 10, 24, 25, 27, 28, 42, 61]) (Fa := Ra) hrr9 hRR (by decide)
                    have hGG := mz_fr (K := [17, 39, 40]) (Fa := Ga) hgr9 hGG (by decide)
                    have hrel : rK1 (Ra 3) (R 3) := hrel.trans (rK1.refl (hrr9 3 (by decide)))
                    have hre_24 : R 24 = co9 := (hrr9 24 (by decide)).trans hre_24
                    have hre_25 : R 25 = ca9 := (hrr9 25 (by decide)).trans hre_25
                    have hre_61 : R 61 = cl9 := (hrr9 61 (by decide)).trans hre_61
                    have hf2 := (hfr9 0 (by decide)).trans hf2
                    have hf4 := (hfr9 64 (by decide)).trans hf4
                    have hf54 := (hfr9 23 (by decide)).trans hf54
                    have hf56 := (hfr9 21 (by decide)).trans hf56
                    have hf103435 := (hfr9 19 (by decide)).trans hf103435
                    have hf103437 := (hfr9 13 (by decide)).trans hf103437
                    have hf116538 := (hfr9 62 (by decide)).trans hf116538
                    exact mz_iret (v := v117284) hx hb hr rfl hlocks ⟨hIF, hIG, hIR, hFF, hRR, hGG, hrel, (by rw [hf103437]; omega), (by omega), (by omega)⟩ hM hS dX13_orders_214
                  · have hc117283 : ¬ (v20038.toInt ≤ v116541.toInt) := fun h9 => c9 ((fi_le rfl rfl).mpr h9)
                    refine lv_iconst (v := 0) hx hb dX13_orders_148 (by decide) ?_
                    refine lv_istore_n (lv' := [(3, .int 0), (2, .int v116541), (1, .int v103443), (0, .ref am)]) hx hb dX13_orders_149 rfl hl (by decide) rfl (fun ls hl => ?_)
                    have hl117422 : ∀ (N_l117422 : Nat) (v117287 : Int32) (v117288 : Int32) (H : Heap) (locs : List Loc) (F : Nat → Int32) (G : Nat → Int64) (R : Nat → Nat → Int32) (S : Nat → Nat → Int64), (0 ≤ (-1) * v116542.toInt + v117288.toInt) → (0 ≤ v117287.toInt) → (v117287.toInt ≤ 20) → (0 ≤ 20 * v116541.toInt + v117287.toInt + (-1) * v117288.toInt) → (mz_S D cy ad am F G R S H) → (va_S (mz_W ad am) s.heap H locs) → (mz_IF true F) → (mz_IG G) → (mz_IR [] true R) → (∀ k : Nat, k ∉ ([0, 1, 8, 13, 14, 15, 16, 18, 19, 20, 21, 23, 26, 29, 30, 34, 38, 41, 62, 63, 64, 65] : List Nat) → F k = Fa k) → (∀ k : Nat, k ∉ ([17, 39, 40] : List Nat) → G k = Ga k) → (∀ k : Nat, k ∉ ([2, 3, 6, 7, 9, 10, 24, 25, 27, 28, 42, 61] : List Nat) → R k = Ra k) → (rK1 (Ra 3) (R 3)) → (F 0 = 0) → (F 64 = (-1)) → (F 23 = v20037) → (F 21 = v20038) → (F 19 = v103436) → (F 13 = v103438) → (F 62 = v117288) → (R 24 = co9) → (R 25 = ca9) → (R 61 = cl9) → ((-1) * v117287.toInt + 20 < (N_l117422 : Int)) → ∀ ls : Array Slot, lv_has ls 4 [(3, .int v117287), (2, .int v116541), (1, .int v103443), (0, .ref am)] → W p l e ({ frames := 13, cells := 0, slots := 0, locals := 840 }) s m args below meth c H locs 0 0 (MQ below (mz_i D cy ad am (fun r F G R S => mz_IF true F ∧ mz_IG G ∧ mz_IR [] true R ∧ (∀ k : Nat, k ∉ ([0, 1, 8, 13, 14, 15, 16, 18, 19, 20, 21, 23, 26, 29, 30, 34, 38, 41, 62, 63, 64, 65] : List Nat) → F k = Fa k) ∧ (∀ k : Nat, k ∉ ([2, 3, 6, 7, 9, 10, 24, 25, 27, 28, 42, 61] : List Nat) → R k = Ra k) ∧ (∀ k : Nat, k ∉ ([17, 39, 40] : List Nat) → G k = Ga k) ∧ rK1 (Ra 3) (R 3) ∧ (F 13).toInt = 0 ∧ (-6) ≤ r.toInt ∧ r.toInt ≤ 255)) args s 0 0 (mz_W ad am)) (F0 m 150 ls []) := by
                      intro N_l117422
                      induction N_l117422 with
                      | zero => intro v117287 v117288 H locs F G R S hq0_l117422 hq1_l117422 hq2_l117422 hq3_l117422 hM hS hIF hIG hIR hFF hGG hRR hrel hf2 hf4 hf54 hf56 hf103435 hf103437 hf116538 hre_24 hre_25 hre_61 hm_l117422 ls hl; exfalso; omega
                      | succ N_l117422 ih_l117422 =>
                        intro v117287 v117288 H locs F G R S hq0_l117422 hq1_l117422 hq2_l117422 hq3_l117422 hM hS hIF hIG hIR hFF hGG hRR hrel hf2 hf4 hf54 hf56 hf103435 hf103437 hf116538 hre_24 hre_25 hre_61 hm_l117422 ls hl
                        refine lv_iload_n hx hb dX13_orders_150 rfl (lv_at hl 0 rfl) ?_
                        refine lv_aload_n hx hb dX13_orders_151 rfl (lv_at hl 3 rfl) ?_
                        refine mz_getR hx hb htl hown hK hM 61 (Nat.le_of_ble_eq_true rfl) (Nat.le_of_ble_eq_true rfl) (htl _ mw_239) (fun _ h9 => h9) dX13_orders_152 ?_
                        refine lv_bipush (v := 10) hx hb dX13_orders_155 (by decide) ?_
                        refine lv_iload_n hx hb dX13_orders_157 rfl (lv_at hl 1 rfl) ?_
                        refine lv_imul hx hb dX13_orders_158 ?_
                        refine tk_mul (show (10 : Int32).toInt = 10 by decide) rfl (by omega) (by omega) (fun v117423 h_v117423 => ?_)
                        refine lv_bipush (v := 9) hx hb dX13_orders_159 (by decide) ?_
                        refine lv_iadd hx hb dX13_orders_161 ?_
                        refine tk_add rfl (show (9 : Int32).toInt = 9 by decide) (by omega) (by omega) (fun v117424 h_v117424 => ?_)
                        refine mz_iald hx hb hK hM 61 (Nat.le_of_ble_eq_true rfl) rfl (nn := 120) rfl rfl (by omega) (by omega) dX13_orders_162 (fun v117425 e_v117425 => ?_)
                        have hq_v117425 := tk_rng v117425
                        have htm_v117425 : 0 ≤ v117425.toInt ∧ v117425.toInt ≤ 20 := by have h9 := hCL9.2 v116541.toInt.toNat (by omega); rw [show 10 * v116541.toInt.toNat + 9 = (v117424 : Int32).toNatClampNeg by show _ = v117424.toInt.toNat; omega, ← hre_61, e_v117425] at h9; exact h9
                        refine lv_icmp_ge (tgt := 200) hx hb dX13_orders_163 (by decide) (fun c9 => ?_) (fun c9 => ?_)
                        · have hc117426 : v117425.toInt ≤ v117287.toInt := (fi_le rfl rfl).mp c9
                          obtain ⟨v117427, h_v117427, e_v117427⟩ := tk_inc v116541 1 (by decide) (by omega) (by omega)
                          refine lv_iinc (v := v117427) (lv' := [(2, .int v117427), (3, .int v117287), (1, .int v103443), (0, .ref am)]) hx hb dX13_orders_200 hl (k := 1) rfl e_v117427 (by decide) rfl (fun ls hl => ?_)
                          refine lv_goto (tgt := 140) hx hb dX13_orders_203 (by decide) ?_
                          exact ih_l117282 v117427 v117288 _ _ _ _ _ _ (by omega) (by omega) (by omega) hM hS hIF hIG hIR hFF hGG hRR hrel hf2 hf4 hf54 hf56 hf103435 hf103437 hf116538 hre_24 hre_25 hre_61 (by omega) _ (lv_sub hl [0, 2, 3] rfl)
                        · have hc117426 : ¬ (v117425.toInt ≤ v117287.toInt) := fun h9 => c9 ((fi_le rfl rfl).mpr h9)
                          refine lv_aload_n hx hb dX13_orders_166 rfl (lv_at hl 3 rfl) ?_
                          refine lv_bipush (v := 10) hx hb dX13_orders_167 (by decide) ?_
                          refine lv_iload_n hx hb dX13_orders_169 rfl (lv_at hl 1 rfl) ?_
                          refine lv_imul hx hb dX13_orders_170 ?_
                          refine tk_mul (show (10 : Int32).toInt = 10 by decide) rfl (by omega) (by omega) (fun v117428 h_v117428 => ?_)
                          refine mz_Vi (As := [.int v117428]) (rest := []) ⟨hx, hb, hml, hown, hts⟩ hK hM hS (k_X13_run l D cy ld ad am hD _ _ _ _ v117428 v117288 hIF hIG hIR hf116538 (by omega) (by omega) (by omega) (by omega) (fun d hd => by rw [hre_24, hre_25, hre_61, show v117428.toInt.toNat = 10 * v116541.toInt.toNat by omega]; exact (hCL9.1 v116541.toInt.toNat d (by omega) hd).1)) ⟨callB_of 1 hts (wl_in mw_1037) rfl rfl rfl (htl _ mw_5) (htl _ mw_1034) hd_yX13_run ⟨(Nat.le_of_ble_eq_true rfl), (Nat.le_of_ble_eq_true rfl)⟩, htl _ mw_1035, htl _ mw_1036⟩ rfl hl.1 rfl (Nat.le_of_ble_eq_true rfl) dX13_orders_171 ⟨(Nat.le_of_ble_eq_true rfl), (Nat.le_of_ble_eq_true rfl)⟩ (fun v117429 H locs F G R S hpo hM hS => ?_)
                          obtain ⟨hIF, hIG, hIR, hfr9, hrr9, hgr9, hrel9, hpo117430, hpo117431, hpo117432, hpo117433⟩ := hpo
                          have hq_v117429 := tk_rng v117429
                          have hFF := mz_fr (K := [0, 1, 8, 13, 14, 15, 16, 18, 19, 20, 21, 23, 26, 29, 30, 34, 38, 41, 62, 63, 64, 65]) (Fa := Fa) hfr9 hFF (by decide)
                          have hRR := mz_fr (K := [2, 3, 6, 7, 9, 10, 24, 25, 27, 28, 42, 61]) (Fa := Ra) hrr9 hRR (by decide)
                          have hGG := mz_fr (K := [17, 39, 40]) (Fa := Ga) hgr9 hGG (by decide)
                          have hrel := hrel.trans hrel9
                          have hre_24 : R 24 = co9 := (hrr9 24 (by decide)).trans hre_24
                          have hre_25 : R 25 = ca9 := (hrr9 25 (by decide)).trans hre_25
                          have hre_61 : R 61 = cl9 := (hrr9 61 (by decide)).trans hre_61
                          have e_v117425 : R 61 (v117424 : Int32).toNatClampNeg = _ := (congrFun (hrr9 61 (by decide)) _).trans e_v117425
                          have hf2 := (hfr9 0 (by decide)).trans hf2
                          have hf4 := (hfr9 64 (by decide)).trans hf4
                          have hf54 := (hfr9 23 (by decide)).trans hf54
                          have hf56 := (hfr9 21 (by decide)).trans hf56
                          have hf103435 := (hfr9 19 (by decide)).trans hf103435
                          have hf103437 := (hfr9 13 (by decide)).trans hf103437
                          obtain ⟨v117436, hf117435⟩ : ∃ z : Int32, F 62 = z := ⟨_, rfl⟩
                          have hq_v117436 := tk_rng v117436
                          rw [hf117435] at hpo117432 hpo117433
                          refine lv_if_ge (tgt := 194) hx hb dX13_orders_174 (by decide) (fun c9 => ?_) (fun c9 => ?_)
                          · have hc117437 : 0 ≤ v117429.toInt := (fi_le (show (0 : Int32).toInt = 0 by decide) rfl).mp c9
                            obtain ⟨v117438, h_v117438, e_v117438⟩ := tk_inc v117287 1 (by decide) (by omega) (by omega)
                            refine lv_iinc (v := v117438) (lv' := [(3, .int v117438), (2, .int v116541), (1, .int v103443), (0, .ref am)]) hx hb dX13_orders_194 hl (k := 0) rfl e_v117438 (by decide) rfl (fun ls hl => ?_)
                            refine lv_goto (tgt := 150) hx hb dX13_orders_197 (by decide) ?_
                            exact ih_l117422 v117438 v117436 _ _ _ _ _ _ (by omega) (by omega) (by omega) (by omega) hM hS hIF hIG hIR hFF hGG hRR hrel hf2 hf4 hf54 hf56 hf103435 hf103437 hf117435 hre_24 hre_25 hre_61 (by omega) _ (lv_sub hl [0, 1, 2, 3] rfl)
                          · have hc117437 : ¬ (0 ≤ v117429.toInt) := fun h9 => c9 ((fi_le (show (0 : Int32).toInt = 0 by decide) rfl).mpr h9)
                            refine lv_aload_n hx hb dX13_orders_177 rfl (lv_at hl 3 rfl) ?_
                            refine lv_iload_n hx hb dX13_orders_178 rfl (lv_at hl 2 rfl) ?_
                            refine mz_Vv (As := [.int v103443]) (rest := []) ⟨hx, hb, hml, hown, hts⟩ hK hM hS (k_X13_giveBack l D cy ld ad am hD _ _ _ _ v103443 hIF hIG hIR (by omega) (by omega)) ⟨callB_of 1 hts (wl_in mw_1158) rfl rfl rfl (htl _ mw_5) (htl _ mw_1155) hd_yX13_giveBack ⟨(Nat.le_of_ble_eq_true rfl), (Nat.le_of_ble_eq_true rfl)⟩, htl _ mw_1156, htl _ mw_1157⟩ rfl hl.1 rfl (Nat.le_of_ble_eq_true rfl) dX13_orders_179 ⟨(Nat.le_of_ble_eq_true rfl), (Nat.le_of_ble_eq_true rfl)⟩ (fun H locs F G R S hpo hM hS => ?_)
                            obtain ⟨hIF, hIG, hIR, hfr9, hrr9, hgr9, hrel9⟩ := hpo
                            have hFF := mz_fr (K := [0, 1, 8, 13, 14, 15, 16, 18, 19, 20, 21, 23, 26, 29, 30, 34, 38, 41, 62, 63, 64, 65]) (Fa := Fa) hfr9 hFF (by decide)
                            have hRR := mz_fr (K := [2, 3, 6, 7, 9, 10, 24, 25, 27, 28, 42, 61]) (Fa := Ra) hrr9 hRR (by decide)
                            have hGG := mz_fr (K := [17, 39, 40]) (Fa := Ga) hgr9 hGG (by decide)
                            have hrel := hrel.trans hrel9
                            have hre_24 : R 24 = co9 := (hrr9 24 (by decide)).trans hre_24
                            have hre_25 : R 25 = ca9 := (hrr9 25 (by decide)).trans hre_25
                            have hre_61 : R 61 = cl9 := (hrr9 61 (by decide)).trans hre_61
                            have e_v117425 : R 61 (v117424 : Int32).toNatClampNeg = _ := (congrFun (hrr9 61 (by decide)) _).trans e_v117425
                            have hf2 := (hfr9 0 (by decide)).trans hf2
                            have hf4 := (hfr9 64 (by decide)).trans hf4
                            have hf54 := (hfr9 23 (by decide)).trans hf54
                            have hf56 := (hfr9 21 (by decide)).trans hf56
                            have hf103435 := (hfr9 19 (by decide)).trans hf103435
                            have hf103437 := (hfr9 13 (by decide)).trans hf103437
                            have hf117435 := (hfr9 62 (by decide)).trans hf117435
                            refine lv_aload_n hx hb dX13_orders_182 rfl (lv_at hl 3 rfl) ?_
                            refine lv_iload_n hx hb dX13_orders_183 rfl (lv_at hl 1 rfl) ?_
                            refine mz_putI (ty := .int) (x := v116541) hx hb htl hown hK hD hM hS 64 (Nat.le_of_ble_eq_true rfl) rfl (htl _ mw_240) (fun _ h9 => h9) rfl (tyX13_ok 64 (by decide)) rfl rfl dX13_orders_184 (fun H locs F hM hS hf9 hj9 => ?_)
                            have hIF := hIF.put hf9 hj9 (tk_rng _).1 (tk_rng _).2 (by decide)
                            have hFF := mz_frp (K := [0, 1, 8, 13, 14, 15, 16, 18, 19, 20, 21, 23, 26, 29, 30, 34, 38, 41, 62, 63, 64, 65]) (Fa := Fa) hj9 hFF (by decide)
                            have hf2 := (hj9 0 (by decide)).trans hf2
                            have hf54 := (hj9 23 (by decide)).trans hf54
                            have hf56 := (hj9 21 (by decide)).trans hf56
                            have hf103435 := (hj9 19 (by decide)).trans hf103435
                            have hf103437 := (hj9 13 (by decide)).trans hf103437
                            have hf117435 := (hj9 62 (by decide)).trans hf117435
                            have hf117441 := hf9
                            refine lv_aload_n hx hb dX13_orders_187 rfl (lv_at hl 3 rfl) ?_
                            refine lv_bipush (v := (-3)) hx hb dX13_orders_188 (by decide) ?_
                            have hk_m3 : ((-3) : Int32).toInt = (-3) := by decide
                            refine mz_Vi (As := [.int (-3)]) (rest := []) ⟨hx, hb, hml, hown, hts⟩ hK hM hS (k_X13_tell l D cy ld ad am hD _ _ _ _ (-3) hIF hIG hIR (by omega) (by omega)) ⟨callB_of 1 hts (wl_in mw_296) rfl rfl rfl (htl _ mw_5) (htl _ mw_293) hd_yX13_tell ⟨(Nat.le_of_ble_eq_true rfl), (Nat.le_of_ble_eq_true rfl)⟩, htl _ mw_294, htl _ mw_295⟩ rfl hl.1 rfl (Nat.le_of_ble_eq_true rfl) dX13_orders_190 ⟨(Nat.le_of_ble_eq_true rfl), (Nat.le_of_ble_eq_true rfl)⟩ (fun v117442 H locs F G R S hpo hM hS => ?_)
                            obtain ⟨hIF, hIG, hIR, hfr9, hrr9, hgr9, hpo117443⟩ := hpo
                            have hq_v117442 := tk_rng v117442
                            have hFF := mz_fr (K := [0, 1, 8, 13, 14, 15, 16, 18, 19, 20, 21, 23, 26, 29, 30, 34, 38, 41, 62, 63, 64, 65]) (Fa := Fa) hfr9 hFF (by decide)
                            have hRR := mz_fr (K := [2, 3, 6, 7, 9, 10, 24, 25, 27, 28, 42, 61]) (Fa := Ra) hrr9 hRR (by decide)
                            have hGG := mz_fr (K := [17, 39, 40]) (Fa := Ga) hgr9 hGG (by decide)
                            have hrel : rK1 (Ra 3) (R 3) := hrel.trans (rK1.refl (hrr9 3 (by decide)))
                            have hre_24 : R 24 = co9 := (hrr9 24 (by decide)).trans hre_24
                            have hre_25 : R 25 = ca9 := (hrr9 25 (by decide)).trans hre_25
                            have hre_61 : R 61 = cl9 := (hrr9 61 (by decide)).trans hre_61
                            have e_v117425 : R 61 (v117424 : Int32).toNatClampNeg = _ := (congrFun (hrr9 61 (by decide)) _).trans e_v117425
                            have hf2 := (hfr9 0 (by decide)).trans hf2
                            have hf54 := (hfr9 23 (by decide)).trans hf54
                            have hf56 := (hfr9 21 (by decide)).trans hf56
                            have hf103435 := (hfr9 19 (by decide)).trans hf103435
                            have hf103437 := (hfr9 13 (by decide)).trans hf103437
                            have hf117435 := (hfr9 62 (by decide)).trans hf117435
                            have hf117441 := (hfr9 64 (by decide)).trans hf117441
                            exact mz_iret (v := v117442) hx hb hr rfl hlocks ⟨hIF, hIG, hIR, hFF, hRR, hGG, hrel, (by rw [hf103437]; omega), (by omega), (by omega)⟩ hM hS dX13_orders_193
                    have hk_0 : (0 : Int32).toInt = 0 := by decide
                    exact hl117422 21 0 v116542 _ _ _ _ _ _ (by omega) (by omega) (by omega) (by omega) hM hS hIF hIG hIR hFF hGG hRR hrel hf2 hf4 hf54 hf56 hf103435 hf103437 hf116538 hre_24 hre_25 hre_61 (by omega) _ (lv_sub hl [0, 1, 2, 3] rfl)
              have hk_0 : (0 : Int32).toInt = 0 := by decide
              have hk_0 : (0 : Int32).toInt = 0 := by decide
              exact hl117282 13 0 0 _ _ _ _ _ _ (by omega) (by omega) (by omega) hM hS hIF hIG hIR hFF hGG hRR hrel hf2 hf4 hf54 hf56 hf103435 hf103437 hf116538 hre_24 hre_25 hre_61 (by omega) _ (lv_sub hl [0, 1, 2] rfl)
            · have hc116536 : ¬ (16 ≤ v113638.toInt) := fun h9 => c9 ((fi_le (show (16 : Int32).toInt = 16 by decide) rfl).mpr h9)
              refine lv_aload_n hx hb dX13_orders_110 rfl (lv_at hl 2 rfl) ?_
              refine mz_getR hx hb htl hown hK hM 10 (Nat.le_of_ble_eq_true rfl) (Nat.le_of_ble_eq_true rfl) (htl _ mw_194) (fun _ h9 => h9) dX13_orders_111 ?_
              refine lv_iload_n hx hb dX13_orders_114 rfl (lv_at hl 0 rfl) ?_
              refine lv_aload_n hx hb dX13_orders_115 rfl (lv_at hl 2 rfl) ?_
              refine mz_getR hx hb htl hown hK hM 7 (Nat.le_of_ble_eq_true rfl) (Nat.le_of_ble_eq_true rfl) (htl _ mw_192) (fun _ h9 => h9) dX13_orders_116 ?_
              refine lv_iload_n hx hb dX13_orders_119 rfl (lv_at hl 0 rfl) ?_
              refine mz_iald hx hb hK hM 7 (Nat.le_of_ble_eq_true rfl) rfl (nn := 16) rfl rfl (by omega) (by omega) dX13_orders_120 (fun v117445 e_v117445 => ?_)
              have hq_v117445 := tk_rng v117445
              have he_v117445 : 0 ≤ v117445.toInt ∧ v117445.toInt ≤ 3 := mz_elg (n := 16) (hIR.at 7) e_v117445 rfl (by omega) (by omega)
              refine mz_iast (x := v117445) hx hb hK hD hM hS 10 (Nat.le_of_ble_eq_true rfl) rfl (nn := 16) rfl rfl (by omega) (by omega) dX13_orders_121 (fun H locs R hM hS hw9 hj9 => ?_)
              have hIR := hIR.put hw9 hj9 (mz_elp (hIR.at 10) (show 0 ≤ (v117445 : Int32).toInt by omega) (show (v117445 : Int32).toInt ≤ 3 by omega))
              have hRR := mz_frp (K := [2, 3, 6, 7, 9, 10, 24, 25, 27, 28, 42, 61]) (Fa := Ra) hj9 hRR (by decide)
              have hrel : rK1 (Ra 3) (R 3) := (hj9 3 (by decide)) ▸ hrel
              have hre_24 : R 24 = co9 := (hj9 24 (by decide)).trans hre_24
              have hre_25 : R 25 = ca9 := (hj9 25 (by decide)).trans hre_25
              have hre_61 : R 61 = cl9 := (hj9 61 (by decide)).trans hre_61
              have e_v117445 : R 7 (v113638 : Int32).toNatClampNeg = _ := (congrFun (hj9 7 (by decide)) _).trans e_v117445
              obtain ⟨v117447, h_v117447, e_v117447⟩ := tk_inc v113638 1 (by decide) (by omega) (by omega)
              refine lv_iinc (v := v117447) (lv' := [(2, .int v117447), (1, .int v103443), (0, .ref am)]) hx hb dX13_orders_122 hl (k := 0) rfl e_v117447 (by decide) rfl (fun ls hl => ?_)
              refine lv_goto (tgt := 104) hx hb dX13_orders_125 (by decide) ?_
              exact ih_l116535 v117447 _ _ _ (by omega) (by omega) hM hS hIR hRR hrel hre_24 hre_25 hre_61 (by omega) _ (lv_sub hl [0, 1, 2] rfl)
        have hk_0 : (0 : Int32).toInt = 0 := by decide
        exact hl116535 17 0 _ _ _ (by omega) (by omega) hM hS hIR hRR hrel hre_24 hre_25 hre_61 (by omega) _ (lv_sub hl [0, 1, 2] rfl)
      · have hc113637 : ¬ (832 ≤ v103444.toInt) := fun h9 => c9 ((fi_le (show (832 : Int32).toInt = 832 by decide) rfl).mpr h9)
        refine lv_aload_n hx hb dX13_orders_84 rfl (lv_at hl 2 rfl) ?_
        refine mz_getR hx hb htl hown hK hM 9 (Nat.le_of_ble_eq_true rfl) (Nat.le_of_ble_eq_true rfl) (htl _ mw_193) (fun _ h9 => h9) dX13_orders_85 ?_
        refine lv_iload_n hx hb dX13_orders_88 rfl (lv_at hl 0 rfl) ?_
        refine lv_aload_n hx hb dX13_orders_89 rfl (lv_at hl 2 rfl) ?_
        refine mz_getR hx hb htl hown hK hM 6 (Nat.le_of_ble_eq_true rfl) (Nat.le_of_ble_eq_true rfl) (htl _ mw_191) (fun _ h9 => h9) dX13_orders_90 ?_
        refine lv_iload_n hx hb dX13_orders_93 rfl (lv_at hl 0 rfl) ?_
        refine mz_iald hx hb hK hM 6 (Nat.le_of_ble_eq_true rfl) rfl (nn := 1196) rfl rfl (by omega) (by omega) dX13_orders_94 (fun v117448 e_v117448 => ?_)
        have hq_v117448 := tk_rng v117448
        refine mz_iast (x := v117448) hx hb hK hD hM hS 9 (Nat.le_of_ble_eq_true rfl) rfl (nn := 832) rfl rfl (by omega) (by omega) dX13_orders_95 (fun H locs R hM hS hw9 hj9 => ?_)
        have hIR := hIR.putX hj9 (by decide)
        have hcp := mz_cps (sp := 0) (dp := 0) (n := v103444.toInt.toNat) hw9 hcp (by omega) (by rw [← e_v117448, hcs]; congr 1; have h9 := tk_nat (i := v103444) rfl (by omega); omega)
        have hcs := (hj9 6 (by decide)).trans hcs
        have hRR := mz_frp (K := [2, 3, 6, 7, 9, 10, 24, 25, 27, 28, 42, 61]) (Fa := Ra) hj9 hRR (by decide)
        have hrel : rK1 (Ra 3) (R 3) := (hj9 3 (by decide)) ▸ hrel
        have hre_24 : R 24 = co9 := (hj9 24 (by decide)).trans hre_24
        have hre_25 : R 25 = ca9 := (hj9 25 (by decide)).trans hre_25
        have hre_61 : R 61 = cl9 := (hj9 61 (by decide)).trans hre_61
        have e_v117448 : R 6 (v103444 : Int32).toNatClampNeg = _ := (congrFun (hj9 6 (by decide)) _).trans e_v117448
        obtain ⟨v117450, h_v117450, e_v117450⟩ := tk_inc v103444 1 (by decide) (by omega) (by omega)
        refine lv_iinc (v := v117450) (lv' := [(2, .int v117450), (1, .int v103443), (0, .ref am)]) hx hb dX13_orders_96 hl (k := 0) rfl e_v117450 (by decide) rfl (fun ls hl => ?_)
        refine lv_goto (tgt := 77) hx hb dX13_orders_99 (by decide) ?_
        exact ih_l113636 v117450 _ _ _ (by omega) (by omega) hM hS hIR hRR hrel hre_24 hre_25 hre_61 (by rw [show v117450.toInt.toNat = v103444.toInt.toNat + 1 by omega]; exact hcp) hcs (by omega) _ (lv_sub hl [0, 1, 2] rfl)
  have hk_0 : (0 : Int32).toInt = 0 := by decide
  exact hl113636 999 0 _ _ _ (by omega) (by omega) hM hS hIR hRR hrel hre_24 hre_25 hre_61 (by rw [show (0 : Int32).toInt.toNat = 0 by decide, mz_cp0]; exact ecg) ecf (by omega) _ (lv_sub hl [0, 1, 2] rfl)
set_option maxHeartbeats 4000000 in
set_option maxRecDepth 100000 in
theorem k_X13_orders (l : Launch) (D : va_G) (cy : Nat → ClassId) (ld ad : Nat → Nat) (am : Nat) (hD : mz_D ad am) (Fa : Nat → Int32) (Ga : Nat → Int64) (Ra : Nat → Nat → Int32) (Sa : Nat → Nat → Int64) (hIF : mz_IF true Fa) (hIG : mz_IG Ga) (hIR : mz_IR [] true Ra) : Met l yX13_orders (wl yX13_orders cX13_orders 4 (some .int)) ({ frames := 13, cells := 0, slots := 0, locals := 840 }) (mz_p D cy ld ad am Fa Ga Ra Sa [.ref am]) (mz_i D cy ad am (fun r F G R S => mz_IF true F ∧ mz_IG G ∧ mz_IR [] true R ∧ (∀ k : Nat, k ∉ ([0, 1, 8, 13, 14, 15, 16, 18, 19, 20, 21, 23, 26, 29, 30, 34, 38, 41, 62, 63, 64, 65] : List Nat) → F k = Fa k) ∧ (∀ k : Nat, k ∉ ([2, 3, 6, 7, 9, 10, 24, 25, 27, 28, 42, 61] : List Nat) → R k = Ra k) ∧ (∀ k : Nat, k ∉ ([17, 39, 40] : List Nat) → G k = Ga k) ∧ rK1 (Ra 3) (R 3) ∧ (F 13).toInt = 0 ∧ (-6) ≤ r.toInt ∧ r.toInt ≤ 255)) 0 0 (mz_W ad am) := by
  refine mz_met (y := yX13_orders) (cc := cX13_orders) (maxL := 4) (ret := (some .int)) (av := [.ref am]) _ (by decide) (Nat.le_of_ble_eq_true rfl) ?_
  intro p e s m args below meth c hx hb hr hml hts htl hown hlocks hK H locs hM hS ls hl
  have hown : s.vm.findClass RX13 = some m.cls := hown
  have hl : lv_has ls 4 [(0, .ref am)] := hl
  refine lv_aload_n hx hb dX13_orders_0 rfl (lv_at hl 0 rfl) ?_
  refine lv_iconst (v := 0) hx hb dX13_orders_1 (by decide) ?_
  have hk_0 : (0 : Int32).toInt = 0 := by decide
  refine mz_putI (ty := .int) (x := 0) hx hb htl hown hK hD hM hS 0 (Nat.le_of_ble_eq_true rfl) rfl (htl _ mw_286) (fun _ h9 => h9) rfl (tyX13_ok 0 (by decide)) rfl rfl dX13_orders_2 (fun H locs F hM hS hf9 hj9 => ?_)
  have hIF := hIF.put hf9 hj9 (tk_rng _).1 (tk_rng _).2 (by decide)
  have hFF := mz_frp (K := [0, 1, 8, 13, 14, 15, 16, 18, 19, 20, 21, 23, 26, 29, 30, 34, 38, 41, 62, 63, 64, 65]) (Fa := Fa) hj9 (fun _ _ => rfl) (by decide)
  have hf2 := hf9
  refine lv_aload_n hx hb dX13_orders_5 rfl (lv_at hl 0 rfl) ?_
  refine lv_iconst (v := (-1)) hx hb dX13_orders_6 (by decide) ?_
  have hk_m1 : ((-1) : Int32).toInt = (-1) := by decide
  refine mz_putI (ty := .int) (x := (-1)) hx hb htl hown hK hD hM hS 64 (Nat.le_of_ble_eq_true rfl) rfl (htl _ mw_240) (fun _ h9 => h9) rfl (tyX13_ok 64 (by decide)) rfl rfl dX13_orders_7 (fun H locs F hM hS hf9 hj9 => ?_)
  have hIF := hIF.put hf9 hj9 (tk_rng _).1 (tk_rng _).2 (by decide)
  have hFF := mz_frp (K := [0, 1, 8, 13, 14, 15, 16, 18, 19, 20, 21, 23, 26, 29, 30, 34, 38, 41, 62, 63, 64, 65]) (Fa := Fa) hj9 hFF (by decide)
  have hf2 := (hj9 0 (by decide)).trans hf2
  have hf4 := hf9
  refine lv_aload_n hx hb dX13_orders_10 rfl (lv_at hl 0 rfl) ?_
  refine lv_iconst (v := 1) hx hb dX13_orders_11 (by decide) ?_
  obtain ⟨v6, hf5⟩ : ∃ z : Int32, F 13 = z := ⟨_, rfl⟩
  have hq_v6 := tk_rng v6
  have hr_v6 : 0 ≤ v6.toInt ∧ v6.toInt ≤ 400 := hIF.at hf5
  have hk_1 : (1 : Int32).toInt = 1 := by decide
  refine mz_Vv (As := [.int 1]) (rest := []) ⟨hx, hb, hml, hown, hts⟩ hK hM hS (k_X13_beginText l D cy ld ad am hD _ _ _ _ 1 v6 hIF hIG hIR hf5 (by omega) (by omega)) ⟨callB_of 1 hts (wl_in mw_674) rfl rfl rfl (htl _ mw_5) (htl _ mw_671) hd_yX13_beginText ⟨(Nat.le_of_ble_eq_true rfl), (Nat.le_of_ble_eq_true rfl)⟩, htl _ mw_672, htl _ mw_673⟩ rfl hl.1 rfl (Nat.le_of_ble_eq_true rfl) dX13_orders_12 ⟨(Nat.le_of_ble_eq_true rfl), (Nat.le_of_ble_eq_true rfl)⟩ (fun H locs F G R S hpo hM hS => ?_)
  obtain ⟨hIF, hIG, hIR, hfr9, hrr9, hgr9, hpo10, hpo11, hpo12, hpo13, hpo14, hpo15, hpo16⟩ := hpo
  have hFF := mz_fr (K := [0, 1, 8, 13, 14, 15, 16, 18, 19, 20, 21, 23, 26, 29, 30, 34, 38, 41, 62, 63, 64, 65]) (Fa := Fa) hfr9 hFF (by decide)
  have hRR := mz_fr (K := [2, 3, 6, 7, 9, 10, 24, 25, 27, 28, 42, 61]) (Fa := Ra) hrr9 (fun _ _ => rfl) (by decide)
  have hGG := mz_fr (K := [17, 39, 40]) (Fa := Ga) hgr9 (fun _ _ => rfl) (by decide)
  have hrel : rK1 (Ra 3) (R 3) := (rK1.refl rfl).trans (rK1.refl (hrr9 3 (by decide)))
  have hf2 := (hfr9 0 (by decide)).trans hf2
  have hf4 := (hfr9 64 (by decide)).trans hf4
  have hf5 := (hfr9 13 (by decide)).trans hf5
  obtain ⟨v19, hf18⟩ : ∃ z : Int32, F 14 = z := ⟨_, rfl⟩
  have hq_v19 := tk_rng v19
  rw [hf18] at hpo10 hpo12 hpo13
  have hr_v19 : 0 ≤ v19.toInt ∧ v19.toInt ≤ 400 := hIF.at hf18
  obtain ⟨v21, hf20⟩ : ∃ z : Int32, F 15 = z := ⟨_, rfl⟩
  have hq_v21 := tk_rng v21
  rw [hf20] at hpo10 hpo11 hpo12 hpo13
  have hr_v21 : 0 ≤ v21.toInt ∧ v21.toInt ≤ 400 := hIF.at hf20
  obtain ⟨v23, hf22⟩ : ∃ z : Int32, F 16 = z := ⟨_, rfl⟩
  have hq_v23 := tk_rng v23
  rw [hf22] at hpo12 hpo13
  have hr_v23 : 0 ≤ v23.toInt ∧ v23.toInt ≤ 3 := hIF.at hf22
  obtain ⟨w25, hf24⟩ : ∃ z : Int64, G 17 = z := ⟨_, rfl⟩
  have hq_w25 := tk_rngL w25
  rw [hf24] at hpo13
  obtain ⟨v27, hf26⟩ : ∃ z : Int32, F 19 = z := ⟨_, rfl⟩
  have hq_v27 := tk_rng v27
  rw [hf26] at hpo14
  have hr_v27 : 0 ≤ v27.toInt ∧ v27.toInt ≤ 1 := hIF.at hf26
  obtain ⟨v29, hf28⟩ : ∃ z : Int32, F 23 = z := ⟨_, rfl⟩
  have hq_v29 := tk_rng v29
  rw [hf28] at hpo15
  have hr_v29 : 0 ≤ v29.toInt ∧ v29.toInt ≤ 400 := hIF.at hf28
  obtain ⟨v31, hf30⟩ : ∃ z : Int32, F 21 = z := ⟨_, rfl⟩
  have hq_v31 := tk_rng v31
  rw [hf30] at hpo16
  have hr_v31 : 0 ≤ v31.toInt ∧ v31.toInt ≤ 12 := hIF.at hf30
  refine lv_aload_n hx hb dX13_orders_15 rfl (lv_at hl 0 rfl) ?_
  refine mz_Vv (As := []) (rest := []) ⟨hx, hb, hml, hown, hts⟩ hK hM hS (k_X13_readOrder l D cy ld ad am hD _ _ _ _ v19 v21 v23 v6 w25 v27 v29 v31 hIF hIG hIR hf18 hf20 hf22 hf5 hf24 hf26 hf28 hf30 (by omega) (by omega) (by omega) (by omega) (by omega) (by omega) (by rw [show v31.toInt = 0 by omega]; exact CLS.none _ _ _ _ _ _) (by rw [show v31.toInt = 0 by omega]; exact TMS.none _)) ⟨callB_of 0 hts (wl_in mw_1014) rfl rfl rfl (htl _ mw_5) (htl _ mw_1011) hd_yX13_readOrder ⟨(Nat.le_of_ble_eq_true rfl), (Nat.le_of_ble_eq_true rfl)⟩, htl _ mw_1012, htl _ mw_1013⟩ rfl hl.1 rfl (Nat.le_of_ble_eq_true rfl) dX13_orders_16 ⟨(Nat.le_of_ble_eq_true rfl), (Nat.le_of_ble_eq_true rfl)⟩ (fun H locs F G R S hpo hM hS => ?_)
  obtain ⟨hIF, hIG, hIR, hfr9, hrr9, hgr9, hpo32, hpo33, hpo34, hpo35, hpo36, hpo37, hpo38, hpo39, hpo40, hx41, hx42⟩ := hpo
  have hFF := mz_fr (K := [0, 1, 8, 13, 14, 15, 16, 18, 19, 20, 21, 23, 26, 29, 30, 34, 38, 41, 62, 63, 64, 65]) (Fa := Fa) hfr9 hFF (by decide)
  have hRR := mz_fr (K := [2, 3, 6, 7, 9, 10, 24, 25, 27, 28, 42, 61]) (Fa := Ra) hrr9 hRR (by decide)
  have hGG := mz_fr (K := [17, 39, 40]) (Fa := Ga) hgr9 hGG (by decide)
  have hrel : rK1 (Ra 3) (R 3) := hrel.trans (rK1.refl (hrr9 3 (by decide)))
  have hf2 := (hfr9 0 (by decide)).trans hf2
  have hf4 := (hfr9 64 (by decide)).trans hf4
  have hf5 := (hfr9 13 (by decide)).trans hf5
  obtain ⟨v45, hf44⟩ : ∃ z : Int32, F 14 = z := ⟨_, rfl⟩
  have hq_v45 := tk_rng v45
  rw [hf44] at hpo32 hpo34 hpo35 hpo36 hpo38 hpo40
  have hr_v45 : 0 ≤ v45.toInt ∧ v45.toInt ≤ 400 := hIF.at hf44
  obtain ⟨v47, hf46⟩ : ∃ z : Int32, F 15 = z := ⟨_, rfl⟩
  have hq_v47 := tk_rng v47
  rw [hf46] at hpo32 hpo33 hpo34 hpo35
  have hr_v47 : 0 ≤ v47.toInt ∧ v47.toInt ≤ 400 := hIF.at hf46
  obtain ⟨v49, hf48⟩ : ∃ z : Int32, F 16 = z := ⟨_, rfl⟩
  have hq_v49 := tk_rng v49
  rw [hf48] at hpo34 hpo35
  have hr_v49 : 0 ≤ v49.toInt ∧ v49.toInt ≤ 3 := hIF.at hf48
  obtain ⟨w51, hf50⟩ : ∃ z : Int64, G 17 = z := ⟨_, rfl⟩
  have hq_w51 := tk_rngL w51
  rw [hf50] at hpo35
  obtain ⟨v53, hf52⟩ : ∃ z : Int32, F 19 = z := ⟨_, rfl⟩
  have hq_v53 := tk_rng v53
  rw [hf52] at hpo39 hpo40
  have hr_v53 : 0 ≤ v53.toInt ∧ v53.toInt ≤ 1 := hIF.at hf52
  obtain ⟨v55, hf54⟩ : ∃ z : Int32, F 23 = z := ⟨_, rfl⟩
  have hq_v55 := tk_rng v55
  rw [hf54] at hpo37 hpo38
  have hr_v55 : 0 ≤ v55.toInt ∧ v55.toInt ≤ 400 := hIF.at hf54
  obtain ⟨v57, hf56⟩ : ∃ z : Int32, F 21 = z := ⟨_, rfl⟩
  have hq_v57 := tk_rng v57
  have hr_v57 : 0 ≤ v57.toInt ∧ v57.toInt ≤ 12 := hIF.at hf56
  have hCL : (F 19).toInt = 0 → CLS 10 [1, 3, 5, 7] (R 24) (R 25) (R 61) (F 23).toInt (F 21).toInt ∧ TMS (R 61) (F 21).toInt := fun h9 => ⟨hx41 h9, hx42 h9⟩
  have hl103411 : ∀ (N_l103411 : Nat) (v20032 : Int32) (v20033 : Int32) (v20034 : Int32) (v20035 : Int64) (v20036 : Int32) (v20037 : Int32) (v20038 : Int32) (H : Heap) (locs : List Loc) (F : Nat → Int32) (G : Nat → Int64) (R : Nat → Nat → Int32) (S : Nat → Nat → Int64), (0 ≤ v20034.toInt) → (v20036.toInt ≤ 1) → (0 ≤ v20038.toInt) → (v20038.toInt ≤ 12) → (0 ≤ v20032.toInt + (-1) * v45.toInt) → (0 ≤ v20033.toInt + (-1) * v47.toInt) → (0 ≤ (-1) * v20034.toInt + v49.toInt) → (0 ≤ v20036.toInt + (-1) * v53.toInt) → (0 ≤ v20037.toInt + (-1) * v55.toInt) → (0 ≤ (-1) * v20032.toInt + v20033.toInt) → (0 ≤ (-1) * v20033.toInt + v6.toInt) → (0 ≤ v20032.toInt + (-1) * v20037.toInt) → (mz_S D cy ad am F G R S H) → (va_S (mz_W ad am) s.heap H locs) → (mz_IF false F) → (mz_IG G) → (mz_IR [] true R) → (∀ k : Nat, k ∉ ([0, 1, 8, 13, 14, 15, 16, 18, 19, 20, 21, 23, 26, 29, 30, 34, 38, 41, 62, 63, 64, 65] : List Nat) → F k = Fa k) → (∀ k : Nat, k ∉ ([17, 39, 40] : List Nat) → G k = Ga k) → (∀ k : Nat, k ∉ ([2, 3, 6, 7, 9, 10, 24, 25, 27, 28, 42, 61] : List Nat) → R k = Ra k) → (rK1 (Ra 3) (R 3)) → (F 0 = 0) → (F 64 = (-1)) → (F 13 = v6) → (F 14 = v20032) → (F 15 = v20033) → (F 16 = v20034) → (G 17 = v20035) → (F 19 = v20036) → (F 23 = v20037) → (F 21 = v20038) → ((1 ≤ v20034.toInt → 0 ≤ (-1) * v20032.toInt + v20033.toInt + (-1))) → ((27 ≤ v20035.toInt → 1 ≤ v20034.toInt → v20034.toInt ≤ 1 → 0 ≤ (-1) * v20032.toInt + v20033.toInt + (-2))) → ((F 19).toInt = 0 → CLS 10 [1, 3, 5, 7] (R 24) (R 25) (R 61) (F 23).toInt (F 21).toInt ∧ TMS (R 61) (F 21).toInt) → (mz_me v20036.toInt 0 v20032.toInt < (N_l103411 : Int)) → ∀ ls : Array Slot, lv_has ls 4 [(0, .ref am)] → W p l e ({ frames := 13, cells := 0, slots := 0, locals := 840 }) s m args below meth c H locs 0 0 (MQ below (mz_i D cy ad am (fun r F G R S => mz_IF true F ∧ mz_IG G ∧ mz_IR [] true R ∧ (∀ k : Nat, k ∉ ([0, 1, 8, 13, 14, 15, 16, 18, 19, 20, 21, 23, 26, 29, 30, 34, 38, 41, 62, 63, 64, 65] : List Nat) → F k = Fa k) ∧ (∀ k : Nat, k ∉ ([2, 3, 6, 7, 9, 10, 24, 25, 27, 28, 42, 61] : List Nat) → R k = Ra k) ∧ (∀ k : Nat, k ∉ ([17, 39, 40] : List Nat) → G k = Ga k) ∧ rK1 (Ra 3) (R 3) ∧ (F 13).toInt = 0 ∧ (-6) ≤ r.toInt ∧ r.toInt ≤ 255)) args s 0 0 (mz_W ad am)) (F0 m 19 ls []) := by
    intro N_l103411
    induction N_l103411 with
    | zero => intro v20032 v20033 v20034 v20035 v20036 v20037 v20038 H locs F G R S hq0_l103411 hq1_l103411 hq2_l103411 hq3_l103411 hq4_l103411 hq5_l103411 hq6_l103411 hq7_l103411 hq8_l103411 hq9_l103411 hq10_l103411 hq11_l103411 hM hS hIF hIG hIR hFF hGG hRR hrel hf2 hf4 hf5 hf44 hf46 hf48 hf50 hf52 hf54 hf56 hc0_l103411 hc1_l103411 hCL hm_l103411 ls hl; exfalso; have h9 := mz_me.nn (b := v20036.toInt) (t := 0) (f := v20032.toInt) (by decide) (by omega); omega
    | succ N_l103411 ih_l103411 =>
      intro v20032 v20033 v20034 v20035 v20036 v20037 v20038 H locs F G R S hq0_l103411 hq1_l103411 hq2_l103411 hq3_l103411 hq4_l103411 hq5_l103411 hq6_l103411 hq7_l103411 hq8_l103411 hq9_l103411 hq10_l103411 hq11_l103411 hM hS hIF hIG hIR hFF hGG hRR hrel hf2 hf4 hf5 hf44 hf46 hf48 hf50 hf52 hf54 hf56 hc0_l103411 hc1_l103411 hCL hm_l103411 ls hl
      refine lv_aload_n hx hb dX13_orders_19 rfl (lv_at hl 0 rfl) ?_
      refine mz_getI hx hb htl hown hK hM 19 (Nat.le_of_ble_eq_true rfl) rfl (htl _ mw_668) (fun _ h9 => h9) dX13_orders_20 (fun v9 e9 => ?_)
      refine fx_ti (v := v20036) (e9.symm.trans hf52) ?_
      refine lv_if_ne (tgt := 46) hx hb dX13_orders_23 (by decide) (fun c9 => ?_) (fun c9 => ?_)
      · have hc103412 : ¬ (v20036.toInt = 0) := fun h9 => c9 ((fi_eq rfl (show (0 : Int32).toInt = 0 by decide)).mpr h9)
        refine lv_aload_n hx hb dX13_orders_46 rfl (lv_at hl 0 rfl) ?_
        have hf520 := hf52
        refine mz_Vv (As := []) (rest := []) ⟨hx, hb, hml, hown, hts⟩ hK hM hS (k_X13_endText_x l D cy ld ad am hD _ _ _ _ v20032 v20033 v20034 v6 v20035 v20036 hIF hIG hIR hf44 hf46 hf48 hf5 hf50 hf52 (by omega) (by omega) (by omega) (by omega)) ⟨callB_of 0 hts (wl_in mw_795) rfl rfl rfl (htl _ mw_5) (htl _ mw_792) hd_yX13_endText ⟨(Nat.le_of_ble_eq_true rfl), (Nat.le_of_ble_eq_true rfl)⟩, htl _ mw_793, htl _ mw_794⟩ rfl hl.1 rfl (Nat.le_of_ble_eq_true rfl) dX13_orders_47 ⟨(Nat.le_of_ble_eq_true rfl), (Nat.le_of_ble_eq_true rfl)⟩ (fun H locs F G R S hpo hM hS => ?_)
        obtain ⟨hIF, hIG, hIR, hfr9, hrr9, hgr9, hpo103413, hpo103414⟩ := hpo
        have hFF := mz_fr (K := [0, 1, 8, 13, 14, 15, 16, 18, 19, 20, 21, 23, 26, 29, 30, 34, 38, 41, 62, 63, 64, 65]) (Fa := Fa) hfr9 hFF (by decide)
        have hRR := mz_fr (K := [2, 3, 6, 7, 9, 10, 24, 25, 27, 28, 42, 61]) (Fa := Ra) hrr9 hRR (by decide)
        have hGG := mz_fr (K := [17, 39, 40]) (Fa := Ga) hgr9 hGG (by decide)
        have hrel : rK1 (Ra 3) (R 3) := hrel.trans (rK1.refl (hrr9 3 (by decide)))
        have hf2 := (hfr9 0 (by decide)).trans hf2
        have hf4 := (hfr9 64 (by decide)).trans hf4
        have hf54 := (hfr9 23 (by decide)).trans hf54
        have hf56 := (hfr9 21 (by decide)).trans hf56
        obtain ⟨v103417, hf103416⟩ : ∃ z : Int32, F 19 = z := ⟨_, rfl⟩
        have hq_v103417 := tk_rng v103417
        rw [hf103416] at hpo103413
        have hr_v103417 : 0 ≤ v103417.toInt ∧ v103417.toInt ≤ 1 := hIF.at hf103416
        obtain ⟨v103419, hf103418⟩ : ∃ z : Int32, F 13 = z := ⟨_, rfl⟩
        have hq_v103419 := tk_rng v103419
        rw [hf103418] at hpo103414
        have hr_v103419 : 0 ≤ v103419.toInt ∧ v103419.toInt ≤ 400 := hIF.at hf103418
        have hCL : (F 19).toInt = 0 → CLS 10 [1, 3, 5, 7] (R 24) (R 25) (R 61) (F 23).toInt (F 21).toInt ∧ TMS (R 61) (F 21).toInt := by rw [hf103416, hfr9 23 (by decide), hfr9 21 (by decide), hrr9 24 (by decide), hrr9 25 (by decide), hrr9 61 (by decide)]; exact fun h9 => hCL (by rw [hf520]; omega)
        refine lv_aload_n hx hb dX13_orders_50 rfl (lv_at hl 0 rfl) ?_
        refine mz_getI hx hb htl hown hK hM 19 (Nat.le_of_ble_eq_true rfl) rfl (htl _ mw_668) (fun _ h9 => h9) dX13_orders_51 (fun v9 e9 => ?_)
        refine fx_ti (v := v103417) (e9.symm.trans hf103416) ?_
        refine lv_if_eq (tgt := 64) hx hb dX13_orders_54 (by decide) (fun c9 => absurd (show v103417.toInt = 0 from (fi_eq rfl (show (0 : Int32).toInt = 0 by decide)).mp c9) (by omega)) (fun _ => ?_)
        refine lv_aload_n hx hb dX13_orders_57 rfl (lv_at hl 0 rfl) ?_
        refine lv_bipush (v := (-6)) hx hb dX13_orders_58 (by decide) ?_
        have hk_m6 : ((-6) : Int32).toInt = (-6) := by decide
        refine mz_Vi (As := [.int (-6)]) (rest := []) ⟨hx, hb, hml, hown, hts⟩ hK hM hS (k_X13_tell l D cy ld ad am hD _ _ _ _ (-6) hIF hIG hIR (by omega) (by omega)) ⟨callB_of 1 hts (wl_in mw_296) rfl rfl rfl (htl _ mw_5) (htl _ mw_293) hd_yX13_tell ⟨(Nat.le_of_ble_eq_true rfl), (Nat.le_of_ble_eq_true rfl)⟩, htl _ mw_294, htl _ mw_295⟩ rfl hl.1 rfl (Nat.le_of_ble_eq_true rfl) dX13_orders_60 ⟨(Nat.le_of_ble_eq_true rfl), (Nat.le_of_ble_eq_true rfl)⟩ (fun v103420 H locs F G R S hpo hM hS => ?_)
        obtain ⟨hIF, hIG, hIR, hfr9, hrr9, hgr9, hpo103421⟩ := hpo
        have hq_v103420 := tk_rng v103420
        have hFF := mz_fr (K := [0, 1, 8, 13, 14, 15, 16, 18, 19, 20, 21, 23, 26, 29, 30, 34, 38, 41, 62, 63, 64, 65]) (Fa := Fa) hfr9 hFF (by decide)
        have hRR := mz_fr (K := [2, 3, 6, 7, 9, 10, 24, 25, 27, 28, 42, 61]) (Fa := Ra) hrr9 hRR (by decide)
        have hGG := mz_fr (K := [17, 39, 40]) (Fa := Ga) hgr9 hGG (by decide)
        have hrel : rK1 (Ra 3) (R 3) := hrel.trans (rK1.refl (hrr9 3 (by decide)))
        have hf2 := (hfr9 0 (by decide)).trans hf2
        have hf4 := (hfr9 64 (by decide)).trans hf4
        have hf54 := (hfr9 23 (by decide)).trans hf54
        have hf56 := (hfr9 21 (by decide)).trans hf56
        have hf103416 := (hfr9 19 (by decide)).trans hf103416
        have hf103418 := (hfr9 13 (by decide)).trans hf103418
        exact mz_iret (v := v103420) hx hb hr rfl hlocks ⟨hIF, hIG, hIR, hFF, hRR, hGG, hrel, (by rw [hf103418]; omega), (by omega), (by omega)⟩ hM hS dX13_orders_63
      · have hc103412 : v20036.toInt = 0 := (fi_eq rfl (show (0 : Int32).toInt = 0 by decide)).mp c9
        have hwk_103423 : 0 ≤ (-1) * v19.toInt + v45.toInt + (-1) := by omega
        refine lv_aload_n hx hb dX13_orders_26 rfl (lv_at hl 0 rfl) ?_
        refine lv_bipush (v := 59) hx hb dX13_orders_27 (by decide) ?_
        have hk_59 : (59 : Int32).toInt = 59 := by decide
        refine mz_Vj (As := [.int 59]) (rest := []) ⟨hx, hb, hml, hown, hts⟩ hK hM hS (k_X13_isSign l D cy ld ad am hD _ _ _ _ 59 v20034 hIF hIG hIR hf48) ⟨callB_of 1 hts (wl_in mw_732) rfl rfl rfl (htl _ mw_5) (htl _ mw_729) hd_yX13_isSign ⟨(Nat.le_of_ble_eq_true rfl), (Nat.le_of_ble_eq_true rfl)⟩, htl _ mw_730, htl _ mw_731⟩ rfl hl.1 rfl (Nat.le_of_ble_eq_true rfl) dX13_orders_29 ⟨(Nat.le_of_ble_eq_true rfl), (Nat.le_of_ble_eq_true rfl)⟩ (fun v103424 H locs hpo hM hS => ?_)
        obtain ⟨hpo103425, hpo103426, hpo103427, hpo103428, hpo103429⟩ := hpo
        have hq_v103424 := tk_rng v103424
        refine lv_if_eq (tgt := 46) hx hb dX13_orders_32 (by decide) (fun c9 => ?_) (fun c9 => ?_)
        · have hc103431 : v103424.toInt = 0 := (fi_eq rfl (show (0 : Int32).toInt = 0 by decide)).mp c9
          refine lv_aload_n hx hb dX13_orders_46 rfl (lv_at hl 0 rfl) ?_
          have hf520 := hf52
          refine mz_Vv (As := []) (rest := []) ⟨hx, hb, hml, hown, hts⟩ hK hM hS (k_X13_endText_x l D cy ld ad am hD _ _ _ _ v20032 v20033 v20034 v6 v20035 v20036 hIF hIG hIR hf44 hf46 hf48 hf5 hf50 hf52 (by omega) (by omega) (by omega) (by omega)) ⟨callB_of 0 hts (wl_in mw_795) rfl rfl rfl (htl _ mw_5) (htl _ mw_792) hd_yX13_endText ⟨(Nat.le_of_ble_eq_true rfl), (Nat.le_of_ble_eq_true rfl)⟩, htl _ mw_793, htl _ mw_794⟩ rfl hl.1 rfl (Nat.le_of_ble_eq_true rfl) dX13_orders_47 ⟨(Nat.le_of_ble_eq_true rfl), (Nat.le_of_ble_eq_true rfl)⟩ (fun H locs F G R S hpo hM hS => ?_)
          obtain ⟨hIF, hIG, hIR, hfr9, hrr9, hgr9, hpo103432, hpo103433⟩ := hpo
          have hFF := mz_fr (K := [0, 1, 8, 13, 14, 15, 16, 18, 19, 20, 21, 23, 26, 29, 30, 34, 38, 41, 62, 63, 64, 65]) (Fa := Fa) hfr9 hFF (by decide)
          have hRR := mz_fr (K := [2, 3, 6, 7, 9, 10, 24, 25, 27, 28, 42, 61]) (Fa := Ra) hrr9 hRR (by decide)
          have hGG := mz_fr (K := [17, 39, 40]) (Fa := Ga) hgr9 hGG (by decide)
          have hrel : rK1 (Ra 3) (R 3) := hrel.trans (rK1.refl (hrr9 3 (by decide)))
          have hf2 := (hfr9 0 (by decide)).trans hf2
          have hf4 := (hfr9 64 (by decide)).trans hf4
          have hf54 := (hfr9 23 (by decide)).trans hf54
          have hf56 := (hfr9 21 (by decide)).trans hf56
          obtain ⟨v103436, hf103435⟩ : ∃ z : Int32, F 19 = z := ⟨_, rfl⟩
          have hq_v103436 := tk_rng v103436
          rw [hf103435] at hpo103432
          have hr_v103436 : 0 ≤ v103436.toInt ∧ v103436.toInt ≤ 1 := hIF.at hf103435
          obtain ⟨v103438, hf103437⟩ : ∃ z : Int32, F 13 = z := ⟨_, rfl⟩
          have hq_v103438 := tk_rng v103438
          rw [hf103437] at hpo103433
          have hr_v103438 : 0 ≤ v103438.toInt ∧ v103438.toInt ≤ 400 := hIF.at hf103437
          have hCL : (F 19).toInt = 0 → CLS 10 [1, 3, 5, 7] (R 24) (R 25) (R 61) (F 23).toInt (F 21).toInt ∧ TMS (R 61) (F 21).toInt := by rw [hf103435, hfr9 23 (by decide), hfr9 21 (by decide), hrr9 24 (by decide), hrr9 25 (by decide), hrr9 61 (by decide)]; exact fun h9 => hCL (by rw [hf520]; omega)
          refine lv_aload_n hx hb dX13_orders_50 rfl (lv_at hl 0 rfl) ?_
          refine mz_getI hx hb htl hown hK hM 19 (Nat.le_of_ble_eq_true rfl) rfl (htl _ mw_668) (fun _ h9 => h9) dX13_orders_51 (fun v9 e9 => ?_)
          refine fx_ti (v := v103436) (e9.symm.trans hf103435) ?_
          refine lv_if_eq (tgt := 64) hx hb dX13_orders_54 (by decide) (fun c9 => ?_) (fun c9 => ?_)
          · have hc103439 : v103436.toInt = 0 := (fi_eq rfl (show (0 : Int32).toInt = 0 by decide)).mp c9
            have hk_0 : (0 : Int32).toInt = 0 := by decide
            have hk_m1 : ((-1) : Int32).toInt = (-1) := by decide
            exact kz_X13_orders_c1 l D cy ld ad am hD Fa Ga Ra Sa hx hb hr hml hts htl hown hlocks hK v103436 v103438 v20037 v20038 _ _ _ _ _ _ (by omega) (by omega) (by omega) (by omega) (by omega) (by omega) (by omega) (by omega) hM hS hIF hIG hIR hFF hGG hRR hrel hf2 hf4 hf54 hf56 hf103435 hf103437 hCL _ (lv_sub hl [0] rfl)
          · have hc103439 : ¬ (v103436.toInt = 0) := fun h9 => c9 ((fi_eq rfl (show (0 : Int32).toInt = 0 by decide)).mpr h9)
            refine lv_aload_n hx hb dX13_orders_57 rfl (lv_at hl 0 rfl) ?_
            refine lv_bipush (v := (-6)) hx hb dX13_orders_58 (by decide) ?_
            have hk_m6 : ((-6) : Int32).toInt = (-6) := by decide
            refine mz_Vi (As := [.int (-6)]) (rest := []) ⟨hx, hb, hml, hown, hts⟩ hK hM hS (k_X13_tell l D cy ld ad am hD _ _ _ _ (-6) hIF hIG hIR (by omega) (by omega)) ⟨callB_of 1 hts (wl_in mw_296) rfl rfl rfl (htl _ mw_5) (htl _ mw_293) hd_yX13_tell ⟨(Nat.le_of_ble_eq_true rfl), (Nat.le_of_ble_eq_true rfl)⟩, htl _ mw_294, htl _ mw_295⟩ rfl hl.1 rfl (Nat.le_of_ble_eq_true rfl) dX13_orders_60 ⟨(Nat.le_of_ble_eq_true rfl), (Nat.le_of_ble_eq_true rfl)⟩ (fun v117451 H locs F G R S hpo hM hS => ?_)
            obtain ⟨hIF, hIG, hIR, hfr9, hrr9, hgr9, hpo117452⟩ := hpo
            have hq_v117451 := tk_rng v117451
            have hFF := mz_fr (K := [0, 1, 8, 13, 14, 15, 16, 18, 19, 20, 21, 23, 26, 29, 30, 34, 38, 41, 62, 63, 64, 65]) (Fa := Fa) hfr9 hFF (by decide)
            have hRR := mz_fr (K := [2, 3, 6, 7, 9, 10, 24, 25, 27, 28, 42, 61]) (Fa := Ra) hrr9 hRR (by decide)
            have hGG := mz_fr (K := [17, 39, 40]) (Fa := Ga) hgr9 hGG (by decide)
            have hrel : rK1 (Ra 3) (R 3) := hrel.trans (rK1.refl (hrr9 3 (by decide)))
            have hf2 := (hfr9 0 (by decide)).trans hf2
            have hf4 := (hfr9 64 (by decide)).trans hf4
            have hf54 := (hfr9 23 (by decide)).trans hf54
            have hf56 := (hfr9 21 (by decide)).trans hf56
            have hf103435 := (hfr9 19 (by decide)).trans hf103435
            have hf103437 := (hfr9 13 (by decide)).trans hf103437
            exact mz_iret (v := v117451) hx hb hr rfl hlocks ⟨hIF, hIG, hIR, hFF, hRR, hGG, hrel, (by rw [hf103437]; omega), (by omega), (by omega)⟩ hM hS dX13_orders_63
        · have hc103431 : ¬ (v103424.toInt = 0) := fun h9 => c9 ((fi_eq rfl (show (0 : Int32).toInt = 0 by decide)).mpr h9)
          have hwk_117454 : v20034.toInt + (-3) = 0 := by omega
          have hwk_117455 : 0 ≤ (-1) * v45.toInt + v47.toInt + (-1) := by omega
          have hwk_117456 : 0 ≤ (-1) * v20032.toInt + v20033.toInt + (-1) := by omega
          refine lv_aload_n hx hb dX13_orders_35 rfl (lv_at hl 0 rfl) ?_
          refine mz_Vv (As := []) (rest := []) ⟨hx, hb, hml, hown, hts⟩ hK hM hS (k_X13_next l D cy ld ad am hD _ _ _ _ v20033 v6 hIF hIG hIR hf46 hf5 (by omega)) ⟨callB_of 0 hts (wl_in mw_685) rfl rfl rfl (htl _ mw_5) (htl _ mw_682) hd_yX13_next ⟨(Nat.le_of_ble_eq_true rfl), (Nat.le_of_ble_eq_true rfl)⟩, htl _ mw_683, htl _ mw_684⟩ rfl hl.1 rfl (Nat.le_of_ble_eq_true rfl) dX13_orders_36 ⟨(Nat.le_of_ble_eq_true rfl), (Nat.le_of_ble_eq_true rfl)⟩ (fun H locs F G R S hpo hM hS => ?_)
          obtain ⟨hIF, hIG, hIR, hfr9, hrr9, hgr9, hpo117457, hpo117458, hpo117459, hpo117460, hpo117461⟩ := hpo
          have hFF := mz_fr (K := [0, 1, 8, 13, 14, 15, 16, 18, 19, 20, 21, 23, 26, 29, 30, 34, 38, 41, 62, 63, 64, 65]) (Fa := Fa) hfr9 hFF (by decide)
          have hRR := mz_fr (K := [2, 3, 6, 7, 9, 10, 24, 25, 27, 28, 42, 61]) (Fa := Ra) hrr9 hRR (by decide)
          have hGG := mz_fr (K := [17, 39, 40]) (Fa := Ga) hgr9 hGG (by decide)
          have hrel : rK1 (Ra 3) (R 3) := hrel.trans (rK1.refl (hrr9 3 (by decide)))
          have hf2 := (hfr9 0 (by decide)).trans hf2
          have hf4 := (hfr9 64 (by decide)).trans hf4
          have hf5 := (hfr9 13 (by decide)).trans hf5
          have hf52 := (hfr9 19 (by decide)).trans hf52
          have hf54 := (hfr9 23 (by decide)).trans hf54
          have hf56 := (hfr9 21 (by decide)).trans hf56
          obtain ⟨v117464, hf117463⟩ : ∃ z : Int32, F 14 = z := ⟨_, rfl⟩
          have hq_v117464 := tk_rng v117464
          rw [hf117463] at hpo117457 hpo117458 hpo117460 hpo117461
          have hr_v117464 : 0 ≤ v117464.toInt ∧ v117464.toInt ≤ 400 := hIF.at hf117463
          obtain ⟨v117466, hf117465⟩ : ∃ z : Int32, F 15 = z := ⟨_, rfl⟩
          have hq_v117466 := tk_rng v117466
          rw [hf117465] at hpo117458 hpo117459 hpo117460 hpo117461
          have hr_v117466 : 0 ≤ v117466.toInt ∧ v117466.toInt ≤ 400 := hIF.at hf117465
          obtain ⟨v117468, hf117467⟩ : ∃ z : Int32, F 16 = z := ⟨_, rfl⟩
          have hq_v117468 := tk_rng v117468
          rw [hf117467] at hpo117460 hpo117461
          have hr_v117468 : 0 ≤ v117468.toInt ∧ v117468.toInt ≤ 3 := hIF.at hf117467
          obtain ⟨w117470, hf117469⟩ : ∃ z : Int64, G 17 = z := ⟨_, rfl⟩
          have hq_w117470 := tk_rngL w117470
          rw [hf117469] at hpo117461
          have hCL : (F 19).toInt = 0 → CLS 10 [1, 3, 5, 7] (R 24) (R 25) (R 61) (F 23).toInt (F 21).toInt ∧ TMS (R 61) (F 21).toInt := by rw [hfr9 19 (by decide), hfr9 23 (by decide), hfr9 21 (by decide), hrr9 24 (by decide), hrr9 25 (by decide), hrr9 61 (by decide)]; exact hCL
          refine lv_aload_n hx hb dX13_orders_39 rfl (lv_at hl 0 rfl) ?_
          refine mz_Vv (As := []) (rest := []) ⟨hx, hb, hml, hown, hts⟩ hK hM hS (k_X13_readOrder l D cy ld ad am hD _ _ _ _ v117464 v117466 v117468 v6 w117470 v20036 v20037 v20038 hIF hIG hIR hf117463 hf117465 hf117467 hf5 hf117469 hf52 hf54 hf56 (by omega) (by omega) (by omega) (by omega) (by omega) (by omega) (by have h9 := (hCL (by rw [hf52]; omega)).1; rw [hf54, hf56] at h9; exact h9) (by have h9 := (hCL (by rw [hf52]; omega)).2; rw [hf56] at h9; exact h9)) ⟨callB_of 0 hts (wl_in mw_1014) rfl rfl rfl (htl _ mw_5) (htl _ mw_1011) hd_yX13_readOrder ⟨(Nat.le_of_ble_eq_true rfl), (Nat.le_of_ble_eq_true rfl)⟩, htl _ mw_1012, htl _ mw_1013⟩ rfl hl.1 rfl (Nat.le_of_ble_eq_true rfl) dX13_orders_40 ⟨(Nat.le_of_ble_eq_true rfl), (Nat.le_of_ble_eq_true rfl)⟩ (fun H locs F G R S hpo hM hS => ?_)
          obtain ⟨hIF, hIG, hIR, hfr9, hrr9, hgr9, hpo117471, hpo117472, hpo117473, hpo117474, hpo117475, hpo117476, hpo117477, hpo117478, hpo117479, hx117480, hx117481⟩ := hpo
          have hFF := mz_fr (K := [0, 1, 8, 13, 14, 15, 16, 18, 19, 20, 21, 23, 26, 29, 30, 34, 38, 41, 62, 63, 64, 65]) (Fa := Fa) hfr9 hFF (by decide)
          have hRR := mz_fr (K := [2, 3, 6, 7, 9, 10, 24, 25, 27, 28, 42, 61]) (Fa := Ra) hrr9 hRR (by decide)
          have hGG := mz_fr (K := [17, 39, 40]) (Fa := Ga) hgr9 hGG (by decide)
          have hrel : rK1 (Ra 3) (R 3) := hrel.trans (rK1.refl (hrr9 3 (by decide)))
          have hf2 := (hfr9 0 (by decide)).trans hf2
          have hf4 := (hfr9 64 (by decide)).trans hf4
          have hf5 := (hfr9 13 (by decide)).trans hf5
          obtain ⟨v117484, hf117483⟩ : ∃ z : Int32, F 14 = z := ⟨_, rfl⟩
          have hq_v117484 := tk_rng v117484
          rw [hf117483] at hpo117471 hpo117473 hpo117474 hpo117475 hpo117477 hpo117479
          have hr_v117484 : 0 ≤ v117484.toInt ∧ v117484.toInt ≤ 400 := hIF.at hf117483
          obtain ⟨v117486, hf117485⟩ : ∃ z : Int32, F 15 = z := ⟨_, rfl⟩
          have hq_v117486 := tk_rng v117486
          rw [hf117485] at hpo117471 hpo117472 hpo117473 hpo117474
          have hr_v117486 : 0 ≤ v117486.toInt ∧ v117486.toInt ≤ 400 := hIF.at hf117485
          obtain ⟨v117488, hf117487⟩ : ∃ z : Int32, F 16 = z := ⟨_, rfl⟩
          have hq_v117488 := tk_rng v117488
          rw [hf117487] at hpo117473 hpo117474
          have hr_v117488 : 0 ≤ v117488.toInt ∧ v117488.toInt ≤ 3 := hIF.at hf117487
          obtain ⟨w117490, hf117489⟩ : ∃ z : Int64, G 17 = z := ⟨_, rfl⟩
          have hq_w117490 := tk_rngL w117490
          rw [hf117489] at hpo117474
          obtain ⟨v117492, hf117491⟩ : ∃ z : Int32, F 19 = z := ⟨_, rfl⟩
          have hq_v117492 := tk_rng v117492
          rw [hf117491] at hpo117478 hpo117479
          have hr_v117492 : 0 ≤ v117492.toInt ∧ v117492.toInt ≤ 1 := hIF.at hf117491
          obtain ⟨v117494, hf117493⟩ : ∃ z : Int32, F 23 = z := ⟨_, rfl⟩
          have hq_v117494 := tk_rng v117494
          rw [hf117493] at hpo117476 hpo117477
          have hr_v117494 : 0 ≤ v117494.toInt ∧ v117494.toInt ≤ 400 := hIF.at hf117493
          obtain ⟨v117496, hf117495⟩ : ∃ z : Int32, F 21 = z := ⟨_, rfl⟩
          have hq_v117496 := tk_rng v117496
          have hr_v117496 : 0 ≤ v117496.toInt ∧ v117496.toInt ≤ 12 := hIF.at hf117495
          have hCL : (F 19).toInt = 0 → CLS 10 [1, 3, 5, 7] (R 24) (R 25) (R 61) (F 23).toInt (F 21).toInt ∧ TMS (R 61) (F 21).toInt := fun h9 => ⟨hx117480 h9, hx117481 h9⟩
          refine lv_goto (tgt := 19) hx hb dX13_orders_43 (by decide) ?_
          exact ih_l103411 v117484 v117486 v117488 w117490 v117492 v117494 v117496 _ _ _ _ _ _ (by omega) (by omega) (by omega) (by omega) (by omega) (by omega) (by omega) (by omega) (by omega) (by omega) (by omega) (by omega) hM hS hIF hIG hIR hFF hGG hRR hrel hf2 hf4 hf5 hf117483 hf117485 hf117487 hf117489 hf117491 hf117493 hf117495 (by omega) (by omega) hCL (mz_me.lt hm_l103411 (by omega) (by decide) (by decide) (by omega) (by omega)) _ (lv_sub hl [0] rfl)
  exact hl103411 2011 v45 v47 v49 w51 v53 v55 v57 _ _ _ _ _ _ (by omega) (by omega) (by omega) (by omega) (by omega) (by omega) (by omega) (by omega) (by omega) (by omega) (by omega) (by omega) hM hS hIF hIG hIR hFF hGG hRR hrel hf2 hf4 hf5 hf44 hf46 hf48 hf50 hf52 hf54 hf56 (by omega) (by omega) hCL (mz_me.le (by omega) (by decide)) _ (lv_sub hl [0] rfl)
