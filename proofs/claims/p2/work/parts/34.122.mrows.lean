theorem hd_yX13_dawnIt : yX13_dawnIt.cls ≠ "java/lang/invoke/MethodHandle" ∧ yX13_dawnIt.cls ≠ "java/lang/invoke/VarHandle" ∧ (parseMethodDescriptor yX13_dawnIt.desc).map (fun d => d.parameters.length) = some 0 := by decide +kernel
theorem dX13_dawnNow_0 : decode cX13_dawnNow 0 = .ok (.aload_n 0, 1) := by decide +kernel
theorem dX13_dawnNow_1 : decode cX13_dawnNow 1 = .ok (.invokevirtual 434, 3) := by decide +kernel
theorem dX13_dawnNow_4 : decode cX13_dawnNow 4 = .ok (.ifCond .ne 14, 3) := by decide +kernel
theorem dX13_dawnNow_18 : decode cX13_dawnNow 18 = .ok (.bipush (-3), 2) := by decide +kernel
theorem dX13_dawnNow_20 : decode cX13_dawnNow 20 = .ok (.ireturn, 1) := by decide +kernel
theorem dX13_dawnNow_7 : decode cX13_dawnNow 7 = .ok (.aload_n 0, 1) := by decide +kernel
theorem dX13_dawnNow_8 : decode cX13_dawnNow 8 = .ok (.iconst 0, 1) := by decide +kernel
theorem dX13_dawnNow_9 : decode cX13_dawnNow 9 = .ok (.invokevirtual 412, 3) := by decide +kernel
theorem dX13_dawnNow_12 : decode cX13_dawnNow 12 = .ok (.sipush 999, 3) := by decide +kernel
theorem dX13_dawnNow_15 : decode cX13_dawnNow 15 = .ok (.if_icmp .ne 6, 3) := by decide +kernel
theorem dX13_dawnNow_21 : decode cX13_dawnNow 21 = .ok (.aload_n 0, 1) := by decide +kernel
theorem dX13_dawnNow_22 : decode cX13_dawnNow 22 = .ok (.iconst 3, 1) := by decide +kernel
theorem dX13_dawnNow_23 : decode cX13_dawnNow 23 = .ok (.invokevirtual 455, 3) := by decide +kernel
theorem dX13_dawnNow_26 : decode cX13_dawnNow 26 = .ok (.aload_n 0, 1) := by decide +kernel
theorem dX13_dawnNow_27 : decode cX13_dawnNow 27 = .ok (.invokevirtual 486, 3) := by decide +kernel
theorem dX13_dawnNow_30 : decode cX13_dawnNow 30 = .ok (.ireturn, 1) := by decide +kernel
set_option maxHeartbeats 4000000 in
set_option maxRecDepth 100000 in
theorem k_X13_dawnNow (l : Launch) (D : va_G) (cy : Nat → ClassId) (ld ad : Nat → Nat) (am : Nat) (hD : mz_D ad am) (Fa : Nat → Int32) (Ga : Nat → Int64) (Ra : Nat → Nat → Int32) (Sa : Nat → Nat → Int64) (hIF : mz_IF true Fa) (hIG : mz_IG Ga) (hIR : mz_IR [] true Ra) : Met l yX13_dawnNow (wl yX13_dawnNow cX13_dawnNow 1 (some .int)) ({ frames := 10, cells := 0, slots := 0, locals := 630 }) (mz_p D cy ld ad am Fa Ga Ra Sa [.ref am]) (mz_i D cy ad am (fun r F G R S => mz_IF true F ∧ mz_IG G ∧ mz_IR [] true R ∧ (∀ k : Nat, k ∉ ([8, 34, 38] : List Nat) → F k = Fa k) ∧ (∀ k : Nat, k ∉ ([3, 6, 7, 42] : List Nat) → R k = Ra k) ∧ (∀ k : Nat, k ∉ ([39, 40] : List Nat) → G k = Ga k) ∧ rK1 (Ra 3) (R 3) ∧ (-3) ≤ r.toInt ∧ r.toInt ≤ 8)) 0 0 (mz_W ad am) := by sorry
