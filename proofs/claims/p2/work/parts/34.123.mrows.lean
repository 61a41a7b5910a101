theorem hd_yX13_dawnNow : yX13_dawnNow.cls ≠ "java/lang/invoke/MethodHandle" ∧ yX13_dawnNow.cls ≠ "java/lang/invoke/VarHandle" ∧ (parseMethodDescriptor yX13_dawnNow.desc).map (fun d => d.parameters.length) = some 0 := by decide +kernel
theorem dX13_dawn_0 : decode cX13_dawn 0 = .ok (.aload_n 0, 1) := by decide +kernel
theorem dX13_dawn_1 : decode cX13_dawn 1 = .ok (.iconst 0, 1) := by decide +kernel
theorem dX13_dawn_2 : decode cX13_dawn 2 = .ok (.putfield 170, 3) := by decide +kernel
theorem dX13_dawn_5 : decode cX13_dawn 5 = .ok (.aload_n 0, 1) := by decide +kernel
theorem dX13_dawn_6 : decode cX13_dawn 6 = .ok (.aload_n 0, 1) := by decide +kernel
theorem dX13_dawn_7 : decode cX13_dawn 7 = .ok (.invokevirtual 489, 3) := by decide +kernel
theorem dX13_dawn_10 : decode cX13_dawn 10 = .ok (.invokevirtual 183, 3) := by decide +kernel
theorem dX13_dawn_13 : decode cX13_dawn 13 = .ok (.ireturn, 1) := by decide +kernel
set_option maxHeartbeats 4000000 in
set_option maxRecDepth 100000 in
theorem k_X13_dawn (l : Launch) (D : va_G) (cy : Nat → ClassId) (ld ad : Nat → Nat) (am : Nat) (hD : mz_D ad am) (Fa : Nat → Int32) (Ga : Nat → Int64) (Ra : Nat → Nat → Int32) (Sa : Nat → Nat → Int64) (hIF : mz_IF true Fa) (hIG : mz_IG Ga) (hIR : mz_IR [] true Ra) : Met l yX13_dawn (wl yX13_dawn cX13_dawn 1 (some .int)) ({ frames := 11, cells := 0, slots := 0, locals := 700 }) (mz_p D cy ld ad am Fa Ga Ra Sa [.ref am]) (mz_i D cy ad am (fun r F G R S => mz_IF true F ∧ mz_IG G ∧ mz_IR [] true R ∧ (∀ k : Nat, k ∉ ([0, 1, 8, 34, 38] : List Nat) → F k = Fa k) ∧ (∀ k : Nat, k ∉ ([2, 3, 6, 7, 42] : List Nat) → R k = Ra k) ∧ (∀ k : Nat, k ∉ ([39, 40] : List Nat) → G k = Ga k) ∧ rK1 (Ra 3) (R 3) ∧ (-3) ≤ r.toInt ∧ r.toInt ≤ 8)) 0 0 (mz_W ad am) := by sorry
