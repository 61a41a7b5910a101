theorem hd_yX13_singNow : yX13_singNow.cls ≠ "java/lang/invoke/MethodHandle" ∧ yX13_singNow.cls ≠ "java/lang/invoke/VarHandle" ∧ (parseMethodDescriptor yX13_singNow.desc).map (fun d => d.parameters.length) = some 1 := by decide +kernel
theorem dX13_sing_0 : decode cX13_sing 0 = .ok (.aload_n 0, 1) := by decide +kernel
theorem dX13_sing_1 : decode cX13_sing 1 = .ok (.iconst 0, 1) := by decide +kernel
theorem dX13_sing_2 : decode cX13_sing 2 = .ok (.putfield 170, 3) := by decide +kernel
theorem dX13_sing_5 : decode cX13_sing 5 = .ok (.aload_n 0, 1) := by decide +kernel
theorem dX13_sing_6 : decode cX13_sing 6 = .ok (.aload_n 0, 1) := by decide +kernel
theorem dX13_sing_7 : decode cX13_sing 7 = .ok (.iload_n 1, 1) := by decide +kernel
theorem dX13_sing_8 : decode cX13_sing 8 = .ok (.invokevirtual 480, 3) := by decide +kernel
theorem dX13_sing_11 : decode cX13_sing 11 = .ok (.invokevirtual 183, 3) := by decide +kernel
theorem dX13_sing_14 : decode cX13_sing 14 = .ok (.ireturn, 1) := by decide +kernel
set_option maxHeartbeats 4000000 in
set_option maxRecDepth 100000 in
theorem k_X13_sing (l : Launch) (D : va_G) (cy : Nat → ClassId) (ld ad : Nat → Nat) (am : Nat) (hD : mz_D ad am) (Fa : Nat → Int32) (Ga : Nat → Int64) (Ra : Nat → Nat → Int32) (Sa : Nat → Nat → Int64) (p1 : Int32) (hIF : mz_IF true Fa) (hIG : mz_IG Ga) (hIR : mz_IR [] true Ra) : Met l yX13_sing (wl yX13_sing cX13_sing 2 (some .int)) ({ frames := 11, cells := 0, slots := 0, locals := 700 }) (mz_p D cy ld ad am Fa Ga Ra Sa [.ref am, .int p1]) (mz_i D cy ad am (fun r F G R S => mz_IF true F ∧ mz_IG G ∧ mz_IR [] true R ∧ (∀ k : Nat, k ∉ ([0, 1, 8, 34, 38, 41] : List Nat) → F k = Fa k) ∧ (∀ k : Nat, k ∉ ([2, 3, 6, 7] : List Nat) → R k = Ra k) ∧ (∀ k : Nat, k ∉ ([39, 40] : List Nat) → G k = Ga k) ∧ rK1 (Ra 3) (R 3) ∧ (-3) ≤ r.toInt ∧ r.toInt ≤ 999)) 0 0 (mz_W ad am) := by sorry
