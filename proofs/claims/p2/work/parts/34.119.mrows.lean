theorem hd_yX13_singIt : yX13_singIt.cls ≠ "java/lang/invoke/MethodHandle" ∧ yX13_singIt.cls ≠ "java/lang/invoke/VarHandle" ∧ (parseMethodDescriptor yX13_singIt.desc).map (fun d => d.parameters.length) = some 1 := by decide +kernel
theorem dX13_singNow_0 : decode cX13_singNow 0 = .ok (.aload_n 0, 1) := by decide +kernel
theorem dX13_singNow_1 : decode cX13_singNow 1 = .ok (.iload_n 1, 1) := by decide +kernel
theorem dX13_singNow_2 : decode cX13_singNow 2 = .ok (.invokevirtual 216, 3) := by decide +kernel
theorem dX13_singNow_5 : decode cX13_singNow 5 = .ok (.ifCond .ne 6, 3) := by decide +kernel
theorem dX13_singNow_11 : decode cX13_singNow 11 = .ok (.aload_n 0, 1) := by decide +kernel
theorem dX13_singNow_12 : decode cX13_singNow 12 = .ok (.invokevirtual 434, 3) := by decide +kernel
theorem dX13_singNow_15 : decode cX13_singNow 15 = .ok (.ifCond .ne 6, 3) := by decide +kernel
theorem dX13_singNow_21 : decode cX13_singNow 21 = .ok (.aload_n 0, 1) := by decide +kernel
theorem dX13_singNow_22 : decode cX13_singNow 22 = .ok (.iload_n 1, 1) := by decide +kernel
theorem dX13_singNow_23 : decode cX13_singNow 23 = .ok (.invokevirtual 437, 3) := by decide +kernel
theorem dX13_singNow_26 : decode cX13_singNow 26 = .ok (.aload_n 0, 1) := by decide +kernel
theorem dX13_singNow_27 : decode cX13_singNow 27 = .ok (.invokevirtual 446, 3) := by decide +kernel
theorem dX13_singNow_30 : decode cX13_singNow 30 = .ok (.ifCond .eq 6, 3) := by decide +kernel
theorem dX13_singNow_36 : decode cX13_singNow 36 = .ok (.aload_n 0, 1) := by decide +kernel
theorem dX13_singNow_37 : decode cX13_singNow 37 = .ok (.iconst 1, 1) := by decide +kernel
theorem dX13_singNow_38 : decode cX13_singNow 38 = .ok (.invokevirtual 455, 3) := by decide +kernel
theorem dX13_singNow_41 : decode cX13_singNow 41 = .ok (.aload_n 0, 1) := by decide +kernel
theorem dX13_singNow_42 : decode cX13_singNow 42 = .ok (.iload_n 1, 1) := by decide +kernel
theorem dX13_singNow_43 : decode cX13_singNow 43 = .ok (.invokevirtual 477, 3) := by decide +kernel
theorem dX13_singNow_46 : decode cX13_singNow 46 = .ok (.ireturn, 1) := by decide +kernel
theorem dX13_singNow_33 : decode cX13_singNow 33 = .ok (.bipush (-3), 2) := by decide +kernel
theorem dX13_singNow_35 : decode cX13_singNow 35 = .ok (.ireturn, 1) := by decide +kernel
theorem dX13_singNow_18 : decode cX13_singNow 18 = .ok (.bipush (-3), 2) := by decide +kernel
theorem dX13_singNow_20 : decode cX13_singNow 20 = .ok (.ireturn, 1) := by decide +kernel
theorem dX13_singNow_8 : decode cX13_singNow 8 = .ok (.bipush (-2), 2) := by decide +kernel
theorem dX13_singNow_10 : decode cX13_singNow 10 = .ok (.ireturn, 1) := by decide +kernel
set_option maxHeartbeats 4000000 in
set_option maxRecDepth 100000 in
theorem k_X13_singNow (l : Launch) (D : va_G) (cy : Nat → ClassId) (ld ad : Nat → Nat) (am : Nat) (hD : mz_D ad am) (Fa : Nat → Int32) (Ga : Nat → Int64) (Ra : Nat → Nat → Int32) (Sa : Nat → Nat → Int64) (p1 : Int32) (hIF : mz_IF true Fa) (hIG : mz_IG Ga) (hIR : mz_IR [] true Ra) : Met l yX13_singNow (wl yX13_singNow cX13_singNow 2 (some .int)) ({ frames := 10, cells := 0, slots := 0, locals := 630 }) (mz_p D cy ld ad am Fa Ga Ra Sa [.ref am, .int p1]) (mz_i D cy ad am (fun r F G R S => mz_IF true F ∧ mz_IG G ∧ mz_IR [] true R ∧ (∀ k : Nat, k ∉ ([8, 34, 38, 41] : List Nat) → F k = Fa k) ∧ (∀ k : Nat, k ∉ ([3, 6, 7] : List Nat) → R k = Ra k) ∧ (∀ k : Nat, k ∉ ([39, 40] : List Nat) → G k = Ga k) ∧ rK1 (Ra 3) (R 3) ∧ (-3) ≤ r.toInt ∧ r.toInt ≤ 999)) 0 0 (mz_W ad am) := by sorry
