theorem hd_yX13_result : yX13_result.cls ≠ "java/lang/invoke/MethodHandle" ∧ yX13_result.cls ≠ "java/lang/invoke/VarHandle" ∧ (parseMethodDescriptor yX13_result.desc).map (fun d => d.parameters.length) = some 5 := by decide +kernel
theorem dX13_resultOnPaper_0 : decode cX13_resultOnPaper 0 = .ok (.aload_n 0, 1) := by decide +kernel
theorem dX13_resultOnPaper_1 : decode cX13_resultOnPaper 1 = .ok (.bipush 20, 2) := by decide +kernel
theorem dX13_resultOnPaper_3 : decode cX13_resultOnPaper 3 = .ok (.invokevirtual 179, 3) := by decide +kernel
theorem dX13_resultOnPaper_6 : decode cX13_resultOnPaper 6 = .ok (.aload_n 0, 1) := by decide +kernel
theorem dX13_resultOnPaper_7 : decode cX13_resultOnPaper 7 = .ok (.iload_n 1, 1) := by decide +kernel
theorem dX13_resultOnPaper_8 : decode cX13_resultOnPaper 8 = .ok (.iload_n 2, 1) := by decide +kernel
theorem dX13_resultOnPaper_9 : decode cX13_resultOnPaper 9 = .ok (.iconst 1, 1) := by decide +kernel
theorem dX13_resultOnPaper_10 : decode cX13_resultOnPaper 10 = .ok (.iload_n 3, 1) := by decide +kernel
theorem dX13_resultOnPaper_11 : decode cX13_resultOnPaper 11 = .ok (.iload 4, 2) := by decide +kernel
theorem dX13_resultOnPaper_13 : decode cX13_resultOnPaper 13 = .ok (.invokevirtual 525, 3) := by decide +kernel
theorem dX13_resultOnPaper_16 : decode cX13_resultOnPaper 16 = .ok (.istore 5, 2) := by decide +kernel
theorem dX13_resultOnPaper_18 : decode cX13_resultOnPaper 18 = .ok (.aload_n 0, 1) := by decide +kernel
theorem dX13_resultOnPaper_19 : decode cX13_resultOnPaper 19 = .ok (.bipush 20, 2) := by decide +kernel
theorem dX13_resultOnPaper_21 : decode cX13_resultOnPaper 21 = .ok (.invokevirtual 187, 3) := by decide +kernel
theorem dX13_resultOnPaper_24 : decode cX13_resultOnPaper 24 = .ok (.iload 5, 2) := by decide +kernel
theorem dX13_resultOnPaper_26 : decode cX13_resultOnPaper 26 = .ok (.ireturn, 1) := by decide +kernel
set_option maxHeartbeats 4000000 in
set_option maxRecDepth 100000 in
theorem k_X13_resultOnPaper (l : Launch) (D : va_G) (cy : Nat → ClassId) (ld ad : Nat → Nat) (am : Nat) (hD : mz_D ad am) (Fa : Nat → Int32) (Ga : Nat → Int64) (Ra : Nat → Nat → Int32) (Sa : Nat → Nat → Int64) (p1 : Int32) (p2 : Int32) (p3 : Int32) (p4 : Int32) (hIF : mz_IF true Fa) (hIG : mz_IG Ga) (hIR : mz_IR [] true Ra) (hp_0 : 0 ≤ p1.toInt) (hp_1 : p1.toInt ≤ 7) (hp_2 : 0 ≤ p2.toInt) (hp_3 : p2.toInt ≤ 7) (hp_4 : (-2) ≤ p3.toInt) (hp_5 : p3.toInt ≤ 9) (hp_6 : (-2) ≤ p4.toInt) (hp_7 : p4.toInt ≤ 9) : Met l yX13_resultOnPaper (wl yX13_resultOnPaper cX13_resultOnPaper 6 (some .int)) ({ frames := 12, cells := 0, slots := 0, locals := 770 }) (mz_p D cy ld ad am Fa Ga Ra Sa [.ref am, .int p1, .int p2, .int p3, .int p4]) (mz_i D cy ad am (fun r F G R S => mz_IF true F ∧ mz_IG G ∧ mz_IR [] true R ∧ (∀ k : Nat, k ∉ ([34, 38, 41] : List Nat) → F k = Fa k) ∧ (∀ k : Nat, k ∉ ([3, 6] : List Nat) → R k = Ra k) ∧ (∀ k : Nat, k ∉ ([39, 40, 47] : List Nat) → G k = Ga k) ∧ rK1 (Ra 3) (R 3) ∧ (-1) ≤ r.toInt ∧ r.toInt ≤ 1)) 0 0 (mz_W ad am) := by sorry
