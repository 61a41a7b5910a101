theorem dX13_rule_0 : decode cX13_rule 0 = .ok (.aload_n 0, 1) := by decide +kernel
theorem dX13_rule_1 : decode cX13_rule 1 = .ok (.iconst 0, 1) := by decide +kernel
theorem dX13_rule_2 : decode cX13_rule 2 = .ok (.putfield 170, 3) := by decide +kernel
theorem dX13_rule_5 : decode cX13_rule 5 = .ok (.aload_n 0, 1) := by decide +kernel
theorem dX13_rule_6 : decode cX13_rule 6 = .ok (.iload_n 1, 1) := by decide +kernel
theorem dX13_rule_7 : decode cX13_rule 7 = .ok (.iload_n 2, 1) := by decide +kernel
theorem dX13_rule_8 : decode cX13_rule 8 = .ok (.invokevirtual 529, 3) := by decide +kernel
theorem dX13_rule_11 : decode cX13_rule 11 = .ok (.ifCond .eq 14, 3) := by decide +kernel
theorem dX13_rule_25 : decode cX13_rule 25 = .ok (.sipush (-1000), 3) := by decide +kernel
theorem dX13_rule_28 : decode cX13_rule 28 = .ok (.ireturn, 1) := by decide +kernel
theorem dX13_rule_14 : decode cX13_rule 14 = .ok (.aload_n 0, 1) := by decide +kernel
theorem dX13_rule_15 : decode cX13_rule 15 = .ok (.iload_n 1, 1) := by decide +kernel
theorem dX13_rule_16 : decode cX13_rule 16 = .ok (.iload_n 2, 1) := by decide +kernel
theorem dX13_rule_17 : decode cX13_rule 17 = .ok (.iconst (-1), 1) := by decide +kernel
theorem dX13_rule_18 : decode cX13_rule 18 = .ok (.iconst (-1), 1) := by decide +kernel
theorem dX13_rule_19 : decode cX13_rule 19 = .ok (.invokevirtual 535, 3) := by decide +kernel
theorem dX13_rule_22 : decode cX13_rule 22 = .ok (.goto 6, 3) := by decide +kernel
set_option maxHeartbeats 4000000 in
set_option maxRecDepth 100000 in
theorem k_X13_rule (l : Launch) (D : va_G) (cy : Nat → ClassId) (ld ad : Nat → Nat) (am : Nat) (hD : mz_D ad am) (Fa : Nat → Int32) (Ga : Nat → Int64) (Ra : Nat → Nat → Int32) (Sa : Nat → Nat → Int64) (p1 : Int32) (p2 : Int32) (hIF : mz_IF true Fa) (hIG : mz_IG Ga) (hIR : mz_IR [] true Ra) : Met l yX13_rule (wl yX13_rule cX13_rule 3 (some .int)) ({ frames := 13, cells := 0, slots := 0, locals := 840 }) (mz_p D cy ld ad am Fa Ga Ra Sa [.ref am, .int p1, .int p2]) (mz_i D cy ad am (fun r F G R S => mz_IF true F ∧ mz_IG G ∧ mz_IR [] true R ∧ (∀ k : Nat, k ∉ ([0, 34, 38, 41] : List Nat) → F k = Fa k) ∧ (∀ k : Nat, k ∉ ([3, 6] : List Nat) → R k = Ra k) ∧ (∀ k : Nat, k ∉ ([39, 40, 47] : List Nat) → G k = Ga k) ∧ rK1 (Ra 3) (R 3) ∧ (-1000) ≤ r.toInt ∧ r.toInt ≤ 1)) 0 0 (mz_W ad am) := by sorry
