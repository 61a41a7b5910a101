theorem hd_yX13_manyOf : yX13_manyOf.cls ≠ "java/lang/invoke/MethodHandle" ∧ yX13_manyOf.cls ≠ "java/lang/invoke/VarHandle" ∧ (parseMethodDescriptor yX13_manyOf.desc).map (fun d => d.parameters.length) = some 1 := by decide +kernel
theorem dX13_drawSinger_0 : decode cX13_drawSinger 0 = .ok (.aload_n 0, 1) := by decide +kernel
theorem dX13_drawSinger_1 : decode cX13_drawSinger 1 = .ok (.aload_n 0, 1) := by decide +kernel
theorem dX13_drawSinger_2 : decode cX13_drawSinger 2 = .ok (.iload_n 1, 1) := by decide +kernel
theorem dX13_drawSinger_3 : decode cX13_drawSinger 3 = .ok (.invokevirtual 635, 3) := by decide +kernel
theorem dX13_drawSinger_6 : decode cX13_drawSinger 6 = .ok (.invokevirtual 516, 3) := by decide +kernel
theorem dX13_drawSinger_9 : decode cX13_drawSinger 9 = .ok (.istore_n 2, 1) := by decide +kernel
theorem dX13_drawSinger_10 : decode cX13_drawSinger 10 = .ok (.iconst 0, 1) := by decide +kernel
theorem dX13_drawSinger_11 : decode cX13_drawSinger 11 = .ok (.istore_n 3, 1) := by decide +kernel
theorem dX13_drawSinger_12 : decode cX13_drawSinger 12 = .ok (.aload_n 0, 1) := by decide +kernel
theorem dX13_drawSinger_13 : decode cX13_drawSinger 13 = .ok (.iload_n 3, 1) := by decide +kernel
theorem dX13_drawSinger_14 : decode cX13_drawSinger 14 = .ok (.iconst 2, 1) := by decide +kernel
theorem dX13_drawSinger_15 : decode cX13_drawSinger 15 = .ok (.invokevirtual 207, 3) := by decide +kernel
theorem dX13_drawSinger_18 : decode cX13_drawSinger 18 = .ok (.iload_n 1, 1) := by decide +kernel
theorem dX13_drawSinger_19 : decode cX13_drawSinger 19 = .ok (.if_icmp .ne 7, 3) := by decide +kernel
theorem dX13_drawSinger_26 : decode cX13_drawSinger 26 = .ok (.iload_n 2, 1) := by decide +kernel
theorem dX13_drawSinger_27 : decode cX13_drawSinger 27 = .ok (.aload_n 0, 1) := by decide +kernel
theorem dX13_drawSinger_28 : decode cX13_drawSinger 28 = .ok (.iload_n 3, 1) := by decide +kernel
theorem dX13_drawSinger_29 : decode cX13_drawSinger 29 = .ok (.iconst 2, 1) := by decide +kernel
theorem dX13_drawSinger_30 : decode cX13_drawSinger 30 = .ok (.invokevirtual 207, 3) := by decide +kernel
theorem dX13_drawSinger_33 : decode cX13_drawSinger 33 = .ok (.iload_n 1, 1) := by decide +kernel
theorem dX13_drawSinger_34 : decode cX13_drawSinger 34 = .ok (.if_icmp .ne 7, 3) := by decide +kernel
theorem dX13_drawSinger_41 : decode cX13_drawSinger 41 = .ok (.iconst 0, 1) := by decide +kernel
theorem dX13_drawSinger_42 : decode cX13_drawSinger 42 = .ok (.isub, 1) := by decide +kernel
theorem dX13_drawSinger_43 : decode cX13_drawSinger 43 = .ok (.istore_n 2, 1) := by decide +kernel
theorem dX13_drawSinger_44 : decode cX13_drawSinger 44 = .ok (.iinc 3 1, 3) := by decide +kernel
theorem dX13_drawSinger_47 : decode cX13_drawSinger 47 = .ok (.goto (-35), 3) := by decide +kernel
theorem dX13_drawSinger_22 : decode cX13_drawSinger 22 = .ok (.iload_n 2, 1) := by decide +kernel
theorem dX13_drawSinger_23 : decode cX13_drawSinger 23 = .ok (.ifCond .le 27, 3) := by decide +kernel
theorem dX13_drawSinger_50 : decode cX13_drawSinger 50 = .ok (.iload_n 3, 1) := by decide +kernel
theorem dX13_drawSinger_51 : decode cX13_drawSinger 51 = .ok (.ireturn, 1) := by decide +kernel
theorem dX13_drawSinger_37 : decode cX13_drawSinger 37 = .ok (.iconst 1, 1) := by decide +kernel
theorem dX13_drawSinger_38 : decode cX13_drawSinger 38 = .ok (.goto 4, 3) := by decide +kernel
set_option maxHeartbeats 4000000 in
set_option maxRecDepth 100000 in
theorem k_X13_drawSinger (l : Launch) (D : va_G) (cy : Nat → ClassId) (ld ad : Nat → Nat) (am : Nat) (hD : mz_D ad am) (Fa : Nat → Int32) (Ga : Nat → Int64) (Ra : Nat → Nat → Int32) (Sa : Nat → Nat → Int64) (p1 : Int32) (g0 : Int32) (hIF : mz_IF true Fa) (hIG : mz_IG Ga) (hIR : mz_IR [] true Ra) (hg_0 : Ra 3 0 = g0) (hx_0 : 1 ≤ cn (Ra 3) p1.toInt g0.toInt.toNat) : Met l yX13_drawSinger (wl yX13_drawSinger cX13_drawSinger 4 (some .int)) ({ frames := 5, cells := 0, slots := 0, locals := 280 }) (mz_p D cy ld ad am Fa Ga Ra Sa [.ref am, .int p1]) (mz_i D cy ad am (fun r F G R S => mz_IF true F ∧ mz_IG G ∧ mz_IR [] true R ∧ (∀ k : Nat, k ∉ ([] : List Nat) → F k = Fa k) ∧ (∀ k : Nat, k ∉ ([] : List Nat) → R k = Ra k) ∧ (∀ k : Nat, k ∉ ([47] : List Nat) → G k = Ga k) ∧ 0 ≤ r.toInt ∧ r.toInt ≤ 7 ∧ 0 ≤ r.toInt ∧ r.toInt ≤ 7)) 0 0 (mz_W ad am) := by sorry
