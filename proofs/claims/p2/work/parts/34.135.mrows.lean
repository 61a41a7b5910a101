theorem hd_yX13_caught : yX13_caught.cls ≠ "java/lang/invoke/MethodHandle" ∧ yX13_caught.cls ≠ "java/lang/invoke/VarHandle" ∧ (parseMethodDescriptor yX13_caught.desc).map (fun d => d.parameters.length) = some 2 := by decide +kernel
theorem dX13_catching_0 : decode cX13_catching 0 = .ok (.aload_n 0, 1) := by decide +kernel
theorem dX13_catching_1 : decode cX13_catching 1 = .ok (.iconst 0, 1) := by decide +kernel
theorem dX13_catching_2 : decode cX13_catching 2 = .ok (.putfield 170, 3) := by decide +kernel
theorem dX13_catching_5 : decode cX13_catching 5 = .ok (.aload_n 0, 1) := by decide +kernel
theorem dX13_catching_6 : decode cX13_catching 6 = .ok (.iload_n 1, 1) := by decide +kernel
theorem dX13_catching_7 : decode cX13_catching 7 = .ok (.invokevirtual 201, 3) := by decide +kernel
theorem dX13_catching_10 : decode cX13_catching 10 = .ok (.ifCond .eq 13, 3) := by decide +kernel
theorem dX13_catching_23 : decode cX13_catching 23 = .ok (.iconst (-1), 1) := by decide +kernel
theorem dX13_catching_24 : decode cX13_catching 24 = .ok (.ireturn, 1) := by decide +kernel
theorem dX13_catching_13 : decode cX13_catching 13 = .ok (.iload_n 2, 1) := by decide +kernel
theorem dX13_catching_14 : decode cX13_catching 14 = .ok (.i2l, 1) := by decide +kernel
theorem dX13_catching_15 : decode cX13_catching 15 = .ok (.lconst 0, 1) := by decide +kernel
theorem dX13_catching_16 : decode cX13_catching 16 = .ok (.lconst 1, 1) := by decide +kernel
theorem dX13_catching_17 : decode cX13_catching 17 = .ok (.invokestatic 190, 3) := by decide +kernel
theorem dX13_catching_20 : decode cX13_catching 20 = .ok (.ifCond .ne 5, 3) := by decide +kernel
theorem dX13_catching_25 : decode cX13_catching 25 = .ok (.aload_n 0, 1) := by decide +kernel
theorem dX13_catching_26 : decode cX13_catching 26 = .ok (.iload_n 1, 1) := by decide +kernel
theorem dX13_catching_27 : decode cX13_catching 27 = .ok (.iconst 0, 1) := by decide +kernel
theorem dX13_catching_28 : decode cX13_catching 28 = .ok (.invokevirtual 587, 3) := by decide +kernel
theorem dX13_catching_31 : decode cX13_catching 31 = .ok (.istore_n 3, 1) := by decide +kernel
theorem dX13_catching_32 : decode cX13_catching 32 = .ok (.iload_n 2, 1) := by decide +kernel
theorem dX13_catching_33 : decode cX13_catching 33 = .ok (.ifCond .ne 7, 3) := by decide +kernel
theorem dX13_catching_40 : decode cX13_catching 40 = .ok (.aload_n 0, 1) := by decide +kernel
theorem dX13_catching_41 : decode cX13_catching 41 = .ok (.getfield 581, 3) := by decide +kernel
theorem dX13_catching_44 : decode cX13_catching 44 = .ok (.ireturn, 1) := by decide +kernel
theorem dX13_catching_36 : decode cX13_catching 36 = .ok (.iload_n 3, 1) := by decide +kernel
theorem dX13_catching_37 : decode cX13_catching 37 = .ok (.goto 7, 3) := by decide +kernel
set_option maxHeartbeats 4000000 in
set_option maxRecDepth 100000 in
theorem k_X13_catching (l : Launch) (D : va_G) (cy : Nat → ClassId) (ld ad : Nat → Nat) (am : Nat) (hD : mz_D ad am) (Fa : Nat → Int32) (Ga : Nat → Int64) (Ra : Nat → Nat → Int32) (Sa : Nat → Nat → Int64) (p1 : Int32) (p2 : Int32) (hIF : mz_IF true Fa) (hIG : mz_IG Ga) (hIR : mz_IR [] true Ra) : Met l yX13_catching (wl yX13_catching cX13_catching 4 (some .int)) ({ frames := 5, cells := 0, slots := 0, locals := 280 }) (mz_p D cy ld ad am Fa Ga Ra Sa [.ref am, .int p1, .int p2]) (mz_i D cy ad am (fun r F G R S => mz_IF true F ∧ mz_IG G ∧ mz_IR [] true R ∧ (∀ k : Nat, k ∉ ([0, 60] : List Nat) → F k = Fa k) ∧ (∀ k : Nat, k ∉ ([] : List Nat) → R k = Ra k) ∧ (∀ k : Nat, k ∉ ([] : List Nat) → G k = Ga k))) 0 0 (mz_W ad am) := by sorry
