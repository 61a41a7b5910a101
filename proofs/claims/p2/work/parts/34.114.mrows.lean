theorem dX13_drawn_0 : decode cX13_drawn 0 = .ok (.aload_n 0, 1) := by decide +kernel
theorem dX13_drawn_1 : decode cX13_drawn 1 = .ok (.iconst 0, 1) := by decide +kernel
theorem dX13_drawn_2 : decode cX13_drawn 2 = .ok (.putfield 170, 3) := by decide +kernel
theorem dX13_drawn_5 : decode cX13_drawn 5 = .ok (.aload_n 0, 1) := by decide +kernel
theorem dX13_drawn_6 : decode cX13_drawn 6 = .ok (.getfield 164, 3) := by decide +kernel
theorem dX13_drawn_9 : decode cX13_drawn 9 = .ok (.iconst (-1), 1) := by decide +kernel
theorem dX13_drawn_10 : decode cX13_drawn 10 = .ok (.if_icmp .eq 40, 3) := by decide +kernel
theorem dX13_drawn_50 : decode cX13_drawn 50 = .ok (.iconst (-1), 1) := by decide +kernel
theorem dX13_drawn_51 : decode cX13_drawn 51 = .ok (.ireturn, 1) := by decide +kernel
theorem dX13_drawn_13 : decode cX13_drawn 13 = .ok (.iload_n 2, 1) := by decide +kernel
theorem dX13_drawn_14 : decode cX13_drawn 14 = .ok (.i2l, 1) := by decide +kernel
theorem dX13_drawn_15 : decode cX13_drawn 15 = .ok (.lconst 0, 1) := by decide +kernel
theorem dX13_drawn_16 : decode cX13_drawn 16 = .ok (.ldc2_w 415, 3) := by decide +kernel
theorem dX13_drawn_19 : decode cX13_drawn 19 = .ok (.invokestatic 190, 3) := by decide +kernel
theorem dX13_drawn_22 : decode cX13_drawn 22 = .ok (.ifCond .eq 28, 3) := by decide +kernel
theorem dX13_drawn_25 : decode cX13_drawn 25 = .ok (.iload_n 1, 1) := by decide +kernel
theorem dX13_drawn_26 : decode cX13_drawn 26 = .ok (.i2l, 1) := by decide +kernel
theorem dX13_drawn_27 : decode cX13_drawn 27 = .ok (.lconst 0, 1) := by decide +kernel
theorem dX13_drawn_28 : decode cX13_drawn 28 = .ok (.iload_n 2, 1) := by decide +kernel
theorem dX13_drawn_29 : decode cX13_drawn 29 = .ok (.iconst 1, 1) := by decide +kernel
theorem dX13_drawn_30 : decode cX13_drawn 30 = .ok (.if_icmp .ne 7, 3) := by decide +kernel
theorem dX13_drawn_37 : decode cX13_drawn 37 = .ok (.aload_n 0, 1) := by decide +kernel
theorem dX13_drawn_38 : decode cX13_drawn 38 = .ok (.getfield 164, 3) := by decide +kernel
theorem dX13_drawn_41 : decode cX13_drawn 41 = .ok (.i2l, 1) := by decide +kernel
theorem dX13_drawn_42 : decode cX13_drawn 42 = .ok (.lconst 1, 1) := by decide +kernel
theorem dX13_drawn_43 : decode cX13_drawn 43 = .ok (.lsub, 1) := by decide +kernel
theorem dX13_drawn_44 : decode cX13_drawn 44 = .ok (.invokestatic 190, 3) := by decide +kernel
theorem dX13_drawn_47 : decode cX13_drawn 47 = .ok (.ifCond .ne 5, 3) := by decide +kernel
theorem dX13_drawn_52 : decode cX13_drawn 52 = .ok (.iload_n 2, 1) := by decide +kernel
theorem dX13_drawn_53 : decode cX13_drawn 53 = .ok (.ifCond .ne 12, 3) := by decide +kernel
theorem dX13_drawn_65 : decode cX13_drawn 65 = .ok (.iload_n 2, 1) := by decide +kernel
theorem dX13_drawn_66 : decode cX13_drawn 66 = .ok (.iconst 1, 1) := by decide +kernel
theorem dX13_drawn_67 : decode cX13_drawn 67 = .ok (.if_icmp .ne 12, 3) := by decide +kernel
theorem dX13_drawn_79 : decode cX13_drawn 79 = .ok (.aload_n 0, 1) := by decide +kernel
theorem dX13_drawn_80 : decode cX13_drawn 80 = .ok (.getfield 161, 3) := by decide +kernel
theorem dX13_drawn_83 : decode cX13_drawn 83 = .ok (.iload_n 1, 1) := by decide +kernel
theorem dX13_drawn_84 : decode cX13_drawn 84 = .ok (.iaload, 1) := by decide +kernel
theorem dX13_drawn_85 : decode cX13_drawn 85 = .ok (.ireturn, 1) := by decide +kernel
theorem dX13_drawn_56 : decode cX13_drawn 56 = .ok (.aload_n 0, 1) := by decide +kernel
theorem dX13_drawn_57 : decode cX13_drawn 57 = .ok (.getfield 155, 3) := by decide +kernel
theorem dX13_drawn_60 : decode cX13_drawn 60 = .ok (.iload_n 1, 1) := by decide +kernel
theorem dX13_drawn_61 : decode cX13_drawn 61 = .ok (.iaload, 1) := by decide +kernel
theorem dX13_drawn_62 : decode cX13_drawn 62 = .ok (.goto 23, 3) := by decide +kernel
theorem dX13_drawn_33 : decode cX13_drawn 33 = .ok (.lconst 1, 1) := by decide +kernel
theorem dX13_drawn_34 : decode cX13_drawn 34 = .ok (.goto 10, 3) := by decide +kernel
theorem dX13_drawn_70 : decode cX13_drawn 70 = .ok (.aload_n 0, 1) := by decide +kernel
theorem dX13_drawn_71 : decode cX13_drawn 71 = .ok (.getfield 158, 3) := by decide +kernel
theorem dX13_drawn_74 : decode cX13_drawn 74 = .ok (.iload_n 1, 1) := by decide +kernel
theorem dX13_drawn_75 : decode cX13_drawn 75 = .ok (.iaload, 1) := by decide +kernel
theorem dX13_drawn_76 : decode cX13_drawn 76 = .ok (.goto 9, 3) := by decide +kernel
set_option maxHeartbeats 4000000 in
set_option maxRecDepth 100000 in
theorem k_X13_drawn (l : Launch) (D : va_G) (cy : Nat → ClassId) (ld ad : Nat → Nat) (am : Nat) (hD : mz_D ad am) (Fa : Nat → Int32) (Ga : Nat → Int64) (Ra : Nat → Nat → Int32) (Sa : Nat → Nat → Int64) (p1 : Int32) (p2 : Int32) (hIF : mz_IF true Fa) (hIG : mz_IG Ga) (hIR : mz_IR [] true Ra) : Met l yX13_drawn (wl yX13_drawn cX13_drawn 3 (some .int)) ({ frames := 4, cells := 0, slots := 0, locals := 210 }) (mz_p D cy ld ad am Fa Ga Ra Sa [.ref am, .int p1, .int p2]) (mz_i D cy ad am (fun r F G R S => mz_IF true F ∧ mz_IG G ∧ mz_IR [] true R ∧ (∀ k : Nat, k ∉ ([0] : List Nat) → F k = Fa k) ∧ (∀ k : Nat, k ∉ ([] : List Nat) → R k = Ra k) ∧ (∀ k : Nat, k ∉ ([] : List Nat) → G k = Ga k))) 0 0 (mz_W ad am) := by sorry
