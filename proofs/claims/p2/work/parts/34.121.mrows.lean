theorem dX13_dawnIt_0 : decode cX13_dawnIt 0 = .ok (.iconst 0, 1) := by decide +kernel
theorem dX13_dawnIt_1 : decode cX13_dawnIt 1 = .ok (.istore_n 1, 1) := by decide +kernel
theorem dX13_dawnIt_2 : decode cX13_dawnIt 2 = .ok (.aload_n 0, 1) := by decide +kernel
theorem dX13_dawnIt_3 : decode cX13_dawnIt 3 = .ok (.getfield 13, 3) := by decide +kernel
theorem dX13_dawnIt_6 : decode cX13_dawnIt 6 = .ok (.bipush 6, 2) := by decide +kernel
theorem dX13_dawnIt_8 : decode cX13_dawnIt 8 = .ok (.dup2, 1) := by decide +kernel
theorem dX13_dawnIt_9 : decode cX13_dawnIt 9 = .ok (.iaload, 1) := by decide +kernel
theorem dX13_dawnIt_10 : decode cX13_dawnIt 10 = .ok (.iconst 1, 1) := by decide +kernel
theorem dX13_dawnIt_11 : decode cX13_dawnIt 11 = .ok (.iadd, 1) := by decide +kernel
theorem dX13_dawnIt_12 : decode cX13_dawnIt 12 = .ok (.iastore, 1) := by decide +kernel
theorem dX13_dawnIt_13 : decode cX13_dawnIt 13 = .ok (.iconst 0, 1) := by decide +kernel
theorem dX13_dawnIt_14 : decode cX13_dawnIt 14 = .ok (.istore_n 2, 1) := by decide +kernel
theorem dX13_dawnIt_15 : decode cX13_dawnIt 15 = .ok (.iload_n 2, 1) := by decide +kernel
theorem dX13_dawnIt_16 : decode cX13_dawnIt 16 = .ok (.aload_n 0, 1) := by decide +kernel
theorem dX13_dawnIt_17 : decode cX13_dawnIt 17 = .ok (.getfield 13, 3) := by decide +kernel
theorem dX13_dawnIt_20 : decode cX13_dawnIt 20 = .ok (.iconst 0, 1) := by decide +kernel
theorem dX13_dawnIt_21 : decode cX13_dawnIt 21 = .ok (.iaload, 1) := by decide +kernel
theorem dX13_dawnIt_22 : decode cX13_dawnIt 22 = .ok (.if_icmp .ge 35, 3) := by decide +kernel
theorem dX13_dawnIt_57 : decode cX13_dawnIt 57 = .ok (.iconst 0, 1) := by decide +kernel
theorem dX13_dawnIt_58 : decode cX13_dawnIt 58 = .ok (.istore_n 2, 1) := by decide +kernel
theorem dX13_dawnIt_59 : decode cX13_dawnIt 59 = .ok (.iload_n 2, 1) := by decide +kernel
theorem dX13_dawnIt_60 : decode cX13_dawnIt 60 = .ok (.aload_n 0, 1) := by decide +kernel
theorem dX13_dawnIt_61 : decode cX13_dawnIt 61 = .ok (.getfield 13, 3) := by decide +kernel
theorem dX13_dawnIt_64 : decode cX13_dawnIt 64 = .ok (.iconst 0, 1) := by decide +kernel
theorem dX13_dawnIt_65 : decode cX13_dawnIt 65 = .ok (.iaload, 1) := by decide +kernel
theorem dX13_dawnIt_66 : decode cX13_dawnIt 66 = .ok (.if_icmp .ge 43, 3) := by decide +kernel
theorem dX13_dawnIt_109 : decode cX13_dawnIt 109 = .ok (.iload_n 1, 1) := by decide +kernel
theorem dX13_dawnIt_110 : decode cX13_dawnIt 110 = .ok (.ireturn, 1) := by decide +kernel
theorem dX13_dawnIt_69 : decode cX13_dawnIt 69 = .ok (.iload_n 1, 1) := by decide +kernel
theorem dX13_dawnIt_70 : decode cX13_dawnIt 70 = .ok (.aload_n 0, 1) := by decide +kernel
theorem dX13_dawnIt_71 : decode cX13_dawnIt 71 = .ok (.iload_n 2, 1) := by decide +kernel
theorem dX13_dawnIt_72 : decode cX13_dawnIt 72 = .ok (.iconst 3, 1) := by decide +kernel
theorem dX13_dawnIt_73 : decode cX13_dawnIt 73 = .ok (.invokevirtual 207, 3) := by decide +kernel
theorem dX13_dawnIt_76 : decode cX13_dawnIt 76 = .ok (.iadd, 1) := by decide +kernel
theorem dX13_dawnIt_77 : decode cX13_dawnIt 77 = .ok (.istore_n 1, 1) := by decide +kernel
theorem dX13_dawnIt_78 : decode cX13_dawnIt 78 = .ok (.aload_n 0, 1) := by decide +kernel
theorem dX13_dawnIt_79 : decode cX13_dawnIt 79 = .ok (.iload_n 2, 1) := by decide +kernel
theorem dX13_dawnIt_80 : decode cX13_dawnIt 80 = .ok (.aload_n 0, 1) := by decide +kernel
theorem dX13_dawnIt_81 : decode cX13_dawnIt 81 = .ok (.getfield 110, 3) := by decide +kernel
theorem dX13_dawnIt_84 : decode cX13_dawnIt 84 = .ok (.iload_n 2, 1) := by decide +kernel
theorem dX13_dawnIt_85 : decode cX13_dawnIt 85 = .ok (.iaload, 1) := by decide +kernel
theorem dX13_dawnIt_86 : decode cX13_dawnIt 86 = .ok (.invokevirtual 468, 3) := by decide +kernel
theorem dX13_dawnIt_89 : decode cX13_dawnIt 89 = .ok (.aload_n 0, 1) := by decide +kernel
theorem dX13_dawnIt_90 : decode cX13_dawnIt 90 = .ok (.getfield 13, 3) := by decide +kernel
theorem dX13_dawnIt_93 : decode cX13_dawnIt 93 = .ok (.bipush 18, 2) := by decide +kernel
theorem dX13_dawnIt_95 : decode cX13_dawnIt 95 = .ok (.iconst 5, 1) := by decide +kernel
theorem dX13_dawnIt_96 : decode cX13_dawnIt 96 = .ok (.iload_n 2, 1) := by decide +kernel
theorem dX13_dawnIt_97 : decode cX13_dawnIt 97 = .ok (.imul, 1) := by decide +kernel
theorem dX13_dawnIt_98 : decode cX13_dawnIt 98 = .ok (.iadd, 1) := by decide +kernel
theorem dX13_dawnIt_99 : decode cX13_dawnIt 99 = .ok (.iconst 3, 1) := by decide +kernel
theorem dX13_dawnIt_100 : decode cX13_dawnIt 100 = .ok (.iadd, 1) := by decide +kernel
theorem dX13_dawnIt_101 : decode cX13_dawnIt 101 = .ok (.iconst 0, 1) := by decide +kernel
theorem dX13_dawnIt_102 : decode cX13_dawnIt 102 = .ok (.iastore, 1) := by decide +kernel
theorem dX13_dawnIt_103 : decode cX13_dawnIt 103 = .ok (.iinc 2 1, 3) := by decide +kernel
theorem dX13_dawnIt_106 : decode cX13_dawnIt 106 = .ok (.goto (-47), 3) := by decide +kernel
theorem dX13_dawnIt_25 : decode cX13_dawnIt 25 = .ok (.aload_n 0, 1) := by decide +kernel
theorem dX13_dawnIt_26 : decode cX13_dawnIt 26 = .ok (.getfield 110, 3) := by decide +kernel
theorem dX13_dawnIt_29 : decode cX13_dawnIt 29 = .ok (.iload_n 2, 1) := by decide +kernel
theorem dX13_dawnIt_30 : decode cX13_dawnIt 30 = .ok (.aload_n 0, 1) := by decide +kernel
theorem dX13_dawnIt_31 : decode cX13_dawnIt 31 = .ok (.iload_n 2, 1) := by decide +kernel
theorem dX13_dawnIt_32 : decode cX13_dawnIt 32 = .ok (.iconst 0, 1) := by decide +kernel
theorem dX13_dawnIt_33 : decode cX13_dawnIt 33 = .ok (.invokevirtual 207, 3) := by decide +kernel
theorem dX13_dawnIt_36 : decode cX13_dawnIt 36 = .ok (.aload_n 0, 1) := by decide +kernel
theorem dX13_dawnIt_37 : decode cX13_dawnIt 37 = .ok (.iload_n 2, 1) := by decide +kernel
theorem dX13_dawnIt_38 : decode cX13_dawnIt 38 = .ok (.invokevirtual 449, 3) := by decide +kernel
theorem dX13_dawnIt_41 : decode cX13_dawnIt 41 = .ok (.iadd, 1) := by decide +kernel
theorem dX13_dawnIt_42 : decode cX13_dawnIt 42 = .ok (.i2l, 1) := by decide +kernel
theorem dX13_dawnIt_43 : decode cX13_dawnIt 43 = .ok (.iconst 0, 1) := by decide +kernel
theorem dX13_dawnIt_44 : decode cX13_dawnIt 44 = .ok (.sipush 999, 3) := by decide +kernel
theorem dX13_dawnIt_47 : decode cX13_dawnIt 47 = .ok (.invokestatic 421, 3) := by decide +kernel
theorem dX13_dawnIt_50 : decode cX13_dawnIt 50 = .ok (.iastore, 1) := by decide +kernel
theorem dX13_dawnIt_51 : decode cX13_dawnIt 51 = .ok (.iinc 2 1, 3) := by decide +kernel
theorem dX13_dawnIt_54 : decode cX13_dawnIt 54 = .ok (.goto (-39), 3) := by decide +kernel
set_option maxHeartbeats 4000000 in
set_option maxRecDepth 100000 in
theorem k_X13_dawnIt (l : Launch) (D : va_G) (cy : Nat → ClassId) (ld ad : Nat → Nat) (am : Nat) (hD : mz_D ad am) (Fa : Nat → Int32) (Ga : Nat → Int64) (Ra : Nat → Nat → Int32) (Sa : Nat → Nat → Int64) (hIF : mz_IF true Fa) (hIG : mz_IG Ga) (hIR : mz_IR [] true Ra) : Met l yX13_dawnIt (wl yX13_dawnIt cX13_dawnIt 3 (some .int)) ({ frames := 9, cells := 0, slots := 0, locals := 560 }) (mz_p D cy ld ad am Fa Ga Ra Sa [.ref am]) (mz_i D cy ad am (fun r F G R S => mz_IF true F ∧ mz_IG G ∧ mz_IR [] true R ∧ (∀ k : Nat, k ∉ ([34, 38] : List Nat) → F k = Fa k) ∧ (∀ k : Nat, k ∉ ([3, 42] : List Nat) → R k = Ra k) ∧ (∀ k : Nat, k ∉ ([39, 40] : List Nat) → G k = Ga k) ∧ rK2 (Ra 3) (R 3) ∧ 0 ≤ r.toInt ∧ 0 ≤ r.toInt ∧ r.toInt ≤ 8)) 0 0 (mz_W ad am) := by sorry
