theorem dX13_giveBack_0 : decode cX13_giveBack 0 = .ok (.aload_n 0, 1) := by decide +kernel
theorem dX13_giveBack_1 : decode cX13_giveBack 1 = .ok (.bipush 22, 2) := by decide +kernel
theorem dX13_giveBack_3 : decode cX13_giveBack 3 = .ok (.invokevirtual 187, 3) := by decide +kernel
theorem dX13_giveBack_6 : decode cX13_giveBack 6 = .ok (.iconst 0, 1) := by decide +kernel
theorem dX13_giveBack_7 : decode cX13_giveBack 7 = .ok (.istore_n 2, 1) := by decide +kernel
theorem dX13_giveBack_8 : decode cX13_giveBack 8 = .ok (.iload_n 2, 1) := by decide +kernel
theorem dX13_giveBack_9 : decode cX13_giveBack 9 = .ok (.sipush 832, 3) := by decide +kernel
theorem dX13_giveBack_12 : decode cX13_giveBack 12 = .ok (.if_icmp .ge 21, 3) := by decide +kernel
theorem dX13_giveBack_33 : decode cX13_giveBack 33 = .ok (.iconst 0, 1) := by decide +kernel
theorem dX13_giveBack_34 : decode cX13_giveBack 34 = .ok (.istore_n 2, 1) := by decide +kernel
theorem dX13_giveBack_35 : decode cX13_giveBack 35 = .ok (.iload_n 2, 1) := by decide +kernel
theorem dX13_giveBack_36 : decode cX13_giveBack 36 = .ok (.bipush 16, 2) := by decide +kernel
theorem dX13_giveBack_38 : decode cX13_giveBack 38 = .ok (.if_icmp .ge 21, 3) := by decide +kernel
theorem dX13_giveBack_59 : decode cX13_giveBack 59 = .ok (.aload_n 0, 1) := by decide +kernel
theorem dX13_giveBack_60 : decode cX13_giveBack 60 = .ok (.iload_n 1, 1) := by decide +kernel
theorem dX13_giveBack_61 : decode cX13_giveBack 61 = .ok (.putfield 176, 3) := by decide +kernel
theorem dX13_giveBack_64 : decode cX13_giveBack 64 = .ok (.return_, 1) := by decide +kernel
theorem dX13_giveBack_41 : decode cX13_giveBack 41 = .ok (.aload_n 0, 1) := by decide +kernel
theorem dX13_giveBack_42 : decode cX13_giveBack 42 = .ok (.getfield 26, 3) := by decide +kernel
theorem dX13_giveBack_45 : decode cX13_giveBack 45 = .ok (.iload_n 2, 1) := by decide +kernel
theorem dX13_giveBack_46 : decode cX13_giveBack 46 = .ok (.aload_n 0, 1) := by decide +kernel
theorem dX13_giveBack_47 : decode cX13_giveBack 47 = .ok (.getfield 32, 3) := by decide +kernel
theorem dX13_giveBack_50 : decode cX13_giveBack 50 = .ok (.iload_n 2, 1) := by decide +kernel
theorem dX13_giveBack_51 : decode cX13_giveBack 51 = .ok (.iaload, 1) := by decide +kernel
theorem dX13_giveBack_52 : decode cX13_giveBack 52 = .ok (.iastore, 1) := by decide +kernel
theorem dX13_giveBack_53 : decode cX13_giveBack 53 = .ok (.iinc 2 1, 3) := by decide +kernel
theorem dX13_giveBack_56 : decode cX13_giveBack 56 = .ok (.goto (-21), 3) := by decide +kernel
theorem dX13_giveBack_15 : decode cX13_giveBack 15 = .ok (.aload_n 0, 1) := by decide +kernel
theorem dX13_giveBack_16 : decode cX13_giveBack 16 = .ok (.getfield 23, 3) := by decide +kernel
theorem dX13_giveBack_19 : decode cX13_giveBack 19 = .ok (.iload_n 2, 1) := by decide +kernel
theorem dX13_giveBack_20 : decode cX13_giveBack 20 = .ok (.aload_n 0, 1) := by decide +kernel
theorem dX13_giveBack_21 : decode cX13_giveBack 21 = .ok (.getfield 29, 3) := by decide +kernel
theorem dX13_giveBack_24 : decode cX13_giveBack 24 = .ok (.iload_n 2, 1) := by decide +kernel
theorem dX13_giveBack_25 : decode cX13_giveBack 25 = .ok (.iaload, 1) := by decide +kernel
theorem dX13_giveBack_26 : decode cX13_giveBack 26 = .ok (.iastore, 1) := by decide +kernel
theorem dX13_giveBack_27 : decode cX13_giveBack 27 = .ok (.iinc 2 1, 3) := by decide +kernel
theorem dX13_giveBack_30 : decode cX13_giveBack 30 = .ok (.goto (-22), 3) := by decide +kernel
set_option maxHeartbeats 4000000 in
set_option maxRecDepth 100000 in
theorem k_X13_giveBack (l : Launch) (D : va_G) (cy : Nat → ClassId) (ld ad : Nat → Nat) (am : Nat) (hD : mz_D ad am) (Fa : Nat → Int32) (Ga : Nat → Int64) (Ra : Nat → Nat → Int32) (Sa : Nat → Nat → Int64) (p1 : Int32) (hIF : mz_IF true Fa) (hIG : mz_IG Ga) (hIR : mz_IR [] true Ra) (hp_0 : 0 ≤ p1.toInt) (hp_1 : p1.toInt ≤ 16) : Met l yX13_giveBack (wl yX13_giveBack cX13_giveBack 3 none) ({ frames := 4, cells := 0, slots := 0, locals := 210 }) (mz_p D cy ld ad am Fa Ga Ra Sa [.ref am, .int p1]) (mz_w D cy ad am (fun F G R S => mz_IF true F ∧ mz_IG G ∧ mz_IR [] true R ∧ (∀ k : Nat, k ∉ ([8] : List Nat) → F k = Fa k) ∧ (∀ k : Nat, k ∉ ([3, 6, 7] : List Nat) → R k = Ra k) ∧ (∀ k : Nat, k ∉ ([] : List Nat) → G k = Ga k) ∧ rK1 (Ra 3) (R 3))) 0 0 (mz_W ad am) := by sorry
