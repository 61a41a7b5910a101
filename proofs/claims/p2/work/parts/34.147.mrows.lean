theorem dX13_sumOf_0 : decode cX13_sumOf 0 = .ok (.aload_n 0, 1) := by decide +kernel
theorem dX13_sumOf_1 : decode cX13_sumOf 1 = .ok (.getfield 614, 3) := by decide +kernel
theorem dX13_sumOf_4 : decode cX13_sumOf 4 = .ok (.ifCond .ne 20, 3) := by decide +kernel
theorem dX13_sumOf_24 : decode cX13_sumOf 24 = .ok (.iconst (-1), 1) := by decide +kernel
theorem dX13_sumOf_25 : decode cX13_sumOf 25 = .ok (.ireturn, 1) := by decide +kernel
theorem dX13_sumOf_7 : decode cX13_sumOf 7 = .ok (.aload_n 0, 1) := by decide +kernel
theorem dX13_sumOf_8 : decode cX13_sumOf 8 = .ok (.getfield 149, 3) := by decide +kernel
theorem dX13_sumOf_11 : decode cX13_sumOf 11 = .ok (.iload_n 1, 1) := by decide +kernel
theorem dX13_sumOf_12 : decode cX13_sumOf 12 = .ok (.iaload, 1) := by decide +kernel
theorem dX13_sumOf_13 : decode cX13_sumOf 13 = .ok (.aload_n 0, 1) := by decide +kernel
theorem dX13_sumOf_14 : decode cX13_sumOf 14 = .ok (.getfield 149, 3) := by decide +kernel
theorem dX13_sumOf_17 : decode cX13_sumOf 17 = .ok (.iload_n 1, 1) := by decide +kernel
theorem dX13_sumOf_18 : decode cX13_sumOf 18 = .ok (.iconst 1, 1) := by decide +kernel
theorem dX13_sumOf_19 : decode cX13_sumOf 19 = .ok (.iadd, 1) := by decide +kernel
theorem dX13_sumOf_20 : decode cX13_sumOf 20 = .ok (.iaload, 1) := by decide +kernel
theorem dX13_sumOf_21 : decode cX13_sumOf 21 = .ok (.if_icmp .ne 5, 3) := by decide +kernel
theorem dX13_sumOf_26 : decode cX13_sumOf 26 = .ok (.aload_n 0, 1) := by decide +kernel
theorem dX13_sumOf_27 : decode cX13_sumOf 27 = .ok (.iconst 1, 1) := by decide +kernel
theorem dX13_sumOf_28 : decode cX13_sumOf 28 = .ok (.putfield 315, 3) := by decide +kernel
theorem dX13_sumOf_31 : decode cX13_sumOf 31 = .ok (.aload_n 0, 1) := by decide +kernel
theorem dX13_sumOf_32 : decode cX13_sumOf 32 = .ok (.aload_n 0, 1) := by decide +kernel
theorem dX13_sumOf_33 : decode cX13_sumOf 33 = .ok (.getfield 149, 3) := by decide +kernel
theorem dX13_sumOf_36 : decode cX13_sumOf 36 = .ok (.iload_n 1, 1) := by decide +kernel
theorem dX13_sumOf_37 : decode cX13_sumOf 37 = .ok (.iaload, 1) := by decide +kernel
theorem dX13_sumOf_38 : decode cX13_sumOf 38 = .ok (.aload_n 0, 1) := by decide +kernel
theorem dX13_sumOf_39 : decode cX13_sumOf 39 = .ok (.getfield 149, 3) := by decide +kernel
theorem dX13_sumOf_42 : decode cX13_sumOf 42 = .ok (.iload_n 1, 1) := by decide +kernel
theorem dX13_sumOf_43 : decode cX13_sumOf 43 = .ok (.iconst 1, 1) := by decide +kernel
theorem dX13_sumOf_44 : decode cX13_sumOf 44 = .ok (.iadd, 1) := by decide +kernel
theorem dX13_sumOf_45 : decode cX13_sumOf 45 = .ok (.iaload, 1) := by decide +kernel
theorem dX13_sumOf_46 : decode cX13_sumOf 46 = .ok (.invokevirtual 403, 3) := by decide +kernel
theorem dX13_sumOf_49 : decode cX13_sumOf 49 = .ok (.aload_n 0, 1) := by decide +kernel
theorem dX13_sumOf_50 : decode cX13_sumOf 50 = .ok (.iconst 0, 1) := by decide +kernel
theorem dX13_sumOf_51 : decode cX13_sumOf 51 = .ok (.putfield 315, 3) := by decide +kernel
theorem dX13_sumOf_54 : decode cX13_sumOf 54 = .ok (.aload_n 0, 1) := by decide +kernel
theorem dX13_sumOf_55 : decode cX13_sumOf 55 = .ok (.aload_n 0, 1) := by decide +kernel
theorem dX13_sumOf_56 : decode cX13_sumOf 56 = .ok (.getfield 386, 3) := by decide +kernel
theorem dX13_sumOf_59 : decode cX13_sumOf 59 = .ok (.putfield 614, 3) := by decide +kernel
theorem dX13_sumOf_62 : decode cX13_sumOf 62 = .ok (.aload_n 0, 1) := by decide +kernel
theorem dX13_sumOf_63 : decode cX13_sumOf 63 = .ok (.getfield 400, 3) := by decide +kernel
theorem dX13_sumOf_66 : decode cX13_sumOf 66 = .ok (.l2i, 1) := by decide +kernel
theorem dX13_sumOf_67 : decode cX13_sumOf 67 = .ok (.ireturn, 1) := by decide +kernel
set_option maxHeartbeats 4000000 in
set_option maxRecDepth 100000 in
theorem k_X13_sumOf (l : Launch) (D : va_G) (cy : Nat → ClassId) (ld ad : Nat → Nat) (am : Nat) (hD : mz_D ad am) (Fa : Nat → Int32) (Ga : Nat → Int64) (Ra : Nat → Nat → Int32) (Sa : Nat → Nat → Int64) (p1 : Int32) (hIF : mz_IF true Fa) (hIG : mz_IG Ga) (hIR : mz_IR [] true Ra) (hp_0 : 0 ≤ p1.toInt) (hp_1 : p1.toInt ≤ 118) (hx_0 : WFX (Ra 24) (Ra 25) (Ra 61 p1.toInt.toNat) (Ra 61 (p1.toInt.toNat + 1))) : Met l yX13_sumOf (wl yX13_sumOf cX13_sumOf 2 (some .int)) ({ frames := 6, cells := 0, slots := 0, locals := 350 }) (mz_p D cy ld ad am Fa Ga Ra Sa [.ref am, .int p1]) (mz_i D cy ad am (fun r F G R S => mz_IF true F ∧ mz_IG G ∧ mz_IR [] true R ∧ (∀ k : Nat, k ∉ ([20, 38, 65] : List Nat) → F k = Fa k) ∧ (∀ k : Nat, k ∉ ([] : List Nat) → R k = Ra k) ∧ (∀ k : Nat, k ∉ ([39] : List Nat) → G k = Ga k))) 0 0 (mz_W ad am) := by sorry
