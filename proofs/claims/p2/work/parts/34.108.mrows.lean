theorem hd_yX13_leftBy : yX13_leftBy.cls ≠ "java/lang/invoke/MethodHandle" ∧ yX13_leftBy.cls ≠ "java/lang/invoke/VarHandle" ∧ (parseMethodDescriptor yX13_leftBy.desc).map (fun d => d.parameters.length) = some 6 := by decide +kernel
theorem dX13_leftOf_0 : decode cX13_leftOf 0 = .ok (.iload_n 1, 1) := by decide +kernel
theorem dX13_leftOf_1 : decode cX13_leftOf 1 = .ok (.istore_n 3, 1) := by decide +kernel
theorem dX13_leftOf_2 : decode cX13_leftOf 2 = .ok (.iconst 0, 1) := by decide +kernel
theorem dX13_leftOf_3 : decode cX13_leftOf 3 = .ok (.istore 4, 2) := by decide +kernel
theorem dX13_leftOf_5 : decode cX13_leftOf 5 = .ok (.iload 4, 2) := by decide +kernel
theorem dX13_leftOf_7 : decode cX13_leftOf 7 = .ok (.aload_n 0, 1) := by decide +kernel
theorem dX13_leftOf_8 : decode cX13_leftOf 8 = .ok (.getfield 13, 3) := by decide +kernel
theorem dX13_leftOf_11 : decode cX13_leftOf 11 = .ok (.iconst 3, 1) := by decide +kernel
theorem dX13_leftOf_12 : decode cX13_leftOf 12 = .ok (.iaload, 1) := by decide +kernel
theorem dX13_leftOf_13 : decode cX13_leftOf 13 = .ok (.if_icmp .ge 97, 3) := by decide +kernel
theorem dX13_leftOf_110 : decode cX13_leftOf 110 = .ok (.iload_n 3, 1) := by decide +kernel
theorem dX13_leftOf_111 : decode cX13_leftOf 111 = .ok (.ireturn, 1) := by decide +kernel
theorem dX13_leftOf_16 : decode cX13_leftOf 16 = .ok (.bipush 116, 2) := by decide +kernel
theorem dX13_leftOf_18 : decode cX13_leftOf 18 = .ok (.iconst 5, 1) := by decide +kernel
theorem dX13_leftOf_19 : decode cX13_leftOf 19 = .ok (.iload 4, 2) := by decide +kernel
theorem dX13_leftOf_21 : decode cX13_leftOf 21 = .ok (.imul, 1) := by decide +kernel
theorem dX13_leftOf_22 : decode cX13_leftOf 22 = .ok (.iadd, 1) := by decide +kernel
theorem dX13_leftOf_23 : decode cX13_leftOf 23 = .ok (.istore 5, 2) := by decide +kernel
theorem dX13_leftOf_25 : decode cX13_leftOf 25 = .ok (.iload_n 3, 1) := by decide +kernel
theorem dX13_leftOf_26 : decode cX13_leftOf 26 = .ok (.ifCond .ne 5, 3) := by decide +kernel
theorem dX13_leftOf_31 : decode cX13_leftOf 31 = .ok (.aload_n 0, 1) := by decide +kernel
theorem dX13_leftOf_32 : decode cX13_leftOf 32 = .ok (.aload_n 0, 1) := by decide +kernel
theorem dX13_leftOf_33 : decode cX13_leftOf 33 = .ok (.getfield 13, 3) := by decide +kernel
theorem dX13_leftOf_36 : decode cX13_leftOf 36 = .ok (.iload 5, 2) := by decide +kernel
theorem dX13_leftOf_38 : decode cX13_leftOf 38 = .ok (.iaload, 1) := by decide +kernel
theorem dX13_leftOf_39 : decode cX13_leftOf 39 = .ok (.aload_n 0, 1) := by decide +kernel
theorem dX13_leftOf_40 : decode cX13_leftOf 40 = .ok (.getfield 13, 3) := by decide +kernel
theorem dX13_leftOf_43 : decode cX13_leftOf 43 = .ok (.iload 5, 2) := by decide +kernel
theorem dX13_leftOf_45 : decode cX13_leftOf 45 = .ok (.iconst 1, 1) := by decide +kernel
theorem dX13_leftOf_46 : decode cX13_leftOf 46 = .ok (.iadd, 1) := by decide +kernel
theorem dX13_leftOf_47 : decode cX13_leftOf 47 = .ok (.iaload, 1) := by decide +kernel
theorem dX13_leftOf_48 : decode cX13_leftOf 48 = .ok (.aload_n 0, 1) := by decide +kernel
theorem dX13_leftOf_49 : decode cX13_leftOf 49 = .ok (.getfield 13, 3) := by decide +kernel
theorem dX13_leftOf_52 : decode cX13_leftOf 52 = .ok (.iload 5, 2) := by decide +kernel
theorem dX13_leftOf_54 : decode cX13_leftOf 54 = .ok (.iconst 3, 1) := by decide +kernel
theorem dX13_leftOf_55 : decode cX13_leftOf 55 = .ok (.iadd, 1) := by decide +kernel
theorem dX13_leftOf_56 : decode cX13_leftOf 56 = .ok (.iaload, 1) := by decide +kernel
theorem dX13_leftOf_57 : decode cX13_leftOf 57 = .ok (.aload_n 0, 1) := by decide +kernel
theorem dX13_leftOf_58 : decode cX13_leftOf 58 = .ok (.getfield 13, 3) := by decide +kernel
theorem dX13_leftOf_61 : decode cX13_leftOf 61 = .ok (.iload 5, 2) := by decide +kernel
theorem dX13_leftOf_63 : decode cX13_leftOf 63 = .ok (.iconst 2, 1) := by decide +kernel
theorem dX13_leftOf_64 : decode cX13_leftOf 64 = .ok (.iadd, 1) := by decide +kernel
theorem dX13_leftOf_65 : decode cX13_leftOf 65 = .ok (.iaload, 1) := by decide +kernel
theorem dX13_leftOf_66 : decode cX13_leftOf 66 = .ok (.iload_n 3, 1) := by decide +kernel
theorem dX13_leftOf_67 : decode cX13_leftOf 67 = .ok (.iload_n 2, 1) := by decide +kernel
theorem dX13_leftOf_68 : decode cX13_leftOf 68 = .ok (.invokevirtual 570, 3) := by decide +kernel
theorem dX13_leftOf_71 : decode cX13_leftOf 71 = .ok (.istore_n 3, 1) := by decide +kernel
theorem dX13_leftOf_72 : decode cX13_leftOf 72 = .ok (.iload_n 3, 1) := by decide +kernel
theorem dX13_leftOf_81 : decode cX13_leftOf 81 = .ok (.aload_n 0, 1) := by decide +kernel
theorem dX13_leftOf_82 : decode cX13_leftOf 82 = .ok (.getfield 13, 3) := by decide +kernel
theorem dX13_leftOf_85 : decode cX13_leftOf 85 = .ok (.iload 5, 2) := by decide +kernel
theorem dX13_leftOf_87 : decode cX13_leftOf 87 = .ok (.iconst 4, 1) := by decide +kernel
theorem dX13_leftOf_88 : decode cX13_leftOf 88 = .ok (.iadd, 1) := by decide +kernel
theorem dX13_leftOf_89 : decode cX13_leftOf 89 = .ok (.iaload, 1) := by decide +kernel
theorem dX13_leftOf_90 : decode cX13_leftOf 90 = .ok (.iconst 1, 1) := by decide +kernel
theorem dX13_leftOf_99 : decode cX13_leftOf 99 = .ok (.if_icmp .eq 5, 3) := by decide +kernel
theorem dX13_leftOf_104 : decode cX13_leftOf 104 = .ok (.iinc 4 1, 3) := by decide +kernel
theorem dX13_leftOf_107 : decode cX13_leftOf 107 = .ok (.goto (-102), 3) := by decide +kernel
theorem dX13_leftOf_102 : decode cX13_leftOf 102 = .ok (.iconst (-1), 1) := by decide +kernel
theorem dX13_leftOf_103 : decode cX13_leftOf 103 = .ok (.ireturn, 1) := by decide +kernel
theorem dX13_leftOf_91 : decode cX13_leftOf 91 = .ok (.if_icmp .ne 7, 3) := by decide +kernel
theorem dX13_leftOf_98 : decode cX13_leftOf 98 = .ok (.iconst 0, 1) := by decide +kernel
theorem dX13_leftOf_94 : decode cX13_leftOf 94 = .ok (.iconst 1, 1) := by decide +kernel
theorem dX13_leftOf_95 : decode cX13_leftOf 95 = .ok (.goto 4, 3) := by decide +kernel
theorem dX13_leftOf_73 : decode cX13_leftOf 73 = .ok (.ifCond .ne 7, 3) := by decide +kernel
theorem dX13_leftOf_80 : decode cX13_leftOf 80 = .ok (.iconst 0, 1) := by decide +kernel
theorem dX13_leftOf_76 : decode cX13_leftOf 76 = .ok (.iconst 1, 1) := by decide +kernel
theorem dX13_leftOf_77 : decode cX13_leftOf 77 = .ok (.goto 4, 3) := by decide +kernel
theorem dX13_leftOf_29 : decode cX13_leftOf 29 = .ok (.iconst (-1), 1) := by decide +kernel
theorem dX13_leftOf_30 : decode cX13_leftOf 30 = .ok (.ireturn, 1) := by decide +kernel
set_option maxHeartbeats 4000000 in
set_option maxRecDepth 100000 in
theorem k_X13_leftOf (l : Launch) (D : va_G) (cy : Nat → ClassId) (ld ad : Nat → Nat) (am : Nat) (hD : mz_D ad am) (Fa : Nat → Int32) (Ga : Nat → Int64) (Ra : Nat → Nat → Int32) (Sa : Nat → Nat → Int64) (p1 : Int32) (p2 : Int32) (hIF : mz_IF true Fa) (hIG : mz_IG Ga) (hIR : mz_IR [] true Ra) : Met l yX13_leftOf (wl yX13_leftOf cX13_leftOf 6 (some .int)) ({ frames := 10, cells := 0, slots := 0, locals := 630 }) (mz_p D cy ld ad am Fa Ga Ra Sa [.ref am, .int p1, .int p2]) (mz_i D cy ad am (fun r F G R S => mz_IF true F ∧ mz_IG G ∧ mz_IR [] true R ∧ (∀ k : Nat, k ∉ ([34, 38] : List Nat) → F k = Fa k) ∧ (∀ k : Nat, k ∉ ([] : List Nat) → R k = Ra k) ∧ (∀ k : Nat, k ∉ ([39, 40] : List Nat) → G k = Ga k))) 0 0 (mz_W ad am) := by sorry
