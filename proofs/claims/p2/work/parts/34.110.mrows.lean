theorem hd_yX13_leftOf : yX13_leftOf.cls ≠ "java/lang/invoke/MethodHandle" ∧ yX13_leftOf.cls ≠ "java/lang/invoke/VarHandle" ∧ (parseMethodDescriptor yX13_leftOf.desc).map (fun d => d.parameters.length) = some 2 := by decide +kernel
theorem hd_yX13_nextVerse : yX13_nextVerse.cls ≠ "java/lang/invoke/MethodHandle" ∧ yX13_nextVerse.cls ≠ "java/lang/invoke/VarHandle" ∧ (parseMethodDescriptor yX13_nextVerse.desc).map (fun d => d.parameters.length) = some 2 := by decide +kernel
theorem dX13_fits_0 : decode cX13_fits 0 = .ok (.aload_n 0, 1) := by decide +kernel
theorem dX13_fits_1 : decode cX13_fits 1 = .ok (.iconst 0, 1) := by decide +kernel
theorem dX13_fits_2 : decode cX13_fits 2 = .ok (.putfield 170, 3) := by decide +kernel
theorem dX13_fits_5 : decode cX13_fits 5 = .ok (.iload_n 1, 1) := by decide +kernel
theorem dX13_fits_6 : decode cX13_fits 6 = .ok (.i2l, 1) := by decide +kernel
theorem dX13_fits_7 : decode cX13_fits 7 = .ok (.lconst 0, 1) := by decide +kernel
theorem dX13_fits_8 : decode cX13_fits 8 = .ok (.ldc2_w 199, 3) := by decide +kernel
theorem dX13_fits_11 : decode cX13_fits 11 = .ok (.invokestatic 190, 3) := by decide +kernel
theorem dX13_fits_14 : decode cX13_fits 14 = .ok (.ifCond .eq 22, 3) := by decide +kernel
theorem dX13_fits_36 : decode cX13_fits 36 = .ok (.iconst (-1), 1) := by decide +kernel
theorem dX13_fits_37 : decode cX13_fits 37 = .ok (.ireturn, 1) := by decide +kernel
theorem dX13_fits_17 : decode cX13_fits 17 = .ok (.iload_n 2, 1) := by decide +kernel
theorem dX13_fits_18 : decode cX13_fits 18 = .ok (.ifCond .lt 18, 3) := by decide +kernel
theorem dX13_fits_21 : decode cX13_fits 21 = .ok (.iload_n 2, 1) := by decide +kernel
theorem dX13_fits_22 : decode cX13_fits 22 = .ok (.iconst 2, 1) := by decide +kernel
theorem dX13_fits_23 : decode cX13_fits 23 = .ok (.if_icmp .le 15, 3) := by decide +kernel
theorem dX13_fits_38 : decode cX13_fits 38 = .ok (.iconst 0, 1) := by decide +kernel
theorem dX13_fits_39 : decode cX13_fits 39 = .ok (.istore_n 3, 1) := by decide +kernel
theorem dX13_fits_40 : decode cX13_fits 40 = .ok (.iconst (-1), 1) := by decide +kernel
theorem dX13_fits_41 : decode cX13_fits 41 = .ok (.istore 4, 2) := by decide +kernel
theorem dX13_fits_43 : decode cX13_fits 43 = .ok (.iconst (-1), 1) := by decide +kernel
theorem dX13_fits_44 : decode cX13_fits 44 = .ok (.istore 5, 2) := by decide +kernel
theorem dX13_fits_46 : decode cX13_fits 46 = .ok (.iconst 1, 1) := by decide +kernel
theorem dX13_fits_47 : decode cX13_fits 47 = .ok (.istore 6, 2) := by decide +kernel
theorem dX13_fits_49 : decode cX13_fits 49 = .ok (.iload 6, 2) := by decide +kernel
theorem dX13_fits_51 : decode cX13_fits 51 = .ok (.sipush 1000, 3) := by decide +kernel
theorem dX13_fits_54 : decode cX13_fits 54 = .ok (.if_icmp .ge 56, 3) := by decide +kernel
theorem dX13_fits_110 : decode cX13_fits 110 = .ok (.iload_n 2, 1) := by decide +kernel
theorem dX13_fits_111 : decode cX13_fits 111 = .ok (.tableswitch 33 0 2 #[25, 28, 31], 25) := by decide +kernel
theorem dX13_fits_136 : decode cX13_fits 136 = .ok (.iload 4, 2) := by decide +kernel
theorem dX13_fits_138 : decode cX13_fits 138 = .ok (.ireturn, 1) := by decide +kernel
theorem dX13_fits_139 : decode cX13_fits 139 = .ok (.iload 5, 2) := by decide +kernel
theorem dX13_fits_141 : decode cX13_fits 141 = .ok (.ireturn, 1) := by decide +kernel
theorem dX13_fits_142 : decode cX13_fits 142 = .ok (.iload_n 3, 1) := by decide +kernel
theorem dX13_fits_143 : decode cX13_fits 143 = .ok (.ireturn, 1) := by decide +kernel
theorem dX13_fits_57 : decode cX13_fits 57 = .ok (.aload_n 0, 1) := by decide +kernel
theorem dX13_fits_58 : decode cX13_fits 58 = .ok (.getfield 146, 3) := by decide +kernel
theorem dX13_fits_61 : decode cX13_fits 61 = .ok (.iload 6, 2) := by decide +kernel
theorem dX13_fits_63 : decode cX13_fits 63 = .ok (.aload_n 0, 1) := by decide +kernel
theorem dX13_fits_64 : decode cX13_fits 64 = .ok (.iload 6, 2) := by decide +kernel
theorem dX13_fits_66 : decode cX13_fits 66 = .ok (.iload_n 1, 1) := by decide +kernel
theorem dX13_fits_67 : decode cX13_fits 67 = .ok (.invokevirtual 575, 3) := by decide +kernel
theorem dX13_fits_70 : decode cX13_fits 70 = .ok (.iastore, 1) := by decide +kernel
theorem dX13_fits_71 : decode cX13_fits 71 = .ok (.aload_n 0, 1) := by decide +kernel
theorem dX13_fits_72 : decode cX13_fits 72 = .ok (.getfield 146, 3) := by decide +kernel
theorem dX13_fits_75 : decode cX13_fits 75 = .ok (.iload 6, 2) := by decide +kernel
theorem dX13_fits_77 : decode cX13_fits 77 = .ok (.iaload, 1) := by decide +kernel
theorem dX13_fits_78 : decode cX13_fits 78 = .ok (.iconst (-1), 1) := by decide +kernel
theorem dX13_fits_104 : decode cX13_fits 104 = .ok (.iinc 6 1, 3) := by decide +kernel
theorem dX13_fits_107 : decode cX13_fits 107 = .ok (.goto (-58), 3) := by decide +kernel
theorem dX13_fits_79 : decode cX13_fits 79 = .ok (.if_icmp .eq 25, 3) := by decide +kernel
theorem dX13_fits_82 : decode cX13_fits 82 = .ok (.iinc 3 1, 3) := by decide +kernel
theorem dX13_fits_85 : decode cX13_fits 85 = .ok (.iload 4, 2) := by decide +kernel
theorem dX13_fits_87 : decode cX13_fits 87 = .ok (.iconst (-1), 1) := by decide +kernel
theorem dX13_fits_98 : decode cX13_fits 98 = .ok (.istore 4, 2) := by decide +kernel
theorem dX13_fits_100 : decode cX13_fits 100 = .ok (.iload 6, 2) := by decide +kernel
theorem dX13_fits_102 : decode cX13_fits 102 = .ok (.istore 5, 2) := by decide +kernel
theorem dX13_fits_88 : decode cX13_fits 88 = .ok (.if_icmp .ne 8, 3) := by decide +kernel
theorem dX13_fits_96 : decode cX13_fits 96 = .ok (.iload 4, 2) := by decide +kernel
theorem dX13_fits_91 : decode cX13_fits 91 = .ok (.iload 6, 2) := by decide +kernel
theorem dX13_fits_93 : decode cX13_fits 93 = .ok (.goto 5, 3) := by decide +kernel
theorem dX13_fits_26 : decode cX13_fits 26 = .ok (.aload_n 0, 1) := by decide +kernel
theorem dX13_fits_27 : decode cX13_fits 27 = .ok (.iload_n 2, 1) := by decide +kernel
theorem dX13_fits_28 : decode cX13_fits 28 = .ok (.iconst 3, 1) := by decide +kernel
theorem dX13_fits_29 : decode cX13_fits 29 = .ok (.isub, 1) := by decide +kernel
theorem dX13_fits_30 : decode cX13_fits 30 = .ok (.invokevirtual 201, 3) := by decide +kernel
theorem dX13_fits_33 : decode cX13_fits 33 = .ok (.ifCond .ne 5, 3) := by decide +kernel
theorem dX13_fits_144 : decode cX13_fits 144 = .ok (.aload_n 0, 1) := by decide +kernel
theorem dX13_fits_145 : decode cX13_fits 145 = .ok (.iload_n 2, 1) := by decide +kernel
theorem dX13_fits_146 : decode cX13_fits 146 = .ok (.iconst 3, 1) := by decide +kernel
theorem dX13_fits_147 : decode cX13_fits 147 = .ok (.isub, 1) := by decide +kernel
theorem dX13_fits_148 : decode cX13_fits 148 = .ok (.iload_n 1, 1) := by decide +kernel
theorem dX13_fits_149 : decode cX13_fits 149 = .ok (.invokevirtual 578, 3) := by decide +kernel
theorem dX13_fits_152 : decode cX13_fits 152 = .ok (.ireturn, 1) := by decide +kernel
set_option maxHeartbeats 4000000 in
set_option maxRecDepth 100000 in
theorem k_X13_fits (l : Launch) (D : va_G) (cy : Nat → ClassId) (ld ad : Nat → Nat) (am : Nat) (hD : mz_D ad am) (Fa : Nat → Int32) (Ga : Nat → Int64) (Ra : Nat → Nat → Int32) (Sa : Nat → Nat → Int64) (p1 : Int32) (p2 : Int32) (hIF : mz_IF true Fa) (hIG : mz_IG Ga) (hIR : mz_IR [] true Ra) : Met l yX13_fits (wl yX13_fits cX13_fits 7 (some .int)) ({ frames := 11, cells := 0, slots := 0, locals := 700 }) (mz_p D cy ld ad am Fa Ga Ra Sa [.ref am, .int p1, .int p2]) (mz_i D cy ad am (fun r F G R S => mz_IF true F ∧ mz_IG G ∧ mz_IR [] true R ∧ (∀ k : Nat, k ∉ ([0, 34, 38] : List Nat) → F k = Fa k) ∧ (∀ k : Nat, k ∉ ([59] : List Nat) → R k = Ra k) ∧ (∀ k : Nat, k ∉ ([39, 40] : List Nat) → G k = Ga k) ∧ (-1) ≤ r.toInt ∧ r.toInt ≤ 999)) 0 0 (mz_W ad am) := by sorry
