theorem hd_yX13_ones : yX13_ones.cls ≠ "java/lang/invoke/MethodHandle" ∧ yX13_ones.cls ≠ "java/lang/invoke/VarHandle" ∧ (parseMethodDescriptor yX13_ones.desc).map (fun d => d.parameters.length) = some 1 := by decide +kernel
theorem dX13_keep_0 : decode cX13_keep 0 = .ok (.aload_n 0, 1) := by decide +kernel
theorem dX13_keep_1 : decode cX13_keep 1 = .ok (.iconst 0, 1) := by decide +kernel
theorem dX13_keep_2 : decode cX13_keep 2 = .ok (.putfield 170, 3) := by decide +kernel
theorem dX13_keep_5 : decode cX13_keep 5 = .ok (.aload_n 0, 1) := by decide +kernel
theorem dX13_keep_6 : decode cX13_keep 6 = .ok (.iload_n 1, 1) := by decide +kernel
theorem dX13_keep_7 : decode cX13_keep 7 = .ok (.invokevirtual 201, 3) := by decide +kernel
theorem dX13_keep_10 : decode cX13_keep 10 = .ok (.ifCond .eq 26, 3) := by decide +kernel
theorem dX13_keep_36 : decode cX13_keep 36 = .ok (.iconst (-1), 1) := by decide +kernel
theorem dX13_keep_37 : decode cX13_keep 37 = .ok (.ireturn, 1) := by decide +kernel
theorem dX13_keep_13 : decode cX13_keep 13 = .ok (.aload_n 0, 1) := by decide +kernel
theorem dX13_keep_14 : decode cX13_keep 14 = .ok (.iload_n 2, 1) := by decide +kernel
theorem dX13_keep_15 : decode cX13_keep 15 = .ok (.invokevirtual 201, 3) := by decide +kernel
theorem dX13_keep_18 : decode cX13_keep 18 = .ok (.ifCond .eq 18, 3) := by decide +kernel
theorem dX13_keep_21 : decode cX13_keep 21 = .ok (.iload_n 1, 1) := by decide +kernel
theorem dX13_keep_22 : decode cX13_keep 22 = .ok (.iload_n 2, 1) := by decide +kernel
theorem dX13_keep_23 : decode cX13_keep 23 = .ok (.if_icmp .eq 13, 3) := by decide +kernel
theorem dX13_keep_26 : decode cX13_keep 26 = .ok (.iload_n 3, 1) := by decide +kernel
theorem dX13_keep_27 : decode cX13_keep 27 = .ok (.i2l, 1) := by decide +kernel
theorem dX13_keep_28 : decode cX13_keep 28 = .ok (.lconst 0, 1) := by decide +kernel
theorem dX13_keep_29 : decode cX13_keep 29 = .ok (.lconst 1, 1) := by decide +kernel
theorem dX13_keep_30 : decode cX13_keep 30 = .ok (.invokestatic 190, 3) := by decide +kernel
theorem dX13_keep_33 : decode cX13_keep 33 = .ok (.ifCond .ne 5, 3) := by decide +kernel
theorem dX13_keep_38 : decode cX13_keep 38 = .ok (.ldc_w 574, 3) := by decide +kernel
theorem dX13_keep_41 : decode cX13_keep 41 = .ok (.istore 4, 2) := by decide +kernel
theorem dX13_keep_43 : decode cX13_keep 43 = .ok (.iconst (-1), 1) := by decide +kernel
theorem dX13_keep_44 : decode cX13_keep 44 = .ok (.istore 5, 2) := by decide +kernel
theorem dX13_keep_46 : decode cX13_keep 46 = .ok (.iconst 0, 1) := by decide +kernel
theorem dX13_keep_47 : decode cX13_keep 47 = .ok (.istore 6, 2) := by decide +kernel
theorem dX13_keep_49 : decode cX13_keep 49 = .ok (.iload 6, 2) := by decide +kernel
theorem dX13_keep_51 : decode cX13_keep 51 = .ok (.iconst 1, 1) := by decide +kernel
theorem dX13_keep_52 : decode cX13_keep 52 = .ok (.aload_n 0, 1) := by decide +kernel
theorem dX13_keep_53 : decode cX13_keep 53 = .ok (.getfield 13, 3) := by decide +kernel
theorem dX13_keep_56 : decode cX13_keep 56 = .ok (.iconst 0, 1) := by decide +kernel
theorem dX13_keep_57 : decode cX13_keep 57 = .ok (.iaload, 1) := by decide +kernel
theorem dX13_keep_58 : decode cX13_keep 58 = .ok (.ishl, 1) := by decide +kernel
theorem dX13_keep_59 : decode cX13_keep 59 = .ok (.if_icmp .ge 62, 3) := by decide +kernel
theorem dX13_keep_121 : decode cX13_keep 121 = .ok (.iload 5, 2) := by decide +kernel
theorem dX13_keep_123 : decode cX13_keep 123 = .ok (.iconst (-1), 1) := by decide +kernel
theorem dX13_keep_124 : decode cX13_keep 124 = .ok (.if_icmp .ne 7, 3) := by decide +kernel
theorem dX13_keep_131 : decode cX13_keep 131 = .ok (.iload_n 3, 1) := by decide +kernel
theorem dX13_keep_132 : decode cX13_keep 132 = .ok (.ifCond .ne 8, 3) := by decide +kernel
theorem dX13_keep_140 : decode cX13_keep 140 = .ok (.iload 5, 2) := by decide +kernel
theorem dX13_keep_142 : decode cX13_keep 142 = .ok (.ireturn, 1) := by decide +kernel
theorem dX13_keep_135 : decode cX13_keep 135 = .ok (.iload 4, 2) := by decide +kernel
theorem dX13_keep_137 : decode cX13_keep 137 = .ok (.goto 5, 3) := by decide +kernel
theorem dX13_keep_127 : decode cX13_keep 127 = .ok (.iconst (-1), 1) := by decide +kernel
theorem dX13_keep_128 : decode cX13_keep 128 = .ok (.goto 14, 3) := by decide +kernel
theorem dX13_keep_62 : decode cX13_keep 62 = .ok (.iload 6, 2) := by decide +kernel
theorem dX13_keep_64 : decode cX13_keep 64 = .ok (.iload_n 1, 1) := by decide +kernel
theorem dX13_keep_65 : decode cX13_keep 65 = .ok (.invokestatic 584, 3) := by decide +kernel
theorem dX13_keep_115 : decode cX13_keep 115 = .ok (.iinc 6 1, 3) := by decide +kernel
theorem dX13_keep_118 : decode cX13_keep 118 = .ok (.goto (-69), 3) := by decide +kernel
theorem dX13_keep_68 : decode cX13_keep 68 = .ok (.ifCond .ne 47, 3) := by decide +kernel
theorem dX13_keep_71 : decode cX13_keep 71 = .ok (.iload 6, 2) := by decide +kernel
theorem dX13_keep_73 : decode cX13_keep 73 = .ok (.iload_n 2, 1) := by decide +kernel
theorem dX13_keep_74 : decode cX13_keep 74 = .ok (.invokestatic 584, 3) := by decide +kernel
theorem dX13_keep_77 : decode cX13_keep 77 = .ok (.ifCond .ne 38, 3) := by decide +kernel
theorem dX13_keep_80 : decode cX13_keep 80 = .ok (.iload 6, 2) := by decide +kernel
theorem dX13_keep_82 : decode cX13_keep 82 = .ok (.invokestatic 590, 3) := by decide +kernel
theorem dX13_keep_85 : decode cX13_keep 85 = .ok (.iload 4, 2) := by decide +kernel
theorem dX13_keep_87 : decode cX13_keep 87 = .ok (.if_icmp .ge 28, 3) := by decide +kernel
theorem dX13_keep_90 : decode cX13_keep 90 = .ok (.aload_n 0, 1) := by decide +kernel
theorem dX13_keep_91 : decode cX13_keep 91 = .ok (.iload_n 2, 1) := by decide +kernel
theorem dX13_keep_92 : decode cX13_keep 92 = .ok (.iload 6, 2) := by decide +kernel
theorem dX13_keep_94 : decode cX13_keep 94 = .ok (.invokevirtual 587, 3) := by decide +kernel
theorem dX13_keep_97 : decode cX13_keep 97 = .ok (.iload_n 1, 1) := by decide +kernel
theorem dX13_keep_98 : decode cX13_keep 98 = .ok (.invokestatic 584, 3) := by decide +kernel
theorem dX13_keep_101 : decode cX13_keep 101 = .ok (.ifCond .ne 14, 3) := by decide +kernel
theorem dX13_keep_104 : decode cX13_keep 104 = .ok (.iload 6, 2) := by decide +kernel
theorem dX13_keep_106 : decode cX13_keep 106 = .ok (.invokestatic 590, 3) := by decide +kernel
theorem dX13_keep_109 : decode cX13_keep 109 = .ok (.istore 4, 2) := by decide +kernel
theorem dX13_keep_111 : decode cX13_keep 111 = .ok (.iload 6, 2) := by decide +kernel
theorem dX13_keep_113 : decode cX13_keep 113 = .ok (.istore 5, 2) := by decide +kernel
set_option maxHeartbeats 4000000 in
set_option maxRecDepth 100000 in
theorem k_X13_keep (l : Launch) (D : va_G) (cy : Nat → ClassId) (ld ad : Nat → Nat) (am : Nat) (hD : mz_D ad am) (Fa : Nat → Int32) (Ga : Nat → Int64) (Ra : Nat → Nat → Int32) (Sa : Nat → Nat → Int64) (p1 : Int32) (p2 : Int32) (p3 : Int32) (hIF : mz_IF true Fa) (hIG : mz_IG Ga) (hIR : mz_IR [] true Ra) : Met l yX13_keep (wl yX13_keep cX13_keep 7 (some .int)) ({ frames := 5, cells := 0, slots := 0, locals := 280 }) (mz_p D cy ld ad am Fa Ga Ra Sa [.ref am, .int p1, .int p2, .int p3]) (mz_i D cy ad am (fun r F G R S => mz_IF true F ∧ mz_IG G ∧ mz_IR [] true R ∧ (∀ k : Nat, k ∉ ([0, 60] : List Nat) → F k = Fa k) ∧ (∀ k : Nat, k ∉ ([] : List Nat) → R k = Ra k) ∧ (∀ k : Nat, k ∉ ([] : List Nat) → G k = Ga k) ∧ (-1000000000) ≤ r.toInt ∧ r.toInt ≤ 1000000000)) 0 0 (mz_W ad am) := by sorry
