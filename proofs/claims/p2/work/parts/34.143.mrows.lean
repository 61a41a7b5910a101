theorem hd_yX13_findChampions : yX13_findChampions.cls ≠ "java/lang/invoke/MethodHandle" ∧ yX13_findChampions.cls ≠ "java/lang/invoke/VarHandle" ∧ (parseMethodDescriptor yX13_findChampions.desc).map (fun d => d.parameters.length) = some 0 := by decide +kernel
theorem dX13_champions_0 : decode cX13_champions 0 = .ok (.aload_n 0, 1) := by decide +kernel
theorem dX13_champions_1 : decode cX13_champions 1 = .ok (.iconst 0, 1) := by decide +kernel
theorem dX13_champions_2 : decode cX13_champions 2 = .ok (.putfield 170, 3) := by decide +kernel
theorem dX13_champions_5 : decode cX13_champions 5 = .ok (.iload_n 1, 1) := by decide +kernel
theorem dX13_champions_6 : decode cX13_champions 6 = .ok (.ifCond .lt 29, 3) := by decide +kernel
theorem dX13_champions_35 : decode cX13_champions 35 = .ok (.iconst (-1), 1) := by decide +kernel
theorem dX13_champions_36 : decode cX13_champions 36 = .ok (.ireturn, 1) := by decide +kernel
theorem dX13_champions_9 : decode cX13_champions 9 = .ok (.iload_n 1, 1) := by decide +kernel
theorem dX13_champions_10 : decode cX13_champions 10 = .ok (.iconst 1, 1) := by decide +kernel
theorem dX13_champions_11 : decode cX13_champions 11 = .ok (.if_icmp .le 26, 3) := by decide +kernel
theorem dX13_champions_37 : decode cX13_champions 37 = .ok (.aload_n 0, 1) := by decide +kernel
theorem dX13_champions_38 : decode cX13_champions 38 = .ok (.invokevirtual 551, 3) := by decide +kernel
theorem dX13_champions_41 : decode cX13_champions 41 = .ok (.istore_n 2, 1) := by decide +kernel
theorem dX13_champions_42 : decode cX13_champions 42 = .ok (.iload_n 1, 1) := by decide +kernel
theorem dX13_champions_43 : decode cX13_champions 43 = .ok (.iconst 2, 1) := by decide +kernel
theorem dX13_champions_44 : decode cX13_champions 44 = .ok (.if_icmp .ge 19, 3) := by decide +kernel
theorem dX13_champions_47 : decode cX13_champions 47 = .ok (.iload_n 1, 1) := by decide +kernel
theorem dX13_champions_48 : decode cX13_champions 48 = .ok (.ifCond .ne 10, 3) := by decide +kernel
theorem dX13_champions_58 : decode cX13_champions 58 = .ok (.aload_n 0, 1) := by decide +kernel
theorem dX13_champions_59 : decode cX13_champions 59 = .ok (.getfield 542, 3) := by decide +kernel
theorem dX13_champions_62 : decode cX13_champions 62 = .ok (.ireturn, 1) := by decide +kernel
theorem dX13_champions_51 : decode cX13_champions 51 = .ok (.aload_n 0, 1) := by decide +kernel
theorem dX13_champions_52 : decode cX13_champions 52 = .ok (.getfield 539, 3) := by decide +kernel
theorem dX13_champions_55 : decode cX13_champions 55 = .ok (.goto 7, 3) := by decide +kernel
theorem dX13_champions_14 : decode cX13_champions 14 = .ok (.aload_n 0, 1) := by decide +kernel
theorem dX13_champions_15 : decode cX13_champions 15 = .ok (.iload_n 1, 1) := by decide +kernel
theorem dX13_champions_16 : decode cX13_champions 16 = .ok (.iconst 2, 1) := by decide +kernel
theorem dX13_champions_17 : decode cX13_champions 17 = .ok (.isub, 1) := by decide +kernel
theorem dX13_champions_18 : decode cX13_champions 18 = .ok (.invokevirtual 201, 3) := by decide +kernel
theorem dX13_champions_21 : decode cX13_champions 21 = .ok (.ifCond .eq 14, 3) := by decide +kernel
theorem dX13_champions_24 : decode cX13_champions 24 = .ok (.aload_n 0, 1) := by decide +kernel
theorem dX13_champions_25 : decode cX13_champions 25 = .ok (.iload_n 1, 1) := by decide +kernel
theorem dX13_champions_26 : decode cX13_champions 26 = .ok (.iconst 2, 1) := by decide +kernel
theorem dX13_champions_27 : decode cX13_champions 27 = .ok (.isub, 1) := by decide +kernel
theorem dX13_champions_28 : decode cX13_champions 28 = .ok (.iconst 2, 1) := by decide +kernel
theorem dX13_champions_29 : decode cX13_champions 29 = .ok (.invokevirtual 207, 3) := by decide +kernel
theorem dX13_champions_32 : decode cX13_champions 32 = .ok (.ifCond .eq 5, 3) := by decide +kernel
theorem dX13_champions_63 : decode cX13_champions 63 = .ok (.iconst (-1), 1) := by decide +kernel
theorem dX13_champions_64 : decode cX13_champions 64 = .ok (.istore_n 3, 1) := by decide +kernel
theorem dX13_champions_65 : decode cX13_champions 65 = .ok (.iconst 0, 1) := by decide +kernel
theorem dX13_champions_66 : decode cX13_champions 66 = .ok (.istore 4, 2) := by decide +kernel
theorem dX13_champions_68 : decode cX13_champions 68 = .ok (.iload 4, 2) := by decide +kernel
theorem dX13_champions_70 : decode cX13_champions 70 = .ok (.iload_n 2, 1) := by decide +kernel
theorem dX13_champions_71 : decode cX13_champions 71 = .ok (.if_icmp .ge 51, 3) := by decide +kernel
theorem dX13_champions_122 : decode cX13_champions 122 = .ok (.iload_n 3, 1) := by decide +kernel
theorem dX13_champions_123 : decode cX13_champions 123 = .ok (.ireturn, 1) := by decide +kernel
theorem dX13_champions_74 : decode cX13_champions 74 = .ok (.aload_n 0, 1) := by decide +kernel
theorem dX13_champions_75 : decode cX13_champions 75 = .ok (.getfield 131, 3) := by decide +kernel
theorem dX13_champions_78 : decode cX13_champions 78 = .ok (.iload 4, 2) := by decide +kernel
theorem dX13_champions_80 : decode cX13_champions 80 = .ok (.iaload, 1) := by decide +kernel
theorem dX13_champions_81 : decode cX13_champions 81 = .ok (.iload_n 1, 1) := by decide +kernel
theorem dX13_champions_82 : decode cX13_champions 82 = .ok (.iconst 2, 1) := by decide +kernel
theorem dX13_champions_83 : decode cX13_champions 83 = .ok (.isub, 1) := by decide +kernel
theorem dX13_champions_115 : decode cX13_champions 115 = .ok (.istore_n 3, 1) := by decide +kernel
theorem dX13_champions_116 : decode cX13_champions 116 = .ok (.iinc 4 1, 3) := by decide +kernel
theorem dX13_champions_119 : decode cX13_champions 119 = .ok (.goto (-51), 3) := by decide +kernel
theorem dX13_champions_84 : decode cX13_champions 84 = .ok (.if_icmp .ne 30, 3) := by decide +kernel
theorem dX13_champions_114 : decode cX13_champions 114 = .ok (.iload_n 3, 1) := by decide +kernel
theorem dX13_champions_87 : decode cX13_champions 87 = .ok (.aload_n 0, 1) := by decide +kernel
theorem dX13_champions_88 : decode cX13_champions 88 = .ok (.getfield 137, 3) := by decide +kernel
theorem dX13_champions_91 : decode cX13_champions 91 = .ok (.iload 4, 2) := by decide +kernel
theorem dX13_champions_93 : decode cX13_champions 93 = .ok (.iaload, 1) := by decide +kernel
theorem dX13_champions_94 : decode cX13_champions 94 = .ok (.bipush 8, 2) := by decide +kernel
theorem dX13_champions_96 : decode cX13_champions 96 = .ok (.if_icmp .ne 8, 3) := by decide +kernel
theorem dX13_champions_104 : decode cX13_champions 104 = .ok (.aload_n 0, 1) := by decide +kernel
theorem dX13_champions_105 : decode cX13_champions 105 = .ok (.getfield 137, 3) := by decide +kernel
theorem dX13_champions_108 : decode cX13_champions 108 = .ok (.iload 4, 2) := by decide +kernel
theorem dX13_champions_110 : decode cX13_champions 110 = .ok (.iaload, 1) := by decide +kernel
theorem dX13_champions_111 : decode cX13_champions 111 = .ok (.goto 4, 3) := by decide +kernel
theorem dX13_champions_99 : decode cX13_champions 99 = .ok (.bipush 100, 2) := by decide +kernel
theorem dX13_champions_101 : decode cX13_champions 101 = .ok (.goto 14, 3) := by decide +kernel
set_option maxHeartbeats 4000000 in
set_option maxRecDepth 100000 in
theorem k_X13_champions (l : Launch) (D : va_G) (cy : Nat → ClassId) (ld ad : Nat → Nat) (am : Nat) (hD : mz_D ad am) (Fa : Nat → Int32) (Ga : Nat → Int64) (Ra : Nat → Nat → Int32) (Sa : Nat → Nat → Int64) (p1 : Int32) (hIF : mz_IF true Fa) (hIG : mz_IG Ga) (hIR : mz_IR [] true Ra) : Met l yX13_champions (wl yX13_champions cX13_champions 5 (some .int)) ({ frames := 14, cells := 0, slots := 0, locals := 910 }) (mz_p D cy ld ad am Fa Ga Ra Sa [.ref am, .int p1]) (mz_i D cy ad am (fun r F G R S => mz_IF true F ∧ mz_IG G ∧ mz_IR [] true R ∧ (∀ k : Nat, k ∉ ([0, 34, 38, 41, 53, 54] : List Nat) → F k = Fa k) ∧ (∀ k : Nat, k ∉ ([3, 6, 49, 50, 51, 52] : List Nat) → R k = Ra k) ∧ (∀ k : Nat, k ∉ ([39, 40, 47] : List Nat) → G k = Ga k) ∧ rK1 (Ra 3) (R 3))) 0 0 (mz_W ad am) := by sorry
