theorem hd_yX13_drawVerse : yX13_drawVerse.cls ≠ "java/lang/invoke/MethodHandle" ∧ yX13_drawVerse.cls ≠ "java/lang/invoke/VarHandle" ∧ (parseMethodDescriptor yX13_drawVerse.desc).map (fun d => d.parameters.length) = some 0 := by decide +kernel
theorem hd_yX13_loudest : yX13_loudest.cls ≠ "java/lang/invoke/MethodHandle" ∧ yX13_loudest.cls ≠ "java/lang/invoke/VarHandle" ∧ (parseMethodDescriptor yX13_loudest.desc).map (fun d => d.parameters.length) = some 0 := by decide +kernel
theorem dX13_result_0 : decode cX13_result 0 = .ok (.aload_n 0, 1) := by decide +kernel
theorem dX13_result_1 : decode cX13_result 1 = .ok (.iload_n 1, 1) := by decide +kernel
theorem dX13_result_2 : decode cX13_result 2 = .ok (.iconst 0, 1) := by decide +kernel
theorem dX13_result_3 : decode cX13_result 3 = .ok (.invokevirtual 207, 3) := by decide +kernel
theorem dX13_result_6 : decode cX13_result 6 = .ok (.ifCond .eq 12, 3) := by decide +kernel
theorem dX13_result_18 : decode cX13_result 18 = .ok (.aload_n 0, 1) := by decide +kernel
theorem dX13_result_19 : decode cX13_result 19 = .ok (.iload_n 1, 1) := by decide +kernel
theorem dX13_result_20 : decode cX13_result 20 = .ok (.iconst 0, 1) := by decide +kernel
theorem dX13_result_21 : decode cX13_result 21 = .ok (.invokevirtual 207, 3) := by decide +kernel
theorem dX13_result_24 : decode cX13_result 24 = .ok (.ifCond .ne 7, 3) := by decide +kernel
theorem dX13_result_31 : decode cX13_result 31 = .ok (.iconst 1, 1) := by decide +kernel
theorem dX13_result_32 : decode cX13_result 32 = .ok (.ireturn, 1) := by decide +kernel
theorem dX13_result_27 : decode cX13_result 27 = .ok (.iconst (-1), 1) := by decide +kernel
theorem dX13_result_28 : decode cX13_result 28 = .ok (.goto 4, 3) := by decide +kernel
theorem dX13_result_9 : decode cX13_result 9 = .ok (.aload_n 0, 1) := by decide +kernel
theorem dX13_result_10 : decode cX13_result 10 = .ok (.iload_n 2, 1) := by decide +kernel
theorem dX13_result_11 : decode cX13_result 11 = .ok (.iconst 0, 1) := by decide +kernel
theorem dX13_result_12 : decode cX13_result 12 = .ok (.invokevirtual 207, 3) := by decide +kernel
theorem dX13_result_15 : decode cX13_result 15 = .ok (.ifCond .ne 18, 3) := by decide +kernel
theorem dX13_result_33 : decode cX13_result 33 = .ok (.aload_n 0, 1) := by decide +kernel
theorem dX13_result_34 : decode cX13_result 34 = .ok (.iload_n 1, 1) := by decide +kernel
theorem dX13_result_35 : decode cX13_result 35 = .ok (.iload_n 2, 1) := by decide +kernel
theorem dX13_result_36 : decode cX13_result 36 = .ok (.iload_n 3, 1) := by decide +kernel
theorem dX13_result_37 : decode cX13_result 37 = .ok (.invokevirtual 458, 3) := by decide +kernel
theorem dX13_result_40 : decode cX13_result 40 = .ok (.aload_n 0, 1) := by decide +kernel
theorem dX13_result_41 : decode cX13_result 41 = .ok (.iconst (-1), 1) := by decide +kernel
theorem dX13_result_42 : decode cX13_result 42 = .ok (.putfield 471, 3) := by decide +kernel
theorem dX13_result_45 : decode cX13_result 45 = .ok (.aload_n 0, 1) := by decide +kernel
theorem dX13_result_46 : decode cX13_result 46 = .ok (.invokevirtual 434, 3) := by decide +kernel
theorem dX13_result_49 : decode cX13_result 49 = .ok (.ifCond .eq 88, 3) := by decide +kernel
theorem dX13_result_137 : decode cX13_result 137 = .ok (.aload_n 0, 1) := by decide +kernel
theorem dX13_result_138 : decode cX13_result 138 = .ok (.getfield 471, 3) := by decide +kernel
theorem dX13_result_141 : decode cX13_result 141 = .ok (.iconst (-1), 1) := by decide +kernel
theorem dX13_result_142 : decode cX13_result 142 = .ok (.if_icmp .ne 7, 3) := by decide +kernel
theorem dX13_result_149 : decode cX13_result 149 = .ok (.aload_n 0, 1) := by decide +kernel
theorem dX13_result_150 : decode cX13_result 150 = .ok (.getfield 471, 3) := by decide +kernel
theorem dX13_result_153 : decode cX13_result 153 = .ok (.iload_n 2, 1) := by decide +kernel
theorem dX13_result_154 : decode cX13_result 154 = .ok (.if_icmp .ne 7, 3) := by decide +kernel
theorem dX13_result_161 : decode cX13_result 161 = .ok (.iconst (-1), 1) := by decide +kernel
theorem dX13_result_162 : decode cX13_result 162 = .ok (.ireturn, 1) := by decide +kernel
theorem dX13_result_157 : decode cX13_result 157 = .ok (.iconst 1, 1) := by decide +kernel
theorem dX13_result_158 : decode cX13_result 158 = .ok (.goto 4, 3) := by decide +kernel
theorem dX13_result_145 : decode cX13_result 145 = .ok (.iconst 0, 1) := by decide +kernel
theorem dX13_result_146 : decode cX13_result 146 = .ok (.goto 16, 3) := by decide +kernel
theorem dX13_result_52 : decode cX13_result 52 = .ok (.aload_n 0, 1) := by decide +kernel
theorem dX13_result_53 : decode cX13_result 53 = .ok (.iconst 4, 1) := by decide +kernel
theorem dX13_result_54 : decode cX13_result 54 = .ok (.invokevirtual 194, 3) := by decide +kernel
theorem dX13_result_57 : decode cX13_result 57 = .ok (.iload_n 1, 1) := by decide +kernel
theorem dX13_result_68 : decode cX13_result 68 = .ok (.istore 6, 2) := by decide +kernel
theorem dX13_result_70 : decode cX13_result 70 = .ok (.iload 6, 2) := by decide +kernel
theorem dX13_result_72 : decode cX13_result 72 = .ok (.iconst (-1), 1) := by decide +kernel
theorem dX13_result_112 : decode cX13_result 112 = .ok (.istore 7, 2) := by decide +kernel
theorem dX13_result_114 : decode cX13_result 114 = .ok (.iload 7, 2) := by decide +kernel
theorem dX13_result_116 : decode cX13_result 116 = .ok (.iconst (-1), 1) := by decide +kernel
theorem dX13_result_117 : decode cX13_result 117 = .ok (.if_icmp .ne 10, 3) := by decide +kernel
theorem dX13_result_127 : decode cX13_result 127 = .ok (.aload_n 0, 1) := by decide +kernel
theorem dX13_result_128 : decode cX13_result 128 = .ok (.iload 7, 2) := by decide +kernel
theorem dX13_result_130 : decode cX13_result 130 = .ok (.invokevirtual 477, 3) := by decide +kernel
theorem dX13_result_133 : decode cX13_result 133 = .ok (.pop, 1) := by decide +kernel
theorem dX13_result_134 : decode cX13_result 134 = .ok (.goto (-89), 3) := by decide +kernel
theorem dX13_result_120 : decode cX13_result 120 = .ok (.aload_n 0, 1) := by decide +kernel
theorem dX13_result_121 : decode cX13_result 121 = .ok (.invokevirtual 167, 3) := by decide +kernel
theorem dX13_result_124 : decode cX13_result 124 = .ok (.goto 10, 3) := by decide +kernel
theorem dX13_result_73 : decode cX13_result 73 = .ok (.if_icmp .ne 10, 3) := by decide +kernel
theorem dX13_result_83 : decode cX13_result 83 = .ok (.iload 6, 2) := by decide +kernel
theorem dX13_result_85 : decode cX13_result 85 = .ok (.bipush (-2), 2) := by decide +kernel
theorem dX13_result_87 : decode cX13_result 87 = .ok (.if_icmp .ne 10, 3) := by decide +kernel
theorem dX13_result_97 : decode cX13_result 97 = .ok (.aload_n 0, 1) := by decide +kernel
theorem dX13_result_98 : decode cX13_result 98 = .ok (.iload 6, 2) := by decide +kernel
theorem dX13_result_100 : decode cX13_result 100 = .ok (.invokevirtual 501, 3) := by decide +kernel
theorem dX13_result_103 : decode cX13_result 103 = .ok (.ifCond .eq 8, 3) := by decide +kernel
theorem dX13_result_111 : decode cX13_result 111 = .ok (.iconst (-1), 1) := by decide +kernel
theorem dX13_result_106 : decode cX13_result 106 = .ok (.iload 6, 2) := by decide +kernel
theorem dX13_result_108 : decode cX13_result 108 = .ok (.goto 4, 3) := by decide +kernel
theorem dX13_result_90 : decode cX13_result 90 = .ok (.aload_n 0, 1) := by decide +kernel
theorem dX13_result_91 : decode cX13_result 91 = .ok (.invokevirtual 522, 3) := by decide +kernel
theorem dX13_result_94 : decode cX13_result 94 = .ok (.goto 18, 3) := by decide +kernel
theorem dX13_result_76 : decode cX13_result 76 = .ok (.aload_n 0, 1) := by decide +kernel
theorem dX13_result_77 : decode cX13_result 77 = .ok (.invokevirtual 519, 3) := by decide +kernel
theorem dX13_result_80 : decode cX13_result 80 = .ok (.goto 32, 3) := by decide +kernel
theorem dX13_result_58 : decode cX13_result 58 = .ok (.if_icmp .ne 8, 3) := by decide +kernel
theorem dX13_result_66 : decode cX13_result 66 = .ok (.iload 5, 2) := by decide +kernel
theorem dX13_result_61 : decode cX13_result 61 = .ok (.iload 4, 2) := by decide +kernel
theorem dX13_result_63 : decode cX13_result 63 = .ok (.goto 5, 3) := by decide +kernel
set_option maxHeartbeats 4000000 in
set_option maxRecDepth 100000 in
theorem k_X13_result (l : Launch) (D : va_G) (cy : Nat → ClassId) (ld ad : Nat → Nat) (am : Nat) (hD : mz_D ad am) (Fa : Nat → Int32) (Ga : Nat → Int64) (Ra : Nat → Nat → Int32) (Sa : Nat → Nat → Int64) (p1 : Int32) (p2 : Int32) (p3 : Int32) (p4 : Int32) (p5 : Int32) (hIF : mz_IF true Fa) (hIG : mz_IG Ga) (hIR : mz_IR [] true Ra) (hp_0 : 0 ≤ p1.toInt) (hp_1 : p1.toInt ≤ 7) (hp_2 : 0 ≤ p2.toInt) (hp_3 : p2.toInt ≤ 7) (hp_4 : (-1) ≤ p3.toInt) (hp_5 : p3.toInt ≤ 99) (hp_6 : (-2) ≤ p4.toInt) (hp_7 : p4.toInt ≤ 9) (hp_8 : (-2) ≤ p5.toInt) (hp_9 : p5.toInt ≤ 9) : Met l yX13_result (wl yX13_result cX13_result 8 (some .int)) ({ frames := 11, cells := 0, slots := 0, locals := 700 }) (mz_p D cy ld ad am Fa Ga Ra Sa [.ref am, .int p1, .int p2, .int p3, .int p4, .int p5]) (mz_i D cy ad am (fun r F G R S => mz_IF true F ∧ mz_IG G ∧ mz_IR [] true R ∧ (∀ k : Nat, k ∉ ([34, 38, 41] : List Nat) → F k = Fa k) ∧ (∀ k : Nat, k ∉ ([3] : List Nat) → R k = Ra k) ∧ (∀ k : Nat, k ∉ ([39, 40, 47] : List Nat) → G k = Ga k) ∧ rK2 (Ra 3) (R 3) ∧ (-1) ≤ r.toInt ∧ r.toInt ≤ 1)) 0 0 (mz_W ad am) := by sorry
