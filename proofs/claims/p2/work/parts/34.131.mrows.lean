theorem hd_yX13_ofPiece : yX13_ofPiece.cls ≠ "java/lang/invoke/MethodHandle" ∧ yX13_ofPiece.cls ≠ "java/lang/invoke/VarHandle" ∧ (parseMethodDescriptor yX13_ofPiece.desc).map (fun d => d.parameters.length) = some 2 := by decide +kernel
theorem dX13_weighMade_0 : decode cX13_weighMade 0 = .ok (.iconst 0, 1) := by decide +kernel
theorem dX13_weighMade_1 : decode cX13_weighMade 1 = .ok (.istore_n 3, 1) := by decide +kernel
theorem dX13_weighMade_2 : decode cX13_weighMade 2 = .ok (.iconst 0, 1) := by decide +kernel
theorem dX13_weighMade_3 : decode cX13_weighMade 3 = .ok (.istore 4, 2) := by decide +kernel
theorem dX13_weighMade_5 : decode cX13_weighMade 5 = .ok (.iconst 0, 1) := by decide +kernel
theorem dX13_weighMade_6 : decode cX13_weighMade 6 = .ok (.istore 5, 2) := by decide +kernel
theorem dX13_weighMade_8 : decode cX13_weighMade 8 = .ok (.iload 5, 2) := by decide +kernel
theorem dX13_weighMade_10 : decode cX13_weighMade 10 = .ok (.iload_n 1, 1) := by decide +kernel
theorem dX13_weighMade_11 : decode cX13_weighMade 11 = .ok (.if_icmp .gt 116, 3) := by decide +kernel
theorem dX13_weighMade_127 : decode cX13_weighMade 127 = .ok (.iload 4, 2) := by decide +kernel
theorem dX13_weighMade_129 : decode cX13_weighMade 129 = .ok (.iload_n 2, 1) := by decide +kernel
theorem dX13_weighMade_130 : decode cX13_weighMade 130 = .ok (.if_icmp .le 5, 3) := by decide +kernel
theorem dX13_weighMade_135 : decode cX13_weighMade 135 = .ok (.iload_n 3, 1) := by decide +kernel
theorem dX13_weighMade_136 : decode cX13_weighMade 136 = .ok (.aload_n 0, 1) := by decide +kernel
theorem dX13_weighMade_137 : decode cX13_weighMade 137 = .ok (.getfield 557, 3) := by decide +kernel
theorem dX13_weighMade_184 : decode cX13_weighMade 184 = .ok (.iconst 1, 1) := by decide +kernel
theorem dX13_weighMade_185 : decode cX13_weighMade 185 = .ok (.ireturn, 1) := by decide +kernel
theorem dX13_weighMade_140 : decode cX13_weighMade 140 = .ok (.if_icmp .le 44, 3) := by decide +kernel
theorem dX13_weighMade_143 : decode cX13_weighMade 143 = .ok (.aload_n 0, 1) := by decide +kernel
theorem dX13_weighMade_144 : decode cX13_weighMade 144 = .ok (.iload_n 3, 1) := by decide +kernel
theorem dX13_weighMade_145 : decode cX13_weighMade 145 = .ok (.putfield 557, 3) := by decide +kernel
theorem dX13_weighMade_148 : decode cX13_weighMade 148 = .ok (.aload_n 0, 1) := by decide +kernel
theorem dX13_weighMade_149 : decode cX13_weighMade 149 = .ok (.iload_n 1, 1) := by decide +kernel
theorem dX13_weighMade_150 : decode cX13_weighMade 150 = .ok (.iconst 1, 1) := by decide +kernel
theorem dX13_weighMade_151 : decode cX13_weighMade 151 = .ok (.iadd, 1) := by decide +kernel
theorem dX13_weighMade_152 : decode cX13_weighMade 152 = .ok (.putfield 560, 3) := by decide +kernel
theorem dX13_weighMade_155 : decode cX13_weighMade 155 = .ok (.iconst 0, 1) := by decide +kernel
theorem dX13_weighMade_156 : decode cX13_weighMade 156 = .ok (.istore 5, 2) := by decide +kernel
theorem dX13_weighMade_158 : decode cX13_weighMade 158 = .ok (.iload 5, 2) := by decide +kernel
theorem dX13_weighMade_160 : decode cX13_weighMade 160 = .ok (.iload_n 1, 1) := by decide +kernel
theorem dX13_weighMade_161 : decode cX13_weighMade 161 = .ok (.if_icmp .gt 23, 3) := by decide +kernel
theorem dX13_weighMade_164 : decode cX13_weighMade 164 = .ok (.aload_n 0, 1) := by decide +kernel
theorem dX13_weighMade_165 : decode cX13_weighMade 165 = .ok (.getfield 143, 3) := by decide +kernel
theorem dX13_weighMade_168 : decode cX13_weighMade 168 = .ok (.iload 5, 2) := by decide +kernel
theorem dX13_weighMade_170 : decode cX13_weighMade 170 = .ok (.aload_n 0, 1) := by decide +kernel
theorem dX13_weighMade_171 : decode cX13_weighMade 171 = .ok (.getfield 140, 3) := by decide +kernel
theorem dX13_weighMade_174 : decode cX13_weighMade 174 = .ok (.iload 5, 2) := by decide +kernel
theorem dX13_weighMade_176 : decode cX13_weighMade 176 = .ok (.iaload, 1) := by decide +kernel
theorem dX13_weighMade_177 : decode cX13_weighMade 177 = .ok (.iastore, 1) := by decide +kernel
theorem dX13_weighMade_178 : decode cX13_weighMade 178 = .ok (.iinc 5 1, 3) := by decide +kernel
theorem dX13_weighMade_181 : decode cX13_weighMade 181 = .ok (.goto (-23), 3) := by decide +kernel
theorem dX13_weighMade_133 : decode cX13_weighMade 133 = .ok (.iconst 0, 1) := by decide +kernel
theorem dX13_weighMade_134 : decode cX13_weighMade 134 = .ok (.ireturn, 1) := by decide +kernel
theorem dX13_weighMade_14 : decode cX13_weighMade 14 = .ok (.iconst 0, 1) := by decide +kernel
theorem dX13_weighMade_15 : decode cX13_weighMade 15 = .ok (.istore 6, 2) := by decide +kernel
theorem dX13_weighMade_17 : decode cX13_weighMade 17 = .ok (.iload 6, 2) := by decide +kernel
theorem dX13_weighMade_19 : decode cX13_weighMade 19 = .ok (.iload 5, 2) := by decide +kernel
theorem dX13_weighMade_21 : decode cX13_weighMade 21 = .ok (.if_icmp .ge 28, 3) := by decide +kernel
theorem dX13_weighMade_49 : decode cX13_weighMade 49 = .ok (.iload_n 3, 1) := by decide +kernel
theorem dX13_weighMade_50 : decode cX13_weighMade 50 = .ok (.aload_n 0, 1) := by decide +kernel
theorem dX13_weighMade_51 : decode cX13_weighMade 51 = .ok (.aload_n 0, 1) := by decide +kernel
theorem dX13_weighMade_52 : decode cX13_weighMade 52 = .ok (.getfield 140, 3) := by decide +kernel
theorem dX13_weighMade_55 : decode cX13_weighMade 55 = .ok (.iload 5, 2) := by decide +kernel
theorem dX13_weighMade_57 : decode cX13_weighMade 57 = .ok (.iaload, 1) := by decide +kernel
theorem dX13_weighMade_58 : decode cX13_weighMade 58 = .ok (.iconst 0, 1) := by decide +kernel
theorem dX13_weighMade_59 : decode cX13_weighMade 59 = .ok (.invokevirtual 554, 3) := by decide +kernel
theorem dX13_weighMade_62 : decode cX13_weighMade 62 = .ok (.iload 5, 2) := by decide +kernel
theorem dX13_weighMade_101 : decode cX13_weighMade 101 = .ok (.iadd, 1) := by decide +kernel
theorem dX13_weighMade_102 : decode cX13_weighMade 102 = .ok (.iadd, 1) := by decide +kernel
theorem dX13_weighMade_103 : decode cX13_weighMade 103 = .ok (.istore_n 3, 1) := by decide +kernel
theorem dX13_weighMade_104 : decode cX13_weighMade 104 = .ok (.iload 4, 2) := by decide +kernel
theorem dX13_weighMade_106 : decode cX13_weighMade 106 = .ok (.aload_n 0, 1) := by decide +kernel
theorem dX13_weighMade_107 : decode cX13_weighMade 107 = .ok (.aload_n 0, 1) := by decide +kernel
theorem dX13_weighMade_108 : decode cX13_weighMade 108 = .ok (.getfield 140, 3) := by decide +kernel
theorem dX13_weighMade_111 : decode cX13_weighMade 111 = .ok (.iload 5, 2) := by decide +kernel
theorem dX13_weighMade_113 : decode cX13_weighMade 113 = .ok (.iaload, 1) := by decide +kernel
theorem dX13_weighMade_114 : decode cX13_weighMade 114 = .ok (.iconst 2, 1) := by decide +kernel
theorem dX13_weighMade_115 : decode cX13_weighMade 115 = .ok (.invokevirtual 554, 3) := by decide +kernel
theorem dX13_weighMade_118 : decode cX13_weighMade 118 = .ok (.iadd, 1) := by decide +kernel
theorem dX13_weighMade_119 : decode cX13_weighMade 119 = .ok (.istore 4, 2) := by decide +kernel
theorem dX13_weighMade_121 : decode cX13_weighMade 121 = .ok (.iinc 5 1, 3) := by decide +kernel
theorem dX13_weighMade_124 : decode cX13_weighMade 124 = .ok (.goto (-116), 3) := by decide +kernel
theorem dX13_weighMade_64 : decode cX13_weighMade 64 = .ok (.ifCond .le 36, 3) := by decide +kernel
theorem dX13_weighMade_100 : decode cX13_weighMade 100 = .ok (.iconst 0, 1) := by decide +kernel
theorem dX13_weighMade_67 : decode cX13_weighMade 67 = .ok (.aload_n 0, 1) := by decide +kernel
theorem dX13_weighMade_68 : decode cX13_weighMade 68 = .ok (.aload_n 0, 1) := by decide +kernel
theorem dX13_weighMade_69 : decode cX13_weighMade 69 = .ok (.getfield 140, 3) := by decide +kernel
theorem dX13_weighMade_72 : decode cX13_weighMade 72 = .ok (.iload 5, 2) := by decide +kernel
theorem dX13_weighMade_74 : decode cX13_weighMade 74 = .ok (.iaload, 1) := by decide +kernel
theorem dX13_weighMade_75 : decode cX13_weighMade 75 = .ok (.iconst 1, 1) := by decide +kernel
theorem dX13_weighMade_76 : decode cX13_weighMade 76 = .ok (.invokevirtual 554, 3) := by decide +kernel
theorem dX13_weighMade_79 : decode cX13_weighMade 79 = .ok (.aload_n 0, 1) := by decide +kernel
theorem dX13_weighMade_80 : decode cX13_weighMade 80 = .ok (.aload_n 0, 1) := by decide +kernel
theorem dX13_weighMade_81 : decode cX13_weighMade 81 = .ok (.getfield 140, 3) := by decide +kernel
theorem dX13_weighMade_84 : decode cX13_weighMade 84 = .ok (.iload 5, 2) := by decide +kernel
theorem dX13_weighMade_86 : decode cX13_weighMade 86 = .ok (.iconst 1, 1) := by decide +kernel
theorem dX13_weighMade_87 : decode cX13_weighMade 87 = .ok (.isub, 1) := by decide +kernel
theorem dX13_weighMade_88 : decode cX13_weighMade 88 = .ok (.iaload, 1) := by decide +kernel
theorem dX13_weighMade_89 : decode cX13_weighMade 89 = .ok (.iconst 1, 1) := by decide +kernel
theorem dX13_weighMade_90 : decode cX13_weighMade 90 = .ok (.invokevirtual 554, 3) := by decide +kernel
theorem dX13_weighMade_93 : decode cX13_weighMade 93 = .ok (.if_icmp .ne 7, 3) := by decide +kernel
theorem dX13_weighMade_96 : decode cX13_weighMade 96 = .ok (.iconst 3, 1) := by decide +kernel
theorem dX13_weighMade_97 : decode cX13_weighMade 97 = .ok (.goto 4, 3) := by decide +kernel
theorem dX13_weighMade_24 : decode cX13_weighMade 24 = .ok (.aload_n 0, 1) := by decide +kernel
theorem dX13_weighMade_25 : decode cX13_weighMade 25 = .ok (.getfield 140, 3) := by decide +kernel
theorem dX13_weighMade_28 : decode cX13_weighMade 28 = .ok (.iload 6, 2) := by decide +kernel
theorem dX13_weighMade_30 : decode cX13_weighMade 30 = .ok (.iaload, 1) := by decide +kernel
theorem dX13_weighMade_31 : decode cX13_weighMade 31 = .ok (.aload_n 0, 1) := by decide +kernel
theorem dX13_weighMade_32 : decode cX13_weighMade 32 = .ok (.getfield 140, 3) := by decide +kernel
theorem dX13_weighMade_35 : decode cX13_weighMade 35 = .ok (.iload 5, 2) := by decide +kernel
theorem dX13_weighMade_37 : decode cX13_weighMade 37 = .ok (.iaload, 1) := by decide +kernel
theorem dX13_weighMade_38 : decode cX13_weighMade 38 = .ok (.if_icmp .ne 5, 3) := by decide +kernel
theorem dX13_weighMade_43 : decode cX13_weighMade 43 = .ok (.iinc 6 1, 3) := by decide +kernel
theorem dX13_weighMade_46 : decode cX13_weighMade 46 = .ok (.goto (-29), 3) := by decide +kernel
theorem dX13_weighMade_41 : decode cX13_weighMade 41 = .ok (.iconst 0, 1) := by decide +kernel
theorem dX13_weighMade_42 : decode cX13_weighMade 42 = .ok (.ireturn, 1) := by decide +kernel
set_option maxHeartbeats 4000000 in
set_option maxRecDepth 100000 in
theorem k_X13_weighMade (l : Launch) (D : va_G) (cy : Nat → ClassId) (ld ad : Nat → Nat) (am : Nat) (hD : mz_D ad am) (Fa : Nat → Int32) (Ga : Nat → Int64) (Ra : Nat → Nat → Int32) (Sa : Nat → Nat → Int64) (p1 : Int32) (p2 : Int32) (hIF : mz_IF true Fa) (hIG : mz_IG Ga) (hIR : mz_IR [] true Ra) (hp_0 : 0 ≤ p1.toInt) (hp_1 : p1.toInt ≤ 3) (hx_0 : ∀ j : Nat, (j : Int) ≤ p1.toInt → -1 ≤ (Ra 55 j).toInt ∧ (Ra 55 j).toInt ≤ 10) : Met l yX13_weighMade (wl yX13_weighMade cX13_weighMade 7 (some .boolean)) ({ frames := 4, cells := 0, slots := 0, locals := 210 }) (mz_p D cy ld ad am Fa Ga Ra Sa [.ref am, .int p1, .int p2]) (mz_i D cy ad am (fun r F G R S => mz_IF true F ∧ mz_IG G ∧ mz_IR [] true R ∧ (∀ k : Nat, k ∉ ([57, 58] : List Nat) → F k = Fa k) ∧ (∀ k : Nat, k ∉ ([56] : List Nat) → R k = Ra k) ∧ (∀ k : Nat, k ∉ ([] : List Nat) → G k = Ga k) ∧ 0 ≤ r.toInt ∧ r.toInt ≤ 1 ∧ 0 ≤ r.toInt ∧ r.toInt ≤ 1)) 0 0 (mz_W ad am) := by sorry
