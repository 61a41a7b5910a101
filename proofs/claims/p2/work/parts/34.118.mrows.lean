theorem hd_yX13_setWake : yX13_setWake.cls ≠ "java/lang/invoke/MethodHandle" ∧ yX13_setWake.cls ≠ "java/lang/invoke/VarHandle" ∧ (parseMethodDescriptor yX13_setWake.desc).map (fun d => d.parameters.length) = some 2 := by decide +kernel
theorem hd_yX13_giveCows : yX13_giveCows.cls ≠ "java/lang/invoke/MethodHandle" ∧ yX13_giveCows.cls ≠ "java/lang/invoke/VarHandle" ∧ (parseMethodDescriptor yX13_giveCows.desc).map (fun d => d.parameters.length) = some 2 := by decide +kernel
theorem dX13_singIt_0 : decode cX13_singIt 0 = .ok (.aload_n 0, 1) := by decide +kernel
theorem dX13_singIt_1 : decode cX13_singIt 1 = .ok (.iconst 4, 1) := by decide +kernel
theorem dX13_singIt_2 : decode cX13_singIt 2 = .ok (.invokevirtual 194, 3) := by decide +kernel
theorem dX13_singIt_5 : decode cX13_singIt 5 = .ok (.istore_n 2, 1) := by decide +kernel
theorem dX13_singIt_6 : decode cX13_singIt 6 = .ok (.aload_n 0, 1) := by decide +kernel
theorem dX13_singIt_7 : decode cX13_singIt 7 = .ok (.invokevirtual 431, 3) := by decide +kernel
theorem dX13_singIt_10 : decode cX13_singIt 10 = .ok (.istore_n 3, 1) := by decide +kernel
theorem dX13_singIt_11 : decode cX13_singIt 11 = .ok (.aload_n 0, 1) := by decide +kernel
theorem dX13_singIt_12 : decode cX13_singIt 12 = .ok (.iload_n 1, 1) := by decide +kernel
theorem dX13_singIt_13 : decode cX13_singIt 13 = .ok (.invokevirtual 437, 3) := by decide +kernel
theorem dX13_singIt_16 : decode cX13_singIt 16 = .ok (.aload_n 0, 1) := by decide +kernel
theorem dX13_singIt_17 : decode cX13_singIt 17 = .ok (.invokevirtual 440, 3) := by decide +kernel
theorem dX13_singIt_20 : decode cX13_singIt 20 = .ok (.istore 4, 2) := by decide +kernel
theorem dX13_singIt_22 : decode cX13_singIt 22 = .ok (.aload_n 0, 1) := by decide +kernel
theorem dX13_singIt_23 : decode cX13_singIt 23 = .ok (.invokevirtual 443, 3) := by decide +kernel
theorem dX13_singIt_26 : decode cX13_singIt 26 = .ok (.istore 5, 2) := by decide +kernel
theorem dX13_singIt_28 : decode cX13_singIt 28 = .ok (.aload_n 0, 1) := by decide +kernel
theorem dX13_singIt_29 : decode cX13_singIt 29 = .ok (.iload_n 3, 1) := by decide +kernel
theorem dX13_singIt_30 : decode cX13_singIt 30 = .ok (.iconst 0, 1) := by decide +kernel
theorem dX13_singIt_31 : decode cX13_singIt 31 = .ok (.invokevirtual 207, 3) := by decide +kernel
theorem dX13_singIt_34 : decode cX13_singIt 34 = .ok (.iload 4, 2) := by decide +kernel
theorem dX13_singIt_36 : decode cX13_singIt 36 = .ok (.isub, 1) := by decide +kernel
theorem dX13_singIt_37 : decode cX13_singIt 37 = .ok (.i2l, 1) := by decide +kernel
theorem dX13_singIt_38 : decode cX13_singIt 38 = .ok (.iconst 0, 1) := by decide +kernel
theorem dX13_singIt_39 : decode cX13_singIt 39 = .ok (.sipush 999, 3) := by decide +kernel
theorem dX13_singIt_42 : decode cX13_singIt 42 = .ok (.invokestatic 421, 3) := by decide +kernel
theorem dX13_singIt_45 : decode cX13_singIt 45 = .ok (.istore 6, 2) := by decide +kernel
theorem dX13_singIt_47 : decode cX13_singIt 47 = .ok (.aload_n 0, 1) := by decide +kernel
theorem dX13_singIt_48 : decode cX13_singIt 48 = .ok (.iload_n 3, 1) := by decide +kernel
theorem dX13_singIt_49 : decode cX13_singIt 49 = .ok (.iload 6, 2) := by decide +kernel
theorem dX13_singIt_51 : decode cX13_singIt 51 = .ok (.invokevirtual 468, 3) := by decide +kernel
theorem dX13_singIt_54 : decode cX13_singIt 54 = .ok (.aload_n 0, 1) := by decide +kernel
theorem dX13_singIt_55 : decode cX13_singIt 55 = .ok (.getfield 13, 3) := by decide +kernel
theorem dX13_singIt_58 : decode cX13_singIt 58 = .ok (.bipush 18, 2) := by decide +kernel
theorem dX13_singIt_60 : decode cX13_singIt 60 = .ok (.iconst 5, 1) := by decide +kernel
theorem dX13_singIt_61 : decode cX13_singIt 61 = .ok (.iload_n 3, 1) := by decide +kernel
theorem dX13_singIt_62 : decode cX13_singIt 62 = .ok (.imul, 1) := by decide +kernel
theorem dX13_singIt_63 : decode cX13_singIt 63 = .ok (.iadd, 1) := by decide +kernel
theorem dX13_singIt_64 : decode cX13_singIt 64 = .ok (.iconst 4, 1) := by decide +kernel
theorem dX13_singIt_65 : decode cX13_singIt 65 = .ok (.iadd, 1) := by decide +kernel
theorem dX13_singIt_66 : decode cX13_singIt 66 = .ok (.dup2, 1) := by decide +kernel
theorem dX13_singIt_67 : decode cX13_singIt 67 = .ok (.iaload, 1) := by decide +kernel
theorem dX13_singIt_68 : decode cX13_singIt 68 = .ok (.iload 4, 2) := by decide +kernel
theorem dX13_singIt_70 : decode cX13_singIt 70 = .ok (.aload_n 0, 1) := by decide +kernel
theorem dX13_singIt_71 : decode cX13_singIt 71 = .ok (.iconst 1, 1) := by decide +kernel
theorem dX13_singIt_72 : decode cX13_singIt 72 = .ok (.invokevirtual 412, 3) := by decide +kernel
theorem dX13_singIt_83 : decode cX13_singIt 83 = .ok (.iadd, 1) := by decide +kernel
theorem dX13_singIt_84 : decode cX13_singIt 84 = .ok (.iastore, 1) := by decide +kernel
theorem dX13_singIt_85 : decode cX13_singIt 85 = .ok (.aload_n 0, 1) := by decide +kernel
theorem dX13_singIt_86 : decode cX13_singIt 86 = .ok (.iload_n 2, 1) := by decide +kernel
theorem dX13_singIt_87 : decode cX13_singIt 87 = .ok (.aload_n 0, 1) := by decide +kernel
theorem dX13_singIt_88 : decode cX13_singIt 88 = .ok (.iload_n 2, 1) := by decide +kernel
theorem dX13_singIt_89 : decode cX13_singIt 89 = .ok (.iconst 0, 1) := by decide +kernel
theorem dX13_singIt_90 : decode cX13_singIt 90 = .ok (.invokevirtual 207, 3) := by decide +kernel
theorem dX13_singIt_93 : decode cX13_singIt 93 = .ok (.iload 5, 2) := by decide +kernel
theorem dX13_singIt_95 : decode cX13_singIt 95 = .ok (.isub, 1) := by decide +kernel
theorem dX13_singIt_96 : decode cX13_singIt 96 = .ok (.i2l, 1) := by decide +kernel
theorem dX13_singIt_97 : decode cX13_singIt 97 = .ok (.iconst 1, 1) := by decide +kernel
theorem dX13_singIt_98 : decode cX13_singIt 98 = .ok (.sipush 999, 3) := by decide +kernel
theorem dX13_singIt_101 : decode cX13_singIt 101 = .ok (.invokestatic 421, 3) := by decide +kernel
theorem dX13_singIt_104 : decode cX13_singIt 104 = .ok (.invokevirtual 468, 3) := by decide +kernel
theorem dX13_singIt_107 : decode cX13_singIt 107 = .ok (.aload_n 0, 1) := by decide +kernel
theorem dX13_singIt_108 : decode cX13_singIt 108 = .ok (.getfield 13, 3) := by decide +kernel
theorem dX13_singIt_111 : decode cX13_singIt 111 = .ok (.bipush 17, 2) := by decide +kernel
theorem dX13_singIt_113 : decode cX13_singIt 113 = .ok (.aload_n 0, 1) := by decide +kernel
theorem dX13_singIt_114 : decode cX13_singIt 114 = .ok (.getfield 13, 3) := by decide +kernel
theorem dX13_singIt_117 : decode cX13_singIt 117 = .ok (.bipush 58, 2) := by decide +kernel
theorem dX13_singIt_119 : decode cX13_singIt 119 = .ok (.iconst 2, 1) := by decide +kernel
theorem dX13_singIt_120 : decode cX13_singIt 120 = .ok (.iload_n 1, 1) := by decide +kernel
theorem dX13_singIt_121 : decode cX13_singIt 121 = .ok (.imul, 1) := by decide +kernel
theorem dX13_singIt_122 : decode cX13_singIt 122 = .ok (.iadd, 1) := by decide +kernel
theorem dX13_singIt_123 : decode cX13_singIt 123 = .ok (.iconst 1, 1) := by decide +kernel
theorem dX13_singIt_124 : decode cX13_singIt 124 = .ok (.iadd, 1) := by decide +kernel
theorem dX13_singIt_125 : decode cX13_singIt 125 = .ok (.iaload, 1) := by decide +kernel
theorem dX13_singIt_126 : decode cX13_singIt 126 = .ok (.iastore, 1) := by decide +kernel
theorem dX13_singIt_127 : decode cX13_singIt 127 = .ok (.aload_n 0, 1) := by decide +kernel
theorem dX13_singIt_128 : decode cX13_singIt 128 = .ok (.iconst (-1), 1) := by decide +kernel
theorem dX13_singIt_129 : decode cX13_singIt 129 = .ok (.putfield 471, 3) := by decide +kernel
theorem dX13_singIt_132 : decode cX13_singIt 132 = .ok (.iload 6, 2) := by decide +kernel
theorem dX13_singIt_134 : decode cX13_singIt 134 = .ok (.ifCond .ne 44, 3) := by decide +kernel
theorem dX13_singIt_178 : decode cX13_singIt 178 = .ok (.aload_n 0, 1) := by decide +kernel
theorem dX13_singIt_179 : decode cX13_singIt 179 = .ok (.getfield 13, 3) := by decide +kernel
theorem dX13_singIt_182 : decode cX13_singIt 182 = .ok (.bipush 16, 2) := by decide +kernel
theorem dX13_singIt_184 : decode cX13_singIt 184 = .ok (.iload_n 3, 1) := by decide +kernel
theorem dX13_singIt_185 : decode cX13_singIt 185 = .ok (.iastore, 1) := by decide +kernel
theorem dX13_singIt_186 : decode cX13_singIt 186 = .ok (.aload_n 0, 1) := by decide +kernel
theorem dX13_singIt_187 : decode cX13_singIt 187 = .ok (.getfield 13, 3) := by decide +kernel
theorem dX13_singIt_190 : decode cX13_singIt 190 = .ok (.bipush 15, 2) := by decide +kernel
theorem dX13_singIt_192 : decode cX13_singIt 192 = .ok (.dup2, 1) := by decide +kernel
theorem dX13_singIt_193 : decode cX13_singIt 193 = .ok (.iaload, 1) := by decide +kernel
theorem dX13_singIt_194 : decode cX13_singIt 194 = .ok (.iload_n 3, 1) := by decide +kernel
theorem dX13_singIt_195 : decode cX13_singIt 195 = .ok (.aload_n 0, 1) := by decide +kernel
theorem dX13_singIt_196 : decode cX13_singIt 196 = .ok (.iconst 0, 1) := by decide +kernel
theorem dX13_singIt_197 : decode cX13_singIt 197 = .ok (.invokevirtual 194, 3) := by decide +kernel
theorem dX13_singIt_200 : decode cX13_singIt 200 = .ok (.if_icmp .ne 7, 3) := by decide +kernel
theorem dX13_singIt_207 : decode cX13_singIt 207 = .ok (.iconst 0, 1) := by decide +kernel
theorem dX13_singIt_208 : decode cX13_singIt 208 = .ok (.iadd, 1) := by decide +kernel
theorem dX13_singIt_209 : decode cX13_singIt 209 = .ok (.iastore, 1) := by decide +kernel
theorem dX13_singIt_210 : decode cX13_singIt 210 = .ok (.aload_n 0, 1) := by decide +kernel
theorem dX13_singIt_211 : decode cX13_singIt 211 = .ok (.iconst 3, 1) := by decide +kernel
theorem dX13_singIt_212 : decode cX13_singIt 212 = .ok (.invokevirtual 194, 3) := by decide +kernel
theorem dX13_singIt_215 : decode cX13_singIt 215 = .ok (.bipush 12, 2) := by decide +kernel
theorem dX13_singIt_217 : decode cX13_singIt 217 = .ok (.if_icmp .ne 7, 3) := by decide +kernel
theorem dX13_singIt_224 : decode cX13_singIt 224 = .ok (.iload 6, 2) := by decide +kernel
theorem dX13_singIt_226 : decode cX13_singIt 226 = .ok (.ireturn, 1) := by decide +kernel
theorem dX13_singIt_203 : decode cX13_singIt 203 = .ok (.iconst 1, 1) := by decide +kernel
theorem dX13_singIt_204 : decode cX13_singIt 204 = .ok (.goto 4, 3) := by decide +kernel
theorem dX13_singIt_220 : decode cX13_singIt 220 = .ok (.aload_n 0, 1) := by decide +kernel
theorem dX13_singIt_221 : decode cX13_singIt 221 = .ok (.invokevirtual 167, 3) := by decide +kernel
theorem dX13_singIt_137 : decode cX13_singIt 137 = .ok (.aload_n 0, 1) := by decide +kernel
theorem dX13_singIt_138 : decode cX13_singIt 138 = .ok (.getfield 13, 3) := by decide +kernel
theorem dX13_singIt_141 : decode cX13_singIt 141 = .ok (.bipush 18, 2) := by decide +kernel
theorem dX13_singIt_143 : decode cX13_singIt 143 = .ok (.iconst 5, 1) := by decide +kernel
theorem dX13_singIt_144 : decode cX13_singIt 144 = .ok (.iload_n 3, 1) := by decide +kernel
theorem dX13_singIt_145 : decode cX13_singIt 145 = .ok (.imul, 1) := by decide +kernel
theorem dX13_singIt_146 : decode cX13_singIt 146 = .ok (.iadd, 1) := by decide +kernel
theorem dX13_singIt_147 : decode cX13_singIt 147 = .ok (.iconst 3, 1) := by decide +kernel
theorem dX13_singIt_148 : decode cX13_singIt 148 = .ok (.iadd, 1) := by decide +kernel
theorem dX13_singIt_149 : decode cX13_singIt 149 = .ok (.iconst 1, 1) := by decide +kernel
theorem dX13_singIt_150 : decode cX13_singIt 150 = .ok (.iastore, 1) := by decide +kernel
theorem dX13_singIt_151 : decode cX13_singIt 151 = .ok (.aload_n 0, 1) := by decide +kernel
theorem dX13_singIt_152 : decode cX13_singIt 152 = .ok (.aload_n 0, 1) := by decide +kernel
theorem dX13_singIt_153 : decode cX13_singIt 153 = .ok (.iload_n 2, 1) := by decide +kernel
theorem dX13_singIt_154 : decode cX13_singIt 154 = .ok (.iconst 2, 1) := by decide +kernel
theorem dX13_singIt_155 : decode cX13_singIt 155 = .ok (.invokevirtual 207, 3) := by decide +kernel
theorem dX13_singIt_158 : decode cX13_singIt 158 = .ok (.aload_n 0, 1) := by decide +kernel
theorem dX13_singIt_159 : decode cX13_singIt 159 = .ok (.iconst 2, 1) := by decide +kernel
theorem dX13_singIt_160 : decode cX13_singIt 160 = .ok (.invokevirtual 194, 3) := by decide +kernel
theorem dX13_singIt_163 : decode cX13_singIt 163 = .ok (.invokevirtual 474, 3) := by decide +kernel
theorem dX13_singIt_166 : decode cX13_singIt 166 = .ok (.aload_n 0, 1) := by decide +kernel
theorem dX13_singIt_167 : decode cX13_singIt 167 = .ok (.iload_n 3, 1) := by decide +kernel
theorem dX13_singIt_168 : decode cX13_singIt 168 = .ok (.putfield 471, 3) := by decide +kernel
theorem dX13_singIt_171 : decode cX13_singIt 171 = .ok (.aload_n 0, 1) := by decide +kernel
theorem dX13_singIt_172 : decode cX13_singIt 172 = .ok (.invokevirtual 167, 3) := by decide +kernel
theorem dX13_singIt_175 : decode cX13_singIt 175 = .ok (.goto 49, 3) := by decide +kernel
theorem dX13_singIt_75 : decode cX13_singIt 75 = .ok (.if_icmp .lt 7, 3) := by decide +kernel
theorem dX13_singIt_82 : decode cX13_singIt 82 = .ok (.iconst 0, 1) := by decide +kernel
theorem dX13_singIt_78 : decode cX13_singIt 78 = .ok (.iconst 1, 1) := by decide +kernel
theorem dX13_singIt_79 : decode cX13_singIt 79 = .ok (.goto 4, 3) := by decide +kernel
set_option maxHeartbeats 4000000 in
set_option maxRecDepth 100000 in
theorem k_X13_singIt (l : Launch) (D : va_G) (cy : Nat → ClassId) (ld ad : Nat → Nat) (am : Nat) (hD : mz_D ad am) (Fa : Nat → Int32) (Ga : Nat → Int64) (Ra : Nat → Nat → Int32) (Sa : Nat → Nat → Int64) (p1 : Int32) (g12 : Int32) (g13 : Int32) (g15 : Int32) (g16 : Int32) (hIF : mz_IF true Fa) (hIG : mz_IG Ga) (hIR : mz_IR [] true Ra) (hg_0 : Ra 3 12 = g12) (hg_1 : Ra 3 13 = g13) (hg_2 : Ra 3 15 = g15) (hg_3 : Ra 3 16 = g16) (hp_0 : 0 ≤ p1.toInt) (hp_1 : p1.toInt ≤ 9) (hp_2 : 0 ≤ g12.toInt) : Met l yX13_singIt (wl yX13_singIt cX13_singIt 7 (some .int)) ({ frames := 9, cells := 0, slots := 0, locals := 560 }) (mz_p D cy ld ad am Fa Ga Ra Sa [.ref am, .int p1]) (mz_i D cy ad am (fun r F G R S => mz_IF true F ∧ mz_IG G ∧ mz_IR [] true R ∧ (∀ k : Nat, k ∉ ([34, 38, 41] : List Nat) → F k = Fa k) ∧ (∀ k : Nat, k ∉ ([3] : List Nat) → R k = Ra k) ∧ (∀ k : Nat, k ∉ ([39, 40] : List Nat) → G k = Ga k) ∧ rK2 (Ra 3) (R 3) ∧ 0 ≤ r.toInt ∧ r.toInt ≤ 999 ∧ (0 ≤ (R 3 12).toInt → (-1) * g12.toInt + (R 3 12).toInt = 0 ∧ 0 ≤ (-1) * g15.toInt + (R 3 15).toInt) ∧ (0 ≤ (R 3 12).toInt → 0 ≤ (-1) * g12.toInt + g16.toInt + (-1) → 0 ≤ (-1) * g15.toInt + (R 3 15).toInt + (-1)) ∧ (0 ≤ (R 3 12).toInt → 0 ≤ g12.toInt + (-1) * g16.toInt + (-1) → 0 ≤ (-1) * g15.toInt + (R 3 15).toInt + (-1)) ∧ (0 ≤ (R 3 12).toInt → 0 ≤ g15.toInt + (-1) * (R 3 15).toInt → (-1) * g12.toInt + (R 3 16).toInt = 0 → 0 ≤ (-1)))) 0 0 (mz_W ad am) := by sorry
