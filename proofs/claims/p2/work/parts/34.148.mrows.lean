theorem hd_yX13_sumOf : yX13_sumOf.cls ≠ "java/lang/invoke/MethodHandle" ∧ yX13_sumOf.cls ≠ "java/lang/invoke/VarHandle" ∧ (parseMethodDescriptor yX13_sumOf.desc).map (fun d => d.parameters.length) = some 1 := by decide +kernel
theorem dX13_run_0 : decode cX13_run 0 = .ok (.aload_n 0, 1) := by decide +kernel
theorem dX13_run_1 : decode cX13_run 1 = .ok (.getfield 104, 3) := by decide +kernel
theorem dX13_run_4 : decode cX13_run 4 = .ok (.iconst 1, 1) := by decide +kernel
theorem dX13_run_5 : decode cX13_run 5 = .ok (.aload_n 0, 1) := by decide +kernel
theorem dX13_run_6 : decode cX13_run 6 = .ok (.iconst 0, 1) := by decide +kernel
theorem dX13_run_7 : decode cX13_run 7 = .ok (.invokevirtual 412, 3) := by decide +kernel
theorem dX13_run_10 : decode cX13_run 10 = .ok (.i2l, 1) := by decide +kernel
theorem dX13_run_11 : decode cX13_run 11 = .ok (.lastore, 1) := by decide +kernel
theorem dX13_run_12 : decode cX13_run 12 = .ok (.aload_n 0, 1) := by decide +kernel
theorem dX13_run_13 : decode cX13_run 13 = .ok (.getfield 104, 3) := by decide +kernel
theorem dX13_run_16 : decode cX13_run 16 = .ok (.iconst 2, 1) := by decide +kernel
theorem dX13_run_17 : decode cX13_run 17 = .ok (.aload_n 0, 1) := by decide +kernel
theorem dX13_run_18 : decode cX13_run 18 = .ok (.iconst 3, 1) := by decide +kernel
theorem dX13_run_19 : decode cX13_run 19 = .ok (.invokevirtual 194, 3) := by decide +kernel
theorem dX13_run_22 : decode cX13_run 22 = .ok (.i2l, 1) := by decide +kernel
theorem dX13_run_23 : decode cX13_run 23 = .ok (.lastore, 1) := by decide +kernel
theorem dX13_run_24 : decode cX13_run 24 = .ok (.aload_n 0, 1) := by decide +kernel
theorem dX13_run_25 : decode cX13_run 25 = .ok (.getfield 104, 3) := by decide +kernel
theorem dX13_run_28 : decode cX13_run 28 = .ok (.iconst 3, 1) := by decide +kernel
theorem dX13_run_29 : decode cX13_run 29 = .ok (.aload_n 0, 1) := by decide +kernel
theorem dX13_run_30 : decode cX13_run 30 = .ok (.iconst 4, 1) := by decide +kernel
theorem dX13_run_31 : decode cX13_run 31 = .ok (.invokevirtual 194, 3) := by decide +kernel
theorem dX13_run_34 : decode cX13_run 34 = .ok (.i2l, 1) := by decide +kernel
theorem dX13_run_35 : decode cX13_run 35 = .ok (.lastore, 1) := by decide +kernel
theorem dX13_run_36 : decode cX13_run 36 = .ok (.aload_n 0, 1) := by decide +kernel
theorem dX13_run_37 : decode cX13_run 37 = .ok (.getfield 104, 3) := by decide +kernel
theorem dX13_run_40 : decode cX13_run 40 = .ok (.iconst 4, 1) := by decide +kernel
theorem dX13_run_41 : decode cX13_run 41 = .ok (.aload_n 0, 1) := by decide +kernel
theorem dX13_run_42 : decode cX13_run 42 = .ok (.getfield 617, 3) := by decide +kernel
theorem dX13_run_45 : decode cX13_run 45 = .ok (.i2l, 1) := by decide +kernel
theorem dX13_run_46 : decode cX13_run 46 = .ok (.lastore, 1) := by decide +kernel
theorem dX13_run_47 : decode cX13_run 47 = .ok (.aload_n 0, 1) := by decide +kernel
theorem dX13_run_48 : decode cX13_run 48 = .ok (.getfield 104, 3) := by decide +kernel
theorem dX13_run_51 : decode cX13_run 51 = .ok (.iconst 5, 1) := by decide +kernel
theorem dX13_run_52 : decode cX13_run 52 = .ok (.aload_n 0, 1) := by decide +kernel
theorem dX13_run_53 : decode cX13_run 53 = .ok (.getfield 620, 3) := by decide +kernel
theorem dX13_run_56 : decode cX13_run 56 = .ok (.i2l, 1) := by decide +kernel
theorem dX13_run_57 : decode cX13_run 57 = .ok (.lastore, 1) := by decide +kernel
theorem dX13_run_58 : decode cX13_run 58 = .ok (.aload_n 0, 1) := by decide +kernel
theorem dX13_run_59 : decode cX13_run 59 = .ok (.iconst 0, 1) := by decide +kernel
theorem dX13_run_60 : decode cX13_run 60 = .ok (.putfield 614, 3) := by decide +kernel
theorem dX13_run_63 : decode cX13_run 63 = .ok (.aload_n 0, 1) := by decide +kernel
theorem dX13_run_64 : decode cX13_run 64 = .ok (.getfield 149, 3) := by decide +kernel
theorem dX13_run_67 : decode cX13_run 67 = .ok (.iload_n 1, 1) := by decide +kernel
theorem dX13_run_68 : decode cX13_run 68 = .ok (.bipush 7, 2) := by decide +kernel
theorem dX13_run_70 : decode cX13_run 70 = .ok (.iadd, 1) := by decide +kernel
theorem dX13_run_71 : decode cX13_run 71 = .ok (.iaload, 1) := by decide +kernel
theorem dX13_run_72 : decode cX13_run 72 = .ok (.aload_n 0, 1) := by decide +kernel
theorem dX13_run_73 : decode cX13_run 73 = .ok (.getfield 149, 3) := by decide +kernel
theorem dX13_run_76 : decode cX13_run 76 = .ok (.iload_n 1, 1) := by decide +kernel
theorem dX13_run_77 : decode cX13_run 77 = .ok (.bipush 8, 2) := by decide +kernel
theorem dX13_run_79 : decode cX13_run 79 = .ok (.iadd, 1) := by decide +kernel
theorem dX13_run_80 : decode cX13_run 80 = .ok (.iaload, 1) := by decide +kernel
theorem dX13_run_81 : decode cX13_run 81 = .ok (.if_icmp .ge 25, 3) := by decide +kernel
theorem dX13_run_106 : decode cX13_run 106 = .ok (.aload_n 0, 1) := by decide +kernel
theorem dX13_run_107 : decode cX13_run 107 = .ok (.iload_n 1, 1) := by decide +kernel
theorem dX13_run_108 : decode cX13_run 108 = .ok (.iconst 1, 1) := by decide +kernel
theorem dX13_run_109 : decode cX13_run 109 = .ok (.iadd, 1) := by decide +kernel
theorem dX13_run_110 : decode cX13_run 110 = .ok (.invokevirtual 623, 3) := by decide +kernel
theorem dX13_run_113 : decode cX13_run 113 = .ok (.istore_n 2, 1) := by decide +kernel
theorem dX13_run_114 : decode cX13_run 114 = .ok (.aload_n 0, 1) := by decide +kernel
theorem dX13_run_115 : decode cX13_run 115 = .ok (.iload_n 1, 1) := by decide +kernel
theorem dX13_run_116 : decode cX13_run 116 = .ok (.iconst 3, 1) := by decide +kernel
theorem dX13_run_117 : decode cX13_run 117 = .ok (.iadd, 1) := by decide +kernel
theorem dX13_run_118 : decode cX13_run 118 = .ok (.invokevirtual 623, 3) := by decide +kernel
theorem dX13_run_121 : decode cX13_run 121 = .ok (.istore_n 3, 1) := by decide +kernel
theorem dX13_run_122 : decode cX13_run 122 = .ok (.aload_n 0, 1) := by decide +kernel
theorem dX13_run_123 : decode cX13_run 123 = .ok (.iload_n 1, 1) := by decide +kernel
theorem dX13_run_124 : decode cX13_run 124 = .ok (.iconst 5, 1) := by decide +kernel
theorem dX13_run_125 : decode cX13_run 125 = .ok (.iadd, 1) := by decide +kernel
theorem dX13_run_126 : decode cX13_run 126 = .ok (.invokevirtual 623, 3) := by decide +kernel
theorem dX13_run_129 : decode cX13_run 129 = .ok (.istore 4, 2) := by decide +kernel
theorem dX13_run_131 : decode cX13_run 131 = .ok (.aload_n 0, 1) := by decide +kernel
theorem dX13_run_132 : decode cX13_run 132 = .ok (.getfield 614, 3) := by decide +kernel
theorem dX13_run_135 : decode cX13_run 135 = .ok (.ifCond .eq 6, 3) := by decide +kernel
theorem dX13_run_141 : decode cX13_run 141 = .ok (.aload_n 0, 1) := by decide +kernel
theorem dX13_run_142 : decode cX13_run 142 = .ok (.getfield 149, 3) := by decide +kernel
theorem dX13_run_145 : decode cX13_run 145 = .ok (.iload_n 1, 1) := by decide +kernel
theorem dX13_run_146 : decode cX13_run 146 = .ok (.iaload, 1) := by decide +kernel
theorem dX13_run_147 : decode cX13_run 147 = .ok (.istore 5, 2) := by decide +kernel
theorem dX13_run_149 : decode cX13_run 149 = .ok (.iload 5, 2) := by decide +kernel
theorem dX13_run_151 : decode cX13_run 151 = .ok (.ifCond .ne 14, 3) := by decide +kernel
theorem dX13_run_165 : decode cX13_run 165 = .ok (.iload 5, 2) := by decide +kernel
theorem dX13_run_167 : decode cX13_run 167 = .ok (.iconst 1, 1) := by decide +kernel
theorem dX13_run_168 : decode cX13_run 168 = .ok (.if_icmp .ne 11, 3) := by decide +kernel
theorem dX13_run_179 : decode cX13_run 179 = .ok (.iload 5, 2) := by decide +kernel
theorem dX13_run_181 : decode cX13_run 181 = .ok (.iconst 2, 1) := by decide +kernel
theorem dX13_run_182 : decode cX13_run 182 = .ok (.if_icmp .ne 10, 3) := by decide +kernel
theorem dX13_run_192 : decode cX13_run 192 = .ok (.aload_n 0, 1) := by decide +kernel
theorem dX13_run_193 : decode cX13_run 193 = .ok (.invokevirtual 489, 3) := by decide +kernel
theorem dX13_run_196 : decode cX13_run 196 = .ok (.istore 6, 2) := by decide +kernel
theorem dX13_run_198 : decode cX13_run 198 = .ok (.iload 6, 2) := by decide +kernel
theorem dX13_run_200 : decode cX13_run 200 = .ok (.ifCond .ge 6, 3) := by decide +kernel
theorem dX13_run_206 : decode cX13_run 206 = .ok (.aload_n 0, 1) := by decide +kernel
theorem dX13_run_207 : decode cX13_run 207 = .ok (.iload 5, 2) := by decide +kernel
theorem dX13_run_209 : decode cX13_run 209 = .ok (.iconst 1, 1) := by decide +kernel
theorem dX13_run_210 : decode cX13_run 210 = .ok (.if_icmp .ne 8, 3) := by decide +kernel
theorem dX13_run_218 : decode cX13_run 218 = .ok (.aload_n 0, 1) := by decide +kernel
theorem dX13_run_219 : decode cX13_run 219 = .ok (.getfield 620, 3) := by decide +kernel
theorem dX13_run_222 : decode cX13_run 222 = .ok (.putfield 620, 3) := by decide +kernel
theorem dX13_run_225 : decode cX13_run 225 = .ok (.aload_n 0, 1) := by decide +kernel
theorem dX13_run_226 : decode cX13_run 226 = .ok (.dup, 1) := by decide +kernel
theorem dX13_run_227 : decode cX13_run 227 = .ok (.getfield 617, 3) := by decide +kernel
theorem dX13_run_230 : decode cX13_run 230 = .ok (.iconst 1, 1) := by decide +kernel
theorem dX13_run_231 : decode cX13_run 231 = .ok (.iadd, 1) := by decide +kernel
theorem dX13_run_232 : decode cX13_run 232 = .ok (.putfield 617, 3) := by decide +kernel
theorem dX13_run_235 : decode cX13_run 235 = .ok (.iconst 0, 1) := by decide +kernel
theorem dX13_run_236 : decode cX13_run 236 = .ok (.ireturn, 1) := by decide +kernel
theorem dX13_run_203 : decode cX13_run 203 = .ok (.bipush (-3), 2) := by decide +kernel
theorem dX13_run_205 : decode cX13_run 205 = .ok (.ireturn, 1) := by decide +kernel
theorem dX13_run_185 : decode cX13_run 185 = .ok (.aload_n 0, 1) := by decide +kernel
theorem dX13_run_186 : decode cX13_run 186 = .ok (.invokevirtual 483, 3) := by decide +kernel
theorem dX13_run_189 : decode cX13_run 189 = .ok (.goto 7, 3) := by decide +kernel
theorem dX13_run_171 : decode cX13_run 171 = .ok (.aload_n 0, 1) := by decide +kernel
theorem dX13_run_172 : decode cX13_run 172 = .ok (.iload_n 2, 1) := by decide +kernel
theorem dX13_run_173 : decode cX13_run 173 = .ok (.invokevirtual 480, 3) := by decide +kernel
theorem dX13_run_176 : decode cX13_run 176 = .ok (.goto 20, 3) := by decide +kernel
theorem dX13_run_213 : decode cX13_run 213 = .ok (.iload 6, 2) := by decide +kernel
theorem dX13_run_215 : decode cX13_run 215 = .ok (.goto 7, 3) := by decide +kernel
theorem dX13_run_154 : decode cX13_run 154 = .ok (.aload_n 0, 1) := by decide +kernel
theorem dX13_run_155 : decode cX13_run 155 = .ok (.iload_n 2, 1) := by decide +kernel
theorem dX13_run_156 : decode cX13_run 156 = .ok (.iload_n 3, 1) := by decide +kernel
theorem dX13_run_157 : decode cX13_run 157 = .ok (.iload 4, 2) := by decide +kernel
theorem dX13_run_159 : decode cX13_run 159 = .ok (.invokevirtual 462, 3) := by decide +kernel
theorem dX13_run_162 : decode cX13_run 162 = .ok (.goto 34, 3) := by decide +kernel
theorem dX13_run_138 : decode cX13_run 138 = .ok (.bipush (-3), 2) := by decide +kernel
theorem dX13_run_140 : decode cX13_run 140 = .ok (.ireturn, 1) := by decide +kernel
theorem dX13_run_84 : decode cX13_run 84 = .ok (.aload_n 0, 1) := by decide +kernel
theorem dX13_run_85 : decode cX13_run 85 = .ok (.iload_n 1, 1) := by decide +kernel
theorem dX13_run_86 : decode cX13_run 86 = .ok (.bipush 7, 2) := by decide +kernel
theorem dX13_run_88 : decode cX13_run 88 = .ok (.iadd, 1) := by decide +kernel
theorem dX13_run_89 : decode cX13_run 89 = .ok (.invokevirtual 623, 3) := by decide +kernel
theorem dX13_run_92 : decode cX13_run 92 = .ok (.istore_n 2, 1) := by decide +kernel
theorem dX13_run_93 : decode cX13_run 93 = .ok (.aload_n 0, 1) := by decide +kernel
theorem dX13_run_94 : decode cX13_run 94 = .ok (.getfield 614, 3) := by decide +kernel
theorem dX13_run_97 : decode cX13_run 97 = .ok (.ifCond .ne 7, 3) := by decide +kernel
theorem dX13_run_104 : decode cX13_run 104 = .ok (.iconst 0, 1) := by decide +kernel
theorem dX13_run_105 : decode cX13_run 105 = .ok (.ireturn, 1) := by decide +kernel
theorem dX13_run_100 : decode cX13_run 100 = .ok (.iload_n 2, 1) := by decide +kernel
theorem dX13_run_101 : decode cX13_run 101 = .ok (.ifCond .ne 5, 3) := by decide +kernel
set_option maxHeartbeats 4000000 in
set_option maxRecDepth 100000 in
theorem k_X13_run (l : Launch) (D : va_G) (cy : Nat → ClassId) (ld ad : Nat → Nat) (am : Nat) (hD : mz_D ad am) (Fa : Nat → Int32) (Ga : Nat → Int64) (Ra : Nat → Nat → Int32) (Sa : Nat → Nat → Int64) (p1 : Int32) (gd : Int32) (hIF : mz_IF true Fa) (hIG : mz_IG Ga) (hIR : mz_IR [] true Ra) (hg_0 : Fa 62 = gd) (hp_0 : 0 ≤ p1.toInt) (hp_1 : p1.toInt ≤ 110) (hp_2 : 0 ≤ gd.toInt) (hp_3 : gd.toInt ≤ 1000) (hx_0 : ∀ d : Nat, d ∈ [1, 3, 5, 7] → WFX (Ra 24) (Ra 25) (Ra 61 (p1.toInt.toNat + d)) (Ra 61 (p1.toInt.toNat + d + 1))) : Met l yX13_run (wl yX13_run cX13_run 7 (some .int)) ({ frames := 11, cells := 0, slots := 0, locals := 700 }) (mz_p D cy ld ad am Fa Ga Ra Sa [.ref am, .int p1]) (mz_i D cy ad am (fun r F G R S => mz_IF true F ∧ mz_IG G ∧ mz_IR [] true R ∧ (∀ k : Nat, k ∉ ([8, 20, 34, 38, 41, 62, 63, 65] : List Nat) → F k = Fa k) ∧ (∀ k : Nat, k ∉ ([3, 6, 7, 42] : List Nat) → R k = Ra k) ∧ (∀ k : Nat, k ∉ ([39, 40] : List Nat) → G k = Ga k) ∧ rK1 (Ra 3) (R 3) ∧ (-3) ≤ r.toInt ∧ r.toInt ≤ 0 ∧ 0 ≤ (-1) * gd.toInt + (F 62).toInt ∧ 0 ≤ gd.toInt + (-1) * (F 62).toInt + 1)) 0 0 (mz_W ad am) := by sorry
