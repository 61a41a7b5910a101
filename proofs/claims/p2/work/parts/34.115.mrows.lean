theorem dX13_count_0 : decode cX13_count 0 = .ok (.aload_n 0, 1) := by decide +kernel
theorem dX13_count_1 : decode cX13_count 1 = .ok (.iconst 0, 1) := by decide +kernel
theorem dX13_count_2 : decode cX13_count 2 = .ok (.putfield 170, 3) := by decide +kernel
theorem dX13_count_5 : decode cX13_count 5 = .ok (.iload_n 1, 1) := by decide +kernel
theorem dX13_count_6 : decode cX13_count 6 = .ok (.tableswitch 178 0 14 #[74, 81, 88, 95, 102, 109, 114, 119, 126, 133, 140, 147, 155, 162, 170], 74) := by decide +kernel
theorem dX13_count_80 : decode cX13_count 80 = .ok (.aload_n 0, 1) := by decide +kernel
theorem dX13_count_81 : decode cX13_count 81 = .ok (.getfield 13, 3) := by decide +kernel
theorem dX13_count_84 : decode cX13_count 84 = .ok (.iconst 0, 1) := by decide +kernel
theorem dX13_count_85 : decode cX13_count 85 = .ok (.iaload, 1) := by decide +kernel
theorem dX13_count_86 : decode cX13_count 86 = .ok (.ireturn, 1) := by decide +kernel
theorem dX13_count_87 : decode cX13_count 87 = .ok (.aload_n 0, 1) := by decide +kernel
theorem dX13_count_88 : decode cX13_count 88 = .ok (.getfield 13, 3) := by decide +kernel
theorem dX13_count_91 : decode cX13_count 91 = .ok (.iconst 1, 1) := by decide +kernel
theorem dX13_count_92 : decode cX13_count 92 = .ok (.iaload, 1) := by decide +kernel
theorem dX13_count_93 : decode cX13_count 93 = .ok (.ireturn, 1) := by decide +kernel
theorem dX13_count_94 : decode cX13_count 94 = .ok (.aload_n 0, 1) := by decide +kernel
theorem dX13_count_95 : decode cX13_count 95 = .ok (.getfield 13, 3) := by decide +kernel
theorem dX13_count_98 : decode cX13_count 98 = .ok (.iconst 2, 1) := by decide +kernel
theorem dX13_count_99 : decode cX13_count 99 = .ok (.iaload, 1) := by decide +kernel
theorem dX13_count_100 : decode cX13_count 100 = .ok (.ireturn, 1) := by decide +kernel
theorem dX13_count_101 : decode cX13_count 101 = .ok (.aload_n 0, 1) := by decide +kernel
theorem dX13_count_102 : decode cX13_count 102 = .ok (.getfield 13, 3) := by decide +kernel
theorem dX13_count_105 : decode cX13_count 105 = .ok (.iconst 3, 1) := by decide +kernel
theorem dX13_count_106 : decode cX13_count 106 = .ok (.iaload, 1) := by decide +kernel
theorem dX13_count_107 : decode cX13_count 107 = .ok (.ireturn, 1) := by decide +kernel
theorem dX13_count_108 : decode cX13_count 108 = .ok (.aload_n 0, 1) := by decide +kernel
theorem dX13_count_109 : decode cX13_count 109 = .ok (.getfield 13, 3) := by decide +kernel
theorem dX13_count_112 : decode cX13_count 112 = .ok (.iconst 4, 1) := by decide +kernel
theorem dX13_count_113 : decode cX13_count 113 = .ok (.iaload, 1) := by decide +kernel
theorem dX13_count_114 : decode cX13_count 114 = .ok (.ireturn, 1) := by decide +kernel
theorem dX13_count_115 : decode cX13_count 115 = .ok (.aload_n 0, 1) := by decide +kernel
theorem dX13_count_116 : decode cX13_count 116 = .ok (.getfield 176, 3) := by decide +kernel
theorem dX13_count_119 : decode cX13_count 119 = .ok (.ireturn, 1) := by decide +kernel
theorem dX13_count_120 : decode cX13_count 120 = .ok (.aload_n 0, 1) := by decide +kernel
theorem dX13_count_121 : decode cX13_count 121 = .ok (.getfield 224, 3) := by decide +kernel
theorem dX13_count_124 : decode cX13_count 124 = .ok (.ireturn, 1) := by decide +kernel
theorem dX13_count_125 : decode cX13_count 125 = .ok (.aload_n 0, 1) := by decide +kernel
theorem dX13_count_126 : decode cX13_count 126 = .ok (.getfield 7, 3) := by decide +kernel
theorem dX13_count_129 : decode cX13_count 129 = .ok (.iconst 1, 1) := by decide +kernel
theorem dX13_count_130 : decode cX13_count 130 = .ok (.iaload, 1) := by decide +kernel
theorem dX13_count_131 : decode cX13_count 131 = .ok (.ireturn, 1) := by decide +kernel
theorem dX13_count_132 : decode cX13_count 132 = .ok (.aload_n 0, 1) := by decide +kernel
theorem dX13_count_133 : decode cX13_count 133 = .ok (.getfield 7, 3) := by decide +kernel
theorem dX13_count_136 : decode cX13_count 136 = .ok (.iconst 2, 1) := by decide +kernel
theorem dX13_count_137 : decode cX13_count 137 = .ok (.iaload, 1) := by decide +kernel
theorem dX13_count_138 : decode cX13_count 138 = .ok (.ireturn, 1) := by decide +kernel
theorem dX13_count_139 : decode cX13_count 139 = .ok (.aload_n 0, 1) := by decide +kernel
theorem dX13_count_140 : decode cX13_count 140 = .ok (.getfield 7, 3) := by decide +kernel
theorem dX13_count_143 : decode cX13_count 143 = .ok (.iconst 3, 1) := by decide +kernel
theorem dX13_count_144 : decode cX13_count 144 = .ok (.iaload, 1) := by decide +kernel
theorem dX13_count_145 : decode cX13_count 145 = .ok (.ireturn, 1) := by decide +kernel
theorem dX13_count_146 : decode cX13_count 146 = .ok (.aload_n 0, 1) := by decide +kernel
theorem dX13_count_147 : decode cX13_count 147 = .ok (.getfield 7, 3) := by decide +kernel
theorem dX13_count_150 : decode cX13_count 150 = .ok (.iconst 5, 1) := by decide +kernel
theorem dX13_count_151 : decode cX13_count 151 = .ok (.iaload, 1) := by decide +kernel
theorem dX13_count_152 : decode cX13_count 152 = .ok (.ireturn, 1) := by decide +kernel
theorem dX13_count_153 : decode cX13_count 153 = .ok (.aload_n 0, 1) := by decide +kernel
theorem dX13_count_154 : decode cX13_count 154 = .ok (.getfield 7, 3) := by decide +kernel
theorem dX13_count_157 : decode cX13_count 157 = .ok (.bipush 6, 2) := by decide +kernel
theorem dX13_count_159 : decode cX13_count 159 = .ok (.iaload, 1) := by decide +kernel
theorem dX13_count_160 : decode cX13_count 160 = .ok (.ireturn, 1) := by decide +kernel
theorem dX13_count_161 : decode cX13_count 161 = .ok (.aload_n 0, 1) := by decide +kernel
theorem dX13_count_162 : decode cX13_count 162 = .ok (.getfield 13, 3) := by decide +kernel
theorem dX13_count_165 : decode cX13_count 165 = .ok (.iconst 5, 1) := by decide +kernel
theorem dX13_count_166 : decode cX13_count 166 = .ok (.iaload, 1) := by decide +kernel
theorem dX13_count_167 : decode cX13_count 167 = .ok (.ireturn, 1) := by decide +kernel
theorem dX13_count_168 : decode cX13_count 168 = .ok (.aload_n 0, 1) := by decide +kernel
theorem dX13_count_169 : decode cX13_count 169 = .ok (.getfield 13, 3) := by decide +kernel
theorem dX13_count_172 : decode cX13_count 172 = .ok (.bipush 10, 2) := by decide +kernel
theorem dX13_count_174 : decode cX13_count 174 = .ok (.iaload, 1) := by decide +kernel
theorem dX13_count_175 : decode cX13_count 175 = .ok (.ireturn, 1) := by decide +kernel
theorem dX13_count_176 : decode cX13_count 176 = .ok (.aload_n 0, 1) := by decide +kernel
theorem dX13_count_177 : decode cX13_count 177 = .ok (.getfield 13, 3) := by decide +kernel
theorem dX13_count_180 : decode cX13_count 180 = .ok (.bipush 11, 2) := by decide +kernel
theorem dX13_count_182 : decode cX13_count 182 = .ok (.iaload, 1) := by decide +kernel
theorem dX13_count_183 : decode cX13_count 183 = .ok (.ireturn, 1) := by decide +kernel
theorem dX13_count_184 : decode cX13_count 184 = .ok (.iload_n 1, 1) := by decide +kernel
theorem dX13_count_185 : decode cX13_count 185 = .ok (.i2l, 1) := by decide +kernel
theorem dX13_count_186 : decode cX13_count 186 = .ok (.ldc2_w 643, 3) := by decide +kernel
theorem dX13_count_189 : decode cX13_count 189 = .ok (.ldc2_w 645, 3) := by decide +kernel
theorem dX13_count_192 : decode cX13_count 192 = .ok (.invokestatic 190, 3) := by decide +kernel
theorem dX13_count_195 : decode cX13_count 195 = .ok (.ifCond .eq 18, 3) := by decide +kernel
theorem dX13_count_213 : decode cX13_count 213 = .ok (.iconst (-1), 1) := by decide +kernel
theorem dX13_count_214 : decode cX13_count 214 = .ok (.ireturn, 1) := by decide +kernel
theorem dX13_count_198 : decode cX13_count 198 = .ok (.aload_n 0, 1) := by decide +kernel
theorem dX13_count_199 : decode cX13_count 199 = .ok (.getfield 13, 3) := by decide +kernel
theorem dX13_count_202 : decode cX13_count 202 = .ok (.bipush 6, 2) := by decide +kernel
theorem dX13_count_204 : decode cX13_count 204 = .ok (.iload_n 1, 1) := by decide +kernel
theorem dX13_count_205 : decode cX13_count 205 = .ok (.iadd, 1) := by decide +kernel
theorem dX13_count_206 : decode cX13_count 206 = .ok (.bipush 15, 2) := by decide +kernel
theorem dX13_count_208 : decode cX13_count 208 = .ok (.isub, 1) := by decide +kernel
theorem dX13_count_209 : decode cX13_count 209 = .ok (.iaload, 1) := by decide +kernel
theorem dX13_count_210 : decode cX13_count 210 = .ok (.goto 4, 3) := by decide +kernel
set_option maxHeartbeats 4000000 in
set_option maxRecDepth 100000 in
theorem k_X13_count (l : Launch) (D : va_G) (cy : Nat → ClassId) (ld ad : Nat → Nat) (am : Nat) (hD : mz_D ad am) (Fa : Nat → Int32) (Ga : Nat → Int64) (Ra : Nat → Nat → Int32) (Sa : Nat → Nat → Int64) (p1 : Int32) (hIF : mz_IF true Fa) (hIG : mz_IG Ga) (hIR : mz_IR [] true Ra) : Met l yX13_count (wl yX13_count cX13_count 2 (some .int)) ({ frames := 4, cells := 0, slots := 0, locals := 210 }) (mz_p D cy ld ad am Fa Ga Ra Sa [.ref am, .int p1]) (mz_i D cy ad am (fun r F G R S => mz_IF true F ∧ mz_IG G ∧ mz_IR [] true R ∧ (∀ k : Nat, k ∉ ([0] : List Nat) → F k = Fa k) ∧ (∀ k : Nat, k ∉ ([] : List Nat) → R k = Ra k) ∧ (∀ k : Nat, k ∉ ([] : List Nat) → G k = Ga k))) 0 0 (mz_W ad am) := by sorry
