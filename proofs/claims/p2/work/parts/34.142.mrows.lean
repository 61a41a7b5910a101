theorem od_nn {f g : Nat → Int32} {K : Nat} {x : Int32} {k : Int} (h : ∀ j : Nat, (j : Int) < k → 0 ≤ (f j).toInt) (hU : g = upd f K x) (hK : (K : Int) = k) (hx : 0 ≤ x.toInt) : ∀ j : Nat, (j : Int) < k + 1 → 0 ≤ (g j).toInt := fun j hj => by
  rw [hU]
  by_cases e : j = K
  · rw [e, pk_us]
    exact hx
  · rw [pk_un e]
    exact h j (by omega)
theorem hd_yX13_isSpare : yX13_isSpare.cls ≠ "java/lang/invoke/MethodHandle" ∧ yX13_isSpare.cls ≠ "java/lang/invoke/VarHandle" ∧ (parseMethodDescriptor yX13_isSpare.desc).map (fun d => d.parameters.length) = some 1 := by decide +kernel
theorem hd_yX13_weighRow : yX13_weighRow.cls ≠ "java/lang/invoke/MethodHandle" ∧ yX13_weighRow.cls ≠ "java/lang/invoke/VarHandle" ∧ (parseMethodDescriptor yX13_weighRow.desc).map (fun d => d.parameters.length) = some 1 := by decide +kernel
theorem dX13_findChampions_0 : decode cX13_findChampions 0 = .ok (.iconst 0, 1) := by decide +kernel
theorem dX13_findChampions_1 : decode cX13_findChampions 1 = .ok (.istore_n 1, 1) := by decide +kernel
theorem dX13_findChampions_2 : decode cX13_findChampions 2 = .ok (.iconst 0, 1) := by decide +kernel
theorem dX13_findChampions_3 : decode cX13_findChampions 3 = .ok (.istore_n 2, 1) := by decide +kernel
theorem dX13_findChampions_4 : decode cX13_findChampions 4 = .ok (.iload_n 2, 1) := by decide +kernel
theorem dX13_findChampions_5 : decode cX13_findChampions 5 = .ok (.aload_n 0, 1) := by decide +kernel
theorem dX13_findChampions_6 : decode cX13_findChampions 6 = .ok (.getfield 13, 3) := by decide +kernel
theorem dX13_findChampions_9 : decode cX13_findChampions 9 = .ok (.iconst 0, 1) := by decide +kernel
theorem dX13_findChampions_10 : decode cX13_findChampions 10 = .ok (.iaload, 1) := by decide +kernel
theorem dX13_findChampions_11 : decode cX13_findChampions 11 = .ok (.if_icmp .ge 28, 3) := by decide +kernel
theorem dX13_findChampions_39 : decode cX13_findChampions 39 = .ok (.iconst 0, 1) := by decide +kernel
theorem dX13_findChampions_40 : decode cX13_findChampions 40 = .ok (.istore_n 2, 1) := by decide +kernel
theorem dX13_findChampions_41 : decode cX13_findChampions 41 = .ok (.iload_n 2, 1) := by decide +kernel
theorem dX13_findChampions_42 : decode cX13_findChampions 42 = .ok (.iload_n 1, 1) := by decide +kernel
theorem dX13_findChampions_43 : decode cX13_findChampions 43 = .ok (.if_icmp .ge 70, 3) := by decide +kernel
theorem dX13_findChampions_113 : decode cX13_findChampions 113 = .ok (.aload_n 0, 1) := by decide +kernel
theorem dX13_findChampions_114 : decode cX13_findChampions 114 = .ok (.iconst (-1), 1) := by decide +kernel
theorem dX13_findChampions_115 : decode cX13_findChampions 115 = .ok (.putfield 539, 3) := by decide +kernel
theorem dX13_findChampions_118 : decode cX13_findChampions 118 = .ok (.aload_n 0, 1) := by decide +kernel
theorem dX13_findChampions_119 : decode cX13_findChampions 119 = .ok (.iconst 0, 1) := by decide +kernel
theorem dX13_findChampions_120 : decode cX13_findChampions 120 = .ok (.putfield 542, 3) := by decide +kernel
theorem dX13_findChampions_123 : decode cX13_findChampions 123 = .ok (.iload_n 1, 1) := by decide +kernel
theorem dX13_findChampions_124 : decode cX13_findChampions 124 = .ok (.ifCond .ne 10, 3) := by decide +kernel
theorem dX13_findChampions_134 : decode cX13_findChampions 134 = .ok (.iconst 0, 1) := by decide +kernel
theorem dX13_findChampions_135 : decode cX13_findChampions 135 = .ok (.istore_n 2, 1) := by decide +kernel
theorem dX13_findChampions_136 : decode cX13_findChampions 136 = .ok (.aload_n 0, 1) := by decide +kernel
theorem dX13_findChampions_137 : decode cX13_findChampions 137 = .ok (.getfield 134, 3) := by decide +kernel
theorem dX13_findChampions_140 : decode cX13_findChampions 140 = .ok (.iconst 0, 1) := by decide +kernel
theorem dX13_findChampions_141 : decode cX13_findChampions 141 = .ok (.iconst (-1), 1) := by decide +kernel
theorem dX13_findChampions_142 : decode cX13_findChampions 142 = .ok (.iastore, 1) := by decide +kernel
theorem dX13_findChampions_143 : decode cX13_findChampions 143 = .ok (.iload_n 2, 1) := by decide +kernel
theorem dX13_findChampions_144 : decode cX13_findChampions 144 = .ok (.ifCond .lt 66, 3) := by decide +kernel
theorem dX13_findChampions_210 : decode cX13_findChampions 210 = .ok (.iload_n 1, 1) := by decide +kernel
theorem dX13_findChampions_211 : decode cX13_findChampions 211 = .ok (.ireturn, 1) := by decide +kernel
theorem dX13_findChampions_147 : decode cX13_findChampions 147 = .ok (.aload_n 0, 1) := by decide +kernel
theorem dX13_findChampions_148 : decode cX13_findChampions 148 = .ok (.getfield 134, 3) := by decide +kernel
theorem dX13_findChampions_151 : decode cX13_findChampions 151 = .ok (.iload_n 2, 1) := by decide +kernel
theorem dX13_findChampions_152 : decode cX13_findChampions 152 = .ok (.dup2, 1) := by decide +kernel
theorem dX13_findChampions_153 : decode cX13_findChampions 153 = .ok (.iaload, 1) := by decide +kernel
theorem dX13_findChampions_154 : decode cX13_findChampions 154 = .ok (.iconst 1, 1) := by decide +kernel
theorem dX13_findChampions_155 : decode cX13_findChampions 155 = .ok (.iadd, 1) := by decide +kernel
theorem dX13_findChampions_156 : decode cX13_findChampions 156 = .ok (.iastore, 1) := by decide +kernel
theorem dX13_findChampions_157 : decode cX13_findChampions 157 = .ok (.aload_n 0, 1) := by decide +kernel
theorem dX13_findChampions_158 : decode cX13_findChampions 158 = .ok (.getfield 134, 3) := by decide +kernel
theorem dX13_findChampions_161 : decode cX13_findChampions 161 = .ok (.iload_n 2, 1) := by decide +kernel
theorem dX13_findChampions_162 : decode cX13_findChampions 162 = .ok (.iaload, 1) := by decide +kernel
theorem dX13_findChampions_163 : decode cX13_findChampions 163 = .ok (.bipush 9, 2) := by decide +kernel
theorem dX13_findChampions_165 : decode cX13_findChampions 165 = .ok (.if_icmp .ne 9, 3) := by decide +kernel
theorem dX13_findChampions_174 : decode cX13_findChampions 174 = .ok (.aload_n 0, 1) := by decide +kernel
theorem dX13_findChampions_175 : decode cX13_findChampions 175 = .ok (.iload_n 2, 1) := by decide +kernel
theorem dX13_findChampions_176 : decode cX13_findChampions 176 = .ok (.invokevirtual 548, 3) := by decide +kernel
theorem dX13_findChampions_179 : decode cX13_findChampions 179 = .ok (.ifCond .eq (-36), 3) := by decide +kernel
theorem dX13_findChampions_182 : decode cX13_findChampions 182 = .ok (.iload_n 2, 1) := by decide +kernel
theorem dX13_findChampions_183 : decode cX13_findChampions 183 = .ok (.iload_n 1, 1) := by decide +kernel
theorem dX13_findChampions_184 : decode cX13_findChampions 184 = .ok (.iconst 1, 1) := by decide +kernel
theorem dX13_findChampions_185 : decode cX13_findChampions 185 = .ok (.isub, 1) := by decide +kernel
theorem dX13_findChampions_186 : decode cX13_findChampions 186 = .ok (.if_icmp .ne 11, 3) := by decide +kernel
theorem dX13_findChampions_197 : decode cX13_findChampions 197 = .ok (.iinc 2 1, 3) := by decide +kernel
theorem dX13_findChampions_200 : decode cX13_findChampions 200 = .ok (.aload_n 0, 1) := by decide +kernel
theorem dX13_findChampions_201 : decode cX13_findChampions 201 = .ok (.getfield 134, 3) := by decide +kernel
theorem dX13_findChampions_204 : decode cX13_findChampions 204 = .ok (.iload_n 2, 1) := by decide +kernel
theorem dX13_findChampions_205 : decode cX13_findChampions 205 = .ok (.iconst (-1), 1) := by decide +kernel
theorem dX13_findChampions_206 : decode cX13_findChampions 206 = .ok (.iastore, 1) := by decide +kernel
theorem dX13_findChampions_207 : decode cX13_findChampions 207 = .ok (.goto (-64), 3) := by decide +kernel
theorem dX13_findChampions_189 : decode cX13_findChampions 189 = .ok (.aload_n 0, 1) := by decide +kernel
theorem dX13_findChampions_190 : decode cX13_findChampions 190 = .ok (.iload_n 1, 1) := by decide +kernel
theorem dX13_findChampions_191 : decode cX13_findChampions 191 = .ok (.invokevirtual 545, 3) := by decide +kernel
theorem dX13_findChampions_194 : decode cX13_findChampions 194 = .ok (.goto (-51), 3) := by decide +kernel
theorem dX13_findChampions_168 : decode cX13_findChampions 168 = .ok (.iinc 2 (-1), 3) := by decide +kernel
theorem dX13_findChampions_171 : decode cX13_findChampions 171 = .ok (.goto (-28), 3) := by decide +kernel
theorem dX13_findChampions_127 : decode cX13_findChampions 127 = .ok (.aload_n 0, 1) := by decide +kernel
theorem dX13_findChampions_128 : decode cX13_findChampions 128 = .ok (.iconst 0, 1) := by decide +kernel
theorem dX13_findChampions_129 : decode cX13_findChampions 129 = .ok (.invokevirtual 545, 3) := by decide +kernel
theorem dX13_findChampions_132 : decode cX13_findChampions 132 = .ok (.iconst 0, 1) := by decide +kernel
theorem dX13_findChampions_133 : decode cX13_findChampions 133 = .ok (.ireturn, 1) := by decide +kernel
theorem dX13_findChampions_46 : decode cX13_findChampions 46 = .ok (.iconst 0, 1) := by decide +kernel
theorem dX13_findChampions_47 : decode cX13_findChampions 47 = .ok (.istore_n 3, 1) := by decide +kernel
theorem dX13_findChampions_48 : decode cX13_findChampions 48 = .ok (.iload_n 3, 1) := by decide +kernel
theorem dX13_findChampions_49 : decode cX13_findChampions 49 = .ok (.aload_n 0, 1) := by decide +kernel
theorem dX13_findChampions_50 : decode cX13_findChampions 50 = .ok (.getfield 13, 3) := by decide +kernel
theorem dX13_findChampions_53 : decode cX13_findChampions 53 = .ok (.iconst 0, 1) := by decide +kernel
theorem dX13_findChampions_54 : decode cX13_findChampions 54 = .ok (.iaload, 1) := by decide +kernel
theorem dX13_findChampions_55 : decode cX13_findChampions 55 = .ok (.if_icmp .ge 52, 3) := by decide +kernel
theorem dX13_findChampions_107 : decode cX13_findChampions 107 = .ok (.iinc 2 1, 3) := by decide +kernel
theorem dX13_findChampions_110 : decode cX13_findChampions 110 = .ok (.goto (-69), 3) := by decide +kernel
theorem dX13_findChampions_58 : decode cX13_findChampions 58 = .ok (.aload_n 0, 1) := by decide +kernel
theorem dX13_findChampions_59 : decode cX13_findChampions 59 = .ok (.getfield 128, 3) := by decide +kernel
theorem dX13_findChampions_62 : decode cX13_findChampions 62 = .ok (.bipush 8, 2) := by decide +kernel
theorem dX13_findChampions_64 : decode cX13_findChampions 64 = .ok (.aload_n 0, 1) := by decide +kernel
theorem dX13_findChampions_65 : decode cX13_findChampions 65 = .ok (.getfield 131, 3) := by decide +kernel
theorem dX13_findChampions_68 : decode cX13_findChampions 68 = .ok (.iload_n 2, 1) := by decide +kernel
theorem dX13_findChampions_69 : decode cX13_findChampions 69 = .ok (.iaload, 1) := by decide +kernel
theorem dX13_findChampions_70 : decode cX13_findChampions 70 = .ok (.imul, 1) := by decide +kernel
theorem dX13_findChampions_71 : decode cX13_findChampions 71 = .ok (.iload_n 3, 1) := by decide +kernel
theorem dX13_findChampions_72 : decode cX13_findChampions 72 = .ok (.iadd, 1) := by decide +kernel
theorem dX13_findChampions_73 : decode cX13_findChampions 73 = .ok (.aload_n 0, 1) := by decide +kernel
theorem dX13_findChampions_74 : decode cX13_findChampions 74 = .ok (.iload_n 3, 1) := by decide +kernel
theorem dX13_findChampions_75 : decode cX13_findChampions 75 = .ok (.iconst 2, 1) := by decide +kernel
theorem dX13_findChampions_76 : decode cX13_findChampions 76 = .ok (.invokevirtual 207, 3) := by decide +kernel
theorem dX13_findChampions_79 : decode cX13_findChampions 79 = .ok (.iconst 1, 1) := by decide +kernel
theorem dX13_findChampions_100 : decode cX13_findChampions 100 = .ok (.iastore, 1) := by decide +kernel
theorem dX13_findChampions_101 : decode cX13_findChampions 101 = .ok (.iinc 3 1, 3) := by decide +kernel
theorem dX13_findChampions_104 : decode cX13_findChampions 104 = .ok (.goto (-56), 3) := by decide +kernel
theorem dX13_findChampions_80 : decode cX13_findChampions 80 = .ok (.if_icmp .ne 19, 3) := by decide +kernel
theorem dX13_findChampions_99 : decode cX13_findChampions 99 = .ok (.iconst 0, 1) := by decide +kernel
theorem dX13_findChampions_83 : decode cX13_findChampions 83 = .ok (.aload_n 0, 1) := by decide +kernel
theorem dX13_findChampions_84 : decode cX13_findChampions 84 = .ok (.aload_n 0, 1) := by decide +kernel
theorem dX13_findChampions_85 : decode cX13_findChampions 85 = .ok (.getfield 131, 3) := by decide +kernel
theorem dX13_findChampions_88 : decode cX13_findChampions 88 = .ok (.iload_n 2, 1) := by decide +kernel
theorem dX13_findChampions_89 : decode cX13_findChampions 89 = .ok (.iaload, 1) := by decide +kernel
theorem dX13_findChampions_90 : decode cX13_findChampions 90 = .ok (.iload_n 3, 1) := by decide +kernel
theorem dX13_findChampions_91 : decode cX13_findChampions 91 = .ok (.iconst (-1), 1) := by decide +kernel
theorem dX13_findChampions_92 : decode cX13_findChampions 92 = .ok (.iconst (-1), 1) := by decide +kernel
theorem dX13_findChampions_93 : decode cX13_findChampions 93 = .ok (.invokevirtual 535, 3) := by decide +kernel
theorem dX13_findChampions_96 : decode cX13_findChampions 96 = .ok (.goto 4, 3) := by decide +kernel
theorem dX13_findChampions_14 : decode cX13_findChampions 14 = .ok (.aload_n 0, 1) := by decide +kernel
theorem dX13_findChampions_15 : decode cX13_findChampions 15 = .ok (.iload_n 2, 1) := by decide +kernel
theorem dX13_findChampions_16 : decode cX13_findChampions 16 = .ok (.iconst 2, 1) := by decide +kernel
theorem dX13_findChampions_17 : decode cX13_findChampions 17 = .ok (.invokevirtual 207, 3) := by decide +kernel
theorem dX13_findChampions_33 : decode cX13_findChampions 33 = .ok (.iinc 2 1, 3) := by decide +kernel
theorem dX13_findChampions_36 : decode cX13_findChampions 36 = .ok (.goto (-32), 3) := by decide +kernel
theorem dX13_findChampions_20 : decode cX13_findChampions 20 = .ok (.ifCond .ne 13, 3) := by decide +kernel
theorem dX13_findChampions_23 : decode cX13_findChampions 23 = .ok (.aload_n 0, 1) := by decide +kernel
theorem dX13_findChampions_24 : decode cX13_findChampions 24 = .ok (.getfield 131, 3) := by decide +kernel
theorem dX13_findChampions_27 : decode cX13_findChampions 27 = .ok (.iload_n 1, 1) := by decide +kernel
theorem dX13_findChampions_28 : decode cX13_findChampions 28 = .ok (.iload_n 2, 1) := by decide +kernel
theorem dX13_findChampions_29 : decode cX13_findChampions 29 = .ok (.iastore, 1) := by decide +kernel
theorem dX13_findChampions_30 : decode cX13_findChampions 30 = .ok (.iinc 1 1, 3) := by decide +kernel
set_option maxHeartbeats 4000000 in
set_option maxRecDepth 100000 in
theorem k_X13_findChampions (l : Launch) (D : va_G) (cy : Nat → ClassId) (ld ad : Nat → Nat) (am : Nat) (hD : mz_D ad am) (Fa : Nat → Int32) (Ga : Nat → Int64) (Ra : Nat → Nat → Int32) (Sa : Nat → Nat → Int64) (g0 : Int32) (hIF : mz_IF true Fa) (hIG : mz_IG Ga) (hIR : mz_IR [] true Ra) (hg_0 : Ra 3 0 = g0) : Met l yX13_findChampions (wl yX13_findChampions cX13_findChampions 4 (some .int)) ({ frames := 13, cells := 0, slots := 0, locals := 840 }) (mz_p D cy ld ad am Fa Ga Ra Sa [.ref am]) (mz_i D cy ad am (fun r F G R S => mz_IF true F ∧ mz_IG G ∧ mz_IR [] true R ∧ (∀ k : Nat, k ∉ ([34, 38, 41, 53, 54] : List Nat) → F k = Fa k) ∧ (∀ k : Nat, k ∉ ([3, 6, 49, 50, 51, 52] : List Nat) → R k = Ra k) ∧ (∀ k : Nat, k ∉ ([39, 40, 47] : List Nat) → G k = Ga k) ∧ rK1 (Ra 3) (R 3) ∧ 0 ≤ r.toInt ∧ r.toInt ≤ 8 ∧ 0 ≤ r.toInt ∧ r.toInt ≤ 8)) 0 0 (mz_W ad am) := by sorry
