theorem hd_yX13_openLevel : yX13_openLevel.cls ≠ "java/lang/invoke/MethodHandle" ∧ yX13_openLevel.cls ≠ "java/lang/invoke/VarHandle" ∧ (parseMethodDescriptor yX13_openLevel.desc).map (fun d => d.parameters.length) = some 1 := by decide +kernel
theorem hd_yX13_weigh : yX13_weigh.cls ≠ "java/lang/invoke/MethodHandle" ∧ yX13_weigh.cls ≠ "java/lang/invoke/VarHandle" ∧ (parseMethodDescriptor yX13_weigh.desc).map (fun d => d.parameters.length) = some 2 := by decide +kernel
theorem dX13_play_0 : decode cX13_play 0 = .ok (.iconst 0, 1) := by decide +kernel
theorem dX13_play_1 : decode cX13_play 1 = .ok (.istore_n 2, 1) := by decide +kernel
theorem dX13_play_2 : decode cX13_play 2 = .ok (.aload_n 0, 1) := by decide +kernel
theorem dX13_play_3 : decode cX13_play 3 = .ok (.iconst 0, 1) := by decide +kernel
theorem dX13_play_4 : decode cX13_play 4 = .ok (.invokevirtual 495, 3) := by decide +kernel
theorem dX13_play_7 : decode cX13_play 7 = .ok (.iload_n 2, 1) := by decide +kernel
theorem dX13_play_8 : decode cX13_play 8 = .ok (.ifCond .lt 165, 3) := by decide +kernel
theorem dX13_play_173 : decode cX13_play 173 = .ok (.return_, 1) := by decide +kernel
theorem dX13_play_11 : decode cX13_play 11 = .ok (.aload_n 0, 1) := by decide +kernel
theorem dX13_play_12 : decode cX13_play 12 = .ok (.getfield 113, 3) := by decide +kernel
theorem dX13_play_15 : decode cX13_play 15 = .ok (.iload_n 2, 1) := by decide +kernel
theorem dX13_play_16 : decode cX13_play 16 = .ok (.dup2, 1) := by decide +kernel
theorem dX13_play_17 : decode cX13_play 17 = .ok (.iaload, 1) := by decide +kernel
theorem dX13_play_18 : decode cX13_play 18 = .ok (.iconst 1, 1) := by decide +kernel
theorem dX13_play_19 : decode cX13_play 19 = .ok (.iadd, 1) := by decide +kernel
theorem dX13_play_20 : decode cX13_play 20 = .ok (.iastore, 1) := by decide +kernel
theorem dX13_play_21 : decode cX13_play 21 = .ok (.aload_n 0, 1) := by decide +kernel
theorem dX13_play_22 : decode cX13_play 22 = .ok (.getfield 113, 3) := by decide +kernel
theorem dX13_play_25 : decode cX13_play 25 = .ok (.iload_n 2, 1) := by decide +kernel
theorem dX13_play_26 : decode cX13_play 26 = .ok (.iaload, 1) := by decide +kernel
theorem dX13_play_27 : decode cX13_play 27 = .ok (.aload_n 0, 1) := by decide +kernel
theorem dX13_play_28 : decode cX13_play 28 = .ok (.getfield 13, 3) := by decide +kernel
theorem dX13_play_31 : decode cX13_play 31 = .ok (.iconst 1, 1) := by decide +kernel
theorem dX13_play_32 : decode cX13_play 32 = .ok (.iaload, 1) := by decide +kernel
theorem dX13_play_33 : decode cX13_play 33 = .ok (.if_icmp .ne 42, 3) := by decide +kernel
theorem dX13_play_75 : decode cX13_play 75 = .ok (.aload_n 0, 1) := by decide +kernel
theorem dX13_play_76 : decode cX13_play 76 = .ok (.aload_n 0, 1) := by decide +kernel
theorem dX13_play_77 : decode cX13_play 77 = .ok (.getfield 113, 3) := by decide +kernel
theorem dX13_play_80 : decode cX13_play 80 = .ok (.iload_n 2, 1) := by decide +kernel
theorem dX13_play_81 : decode cX13_play 81 = .ok (.iaload, 1) := by decide +kernel
theorem dX13_play_82 : decode cX13_play 82 = .ok (.invokevirtual 501, 3) := by decide +kernel
theorem dX13_play_85 : decode cX13_play 85 = .ok (.ifCond .eq (-78), 3) := by decide +kernel
theorem dX13_play_88 : decode cX13_play 88 = .ok (.aload_n 0, 1) := by decide +kernel
theorem dX13_play_89 : decode cX13_play 89 = .ok (.aload_n 0, 1) := by decide +kernel
theorem dX13_play_90 : decode cX13_play 90 = .ok (.getfield 113, 3) := by decide +kernel
theorem dX13_play_93 : decode cX13_play 93 = .ok (.iload_n 2, 1) := by decide +kernel
theorem dX13_play_94 : decode cX13_play 94 = .ok (.iaload, 1) := by decide +kernel
theorem dX13_play_95 : decode cX13_play 95 = .ok (.invokevirtual 477, 3) := by decide +kernel
theorem dX13_play_98 : decode cX13_play 98 = .ok (.pop, 1) := by decide +kernel
theorem dX13_play_99 : decode cX13_play 99 = .ok (.aload_n 0, 1) := by decide +kernel
theorem dX13_play_100 : decode cX13_play 100 = .ok (.getfield 471, 3) := by decide +kernel
theorem dX13_play_103 : decode cX13_play 103 = .ok (.iconst (-1), 1) := by decide +kernel
theorem dX13_play_104 : decode cX13_play 104 = .ok (.if_icmp .ne 28, 3) := by decide +kernel
theorem dX13_play_132 : decode cX13_play 132 = .ok (.aload_n 0, 1) := by decide +kernel
theorem dX13_play_133 : decode cX13_play 133 = .ok (.getfield 471, 3) := by decide +kernel
theorem dX13_play_136 : decode cX13_play 136 = .ok (.iconst (-1), 1) := by decide +kernel
theorem dX13_play_137 : decode cX13_play 137 = .ok (.if_icmp .ne 7, 3) := by decide +kernel
theorem dX13_play_144 : decode cX13_play 144 = .ok (.bipush 10, 2) := by decide +kernel
theorem dX13_play_146 : decode cX13_play 146 = .ok (.iload_n 2, 1) := by decide +kernel
theorem dX13_play_147 : decode cX13_play 147 = .ok (.iconst 1, 1) := by decide +kernel
theorem dX13_play_148 : decode cX13_play 148 = .ok (.iadd, 1) := by decide +kernel
theorem dX13_play_149 : decode cX13_play 149 = .ok (.imul, 1) := by decide +kernel
theorem dX13_play_150 : decode cX13_play 150 = .ok (.aload_n 0, 1) := by decide +kernel
theorem dX13_play_151 : decode cX13_play 151 = .ok (.getfield 471, 3) := by decide +kernel
theorem dX13_play_154 : decode cX13_play 154 = .ok (.iadd, 1) := by decide +kernel
theorem dX13_play_155 : decode cX13_play 155 = .ok (.istore_n 3, 1) := by decide +kernel
theorem dX13_play_156 : decode cX13_play 156 = .ok (.aload_n 0, 1) := by decide +kernel
theorem dX13_play_157 : decode cX13_play 157 = .ok (.bipush 16, 2) := by decide +kernel
theorem dX13_play_159 : decode cX13_play 159 = .ok (.iload_n 2, 1) := by decide +kernel
theorem dX13_play_160 : decode cX13_play 160 = .ok (.iadd, 1) := by decide +kernel
theorem dX13_play_161 : decode cX13_play 161 = .ok (.invokevirtual 187, 3) := by decide +kernel
theorem dX13_play_164 : decode cX13_play 164 = .ok (.aload_n 0, 1) := by decide +kernel
theorem dX13_play_165 : decode cX13_play 165 = .ok (.iload_n 2, 1) := by decide +kernel
theorem dX13_play_166 : decode cX13_play 166 = .ok (.iload_n 3, 1) := by decide +kernel
theorem dX13_play_167 : decode cX13_play 167 = .ok (.invokevirtual 498, 3) := by decide +kernel
theorem dX13_play_170 : decode cX13_play 170 = .ok (.goto (-163), 3) := by decide +kernel
theorem dX13_play_107 : decode cX13_play 107 = .ok (.aload_n 0, 1) := by decide +kernel
theorem dX13_play_108 : decode cX13_play 108 = .ok (.invokevirtual 434, 3) := by decide +kernel
theorem dX13_play_111 : decode cX13_play 111 = .ok (.ifCond .eq 21, 3) := by decide +kernel
theorem dX13_play_140 : decode cX13_play 140 = .ok (.iconst 0, 1) := by decide +kernel
theorem dX13_play_141 : decode cX13_play 141 = .ok (.goto 14, 3) := by decide +kernel
theorem dX13_play_114 : decode cX13_play 114 = .ok (.iload_n 2, 1) := by decide +kernel
theorem dX13_play_115 : decode cX13_play 115 = .ok (.iload_n 1, 1) := by decide +kernel
theorem dX13_play_116 : decode cX13_play 116 = .ok (.iconst 1, 1) := by decide +kernel
theorem dX13_play_117 : decode cX13_play 117 = .ok (.isub, 1) := by decide +kernel
theorem dX13_play_118 : decode cX13_play 118 = .ok (.if_icmp .ge 14, 3) := by decide +kernel
theorem dX13_play_121 : decode cX13_play 121 = .ok (.iinc 2 1, 3) := by decide +kernel
theorem dX13_play_124 : decode cX13_play 124 = .ok (.aload_n 0, 1) := by decide +kernel
theorem dX13_play_125 : decode cX13_play 125 = .ok (.iload_n 2, 1) := by decide +kernel
theorem dX13_play_126 : decode cX13_play 126 = .ok (.invokevirtual 495, 3) := by decide +kernel
theorem dX13_play_129 : decode cX13_play 129 = .ok (.goto (-122), 3) := by decide +kernel
theorem dX13_play_36 : decode cX13_play 36 = .ok (.aload_n 0, 1) := by decide +kernel
theorem dX13_play_37 : decode cX13_play 37 = .ok (.bipush 16, 2) := by decide +kernel
theorem dX13_play_39 : decode cX13_play 39 = .ok (.iload_n 2, 1) := by decide +kernel
theorem dX13_play_40 : decode cX13_play 40 = .ok (.iadd, 1) := by decide +kernel
theorem dX13_play_41 : decode cX13_play 41 = .ok (.invokevirtual 187, 3) := by decide +kernel
theorem dX13_play_44 : decode cX13_play 44 = .ok (.iinc 2 (-1), 3) := by decide +kernel
theorem dX13_play_47 : decode cX13_play 47 = .ok (.iload_n 2, 1) := by decide +kernel
theorem dX13_play_48 : decode cX13_play 48 = .ok (.ifCond .lt (-41), 3) := by decide +kernel
theorem dX13_play_51 : decode cX13_play 51 = .ok (.aload_n 0, 1) := by decide +kernel
theorem dX13_play_52 : decode cX13_play 52 = .ok (.bipush 16, 2) := by decide +kernel
theorem dX13_play_54 : decode cX13_play 54 = .ok (.iload_n 2, 1) := by decide +kernel
theorem dX13_play_55 : decode cX13_play 55 = .ok (.iadd, 1) := by decide +kernel
theorem dX13_play_56 : decode cX13_play 56 = .ok (.invokevirtual 187, 3) := by decide +kernel
theorem dX13_play_59 : decode cX13_play 59 = .ok (.aload_n 0, 1) := by decide +kernel
theorem dX13_play_60 : decode cX13_play 60 = .ok (.iload_n 2, 1) := by decide +kernel
theorem dX13_play_61 : decode cX13_play 61 = .ok (.aload_n 0, 1) := by decide +kernel
theorem dX13_play_62 : decode cX13_play 62 = .ok (.getfield 116, 3) := by decide +kernel
theorem dX13_play_65 : decode cX13_play 65 = .ok (.iload_n 2, 1) := by decide +kernel
theorem dX13_play_66 : decode cX13_play 66 = .ok (.iconst 1, 1) := by decide +kernel
theorem dX13_play_67 : decode cX13_play 67 = .ok (.iadd, 1) := by decide +kernel
theorem dX13_play_68 : decode cX13_play 68 = .ok (.iaload, 1) := by decide +kernel
theorem dX13_play_69 : decode cX13_play 69 = .ok (.invokevirtual 498, 3) := by decide +kernel
theorem dX13_play_72 : decode cX13_play 72 = .ok (.goto (-65), 3) := by decide +kernel
set_option maxHeartbeats 4000000 in
set_option maxRecDepth 100000 in
theorem k_X13_play (l : Launch) (D : va_G) (cy : Nat → ClassId) (ld ad : Nat → Nat) (am : Nat) (hD : mz_D ad am) (Fa : Nat → Int32) (Ga : Nat → Int64) (Ra : Nat → Nat → Int32) (Sa : Nat → Nat → Int64) (p1 : Int32) (g12 : Int32) (g1 : Int32) (hIF : mz_IF true Fa) (hIG : mz_IG Ga) (hIR : mz_IR [] true Ra) (hg_0 : Ra 3 12 = g12) (hg_1 : Ra 3 1 = g1) (hp_0 : 1 ≤ p1.toInt) (hp_1 : p1.toInt ≤ 4) (hp_2 : 0 ≤ g12.toInt) : Met l yX13_play (wl yX13_play cX13_play 4 none) ({ frames := 10, cells := 0, slots := 0, locals := 630 }) (mz_p D cy ld ad am Fa Ga Ra Sa [.ref am, .int p1]) (mz_w D cy ad am (fun F G R S => mz_IF true F ∧ mz_IG G ∧ mz_IR [] true R ∧ (∀ k : Nat, k ∉ ([34, 38, 41] : List Nat) → F k = Fa k) ∧ (∀ k : Nat, k ∉ ([3, 6, 43, 44, 45, 46] : List Nat) → R k = Ra k) ∧ (∀ k : Nat, k ∉ ([39, 40] : List Nat) → G k = Ga k) ∧ rK1 (Ra 3) (R 3))) 0 0 (mz_W ad am) := by sorry
