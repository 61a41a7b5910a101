theorem hd_yX13_readExpression : yX13_readExpression.cls ≠ "java/lang/invoke/MethodHandle" ∧ yX13_readExpression.cls ≠ "java/lang/invoke/VarHandle" ∧ (parseMethodDescriptor yX13_readExpression.desc).map (fun d => d.parameters.length) = some 1 := by decide +kernel
theorem dX13_readLaw_0 : decode cX13_readLaw 0 = .ok (.iconst (-1), 1) := by decide +kernel
theorem dX13_readLaw_1 : decode cX13_readLaw 1 = .ok (.istore_n 1, 1) := by decide +kernel
theorem dX13_readLaw_2 : decode cX13_readLaw 2 = .ok (.iconst 0, 1) := by decide +kernel
theorem dX13_readLaw_3 : decode cX13_readLaw 3 = .ok (.istore_n 2, 1) := by decide +kernel
theorem dX13_readLaw_4 : decode cX13_readLaw 4 = .ok (.iload_n 2, 1) := by decide +kernel
theorem dX13_readLaw_5 : decode cX13_readLaw 5 = .ok (.iconst 4, 1) := by decide +kernel
theorem dX13_readLaw_6 : decode cX13_readLaw 6 = .ok (.if_icmp .ge 28, 3) := by decide +kernel
theorem dX13_readLaw_34 : decode cX13_readLaw 34 = .ok (.aload_n 0, 1) := by decide +kernel
theorem dX13_readLaw_35 : decode cX13_readLaw 35 = .ok (.iload_n 1, 1) := by decide +kernel
theorem dX13_readLaw_36 : decode cX13_readLaw 36 = .ok (.iconst (-1), 1) := by decide +kernel
theorem dX13_readLaw_37 : decode cX13_readLaw 37 = .ok (.if_icmp .eq 16, 3) := by decide +kernel
theorem dX13_readLaw_53 : decode cX13_readLaw 53 = .ok (.iconst 0, 1) := by decide +kernel
theorem dX13_readLaw_54 : decode cX13_readLaw 54 = .ok (.invokevirtual 271, 3) := by decide +kernel
theorem dX13_readLaw_57 : decode cX13_readLaw 57 = .ok (.aload_n 0, 1) := by decide +kernel
theorem dX13_readLaw_58 : decode cX13_readLaw 58 = .ok (.getfield 236, 3) := by decide +kernel
theorem dX13_readLaw_61 : decode cX13_readLaw 61 = .ok (.ifCond .eq 4, 3) := by decide +kernel
theorem dX13_readLaw_64 : decode cX13_readLaw 64 = .ok (.return_, 1) := by decide +kernel
theorem dX13_readLaw_40 : decode cX13_readLaw 40 = .ok (.aload_n 0, 1) := by decide +kernel
theorem dX13_readLaw_41 : decode cX13_readLaw 41 = .ok (.getfield 369, 3) := by decide +kernel
theorem dX13_readLaw_44 : decode cX13_readLaw 44 = .ok (.bipush 12, 2) := by decide +kernel
theorem dX13_readLaw_46 : decode cX13_readLaw 46 = .ok (.if_icmp .ge 7, 3) := by decide +kernel
theorem dX13_readLaw_49 : decode cX13_readLaw 49 = .ok (.iconst 1, 1) := by decide +kernel
theorem dX13_readLaw_50 : decode cX13_readLaw 50 = .ok (.goto 4, 3) := by decide +kernel
theorem dX13_readLaw_65 : decode cX13_readLaw 65 = .ok (.bipush 8, 2) := by decide +kernel
theorem dX13_readLaw_67 : decode cX13_readLaw 67 = .ok (.aload_n 0, 1) := by decide +kernel
theorem dX13_readLaw_68 : decode cX13_readLaw 68 = .ok (.getfield 369, 3) := by decide +kernel
theorem dX13_readLaw_71 : decode cX13_readLaw 71 = .ok (.imul, 1) := by decide +kernel
theorem dX13_readLaw_72 : decode cX13_readLaw 72 = .ok (.istore_n 2, 1) := by decide +kernel
theorem dX13_readLaw_73 : decode cX13_readLaw 73 = .ok (.iconst 0, 1) := by decide +kernel
theorem dX13_readLaw_74 : decode cX13_readLaw 74 = .ok (.istore_n 3, 1) := by decide +kernel
theorem dX13_readLaw_75 : decode cX13_readLaw 75 = .ok (.iload_n 3, 1) := by decide +kernel
theorem dX13_readLaw_76 : decode cX13_readLaw 76 = .ok (.bipush 8, 2) := by decide +kernel
theorem dX13_readLaw_78 : decode cX13_readLaw 78 = .ok (.if_icmp .ge 18, 3) := by decide +kernel
theorem dX13_readLaw_96 : decode cX13_readLaw 96 = .ok (.aload_n 0, 1) := by decide +kernel
theorem dX13_readLaw_97 : decode cX13_readLaw 97 = .ok (.getfield 42, 3) := by decide +kernel
theorem dX13_readLaw_100 : decode cX13_readLaw 100 = .ok (.iload_n 2, 1) := by decide +kernel
theorem dX13_readLaw_101 : decode cX13_readLaw 101 = .ok (.iload_n 1, 1) := by decide +kernel
theorem dX13_readLaw_102 : decode cX13_readLaw 102 = .ok (.iastore, 1) := by decide +kernel
theorem dX13_readLaw_103 : decode cX13_readLaw 103 = .ok (.aload_n 0, 1) := by decide +kernel
theorem dX13_readLaw_104 : decode cX13_readLaw 104 = .ok (.dup, 1) := by decide +kernel
theorem dX13_readLaw_105 : decode cX13_readLaw 105 = .ok (.getfield 369, 3) := by decide +kernel
theorem dX13_readLaw_108 : decode cX13_readLaw 108 = .ok (.iconst 1, 1) := by decide +kernel
theorem dX13_readLaw_109 : decode cX13_readLaw 109 = .ok (.iadd, 1) := by decide +kernel
theorem dX13_readLaw_110 : decode cX13_readLaw 110 = .ok (.putfield 369, 3) := by decide +kernel
theorem dX13_readLaw_113 : decode cX13_readLaw 113 = .ok (.aload_n 0, 1) := by decide +kernel
theorem dX13_readLaw_114 : decode cX13_readLaw 114 = .ok (.getfield 42, 3) := by decide +kernel
theorem dX13_readLaw_117 : decode cX13_readLaw 117 = .ok (.iload_n 2, 1) := by decide +kernel
theorem dX13_readLaw_118 : decode cX13_readLaw 118 = .ok (.iconst 3, 1) := by decide +kernel
theorem dX13_readLaw_119 : decode cX13_readLaw 119 = .ok (.iadd, 1) := by decide +kernel
theorem dX13_readLaw_120 : decode cX13_readLaw 120 = .ok (.aload_n 0, 1) := by decide +kernel
theorem dX13_readLaw_121 : decode cX13_readLaw 121 = .ok (.getfield 275, 3) := by decide +kernel
theorem dX13_readLaw_124 : decode cX13_readLaw 124 = .ok (.iastore, 1) := by decide +kernel
theorem dX13_readLaw_125 : decode cX13_readLaw 125 = .ok (.iload_n 1, 1) := by decide +kernel
theorem dX13_readLaw_126 : decode cX13_readLaw 126 = .ok (.iconst 3, 1) := by decide +kernel
theorem dX13_readLaw_127 : decode cX13_readLaw 127 = .ok (.if_icmp .eq 8, 3) := by decide +kernel
theorem dX13_readLaw_135 : decode cX13_readLaw 135 = .ok (.aload_n 0, 1) := by decide +kernel
theorem dX13_readLaw_136 : decode cX13_readLaw 136 = .ok (.getfield 42, 3) := by decide +kernel
theorem dX13_readLaw_139 : decode cX13_readLaw 139 = .ok (.iload_n 2, 1) := by decide +kernel
theorem dX13_readLaw_140 : decode cX13_readLaw 140 = .ok (.iconst 4, 1) := by decide +kernel
theorem dX13_readLaw_141 : decode cX13_readLaw 141 = .ok (.iadd, 1) := by decide +kernel
theorem dX13_readLaw_142 : decode cX13_readLaw 142 = .ok (.aload_n 0, 1) := by decide +kernel
theorem dX13_readLaw_143 : decode cX13_readLaw 143 = .ok (.getfield 275, 3) := by decide +kernel
theorem dX13_readLaw_146 : decode cX13_readLaw 146 = .ok (.iastore, 1) := by decide +kernel
theorem dX13_readLaw_147 : decode cX13_readLaw 147 = .ok (.aload_n 0, 1) := by decide +kernel
theorem dX13_readLaw_148 : decode cX13_readLaw 148 = .ok (.getfield 42, 3) := by decide +kernel
theorem dX13_readLaw_151 : decode cX13_readLaw 151 = .ok (.iload_n 2, 1) := by decide +kernel
theorem dX13_readLaw_152 : decode cX13_readLaw 152 = .ok (.iconst 5, 1) := by decide +kernel
theorem dX13_readLaw_153 : decode cX13_readLaw 153 = .ok (.iadd, 1) := by decide +kernel
theorem dX13_readLaw_154 : decode cX13_readLaw 154 = .ok (.aload_n 0, 1) := by decide +kernel
theorem dX13_readLaw_155 : decode cX13_readLaw 155 = .ok (.getfield 275, 3) := by decide +kernel
theorem dX13_readLaw_158 : decode cX13_readLaw 158 = .ok (.iastore, 1) := by decide +kernel
theorem dX13_readLaw_159 : decode cX13_readLaw 159 = .ok (.aload_n 0, 1) := by decide +kernel
theorem dX13_readLaw_160 : decode cX13_readLaw 160 = .ok (.getfield 236, 3) := by decide +kernel
theorem dX13_readLaw_163 : decode cX13_readLaw 163 = .ok (.ifCond .ne 22, 3) := by decide +kernel
theorem dX13_readLaw_166 : decode cX13_readLaw 166 = .ok (.aload_n 0, 1) := by decide +kernel
theorem dX13_readLaw_167 : decode cX13_readLaw 167 = .ok (.ldc2_w 375, 3) := by decide +kernel
theorem dX13_readLaw_170 : decode cX13_readLaw 170 = .ok (.invokevirtual 296, 3) := by decide +kernel
theorem dX13_readLaw_173 : decode cX13_readLaw 173 = .ok (.ifCond .eq 12, 3) := by decide +kernel
theorem dX13_readLaw_185 : decode cX13_readLaw 185 = .ok (.aload_n 0, 1) := by decide +kernel
theorem dX13_readLaw_186 : decode cX13_readLaw 186 = .ok (.getfield 42, 3) := by decide +kernel
theorem dX13_readLaw_189 : decode cX13_readLaw 189 = .ok (.iload_n 2, 1) := by decide +kernel
theorem dX13_readLaw_190 : decode cX13_readLaw 190 = .ok (.bipush 6, 2) := by decide +kernel
theorem dX13_readLaw_192 : decode cX13_readLaw 192 = .ok (.iadd, 1) := by decide +kernel
theorem dX13_readLaw_193 : decode cX13_readLaw 193 = .ok (.aload_n 0, 1) := by decide +kernel
theorem dX13_readLaw_194 : decode cX13_readLaw 194 = .ok (.getfield 275, 3) := by decide +kernel
theorem dX13_readLaw_197 : decode cX13_readLaw 197 = .ok (.iastore, 1) := by decide +kernel
theorem dX13_readLaw_198 : decode cX13_readLaw 198 = .ok (.return_, 1) := by decide +kernel
theorem dX13_readLaw_176 : decode cX13_readLaw 176 = .ok (.aload_n 0, 1) := by decide +kernel
theorem dX13_readLaw_177 : decode cX13_readLaw 177 = .ok (.invokevirtual 240, 3) := by decide +kernel
theorem dX13_readLaw_180 : decode cX13_readLaw 180 = .ok (.aload_n 0, 1) := by decide +kernel
theorem dX13_readLaw_181 : decode cX13_readLaw 181 = .ok (.iconst 1, 1) := by decide +kernel
theorem dX13_readLaw_182 : decode cX13_readLaw 182 = .ok (.invokevirtual 372, 3) := by decide +kernel
theorem dX13_readLaw_130 : decode cX13_readLaw 130 = .ok (.aload_n 0, 1) := by decide +kernel
theorem dX13_readLaw_131 : decode cX13_readLaw 131 = .ok (.iconst 0, 1) := by decide +kernel
theorem dX13_readLaw_132 : decode cX13_readLaw 132 = .ok (.invokevirtual 372, 3) := by decide +kernel
theorem dX13_readLaw_81 : decode cX13_readLaw 81 = .ok (.aload_n 0, 1) := by decide +kernel
theorem dX13_readLaw_82 : decode cX13_readLaw 82 = .ok (.getfield 42, 3) := by decide +kernel
theorem dX13_readLaw_85 : decode cX13_readLaw 85 = .ok (.iload_n 2, 1) := by decide +kernel
theorem dX13_readLaw_86 : decode cX13_readLaw 86 = .ok (.iload_n 3, 1) := by decide +kernel
theorem dX13_readLaw_87 : decode cX13_readLaw 87 = .ok (.iadd, 1) := by decide +kernel
theorem dX13_readLaw_88 : decode cX13_readLaw 88 = .ok (.iconst 0, 1) := by decide +kernel
theorem dX13_readLaw_89 : decode cX13_readLaw 89 = .ok (.iastore, 1) := by decide +kernel
theorem dX13_readLaw_90 : decode cX13_readLaw 90 = .ok (.iinc 3 1, 3) := by decide +kernel
theorem dX13_readLaw_93 : decode cX13_readLaw 93 = .ok (.goto (-18), 3) := by decide +kernel
theorem dX13_readLaw_9 : decode cX13_readLaw 9 = .ok (.aload_n 0, 1) := by decide +kernel
theorem dX13_readLaw_10 : decode cX13_readLaw 10 = .ok (.aload_n 0, 1) := by decide +kernel
theorem dX13_readLaw_11 : decode cX13_readLaw 11 = .ok (.getfield 98, 3) := by decide +kernel
theorem dX13_readLaw_14 : decode cX13_readLaw 14 = .ok (.iload_n 2, 1) := by decide +kernel
theorem dX13_readLaw_15 : decode cX13_readLaw 15 = .ok (.laload, 1) := by decide +kernel
theorem dX13_readLaw_16 : decode cX13_readLaw 16 = .ok (.invokevirtual 296, 3) := by decide +kernel
theorem dX13_readLaw_19 : decode cX13_readLaw 19 = .ok (.ifCond .eq 7, 3) := by decide +kernel
theorem dX13_readLaw_26 : decode cX13_readLaw 26 = .ok (.iload_n 1, 1) := by decide +kernel
theorem dX13_readLaw_27 : decode cX13_readLaw 27 = .ok (.istore_n 1, 1) := by decide +kernel
theorem dX13_readLaw_28 : decode cX13_readLaw 28 = .ok (.iinc 2 1, 3) := by decide +kernel
theorem dX13_readLaw_31 : decode cX13_readLaw 31 = .ok (.goto (-27), 3) := by decide +kernel
theorem dX13_readLaw_22 : decode cX13_readLaw 22 = .ok (.iload_n 2, 1) := by decide +kernel
theorem dX13_readLaw_23 : decode cX13_readLaw 23 = .ok (.goto 4, 3) := by decide +kernel
set_option maxHeartbeats 4000000 in
set_option maxRecDepth 100000 in
theorem k_X13_readLaw (l : Launch) (D : va_G) (cy : Nat → ClassId) (ld ad : Nat → Nat) (am : Nat) (hD : mz_D ad am) (Fa : Nat → Int32) (Ga : Nat → Int64) (Ra : Nat → Nat → Int32) (Sa : Nat → Nat → Int64) (gf : Int32) (gt : Int32) (gs : Int32) (gp : Int32) (gw : Int64) (gb : Int32) (gc : Int32) (gn : Int32) (hIF : mz_IF false Fa) (hIG : mz_IG Ga) (hIR : mz_IR [] true Ra) (hg_0 : Fa 14 = gf) (hg_1 : Fa 15 = gt) (hg_2 : Fa 16 = gs) (hg_3 : Fa 13 = gp) (hg_4 : Ga 17 = gw) (hg_5 : Fa 19 = gb) (hg_6 : Fa 23 = gc) (hg_7 : Fa 21 = gn) (hp_0 : 0 ≤ (-1) * gf.toInt + gt.toInt) (hp_1 : 0 ≤ gp.toInt + (-1) * gt.toInt) (hp_2 : (1 ≤ gs.toInt → 0 ≤ (-1) * gf.toInt + gt.toInt + (-1))) (hp_3 : (27 ≤ gw.toInt → 1 ≤ gs.toInt → gs.toInt ≤ 1 → 0 ≤ (-1) * gf.toInt + gt.toInt + (-2))) (hp_4 : 0 ≤ (-1) * gc.toInt + gf.toInt) (hp_5 : gb.toInt ≤ 0) (hx_0 : CLS 8 [3, 5] (Ra 24) (Ra 25) (Ra 22) gc.toInt gn.toInt) : Met l yX13_readLaw (wl yX13_readLaw cX13_readLaw 4 none) ({ frames := 10, cells := 0, slots := 0, locals := 630 }) (mz_p D cy ld ad am Fa Ga Ra Sa [.ref am]) (mz_w D cy ad am (fun F G R S => mz_IF false F ∧ mz_IG G ∧ mz_IR [] true R ∧ (∀ k : Nat, k ∉ ([14, 15, 16, 18, 19, 21, 23, 26, 29, 30] : List Nat) → F k = Fa k) ∧ (∀ k : Nat, k ∉ ([22, 24, 25, 27, 28] : List Nat) → R k = Ra k) ∧ (∀ k : Nat, k ∉ ([17] : List Nat) → G k = Ga k) ∧ 0 ≤ (-1) * (F 14).toInt + (F 15).toInt ∧ 0 ≤ gp.toInt + (-1) * (F 15).toInt ∧ (1 ≤ (F 16).toInt → 0 ≤ (-1) * (F 14).toInt + (F 15).toInt + (-1)) ∧ (27 ≤ (G 17).toInt → 1 ≤ (F 16).toInt → (F 16).toInt ≤ 1 → 0 ≤ (-1) * (F 14).toInt + (F 15).toInt + (-2)) ∧ 0 ≤ (-1) * gf.toInt + (F 14).toInt ∧ 0 ≤ (-1) * gc.toInt + (F 23).toInt ∧ 0 ≤ (-1) * (F 23).toInt + (F 14).toInt ∧ 0 ≤ (-1) * gb.toInt + (F 19).toInt ∧ ((F 19).toInt ≤ 0 → 0 ≤ (-1) * gf.toInt + (F 14).toInt + (-1)) ∧ ((F 19).toInt = 0 → CLS 8 [3, 5] (R 24) (R 25) (R 22) (F 23).toInt (F 21).toInt))) 0 0 (mz_W ad am) := by sorry
