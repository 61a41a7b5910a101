theorem dX13_nextVerse_0 : decode cX13_nextVerse 0 = .ok (.iconst (-1), 1) := by decide +kernel
theorem dX13_nextVerse_1 : decode cX13_nextVerse 1 = .ok (.istore_n 3, 1) := by decide +kernel
theorem dX13_nextVerse_2 : decode cX13_nextVerse 2 = .ok (.ldc_w 574, 3) := by decide +kernel
theorem dX13_nextVerse_5 : decode cX13_nextVerse 5 = .ok (.istore 4, 2) := by decide +kernel
theorem dX13_nextVerse_7 : decode cX13_nextVerse 7 = .ok (.iconst 0, 1) := by decide +kernel
theorem dX13_nextVerse_8 : decode cX13_nextVerse 8 = .ok (.istore 5, 2) := by decide +kernel
theorem dX13_nextVerse_10 : decode cX13_nextVerse 10 = .ok (.iload 5, 2) := by decide +kernel
theorem dX13_nextVerse_12 : decode cX13_nextVerse 12 = .ok (.aload_n 0, 1) := by decide +kernel
theorem dX13_nextVerse_13 : decode cX13_nextVerse 13 = .ok (.getfield 13, 3) := by decide +kernel
theorem dX13_nextVerse_16 : decode cX13_nextVerse 16 = .ok (.iconst 1, 1) := by decide +kernel
theorem dX13_nextVerse_17 : decode cX13_nextVerse 17 = .ok (.iaload, 1) := by decide +kernel
theorem dX13_nextVerse_18 : decode cX13_nextVerse 18 = .ok (.if_icmp .ge 155, 3) := by decide +kernel
theorem dX13_nextVerse_173 : decode cX13_nextVerse 173 = .ok (.iload_n 3, 1) := by decide +kernel
theorem dX13_nextVerse_174 : decode cX13_nextVerse 174 = .ok (.ireturn, 1) := by decide +kernel
theorem dX13_nextVerse_21 : decode cX13_nextVerse 21 = .ok (.iconst 0, 1) := by decide +kernel
theorem dX13_nextVerse_22 : decode cX13_nextVerse 22 = .ok (.istore 6, 2) := by decide +kernel
theorem dX13_nextVerse_24 : decode cX13_nextVerse 24 = .ok (.iconst 0, 1) := by decide +kernel
theorem dX13_nextVerse_25 : decode cX13_nextVerse 25 = .ok (.istore 7, 2) := by decide +kernel
theorem dX13_nextVerse_27 : decode cX13_nextVerse 27 = .ok (.iconst 1, 1) := by decide +kernel
theorem dX13_nextVerse_28 : decode cX13_nextVerse 28 = .ok (.istore 8, 2) := by decide +kernel
theorem dX13_nextVerse_30 : decode cX13_nextVerse 30 = .ok (.iload 8, 2) := by decide +kernel
theorem dX13_nextVerse_32 : decode cX13_nextVerse 32 = .ok (.sipush 1000, 3) := by decide +kernel
theorem dX13_nextVerse_35 : decode cX13_nextVerse 35 = .ok (.if_icmp .ge 76, 3) := by decide +kernel
theorem dX13_nextVerse_111 : decode cX13_nextVerse 111 = .ok (.iload 6, 2) := by decide +kernel
theorem dX13_nextVerse_113 : decode cX13_nextVerse 113 = .ok (.iload 7, 2) := by decide +kernel
theorem dX13_nextVerse_125 : decode cX13_nextVerse 125 = .ok (.istore 8, 2) := by decide +kernel
theorem dX13_nextVerse_127 : decode cX13_nextVerse 127 = .ok (.iload 8, 2) := by decide +kernel
theorem dX13_nextVerse_145 : decode cX13_nextVerse 145 = .ok (.istore_n 3, 1) := by decide +kernel
theorem dX13_nextVerse_146 : decode cX13_nextVerse 146 = .ok (.iload 8, 2) := by decide +kernel
theorem dX13_nextVerse_165 : decode cX13_nextVerse 165 = .ok (.istore 4, 2) := by decide +kernel
theorem dX13_nextVerse_167 : decode cX13_nextVerse 167 = .ok (.iinc 5 1, 3) := by decide +kernel
theorem dX13_nextVerse_170 : decode cX13_nextVerse 170 = .ok (.goto (-160), 3) := by decide +kernel
theorem dX13_nextVerse_148 : decode cX13_nextVerse 148 = .ok (.ifCond .le 15, 3) := by decide +kernel
theorem dX13_nextVerse_163 : decode cX13_nextVerse 163 = .ok (.iload 4, 2) := by decide +kernel
theorem dX13_nextVerse_151 : decode cX13_nextVerse 151 = .ok (.iload 8, 2) := by decide +kernel
theorem dX13_nextVerse_153 : decode cX13_nextVerse 153 = .ok (.iload 4, 2) := by decide +kernel
theorem dX13_nextVerse_155 : decode cX13_nextVerse 155 = .ok (.if_icmp .ge 8, 3) := by decide +kernel
theorem dX13_nextVerse_158 : decode cX13_nextVerse 158 = .ok (.iload 8, 2) := by decide +kernel
theorem dX13_nextVerse_160 : decode cX13_nextVerse 160 = .ok (.goto 5, 3) := by decide +kernel
theorem dX13_nextVerse_129 : decode cX13_nextVerse 129 = .ok (.ifCond .le 15, 3) := by decide +kernel
theorem dX13_nextVerse_144 : decode cX13_nextVerse 144 = .ok (.iload_n 3, 1) := by decide +kernel
theorem dX13_nextVerse_132 : decode cX13_nextVerse 132 = .ok (.iload 8, 2) := by decide +kernel
theorem dX13_nextVerse_134 : decode cX13_nextVerse 134 = .ok (.iload 4, 2) := by decide +kernel
theorem dX13_nextVerse_136 : decode cX13_nextVerse 136 = .ok (.if_icmp .ge 8, 3) := by decide +kernel
theorem dX13_nextVerse_139 : decode cX13_nextVerse 139 = .ok (.iload 5, 2) := by decide +kernel
theorem dX13_nextVerse_141 : decode cX13_nextVerse 141 = .ok (.goto 4, 3) := by decide +kernel
theorem dX13_nextVerse_115 : decode cX13_nextVerse 115 = .ok (.if_icmp .le 8, 3) := by decide +kernel
theorem dX13_nextVerse_123 : decode cX13_nextVerse 123 = .ok (.iload 7, 2) := by decide +kernel
theorem dX13_nextVerse_118 : decode cX13_nextVerse 118 = .ok (.iload 6, 2) := by decide +kernel
theorem dX13_nextVerse_120 : decode cX13_nextVerse 120 = .ok (.goto 5, 3) := by decide +kernel
theorem dX13_nextVerse_38 : decode cX13_nextVerse 38 = .ok (.aload_n 0, 1) := by decide +kernel
theorem dX13_nextVerse_39 : decode cX13_nextVerse 39 = .ok (.getfield 146, 3) := by decide +kernel
theorem dX13_nextVerse_42 : decode cX13_nextVerse 42 = .ok (.iload 8, 2) := by decide +kernel
theorem dX13_nextVerse_44 : decode cX13_nextVerse 44 = .ok (.iaload, 1) := by decide +kernel
theorem dX13_nextVerse_105 : decode cX13_nextVerse 105 = .ok (.iinc 8 1, 3) := by decide +kernel
theorem dX13_nextVerse_108 : decode cX13_nextVerse 108 = .ok (.goto (-78), 3) := by decide +kernel
theorem dX13_nextVerse_45 : decode cX13_nextVerse 45 = .ok (.ifCond .le 60, 3) := by decide +kernel
theorem dX13_nextVerse_48 : decode cX13_nextVerse 48 = .ok (.aload_n 0, 1) := by decide +kernel
theorem dX13_nextVerse_49 : decode cX13_nextVerse 49 = .ok (.iload 5, 2) := by decide +kernel
theorem dX13_nextVerse_51 : decode cX13_nextVerse 51 = .ok (.iload_n 1, 1) := by decide +kernel
theorem dX13_nextVerse_52 : decode cX13_nextVerse 52 = .ok (.iconst 0, 1) := by decide +kernel
theorem dX13_nextVerse_53 : decode cX13_nextVerse 53 = .ok (.iconst 0, 1) := by decide +kernel
theorem dX13_nextVerse_54 : decode cX13_nextVerse 54 = .ok (.aload_n 0, 1) := by decide +kernel
theorem dX13_nextVerse_55 : decode cX13_nextVerse 55 = .ok (.getfield 146, 3) := by decide +kernel
theorem dX13_nextVerse_58 : decode cX13_nextVerse 58 = .ok (.iload 8, 2) := by decide +kernel
theorem dX13_nextVerse_60 : decode cX13_nextVerse 60 = .ok (.iaload, 1) := by decide +kernel
theorem dX13_nextVerse_61 : decode cX13_nextVerse 61 = .ok (.iload_n 2, 1) := by decide +kernel
theorem dX13_nextVerse_62 : decode cX13_nextVerse 62 = .ok (.invokevirtual 570, 3) := by decide +kernel
theorem dX13_nextVerse_73 : decode cX13_nextVerse 73 = .ok (.istore 9, 2) := by decide +kernel
theorem dX13_nextVerse_75 : decode cX13_nextVerse 75 = .ok (.iload 6, 2) := by decide +kernel
theorem dX13_nextVerse_77 : decode cX13_nextVerse 77 = .ok (.iload 9, 2) := by decide +kernel
theorem dX13_nextVerse_87 : decode cX13_nextVerse 87 = .ok (.iadd, 1) := by decide +kernel
theorem dX13_nextVerse_88 : decode cX13_nextVerse 88 = .ok (.istore 6, 2) := by decide +kernel
theorem dX13_nextVerse_90 : decode cX13_nextVerse 90 = .ok (.iload 7, 2) := by decide +kernel
theorem dX13_nextVerse_92 : decode cX13_nextVerse 92 = .ok (.iload 9, 2) := by decide +kernel
theorem dX13_nextVerse_102 : decode cX13_nextVerse 102 = .ok (.iadd, 1) := by decide +kernel
theorem dX13_nextVerse_103 : decode cX13_nextVerse 103 = .ok (.istore 7, 2) := by decide +kernel
theorem dX13_nextVerse_94 : decode cX13_nextVerse 94 = .ok (.ifCond .eq 7, 3) := by decide +kernel
theorem dX13_nextVerse_101 : decode cX13_nextVerse 101 = .ok (.iconst 1, 1) := by decide +kernel
theorem dX13_nextVerse_97 : decode cX13_nextVerse 97 = .ok (.iconst 0, 1) := by decide +kernel
theorem dX13_nextVerse_98 : decode cX13_nextVerse 98 = .ok (.goto 4, 3) := by decide +kernel
theorem dX13_nextVerse_79 : decode cX13_nextVerse 79 = .ok (.ifCond .eq 7, 3) := by decide +kernel
theorem dX13_nextVerse_86 : decode cX13_nextVerse 86 = .ok (.iconst 0, 1) := by decide +kernel
theorem dX13_nextVerse_82 : decode cX13_nextVerse 82 = .ok (.iconst 1, 1) := by decide +kernel
theorem dX13_nextVerse_83 : decode cX13_nextVerse 83 = .ok (.goto 4, 3) := by decide +kernel
theorem dX13_nextVerse_65 : decode cX13_nextVerse 65 = .ok (.ifCond .ne 7, 3) := by decide +kernel
theorem dX13_nextVerse_72 : decode cX13_nextVerse 72 = .ok (.iconst 0, 1) := by decide +kernel
theorem dX13_nextVerse_68 : decode cX13_nextVerse 68 = .ok (.iconst 1, 1) := by decide +kernel
theorem dX13_nextVerse_69 : decode cX13_nextVerse 69 = .ok (.goto 4, 3) := by decide +kernel
set_option maxHeartbeats 4000000 in
set_option maxRecDepth 100000 in
theorem k_X13_nextVerse (l : Launch) (D : va_G) (cy : Nat → ClassId) (ld ad : Nat → Nat) (am : Nat) (hD : mz_D ad am) (Fa : Nat → Int32) (Ga : Nat → Int64) (Ra : Nat → Nat → Int32) (Sa : Nat → Nat → Int64) (p1 : Int32) (p2 : Int32) (hIF : mz_IF true Fa) (hIG : mz_IG Ga) (hIR : mz_IR [] true Ra) (hp_0 : 0 ≤ p1.toInt) (hp_1 : p1.toInt ≤ 7) : Met l yX13_nextVerse (wl yX13_nextVerse cX13_nextVerse 10 (some .int)) ({ frames := 10, cells := 0, slots := 0, locals := 630 }) (mz_p D cy ld ad am Fa Ga Ra Sa [.ref am, .int p1, .int p2]) (mz_i D cy ad am (fun r F G R S => mz_IF true F ∧ mz_IG G ∧ mz_IR [] true R ∧ (∀ k : Nat, k ∉ ([34, 38] : List Nat) → F k = Fa k) ∧ (∀ k : Nat, k ∉ ([] : List Nat) → R k = Ra k) ∧ (∀ k : Nat, k ∉ ([39, 40] : List Nat) → G k = Ga k) ∧ (-1) ≤ r.toInt ∧ r.toInt ≤ 9)) 0 0 (mz_W ad am) := by sorry
