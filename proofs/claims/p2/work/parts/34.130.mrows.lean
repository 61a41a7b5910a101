theorem dX13_weighRow_0 : decode cX13_weighRow 0 = .ok (.iconst 0, 1) := by decide +kernel
theorem dX13_weighRow_1 : decode cX13_weighRow 1 = .ok (.istore_n 2, 1) := by decide +kernel
theorem dX13_weighRow_2 : decode cX13_weighRow 2 = .ok (.iconst 0, 1) := by decide +kernel
theorem dX13_weighRow_3 : decode cX13_weighRow 3 = .ok (.istore_n 3, 1) := by decide +kernel
theorem dX13_weighRow_4 : decode cX13_weighRow 4 = .ok (.iconst 0, 1) := by decide +kernel
theorem dX13_weighRow_5 : decode cX13_weighRow 5 = .ok (.istore 4, 2) := by decide +kernel
theorem dX13_weighRow_7 : decode cX13_weighRow 7 = .ok (.iload 4, 2) := by decide +kernel
theorem dX13_weighRow_9 : decode cX13_weighRow 9 = .ok (.iload_n 1, 1) := by decide +kernel
theorem dX13_weighRow_10 : decode cX13_weighRow 10 = .ok (.if_icmp .ge 78, 3) := by decide +kernel
theorem dX13_weighRow_88 : decode cX13_weighRow 88 = .ok (.iload_n 2, 1) := by decide +kernel
theorem dX13_weighRow_89 : decode cX13_weighRow 89 = .ok (.aload_n 0, 1) := by decide +kernel
theorem dX13_weighRow_90 : decode cX13_weighRow 90 = .ok (.getfield 539, 3) := by decide +kernel
theorem dX13_weighRow_93 : decode cX13_weighRow 93 = .ok (.if_icmp .gt 19, 3) := by decide +kernel
theorem dX13_weighRow_112 : decode cX13_weighRow 112 = .ok (.aload_n 0, 1) := by decide +kernel
theorem dX13_weighRow_113 : decode cX13_weighRow 113 = .ok (.iload_n 2, 1) := by decide +kernel
theorem dX13_weighRow_114 : decode cX13_weighRow 114 = .ok (.putfield 539, 3) := by decide +kernel
theorem dX13_weighRow_117 : decode cX13_weighRow 117 = .ok (.aload_n 0, 1) := by decide +kernel
theorem dX13_weighRow_118 : decode cX13_weighRow 118 = .ok (.iload_n 3, 1) := by decide +kernel
theorem dX13_weighRow_119 : decode cX13_weighRow 119 = .ok (.putfield 542, 3) := by decide +kernel
theorem dX13_weighRow_122 : decode cX13_weighRow 122 = .ok (.iconst 0, 1) := by decide +kernel
theorem dX13_weighRow_123 : decode cX13_weighRow 123 = .ok (.istore 4, 2) := by decide +kernel
theorem dX13_weighRow_125 : decode cX13_weighRow 125 = .ok (.iload 4, 2) := by decide +kernel
theorem dX13_weighRow_127 : decode cX13_weighRow 127 = .ok (.iload_n 1, 1) := by decide +kernel
theorem dX13_weighRow_128 : decode cX13_weighRow 128 = .ok (.if_icmp .ge 23, 3) := by decide +kernel
theorem dX13_weighRow_151 : decode cX13_weighRow 151 = .ok (.return_, 1) := by decide +kernel
theorem dX13_weighRow_131 : decode cX13_weighRow 131 = .ok (.aload_n 0, 1) := by decide +kernel
theorem dX13_weighRow_132 : decode cX13_weighRow 132 = .ok (.getfield 137, 3) := by decide +kernel
theorem dX13_weighRow_135 : decode cX13_weighRow 135 = .ok (.iload 4, 2) := by decide +kernel
theorem dX13_weighRow_137 : decode cX13_weighRow 137 = .ok (.aload_n 0, 1) := by decide +kernel
theorem dX13_weighRow_138 : decode cX13_weighRow 138 = .ok (.getfield 134, 3) := by decide +kernel
theorem dX13_weighRow_141 : decode cX13_weighRow 141 = .ok (.iload 4, 2) := by decide +kernel
theorem dX13_weighRow_143 : decode cX13_weighRow 143 = .ok (.iaload, 1) := by decide +kernel
theorem dX13_weighRow_144 : decode cX13_weighRow 144 = .ok (.iastore, 1) := by decide +kernel
theorem dX13_weighRow_145 : decode cX13_weighRow 145 = .ok (.iinc 4 1, 3) := by decide +kernel
theorem dX13_weighRow_148 : decode cX13_weighRow 148 = .ok (.goto (-23), 3) := by decide +kernel
theorem dX13_weighRow_96 : decode cX13_weighRow 96 = .ok (.iload_n 2, 1) := by decide +kernel
theorem dX13_weighRow_97 : decode cX13_weighRow 97 = .ok (.aload_n 0, 1) := by decide +kernel
theorem dX13_weighRow_98 : decode cX13_weighRow 98 = .ok (.getfield 539, 3) := by decide +kernel
theorem dX13_weighRow_101 : decode cX13_weighRow 101 = .ok (.if_icmp .ne 50, 3) := by decide +kernel
theorem dX13_weighRow_104 : decode cX13_weighRow 104 = .ok (.iload_n 3, 1) := by decide +kernel
theorem dX13_weighRow_105 : decode cX13_weighRow 105 = .ok (.aload_n 0, 1) := by decide +kernel
theorem dX13_weighRow_106 : decode cX13_weighRow 106 = .ok (.getfield 542, 3) := by decide +kernel
theorem dX13_weighRow_109 : decode cX13_weighRow 109 = .ok (.if_icmp .ge 42, 3) := by decide +kernel
theorem dX13_weighRow_13 : decode cX13_weighRow 13 = .ok (.aload_n 0, 1) := by decide +kernel
theorem dX13_weighRow_14 : decode cX13_weighRow 14 = .ok (.getfield 134, 3) := by decide +kernel
theorem dX13_weighRow_17 : decode cX13_weighRow 17 = .ok (.iload 4, 2) := by decide +kernel
theorem dX13_weighRow_19 : decode cX13_weighRow 19 = .ok (.iaload, 1) := by decide +kernel
theorem dX13_weighRow_20 : decode cX13_weighRow 20 = .ok (.bipush 8, 2) := by decide +kernel
theorem dX13_weighRow_52 : decode cX13_weighRow 52 = .ok (.istore 5, 2) := by decide +kernel
theorem dX13_weighRow_54 : decode cX13_weighRow 54 = .ok (.iload_n 2, 1) := by decide +kernel
theorem dX13_weighRow_55 : decode cX13_weighRow 55 = .ok (.iload 5, 2) := by decide +kernel
theorem dX13_weighRow_57 : decode cX13_weighRow 57 = .ok (.iconst 1, 1) := by decide +kernel
theorem dX13_weighRow_66 : decode cX13_weighRow 66 = .ok (.iadd, 1) := by decide +kernel
theorem dX13_weighRow_67 : decode cX13_weighRow 67 = .ok (.istore_n 2, 1) := by decide +kernel
theorem dX13_weighRow_68 : decode cX13_weighRow 68 = .ok (.iload_n 3, 1) := by decide +kernel
theorem dX13_weighRow_69 : decode cX13_weighRow 69 = .ok (.iload 5, 2) := by decide +kernel
theorem dX13_weighRow_71 : decode cX13_weighRow 71 = .ok (.iconst (-1), 1) := by decide +kernel
theorem dX13_weighRow_80 : decode cX13_weighRow 80 = .ok (.iadd, 1) := by decide +kernel
theorem dX13_weighRow_81 : decode cX13_weighRow 81 = .ok (.istore_n 3, 1) := by decide +kernel
theorem dX13_weighRow_82 : decode cX13_weighRow 82 = .ok (.iinc 4 1, 3) := by decide +kernel
theorem dX13_weighRow_85 : decode cX13_weighRow 85 = .ok (.goto (-78), 3) := by decide +kernel
theorem dX13_weighRow_72 : decode cX13_weighRow 72 = .ok (.if_icmp .ne 7, 3) := by decide +kernel
theorem dX13_weighRow_79 : decode cX13_weighRow 79 = .ok (.iconst 0, 1) := by decide +kernel
theorem dX13_weighRow_75 : decode cX13_weighRow 75 = .ok (.iconst 1, 1) := by decide +kernel
theorem dX13_weighRow_76 : decode cX13_weighRow 76 = .ok (.goto 4, 3) := by decide +kernel
theorem dX13_weighRow_58 : decode cX13_weighRow 58 = .ok (.if_icmp .ne 7, 3) := by decide +kernel
theorem dX13_weighRow_65 : decode cX13_weighRow 65 = .ok (.iconst 0, 1) := by decide +kernel
theorem dX13_weighRow_61 : decode cX13_weighRow 61 = .ok (.iconst 1, 1) := by decide +kernel
theorem dX13_weighRow_62 : decode cX13_weighRow 62 = .ok (.goto 4, 3) := by decide +kernel
theorem dX13_weighRow_22 : decode cX13_weighRow 22 = .ok (.if_icmp .ne 7, 3) := by decide +kernel
theorem dX13_weighRow_29 : decode cX13_weighRow 29 = .ok (.aload_n 0, 1) := by decide +kernel
theorem dX13_weighRow_30 : decode cX13_weighRow 30 = .ok (.getfield 128, 3) := by decide +kernel
theorem dX13_weighRow_33 : decode cX13_weighRow 33 = .ok (.bipush 8, 2) := by decide +kernel
theorem dX13_weighRow_35 : decode cX13_weighRow 35 = .ok (.aload_n 0, 1) := by decide +kernel
theorem dX13_weighRow_36 : decode cX13_weighRow 36 = .ok (.getfield 131, 3) := by decide +kernel
theorem dX13_weighRow_39 : decode cX13_weighRow 39 = .ok (.iload 4, 2) := by decide +kernel
theorem dX13_weighRow_41 : decode cX13_weighRow 41 = .ok (.iaload, 1) := by decide +kernel
theorem dX13_weighRow_42 : decode cX13_weighRow 42 = .ok (.imul, 1) := by decide +kernel
theorem dX13_weighRow_43 : decode cX13_weighRow 43 = .ok (.aload_n 0, 1) := by decide +kernel
theorem dX13_weighRow_44 : decode cX13_weighRow 44 = .ok (.getfield 134, 3) := by decide +kernel
theorem dX13_weighRow_47 : decode cX13_weighRow 47 = .ok (.iload 4, 2) := by decide +kernel
theorem dX13_weighRow_49 : decode cX13_weighRow 49 = .ok (.iaload, 1) := by decide +kernel
theorem dX13_weighRow_50 : decode cX13_weighRow 50 = .ok (.iadd, 1) := by decide +kernel
theorem dX13_weighRow_51 : decode cX13_weighRow 51 = .ok (.iaload, 1) := by decide +kernel
theorem dX13_weighRow_25 : decode cX13_weighRow 25 = .ok (.iconst 0, 1) := by decide +kernel
theorem dX13_weighRow_26 : decode cX13_weighRow 26 = .ok (.goto 26, 3) := by decide +kernel
set_option maxHeartbeats 4000000 in
set_option maxRecDepth 100000 in
theorem k_X13_weighRow (l : Launch) (D : va_G) (cy : Nat → ClassId) (ld ad : Nat → Nat) (am : Nat) (hD : mz_D ad am) (Fa : Nat → Int32) (Ga : Nat → Int64) (Ra : Nat → Nat → Int32) (Sa : Nat → Nat → Int64) (p1 : Int32) (hIF : mz_IF true Fa) (hIG : mz_IG Ga) (hIR : mz_IR [] true Ra) (hp_0 : 0 ≤ p1.toInt) (hp_1 : p1.toInt ≤ 8) (hx_0 : ∀ j : Nat, (j : Int) < p1.toInt → 0 ≤ (Ra 51 j).toInt ∧ (Ra 51 j).toInt ≤ 8) : Met l yX13_weighRow (wl yX13_weighRow cX13_weighRow 6 none) ({ frames := 3, cells := 0, slots := 0, locals := 140 }) (mz_p D cy ld ad am Fa Ga Ra Sa [.ref am, .int p1]) (mz_w D cy ad am (fun F G R S => mz_IF true F ∧ mz_IG G ∧ mz_IR [] true R ∧ (∀ k : Nat, k ∉ ([53, 54] : List Nat) → F k = Fa k) ∧ (∀ k : Nat, k ∉ ([52] : List Nat) → R k = Ra k) ∧ (∀ k : Nat, k ∉ ([] : List Nat) → G k = Ga k))) 0 0 (mz_W ad am) := by sorry
