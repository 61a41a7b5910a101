theorem tk_or {x y : Int32} (hx0 : 0 ≤ x.toInt) (hx1 : x.toInt ≤ 255) (hy0 : 0 ≤ y.toInt) (hy1 : y.toInt ≤ 255) : x.toInt ≤ (x ||| y).toInt ∧ y.toInt ≤ (x ||| y).toInt ∧ (x ||| y).toInt ≤ 255 := by
  obtain ⟨a, ha, rfl⟩ := nI_of (x := x) (fun q => by have := (fi_lt rfl (show (0 : Int32).toInt = 0 by decide)).mp q; omega)
  obtain ⟨b, hb, rfl⟩ := nI_of (x := y) (fun q => by have := (fi_lt rfl (show (0 : Int32).toInt = 0 by decide)).mp q; omega)
  rw [nI_toInt ha] at hx1 ⊢
  rw [nI_toInt hb] at hy1 ⊢
  have e : nI a ||| nI b = nI (a ||| b) := by
    apply Int32.toBitVec_inj.mp
    rw [Int32.toBitVec_or]
    show BitVec.ofNat 32 a ||| BitVec.ofNat 32 b = BitVec.ofNat 32 (a ||| b)
    apply BitVec.eq_of_toNat_eq
    have h1 : a ||| b < 2 ^ 32 := Nat.or_lt_two_pow (by omega) (by omega)
    rw [BitVec.toNat_or, BitVec.toNat_ofNat, BitVec.toNat_ofNat, BitVec.toNat_ofNat, Nat.mod_eq_of_lt (by omega), Nat.mod_eq_of_lt (by omega), Nat.mod_eq_of_lt h1]
  have h8 : a ||| b < 2 ^ 8 := Nat.or_lt_two_pow (by omega) (by omega)
  have h9 : a ≤ a ||| b := Nat.left_le_or
  have h7 : b ≤ a ||| b := Nat.right_le_or
  rw [e, nI_toInt (by omega)]
  omega
theorem tk_sh7 {x y : Int32} (hx0 : 0 ≤ x.toInt) (hx1 : x.toInt ≤ 1) (hy0 : 0 ≤ y.toInt) (hy1 : y.toInt ≤ 7) : 0 ≤ (x <<< (y &&& 31)).toInt ∧ (x <<< (y &&& 31)).toInt ≤ 128 := by
  have h : ∀ (a : Fin 2) (b : Fin 8), 0 ≤ (nI a.val <<< (nI b.val &&& 31)).toInt ∧ (nI a.val <<< (nI b.val &&& 31)).toInt ≤ 128 := by decide +kernel
  obtain ⟨a, ha, rfl⟩ := nI_of (x := x) (fun q => by have := (fi_lt rfl (show (0 : Int32).toInt = 0 by decide)).mp q; omega)
  obtain ⟨b, hb, rfl⟩ := nI_of (x := y) (fun q => by have := (fi_lt rfl (show (0 : Int32).toInt = 0 by decide)).mp q; omega)
  rw [nI_toInt ha] at hx1
  rw [nI_toInt hb] at hy1
  exact h ⟨a, by omega⟩ ⟨b, by omega⟩
theorem hd_yX13_is : yX13_is.cls ≠ "java/lang/invoke/MethodHandle" ∧ yX13_is.cls ≠ "java/lang/invoke/VarHandle" ∧ (parseMethodDescriptor yX13_is.desc).map (fun d => d.parameters.length) = some 2 := by decide +kernel
theorem dX13_caught_0 : decode cX13_caught 0 = .ok (.iconst 1, 1) := by decide +kernel
theorem dX13_caught_1 : decode cX13_caught 1 = .ok (.iload_n 1, 1) := by decide +kernel
theorem dX13_caught_2 : decode cX13_caught 2 = .ok (.ishl, 1) := by decide +kernel
theorem dX13_caught_3 : decode cX13_caught 3 = .ok (.istore_n 3, 1) := by decide +kernel
theorem dX13_caught_4 : decode cX13_caught 4 = .ok (.iconst 0, 1) := by decide +kernel
theorem dX13_caught_5 : decode cX13_caught 5 = .ok (.istore 4, 2) := by decide +kernel
theorem dX13_caught_7 : decode cX13_caught 7 = .ok (.iload 4, 2) := by decide +kernel
theorem dX13_caught_9 : decode cX13_caught 9 = .ok (.aload_n 0, 1) := by decide +kernel
theorem dX13_caught_10 : decode cX13_caught 10 = .ok (.getfield 13, 3) := by decide +kernel
theorem dX13_caught_13 : decode cX13_caught 13 = .ok (.iconst 0, 1) := by decide +kernel
theorem dX13_caught_14 : decode cX13_caught 14 = .ok (.iaload, 1) := by decide +kernel
theorem dX13_caught_15 : decode cX13_caught 15 = .ok (.if_icmp .ge 22, 3) := by decide +kernel
theorem dX13_caught_37 : decode cX13_caught 37 = .ok (.aload_n 0, 1) := by decide +kernel
theorem dX13_caught_38 : decode cX13_caught 38 = .ok (.iconst 0, 1) := by decide +kernel
theorem dX13_caught_39 : decode cX13_caught 39 = .ok (.putfield 581, 3) := by decide +kernel
theorem dX13_caught_42 : decode cX13_caught 42 = .ok (.iconst 1, 1) := by decide +kernel
theorem dX13_caught_43 : decode cX13_caught 43 = .ok (.istore 4, 2) := by decide +kernel
theorem dX13_caught_45 : decode cX13_caught 45 = .ok (.iload 4, 2) := by decide +kernel
theorem dX13_caught_47 : decode cX13_caught 47 = .ok (.ifCond .eq 132, 3) := by decide +kernel
theorem dX13_caught_179 : decode cX13_caught 179 = .ok (.iload_n 3, 1) := by decide +kernel
theorem dX13_caught_180 : decode cX13_caught 180 = .ok (.ireturn, 1) := by decide +kernel
theorem dX13_caught_50 : decode cX13_caught 50 = .ok (.iload_n 3, 1) := by decide +kernel
theorem dX13_caught_51 : decode cX13_caught 51 = .ok (.istore 5, 2) := by decide +kernel
theorem dX13_caught_53 : decode cX13_caught 53 = .ok (.iconst 0, 1) := by decide +kernel
theorem dX13_caught_54 : decode cX13_caught 54 = .ok (.istore 6, 2) := by decide +kernel
theorem dX13_caught_56 : decode cX13_caught 56 = .ok (.iload 6, 2) := by decide +kernel
theorem dX13_caught_58 : decode cX13_caught 58 = .ok (.aload_n 0, 1) := by decide +kernel
theorem dX13_caught_59 : decode cX13_caught 59 = .ok (.getfield 13, 3) := by decide +kernel
theorem dX13_caught_62 : decode cX13_caught 62 = .ok (.iconst 0, 1) := by decide +kernel
theorem dX13_caught_63 : decode cX13_caught 63 = .ok (.iaload, 1) := by decide +kernel
theorem dX13_caught_64 : decode cX13_caught 64 = .ok (.if_icmp .ge 77, 3) := by decide +kernel
theorem dX13_caught_141 : decode cX13_caught 141 = .ok (.iload 5, 2) := by decide +kernel
theorem dX13_caught_143 : decode cX13_caught 143 = .ok (.iload_n 3, 1) := by decide +kernel
theorem dX13_caught_144 : decode cX13_caught 144 = .ok (.if_icmp .eq 7, 3) := by decide +kernel
theorem dX13_caught_151 : decode cX13_caught 151 = .ok (.iconst 0, 1) := by decide +kernel
theorem dX13_caught_152 : decode cX13_caught 152 = .ok (.istore 4, 2) := by decide +kernel
theorem dX13_caught_154 : decode cX13_caught 154 = .ok (.aload_n 0, 1) := by decide +kernel
theorem dX13_caught_155 : decode cX13_caught 155 = .ok (.dup, 1) := by decide +kernel
theorem dX13_caught_156 : decode cX13_caught 156 = .ok (.getfield 581, 3) := by decide +kernel
theorem dX13_caught_159 : decode cX13_caught 159 = .ok (.iload 4, 2) := by decide +kernel
theorem dX13_caught_161 : decode cX13_caught 161 = .ok (.ifCond .eq 7, 3) := by decide +kernel
theorem dX13_caught_168 : decode cX13_caught 168 = .ok (.iconst 0, 1) := by decide +kernel
theorem dX13_caught_169 : decode cX13_caught 169 = .ok (.iadd, 1) := by decide +kernel
theorem dX13_caught_170 : decode cX13_caught 170 = .ok (.putfield 581, 3) := by decide +kernel
theorem dX13_caught_173 : decode cX13_caught 173 = .ok (.iload 5, 2) := by decide +kernel
theorem dX13_caught_175 : decode cX13_caught 175 = .ok (.istore_n 3, 1) := by decide +kernel
theorem dX13_caught_176 : decode cX13_caught 176 = .ok (.goto (-131), 3) := by decide +kernel
theorem dX13_caught_147 : decode cX13_caught 147 = .ok (.iconst 1, 1) := by decide +kernel
theorem dX13_caught_148 : decode cX13_caught 148 = .ok (.goto 4, 3) := by decide +kernel
theorem dX13_caught_164 : decode cX13_caught 164 = .ok (.iconst 1, 1) := by decide +kernel
theorem dX13_caught_165 : decode cX13_caught 165 = .ok (.goto 4, 3) := by decide +kernel
theorem dX13_caught_67 : decode cX13_caught 67 = .ok (.aload_n 0, 1) := by decide +kernel
theorem dX13_caught_68 : decode cX13_caught 68 = .ok (.getfield 13, 3) := by decide +kernel
theorem dX13_caught_71 : decode cX13_caught 71 = .ok (.bipush 108, 2) := by decide +kernel
theorem dX13_caught_73 : decode cX13_caught 73 = .ok (.iload 6, 2) := by decide +kernel
theorem dX13_caught_75 : decode cX13_caught 75 = .ok (.iadd, 1) := by decide +kernel
theorem dX13_caught_76 : decode cX13_caught 76 = .ok (.iaload, 1) := by decide +kernel
theorem dX13_caught_77 : decode cX13_caught 77 = .ok (.iload_n 3, 1) := by decide +kernel
theorem dX13_caught_78 : decode cX13_caught 78 = .ok (.iand, 1) := by decide +kernel
theorem dX13_caught_79 : decode cX13_caught 79 = .ok (.iload_n 2, 1) := by decide +kernel
theorem dX13_caught_80 : decode cX13_caught 80 = .ok (.iconst (-1), 1) := by decide +kernel
theorem dX13_caught_81 : decode cX13_caught 81 = .ok (.ixor, 1) := by decide +kernel
theorem dX13_caught_82 : decode cX13_caught 82 = .ok (.iand, 1) := by decide +kernel
theorem dX13_caught_91 : decode cX13_caught 91 = .ok (.istore 7, 2) := by decide +kernel
theorem dX13_caught_93 : decode cX13_caught 93 = .ok (.iload 5, 2) := by decide +kernel
theorem dX13_caught_95 : decode cX13_caught 95 = .ok (.iload 7, 2) := by decide +kernel
theorem dX13_caught_132 : decode cX13_caught 132 = .ok (.ior, 1) := by decide +kernel
theorem dX13_caught_133 : decode cX13_caught 133 = .ok (.istore 5, 2) := by decide +kernel
theorem dX13_caught_135 : decode cX13_caught 135 = .ok (.iinc 6 1, 3) := by decide +kernel
theorem dX13_caught_138 : decode cX13_caught 138 = .ok (.goto (-82), 3) := by decide +kernel
theorem dX13_caught_97 : decode cX13_caught 97 = .ok (.ifCond .eq 34, 3) := by decide +kernel
theorem dX13_caught_131 : decode cX13_caught 131 = .ok (.iconst 0, 1) := by decide +kernel
theorem dX13_caught_100 : decode cX13_caught 100 = .ok (.iload_n 2, 1) := by decide +kernel
theorem dX13_caught_101 : decode cX13_caught 101 = .ok (.iload 6, 2) := by decide +kernel
theorem dX13_caught_103 : decode cX13_caught 103 = .ok (.invokestatic 584, 3) := by decide +kernel
theorem dX13_caught_106 : decode cX13_caught 106 = .ok (.ifCond .ne 25, 3) := by decide +kernel
theorem dX13_caught_109 : decode cX13_caught 109 = .ok (.aload_n 0, 1) := by decide +kernel
theorem dX13_caught_110 : decode cX13_caught 110 = .ok (.iload 6, 2) := by decide +kernel
theorem dX13_caught_112 : decode cX13_caught 112 = .ok (.iconst 0, 1) := by decide +kernel
theorem dX13_caught_113 : decode cX13_caught 113 = .ok (.invokevirtual 207, 3) := by decide +kernel
theorem dX13_caught_116 : decode cX13_caught 116 = .ok (.aload_n 0, 1) := by decide +kernel
theorem dX13_caught_117 : decode cX13_caught 117 = .ok (.iconst 2, 1) := by decide +kernel
theorem dX13_caught_118 : decode cX13_caught 118 = .ok (.invokevirtual 412, 3) := by decide +kernel
theorem dX13_caught_121 : decode cX13_caught 121 = .ok (.if_icmp .gt 10, 3) := by decide +kernel
theorem dX13_caught_124 : decode cX13_caught 124 = .ok (.iconst 1, 1) := by decide +kernel
theorem dX13_caught_125 : decode cX13_caught 125 = .ok (.iload 6, 2) := by decide +kernel
theorem dX13_caught_127 : decode cX13_caught 127 = .ok (.ishl, 1) := by decide +kernel
theorem dX13_caught_128 : decode cX13_caught 128 = .ok (.goto 4, 3) := by decide +kernel
theorem dX13_caught_83 : decode cX13_caught 83 = .ok (.ifCond .eq 7, 3) := by decide +kernel
theorem dX13_caught_90 : decode cX13_caught 90 = .ok (.iconst 0, 1) := by decide +kernel
theorem dX13_caught_86 : decode cX13_caught 86 = .ok (.iconst 1, 1) := by decide +kernel
theorem dX13_caught_87 : decode cX13_caught 87 = .ok (.goto 4, 3) := by decide +kernel
theorem dX13_caught_18 : decode cX13_caught 18 = .ok (.iload_n 3, 1) := by decide +kernel
theorem dX13_caught_19 : decode cX13_caught 19 = .ok (.aload_n 0, 1) := by decide +kernel
theorem dX13_caught_20 : decode cX13_caught 20 = .ok (.iload 4, 2) := by decide +kernel
theorem dX13_caught_22 : decode cX13_caught 22 = .ok (.iconst 3, 1) := by decide +kernel
theorem dX13_caught_23 : decode cX13_caught 23 = .ok (.invokevirtual 207, 3) := by decide +kernel
theorem dX13_caught_26 : decode cX13_caught 26 = .ok (.iload 4, 2) := by decide +kernel
theorem dX13_caught_28 : decode cX13_caught 28 = .ok (.ishl, 1) := by decide +kernel
theorem dX13_caught_29 : decode cX13_caught 29 = .ok (.ior, 1) := by decide +kernel
theorem dX13_caught_30 : decode cX13_caught 30 = .ok (.istore_n 3, 1) := by decide +kernel
theorem dX13_caught_31 : decode cX13_caught 31 = .ok (.iinc 4 1, 3) := by decide +kernel
theorem dX13_caught_34 : decode cX13_caught 34 = .ok (.goto (-27), 3) := by decide +kernel
set_option maxHeartbeats 4000000 in
set_option maxRecDepth 100000 in
theorem k_X13_caught (l : Launch) (D : va_G) (cy : Nat → ClassId) (ld ad : Nat → Nat) (am : Nat) (hD : mz_D ad am) (Fa : Nat → Int32) (Ga : Nat → Int64) (Ra : Nat → Nat → Int32) (Sa : Nat → Nat → Int64) (p1 : Int32) (p2 : Int32) (hIF : mz_IF true Fa) (hIG : mz_IG Ga) (hIR : mz_IR [] true Ra) (hp_0 : 0 ≤ p1.toInt) (hp_1 : p1.toInt ≤ 7) : Met l yX13_caught (wl yX13_caught cX13_caught 8 (some .int)) ({ frames := 4, cells := 0, slots := 0, locals := 210 }) (mz_p D cy ld ad am Fa Ga Ra Sa [.ref am, .int p1, .int p2]) (mz_i D cy ad am (fun r F G R S => mz_IF true F ∧ mz_IG G ∧ mz_IR [] true R ∧ (∀ k : Nat, k ∉ ([60] : List Nat) → F k = Fa k) ∧ (∀ k : Nat, k ∉ ([] : List Nat) → R k = Ra k) ∧ (∀ k : Nat, k ∉ ([] : List Nat) → G k = Ga k) ∧ 0 ≤ r.toInt ∧ r.toInt ≤ 255)) 0 0 (mz_W ad am) := by sorry
