/-- what falls while a row of digits is counted up -/
def oM (f : Nat → Int32) (b : Int) (c n : Nat) : Nat → Int
  | 0 => 0
  | k + 1 => oM f b c n k + (b - (f k).toInt) * ((c ^ (n - k) : Nat) : Int)
theorem oM.s (f : Nat → Int32) (b : Int) (c n k : Nat) : oM f b c n (k + 1) = oM f b c n k + (b - (f k).toInt) * ((c ^ (n - k) : Nat) : Int) := rfl
theorem oM.congr {f g : Nat → Int32} {b : Int} {c n : Nat} (e : Nat) (h : ∀ j : Nat, j < e → g j = f j) : ∀ k : Nat, k ≤ e → oM g b c n k = oM f b c n k := by
  intro k
  induction k with
  | zero => intro _; rfl
  | succ k ih =>
    intro hk
    rw [oM.s, oM.s, ih (by omega), h k (by omega)]
theorem oM.nn {f : Nat → Int32} {b : Int} {c n : Nat} : ∀ k : Nat, (∀ j : Nat, j < k → (f j).toInt ≤ b) → 0 ≤ oM f b c n k := by
  intro k
  induction k with
  | zero => intro _; exact Int.le_refl 0
  | succ k ih =>
    intro h
    rw [oM.s]
    have h1 := ih (fun j hj => h j (by omega))
    have h2 := h k (by omega)
    have h3 : 0 ≤ (b - (f k).toInt) * ((c ^ (n - k) : Nat) : Int) := Int.mul_nonneg (by omega) (by omega)
    omega
theorem oM.up {f : Nat → Int32} {b : Int} {c n K : Nat} {x : Int32} (hx : x.toInt = (f K).toInt + 1) : oM (upd f K x) b c n (K + 1) = oM f b c n (K + 1) - ((c ^ (n - K) : Nat) : Int) := by
  rw [oM.s, oM.s, oM.congr (f := f) (g := upd f K x) K (fun j hj => pk_un (by omega)) K (Nat.le_refl _), pk_us, hx, show b - ((f K).toInt + 1) = (b - (f K).toInt) - 1 by omega, Int.sub_mul, Int.one_mul]
  omega
theorem od_st {f g : Nat → Int32} {b : Int} {c n K N k : Nat} {x : Int32} (hm : oM f b c n k < ((N + 1 : Nat) : Int)) (hk : k = K + 1) (hU : g = upd f K x) (hx : x.toInt = (f K).toInt + 1) (hc : 0 < c) : oM g b c n k < (N : Int) := by
  subst hk
  rw [hU, oM.up hx]
  have h9 : 0 < c ^ (n - K) := Nat.pow_pos hc
  omega
theorem od_dn {f g : Nat → Int32} {b : Int} {c n K N k : Nat} {x : Int32} (hm : oM f b c n k < ((N + 1 : Nat) : Int)) (hk : k = K + 1) (hU : g = upd f K x) (hx : x.toInt = (f K).toInt + 1) (hc : 0 < c) (hb : x.toInt ≤ b) : oM g b c n K < (N : Int) := by
  have h8 := od_st hm hk hU hx hc
  subst hk
  rw [oM.s] at h8
  have h3 : 0 ≤ (b - (g K).toInt) * ((c ^ (n - K) : Nat) : Int) := Int.mul_nonneg (by rw [hU, pk_us]; omega) (by omega)
  omega
theorem od_up {f g : Nat → Int32} {b : Int} {c n K N k k2 : Nat} {x y : Int32} (hm : oM f b c n k < ((N + 1 : Nat) : Int)) (hk : k = K + 1) (hk2 : k2 = K + 2) (hU : g = upd (upd f K x) (K + 1) y) (hx : x.toInt = (f K).toInt + 1) (hy : y.toInt = -1) (hb0 : 0 ≤ b) (hb : b + 1 < (c : Int)) (hn : K < n) : oM g b c n k2 < (N : Int) := by
  subst hk
  subst hk2
  rw [hU, oM.s, oM.congr (f := upd f K x) (g := upd (upd f K x) (K + 1) y) (K + 1) (fun j hj => pk_un (by omega)) (K + 1) (Nat.le_refl _), pk_us, oM.up hx, hy]
  have e : c ^ (n - K) = c ^ (n - (K + 1)) * c := by rw [← Nat.pow_succ]; congr 1; omega
  have h9 : 0 < c ^ (n - (K + 1)) := Nat.pow_pos (by omega)
  rw [e]
  generalize c ^ (n - (K + 1)) = w at h9 ⊢
  have h7 : (b - -1) * (w : Int) < ((w * c : Nat) : Int) := by
    rw [Int.natCast_mul, Int.mul_comm]
    exact Int.mul_lt_mul_of_pos_left (by omega) (by omega)
  omega
theorem od_r0 {f g : Nat → Int32} {k k1 lo hi : Int} {K : Nat} {x : Int32} (h : ∀ j : Nat, (j : Int) ≤ k → lo ≤ (f j).toInt ∧ (f j).toInt ≤ hi) (hU : g = upd f K x) (hK : (K : Int) = k) (hk : k1 = k - 1) : ∀ j : Nat, (j : Int) ≤ k1 → lo ≤ (g j).toInt ∧ (g j).toInt ≤ hi := fun j hj => by
  rw [hU, pk_un (by omega)]
  exact h j (by omega)
theorem od_r1 {f g : Nat → Int32} {k lo hi : Int} {K : Nat} {x : Int32} (h : ∀ j : Nat, (j : Int) ≤ k → lo ≤ (f j).toInt ∧ (f j).toInt ≤ hi) (hU : g = upd f K x) (h1 : lo ≤ x.toInt) (h2 : x.toInt ≤ hi) : ∀ j : Nat, (j : Int) ≤ k → lo ≤ (g j).toInt ∧ (g j).toInt ≤ hi := fun j hj => by
  rw [hU]
  by_cases e : j = K
  · rw [e, pk_us]
    exact ⟨h1, h2⟩
  · rw [pk_un e]
    exact h j hj
theorem od_r2 {f g : Nat → Int32} {k k1 lo hi : Int} {K : Nat} {x y : Int32} (h : ∀ j : Nat, (j : Int) ≤ k → lo ≤ (f j).toInt ∧ (f j).toInt ≤ hi) (hU : g = upd (upd f K x) (K + 1) y) (hK : (K : Int) = k) (hk : k1 = k + 1) (h1 : lo ≤ x.toInt) (h2 : x.toInt ≤ hi) (h3 : lo ≤ y.toInt) (h4 : y.toInt ≤ hi) : ∀ j : Nat, (j : Int) ≤ k1 → lo ≤ (g j).toInt ∧ (g j).toInt ≤ hi := fun j hj => by
  rw [hU]
  by_cases e : j = K + 1
  · rw [e, pk_us]
    exact ⟨h3, h4⟩
  · rw [pk_un e]
    by_cases e2 : j = K
    · rw [e2, pk_us]
      exact ⟨h1, h2⟩
    · rw [pk_un e2]
      exact h j (by omega)
theorem hd_yX13_weighMade : yX13_weighMade.cls ≠ "java/lang/invoke/MethodHandle" ∧ yX13_weighMade.cls ≠ "java/lang/invoke/VarHandle" ∧ (parseMethodDescriptor yX13_weighMade.desc).map (fun d => d.parameters.length) = some 2 := by decide +kernel
theorem dX13_made_0 : decode cX13_made 0 = .ok (.aload_n 0, 1) := by decide +kernel
theorem dX13_made_1 : decode cX13_made 1 = .ok (.iconst 0, 1) := by decide +kernel
theorem dX13_made_2 : decode cX13_made 2 = .ok (.putfield 170, 3) := by decide +kernel
theorem dX13_made_5 : decode cX13_made 5 = .ok (.iload_n 1, 1) := by decide +kernel
theorem dX13_made_6 : decode cX13_made 6 = .ok (.i2l, 1) := by decide +kernel
theorem dX13_made_7 : decode cX13_made 7 = .ok (.lconst 1, 1) := by decide +kernel
theorem dX13_made_8 : decode cX13_made 8 = .ok (.ldc2_w 563, 3) := by decide +kernel
theorem dX13_made_11 : decode cX13_made 11 = .ok (.invokestatic 190, 3) := by decide +kernel
theorem dX13_made_14 : decode cX13_made 14 = .ok (.ifCond .eq 17, 3) := by decide +kernel
theorem dX13_made_31 : decode cX13_made 31 = .ok (.iconst (-1), 1) := by decide +kernel
theorem dX13_made_32 : decode cX13_made 32 = .ok (.ireturn, 1) := by decide +kernel
theorem dX13_made_17 : decode cX13_made 17 = .ok (.iload_n 2, 1) := by decide +kernel
theorem dX13_made_18 : decode cX13_made 18 = .ok (.i2l, 1) := by decide +kernel
theorem dX13_made_19 : decode cX13_made 19 = .ok (.ldc2_w 263, 3) := by decide +kernel
theorem dX13_made_22 : decode cX13_made 22 = .ok (.ldc2_w 533, 3) := by decide +kernel
theorem dX13_made_25 : decode cX13_made 25 = .ok (.invokestatic 190, 3) := by decide +kernel
theorem dX13_made_28 : decode cX13_made 28 = .ok (.ifCond .ne 5, 3) := by decide +kernel
theorem dX13_made_33 : decode cX13_made 33 = .ok (.aload_n 0, 1) := by decide +kernel
theorem dX13_made_34 : decode cX13_made 34 = .ok (.iconst (-1), 1) := by decide +kernel
theorem dX13_made_35 : decode cX13_made 35 = .ok (.putfield 557, 3) := by decide +kernel
theorem dX13_made_38 : decode cX13_made 38 = .ok (.aload_n 0, 1) := by decide +kernel
theorem dX13_made_39 : decode cX13_made 39 = .ok (.iconst 0, 1) := by decide +kernel
theorem dX13_made_40 : decode cX13_made 40 = .ok (.putfield 560, 3) := by decide +kernel
theorem dX13_made_43 : decode cX13_made 43 = .ok (.iconst 0, 1) := by decide +kernel
theorem dX13_made_44 : decode cX13_made 44 = .ok (.istore_n 3, 1) := by decide +kernel
theorem dX13_made_45 : decode cX13_made 45 = .ok (.aload_n 0, 1) := by decide +kernel
theorem dX13_made_46 : decode cX13_made 46 = .ok (.getfield 140, 3) := by decide +kernel
theorem dX13_made_49 : decode cX13_made 49 = .ok (.iconst 0, 1) := by decide +kernel
theorem dX13_made_50 : decode cX13_made 50 = .ok (.iconst (-1), 1) := by decide +kernel
theorem dX13_made_51 : decode cX13_made 51 = .ok (.iastore, 1) := by decide +kernel
theorem dX13_made_52 : decode cX13_made 52 = .ok (.iload_n 3, 1) := by decide +kernel
theorem dX13_made_53 : decode cX13_made 53 = .ok (.ifCond .lt 61, 3) := by decide +kernel
theorem dX13_made_114 : decode cX13_made 114 = .ok (.iload_n 2, 1) := by decide +kernel
theorem dX13_made_115 : decode cX13_made 115 = .ok (.iconst (-1), 1) := by decide +kernel
theorem dX13_made_116 : decode cX13_made 116 = .ok (.if_icmp .ne 10, 3) := by decide +kernel
theorem dX13_made_126 : decode cX13_made 126 = .ok (.iload_n 2, 1) := by decide +kernel
theorem dX13_made_127 : decode cX13_made 127 = .ok (.aload_n 0, 1) := by decide +kernel
theorem dX13_made_128 : decode cX13_made 128 = .ok (.getfield 560, 3) := by decide +kernel
theorem dX13_made_131 : decode cX13_made 131 = .ok (.if_icmp .ge 12, 3) := by decide +kernel
theorem dX13_made_143 : decode cX13_made 143 = .ok (.iconst (-1), 1) := by decide +kernel
theorem dX13_made_144 : decode cX13_made 144 = .ok (.ireturn, 1) := by decide +kernel
theorem dX13_made_134 : decode cX13_made 134 = .ok (.aload_n 0, 1) := by decide +kernel
theorem dX13_made_135 : decode cX13_made 135 = .ok (.getfield 143, 3) := by decide +kernel
theorem dX13_made_138 : decode cX13_made 138 = .ok (.iload_n 2, 1) := by decide +kernel
theorem dX13_made_139 : decode cX13_made 139 = .ok (.iaload, 1) := by decide +kernel
theorem dX13_made_140 : decode cX13_made 140 = .ok (.goto 4, 3) := by decide +kernel
theorem dX13_made_119 : decode cX13_made 119 = .ok (.aload_n 0, 1) := by decide +kernel
theorem dX13_made_120 : decode cX13_made 120 = .ok (.getfield 557, 3) := by decide +kernel
theorem dX13_made_123 : decode cX13_made 123 = .ok (.goto 21, 3) := by decide +kernel
theorem dX13_made_56 : decode cX13_made 56 = .ok (.aload_n 0, 1) := by decide +kernel
theorem dX13_made_57 : decode cX13_made 57 = .ok (.getfield 140, 3) := by decide +kernel
theorem dX13_made_60 : decode cX13_made 60 = .ok (.iload_n 3, 1) := by decide +kernel
theorem dX13_made_61 : decode cX13_made 61 = .ok (.dup2, 1) := by decide +kernel
theorem dX13_made_62 : decode cX13_made 62 = .ok (.iaload, 1) := by decide +kernel
theorem dX13_made_63 : decode cX13_made 63 = .ok (.iconst 1, 1) := by decide +kernel
theorem dX13_made_64 : decode cX13_made 64 = .ok (.iadd, 1) := by decide +kernel
theorem dX13_made_65 : decode cX13_made 65 = .ok (.iastore, 1) := by decide +kernel
theorem dX13_made_66 : decode cX13_made 66 = .ok (.aload_n 0, 1) := by decide +kernel
theorem dX13_made_67 : decode cX13_made 67 = .ok (.getfield 140, 3) := by decide +kernel
theorem dX13_made_70 : decode cX13_made 70 = .ok (.iload_n 3, 1) := by decide +kernel
theorem dX13_made_71 : decode cX13_made 71 = .ok (.iaload, 1) := by decide +kernel
theorem dX13_made_72 : decode cX13_made 72 = .ok (.aload_n 0, 1) := by decide +kernel
theorem dX13_made_73 : decode cX13_made 73 = .ok (.getfield 13, 3) := by decide +kernel
theorem dX13_made_76 : decode cX13_made 76 = .ok (.iconst 2, 1) := by decide +kernel
theorem dX13_made_77 : decode cX13_made 77 = .ok (.iaload, 1) := by decide +kernel
theorem dX13_made_78 : decode cX13_made 78 = .ok (.if_icmp .lt 9, 3) := by decide +kernel
theorem dX13_made_87 : decode cX13_made 87 = .ok (.aload_n 0, 1) := by decide +kernel
theorem dX13_made_88 : decode cX13_made 88 = .ok (.iload_n 3, 1) := by decide +kernel
theorem dX13_made_89 : decode cX13_made 89 = .ok (.iload_n 1, 1) := by decide +kernel
theorem dX13_made_90 : decode cX13_made 90 = .ok (.invokevirtual 565, 3) := by decide +kernel
theorem dX13_made_93 : decode cX13_made 93 = .ok (.ifCond .eq (-41), 3) := by decide +kernel
theorem dX13_made_96 : decode cX13_made 96 = .ok (.iload_n 3, 1) := by decide +kernel
theorem dX13_made_97 : decode cX13_made 97 = .ok (.iconst 3, 1) := by decide +kernel
theorem dX13_made_98 : decode cX13_made 98 = .ok (.if_icmp .ge (-46), 3) := by decide +kernel
theorem dX13_made_101 : decode cX13_made 101 = .ok (.iinc 3 1, 3) := by decide +kernel
theorem dX13_made_104 : decode cX13_made 104 = .ok (.aload_n 0, 1) := by decide +kernel
theorem dX13_made_105 : decode cX13_made 105 = .ok (.getfield 140, 3) := by decide +kernel
theorem dX13_made_108 : decode cX13_made 108 = .ok (.iload_n 3, 1) := by decide +kernel
theorem dX13_made_109 : decode cX13_made 109 = .ok (.iconst (-1), 1) := by decide +kernel
theorem dX13_made_110 : decode cX13_made 110 = .ok (.iastore, 1) := by decide +kernel
theorem dX13_made_111 : decode cX13_made 111 = .ok (.goto (-59), 3) := by decide +kernel
theorem dX13_made_81 : decode cX13_made 81 = .ok (.iinc 3 (-1), 3) := by decide +kernel
theorem dX13_made_84 : decode cX13_made 84 = .ok (.goto (-32), 3) := by decide +kernel
set_option maxHeartbeats 4000000 in
set_option maxRecDepth 100000 in
theorem k_X13_made (l : Launch) (D : va_G) (cy : Nat → ClassId) (ld ad : Nat → Nat) (am : Nat) (hD : mz_D ad am) (Fa : Nat → Int32) (Ga : Nat → Int64) (Ra : Nat → Nat → Int32) (Sa : Nat → Nat → Int64) (p1 : Int32) (p2 : Int32) (hIF : mz_IF true Fa) (hIG : mz_IG Ga) (hIR : mz_IR [] true Ra) : Met l yX13_made (wl yX13_made cX13_made 4 (some .int)) ({ frames := 5, cells := 0, slots := 0, locals := 280 }) (mz_p D cy ld ad am Fa Ga Ra Sa [.ref am, .int p1, .int p2]) (mz_i D cy ad am (fun r F G R S => mz_IF true F ∧ mz_IG G ∧ mz_IR [] true R ∧ (∀ k : Nat, k ∉ ([0, 57, 58] : List Nat) → F k = Fa k) ∧ (∀ k : Nat, k ∉ ([55, 56] : List Nat) → R k = Ra k) ∧ (∀ k : Nat, k ∉ ([] : List Nat) → G k = Ga k))) 0 0 (mz_W ad am) := by sorry
