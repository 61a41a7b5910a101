section
/-- what falls while a row of digits is counted up -/
def oM (f : Nat → Int32) (b : Int) (c n : Nat) : Nat → Int
  | 0 => 0
  | k + 1 => oM f b c n k + (b - (f k).toInt) * ((c ^ (n - k) : Nat) : Int)
theorem oM.s (f : Nat → Int32) (b : Int) (c n k : Nat) : oM f b c n (k + 1) = oM f b c n k + (b - (f k).toInt) * ((c ^ (n - k) : Nat) : Int) := rfl
theorem oM.congr {f g : Nat → Int32} {b : Int} {c n : Nat} (e : Nat) (h : ∀ j : Nat, j < e → g j = f j) : ∀ k : Nat, k ≤ e → oM g b c n k = oM f b c n k := by
  intro k
  induction k with
  | zero => intro _; rfl
  | succ k ih =>
    intro hk
    rw [oM.s, oM.s, ih (by omega), h k (by omega)]
theorem oM.nn {f : Nat → Int32} {b : Int} {c n : Nat} : ∀ k : Nat, (∀ j : Nat, j < k → (f j).toInt ≤ b) → 0 ≤ oM f b c n k := by
  intro k
  induction k with
  | zero => intro _; exact Int.le_refl 0
  | succ k ih =>
    intro h
    rw [oM.s]
    have h1 := ih (fun j hj => h j (by omega))
    have h2 := h k (by omega)
    have h3 : 0 ≤ (b - (f k).toInt) * ((c ^ (n - k) : Nat) : Int) := Int.mul_nonneg (by omega) (by omega)
    omega
theorem oM.up {f : Nat → Int32} {b : Int} {c n K : Nat} {x : Int32} (hx : x.toInt = (f K).toInt + 1) : oM (upd f K x) b c n (K + 1) = oM f b c n (K + 1) - ((c ^ (n - K) : Nat) : Int) := by
  rw [oM.s, oM.s, oM.congr (f := f) (g := upd f K x) K (fun j hj => pk_un (by omega)) K (Nat.le_refl _), pk_us, hx, show b - ((f K).toInt + 1) = (b - (f K).toInt) - 1 by omega, Int.sub_mul, Int.one_mul]
  omega
theorem od_st {f g : Nat → Int32} {b : Int} {c n K N k : Nat} {x : Int32} (hm : oM f b c n k < ((N + 1 : Nat) : Int)) (hk : k = K + 1) (hU : g = upd f K x) (hx : x.toInt = (f K).toInt + 1) (hc : 0 < c) : oM g b c n k < (N : Int) := by
  subst hk
  rw [hU, oM.up hx]
  have h9 : 0 < c ^ (n - K) := Nat.pow_pos hc
  omega
theorem od_dn {f g : Nat → Int32} {b : Int} {c n K N k : Nat} {x : Int32} (hm : oM f b c n k < ((N + 1 : Nat) : Int)) (hk : k = K + 1) (hU : g = upd f K x) (hx : x.toInt = (f K).toInt + 1) (hc : 0 < c) (hb : x.toInt ≤ b) : oM g b c n K < (N : Int) := by
  have h8 := od_st hm hk hU hx hc
  subst hk
  rw [oM.s] at h8
  have h3 : 0 ≤ (b - (g K).toInt) * ((c ^ (n - K) : Nat) : Int) := Int.mul_nonneg (by rw [hU, pk_us]; omega) (by omega)
  omega
theorem od_up {f g : Nat → Int32} {b : Int} {c n K N k k2 : Nat} {x y : Int32} (hm : oM f b c n k < ((N + 1 : Nat) : Int)) (hk : k = K + 1) (hk2 : k2 = K + 2) (hU : g = upd (upd f K x) (K + 1) y) (hx : x.toInt = (f K).toInt + 1) (hy : y.toInt = -1) (hb0 : 0 ≤ b) (hb : b + 1 < (c : Int)) (hn : K < n) : oM g b c n k2 < (N : Int) := by
  subst hk
  subst hk2
  rw [hU, oM.s, oM.congr (f := upd f K x) (g := upd (upd f K x) (K + 1) y) (K + 1) (fun j hj => pk_un (by omega)) (K + 1) (Nat.le_refl _), pk_us, oM.up hx, hy]
  have e : c ^ (n - K) = c ^ (n - (K + 1)) * c := by rw [← Nat.pow_succ]; congr 1; omega
  have h9 : 0 < c ^ (n - (K + 1)) := Nat.pow_pos (by omega)
  rw [e]
  generalize c ^ (n - (K + 1)) = w at h9 ⊢
  have h7 : (b - -1) * (w : Int) < ((w * c : Nat) : Int) := by
    rw [Int.natCast_mul, Int.mul_comm]
    exact Int.mul_lt_mul_of_pos_left (by omega) (by omega)
  omega
theorem od_r0 {f g : Nat → Int32} {k k1 lo hi : Int} {K : Nat} {x : Int32} (h : ∀ j : Nat, (j : Int) ≤ k → lo ≤ (f j).toInt ∧ (f j).toInt ≤ hi) (hU : g = upd f K x) (hK : (K : Int) = k) (hk : k1 = k - 1) : ∀ j : Nat, (j : Int) ≤ k1 → lo ≤ (g j).toInt ∧ (g j).toInt ≤ hi := fun j hj => by
  rw [hU, pk_un (by omega)]
  exact h j (by omega)
theorem od_r1 {f g : Nat → Int32} {k lo hi : Int} {K : Nat} {x : Int32} (h : ∀ j : Nat, (j : Int) ≤ k → lo ≤ (f j).toInt ∧ (f j).toInt ≤ hi) (hU : g = upd f K x) (h1 : lo ≤ x.toInt) (h2 : x.toInt ≤ hi) : ∀ j : Nat, (j : Int) ≤ k → lo ≤ (g j).toInt ∧ (g j).toInt ≤ hi := fun j hj => by
  rw [hU]
  by_cases e : j = K
  · rw [e, pk_us]
    exact ⟨h1, h2⟩
  · rw [pk_un e]
    exact h j hj
theorem od_r2 {f g : Nat → Int32} {k k1 lo hi : Int} {K : Nat} {x y : Int32} (h : ∀ j : Nat, (j : Int) ≤ k → lo ≤ (f j).toInt ∧ (f j).toInt ≤ hi) (hU : g = upd (upd f K x) (K + 1) y) (hK : (K : Int) = k) (hk : k1 = k + 1) (h1 : lo ≤ x.toInt) (h2 : x.toInt ≤ hi) (h3 : lo ≤ y.toInt) (h4 : y.toInt ≤ hi) : ∀ j : Nat, (j : Int) ≤ k1 → lo ≤ (g j).toInt ∧ (g j).toInt ≤ hi := fun j hj => by
  rw [hU]
  by_cases e : j = K + 1
  · rw [e, pk_us]
    exact ⟨h3, h4⟩
  · rw [pk_un e]
    by_cases e2 : j = K
    · rw [e2, pk_us]
      exact ⟨h1, h2⟩
    · rw [pk_un e2]
      exact h j (by omega)
theorem hd_yX13_weighMade : yX13_weighMade.cls ≠ "java/lang/invoke/MethodHandle" ∧ yX13_weighMade.cls ≠ "java/lang/invoke/VarHandle" ∧ (parseMethodDescriptor yX13_weighMade.desc).map (fun d => d.parameters.length) = some 2 := by decide +kernel
theorem dX13_made_0 : decode cX13_made 0 = .ok (.aload_n 0, 1) := by decide +kernel
theorem dX13_made_1 : decode cX13_made 1 = .ok (.iconst 0, 1) := by decide +kernel
theorem dX13_made_2 : decode cX13_made 2 = .ok (.putfield 170, 3) := by decide +kernel
theorem dX13_made_5 : decode cX13_made 5 = .ok (.iload_n 1, 1) := by decide +kernel
theorem dX13_made_6 : decode cX13_made 6 = .ok (.i2l, 1) := by decide +kernel
theorem dX13_made_7 : decode cX13_made 7 = .ok (.lconst 1, 1) := by decide +kernel
theorem dX13_made_8 : decode cX13_made 8 = .ok (.ldc2_w 563, 3) := by decide +kernel
theorem dX13_made_11 : decode cX13_made 11 = .ok (.invokestatic 190, 3) := by decide +kernel
theorem dX13_made_14 : decode cX13_made 14 = .ok (.ifCond .eq 17, 3) := by decide +kernel
theorem dX13_made_31 : decode cX13_made 31 = .ok (.iconst (-1), 1) := by decide +kernel
theorem dX13_made_32 : decode cX13_made 32 = .ok (.ireturn, 1) := by decide +kernel
theorem dX13_made_17 : decode cX13_made 17 = .ok (.iload_n 2, 1) := by decide +kernel
theorem dX13_made_18 : decode cX13_made 18 = .ok (.i2l, 1) := by decide +kernel
theorem dX13_made_19 : decode cX13_made 19 = .ok (.ldc2_w 263, 3) := by decide +kernel
theorem dX13_made_22 : decode cX13_made 22 = .ok (.ldc2_w 533, 3) := by decide +kernel
theorem dX13_made_25 : decode cX13_made 25 = .ok (.invokestatic 190, 3) := by decide +kernel
theorem dX13_made_28 : decode cX13_made 28 = .ok (.ifCond .ne 5, 3) := by decide +kernel
theorem dX13_made_33 : decode cX13_made 33 = .ok (.aload_n 0, 1) := by decide +kernel
theorem dX13_made_34 : decode cX13_made 34 = .ok (.iconst (-1), 1) := by decide +kernel
theorem dX13_made_35 : decode cX13_made 35 = .ok (.putfield 557, 3) := by decide +kernel
theorem dX13_made_38 : decode cX13_made 38 = .ok (.aload_n 0, 1) := by decide +kernel
theorem dX13_made_39 : decode cX13_made 39 = .ok (.iconst 0, 1) := by decide +kernel
theorem dX13_made_40 : decode cX13_made 40 = .ok (.putfield 560, 3) := by decide +kernel
theorem dX13_made_43 : decode cX13_made 43 = .ok (.iconst 0, 1) := by decide +kernel
theorem dX13_made_44 : decode cX13_made 44 = .ok (.istore_n 3, 1) := by decide +kernel
theorem dX13_made_45 : decode cX13_made 45 = .ok (.aload_n 0, 1) := by decide +kernel
theorem dX13_made_46 : decode cX13_made 46 = .ok (.getfield 140, 3) := by decide +kernel
theorem dX13_made_49 : decode cX13_made 49 = .ok (.iconst 0, 1) := by decide +kernel
theorem dX13_made_50 : decode cX13_made 50 = .ok (.iconst (-1), 1) := by decide +kernel
theorem dX13_made_51 : decode cX13_made 51 = .ok (.iastore, 1) := by decide +kernel
theorem dX13_made_52 : decode cX13_made 52 = .ok (.iload_n 3, 1) := by decide +kernel
theorem dX13_made_53 : decode cX13_made 53 = .ok (.ifCond .lt 61, 3) := by decide +kernel
theorem dX13_made_114 : decode cX13_made 114 = .ok (.iload_n 2, 1) := by decide +kernel
theorem dX13_made_115 : decode cX13_made 115 = .ok (.iconst (-1), 1) := by decide +kernel
theorem dX13_made_116 : decode cX13_made 116 = .ok (.if_icmp .ne 10, 3) := by decide +kernel
theorem dX13_made_126 : decode cX13_made 126 = .ok (.iload_n 2, 1) := by decide +kernel
theorem dX13_made_127 : decode cX13_made 127 = .ok (.aload_n 0, 1) := by decide +kernel
theorem dX13_made_128 : decode cX13_made 128 = .ok (.getfield 560, 3) := by decide +kernel
theorem dX13_made_131 : decode cX13_made 131 = .ok (.if_icmp .ge 12, 3) := by decide +kernel
theorem dX13_made_143 : decode cX13_made 143 = .ok (.iconst (-1), 1) := by decide +kernel
theorem dX13_made_144 : decode cX13_made 144 = .ok (.ireturn, 1) := by decide +kernel
theorem dX13_made_134 : decode cX13_made 134 = .ok (.aload_n 0, 1) := by decide +kernel
theorem dX13_made_135 : decode cX13_made 135 = .ok (.getfield 143, 3) := by decide +kernel
theorem dX13_made_138 : decode cX13_made 138 = .ok (.iload_n 2, 1) := by decide +kernel
theorem dX13_made_139 : decode cX13_made 139 = .ok (.iaload, 1) := by decide +kernel
theorem dX13_made_140 : decode cX13_made 140 = .ok (.goto 4, 3) := by decide +kernel
theorem dX13_made_119 : decode cX13_made 119 = .ok (.aload_n 0, 1) := by decide +kernel
theorem dX13_made_120 : decode cX13_made 120 = .ok (.getfield 557, 3) := by decide +kernel
theorem dX13_made_123 : decode cX13_made 123 = .ok (.goto 21, 3) := by decide +kernel
theorem dX13_made_56 : decode cX13_made 56 = .ok (.aload_n 0, 1) := by decide +kernel
theorem dX13_made_57 : decode cX13_made 57 = .ok (.getfield 140, 3) := by decide +kernel
theorem dX13_made_60 : decode cX13_made 60 = .ok (.iload_n 3, 1) := by decide +kernel
theorem dX13_made_61 : decode cX13_made 61 = .ok (.dup2, 1) := by decide +kernel
theorem dX13_made_62 : decode cX13_made 62 = .ok (.iaload, 1) := by decide +kernel
theorem dX13_made_63 : decode cX13_made 63 = .ok (.iconst 1, 1) := by decide +kernel
theorem dX13_made_64 : decode cX13_made 64 = .ok (.iadd, 1) := by decide +kernel
theorem dX13_made_65 : decode cX13_made 65 = .ok (.iastore, 1) := by decide +kernel
theorem dX13_made_66 : decode cX13_made 66 = .ok (.aload_n 0, 1) := by decide +kernel
theorem dX13_made_67 : decode cX13_made 67 = .ok (.getfield 140, 3) := by decide +kernel
theorem dX13_made_70 : decode cX13_made 70 = .ok (.iload_n 3, 1) := by decide +kernel
theorem dX13_made_71 : decode cX13_made 71 = .ok (.iaload, 1) := by decide +kernel
theorem dX13_made_72 : decode cX13_made 72 = .ok (.aload_n 0, 1) := by decide +kernel
theorem dX13_made_73 : decode cX13_made 73 = .ok (.getfield 13, 3) := by decide +kernel
theorem dX13_made_76 : decode cX13_made 76 = .ok (.iconst 2, 1) := by decide +kernel
theorem dX13_made_77 : decode cX13_made 77 = .ok (.iaload, 1) := by decide +kernel
theorem dX13_made_78 : decode cX13_made 78 = .ok (.if_icmp .lt 9, 3) := by decide +kernel
theorem dX13_made_87 : decode cX13_made 87 = .ok (.aload_n 0, 1) := by decide +kernel
theorem dX13_made_88 : decode cX13_made 88 = .ok (.iload_n 3, 1) := by decide +kernel
theorem dX13_made_89 : decode cX13_made 89 = .ok (.iload_n 1, 1) := by decide +kernel
theorem dX13_made_90 : decode cX13_made 90 = .ok (.invokevirtual 565, 3) := by decide +kernel
theorem dX13_made_93 : decode cX13_made 93 = .ok (.ifCond .eq (-41), 3) := by decide +kernel
theorem dX13_made_96 : decode cX13_made 96 = .ok (.iload_n 3, 1) := by decide +kernel
theorem dX13_made_97 : decode cX13_made 97 = .ok (.iconst 3, 1) := by decide +kernel
theorem dX13_made_98 : decode cX13_made 98 = .ok (.if_icmp .ge (-46), 3) := by decide +kernel
theorem dX13_made_101 : decode cX13_made 101 = .ok (.iinc 3 1, 3) := by decide +kernel
theorem dX13_made_104 : decode cX13_made 104 = .ok (.aload_n 0, 1) := by decide +kernel
theorem dX13_made_105 : decode cX13_made 105 = .ok (.getfield 140, 3) := by decide +kernel
theorem dX13_made_108 : decode cX13_made 108 = .ok (.iload_n 3, 1) := by decide +kernel
theorem dX13_made_109 : decode cX13_made 109 = .ok (.iconst (-1), 1) := by decide +kernel
theorem dX13_made_110 : decode cX13_made 110 = .ok (.iastore, 1) := by decide +kernel
theorem dX13_made_111 : decode cX13_made 111 = .ok (.goto (-59), 3) := by decide +kernel
theorem dX13_made_81 : decode cX13_made 81 = .ok (.iinc 3 (-1), 3) := by decide +kernel
theorem dX13_made_84 : decode cX13_made 84 = .ok (.goto (-32), 3) := by decide +kernel
set_option maxHeartbeats 4000000 in
set_option maxRecDepth 100000 in
theorem k_X13_made (l : Launch) (D : va_G) (cy : Nat → ClassId) (ld ad : Nat → Nat) (am : Nat) (hD : mz_D ad am) (Fa : Nat → Int32) (Ga : Nat → Int64) (Ra : Nat → Nat → Int32) (Sa : Nat → Nat → Int64) (p1 : Int32) (p2 : Int32) (hIF : mz_IF true Fa) (hIG : mz_IG Ga) (hIR : mz_IR [] true Ra) : Met l yX13_made (wl yX13_made cX13_made 4 (some .int)) ({ frames := 5, cells := 0, slots := 0, locals := 280 }) (mz_p D cy ld ad am Fa Ga Ra Sa [.ref am, .int p1, .int p2]) (mz_i D cy ad am (fun r F G R S => mz_IF true F ∧ mz_IG G ∧ mz_IR [] true R ∧ (∀ k : Nat, k ∉ ([0, 57, 58] : List Nat) → F k = Fa k) ∧ (∀ k : Nat, k ∉ ([55, 56] : List Nat) → R k = Ra k) ∧ (∀ k : Nat, k ∉ ([] : List Nat) → G k = Ga k))) 0 0 (mz_W ad am) := by
  refine mz_met (y := yX13_made) (cc := cX13_made) (maxL := 4) (ret := (some .int)) (av := [.ref am, .int p1, .int p2]) _ (by decide) (Nat.le_of_ble_eq_true rfl) ?_
  intro p e s m args below meth c hx hb hr hml hts htl hown hlocks hK H locs hM hS ls hl
  have hown : s.vm.findClass RX13 = some m.cls := hown
  have hl : lv_has ls 4 [(0, .ref am), (1, .int p1), (2, .int p2)] := hl
  have hr_p1 := tk_rng p1
  have hr_p2 := tk_rng p2
  refine lv_aload_n hx hb dX13_made_0 rfl (lv_at hl 0 rfl) ?_
  refine lv_iconst (v := 0) hx hb dX13_made_1 (by decide) ?_
  have hk_0 : (0 : Int32).toInt = 0 := by decide
  refine mz_putI (ty := .int) (x := 0) hx hb htl hown hK hD hM hS 0 (Nat.le_of_ble_eq_true rfl) rfl (htl _ mw_286) (fun _ h9 => h9) rfl (tyX13_ok 0 (by decide)) rfl rfl dX13_made_2 (fun H locs F hM hS hf9 hj9 => ?_)
  have hIF := hIF.put hf9 hj9 (tk_rng _).1 (tk_rng _).2 (by decide)
  have hFF := mz_frp (K := [0, 57, 58]) (Fa := Fa) hj9 (fun _ _ => rfl) (by decide)
  have hf2 := hf9
  refine lv_iload_n hx hb dX13_made_5 rfl (lv_at hl 1 rfl) ?_
  obtain ⟨w3, e_w3, h_w3⟩ : ∃ z : Int64, p1.toInt64 = z ∧ z.toInt = p1.toInt := ⟨_, rfl, fl_w _⟩
  refine lv_i2l (v := w3) hx hb dX13_made_6 e_w3 ?_
  refine lv_lconst (v := 1) hx hb dX13_made_7 (by decide) ?_
  refine lv_ldc2 hx hb hown (htl _ mw_1470) dX13_made_8 ?_
  have hk_1 : (1 : Int64).toInt = 1 := by decide
  have hk_36 : (36 : Int64).toInt = 36 := by decide
  refine mz_Sj (As := [.long w3, .long 1, .long 36]) (rest := []) ⟨hx, hb, hml, hown, hts⟩ hK hM hS (k_X13_in l D cy ld ad am hD _ _ _ _ w3 1 36) ⟨callB_of 3 hts (wl_in mw_292) rfl rfl rfl (htl _ mw_5) (htl _ mw_290) hd_yX13_in ⟨(Nat.le_of_ble_eq_true rfl), (Nat.le_of_ble_eq_true rfl)⟩, htl _ mw_291⟩ rfl hl.1 rfl (Nat.le_of_ble_eq_true rfl) dX13_made_11 ⟨(Nat.le_of_ble_eq_true rfl), (Nat.le_of_ble_eq_true rfl)⟩ (fun v4 H locs hpo hM hS => ?_)
  obtain ⟨hpo5, hpo6, hpo10, hpo11, hpo12, hpo13⟩ := hpo
  have hq_v4 := tk_rng v4
  refine lv_if_eq (tgt := 31) hx hb dX13_made_14 (by decide) (fun c9 => ?_) (fun c9 => ?_)
  · have hc15 : v4.toInt = 0 := (fi_eq rfl (show (0 : Int32).toInt = 0 by decide)).mp c9
    refine lv_iconst (v := (-1)) hx hb dX13_made_31 (by decide) ?_
    have hk_m1 : ((-1) : Int32).toInt = (-1) := by decide
    exact mz_iret (v := (-1)) hx hb hr rfl hlocks ⟨hIF, hIG, hIR, hFF, (fun _ _ => rfl), (fun _ _ => rfl)⟩ hM hS dX13_made_32
  · have hc15 : ¬ (v4.toInt = 0) := fun h9 => c9 ((fi_eq rfl (show (0 : Int32).toInt = 0 by decide)).mpr h9)
    have hwk_16 : 1 ≤ w3.toInt ∧ w3.toInt ≤ 36 := by omega
    refine lv_iload_n hx hb dX13_made_17 rfl (lv_at hl 2 rfl) ?_
    obtain ⟨w17, e_w17, h_w17⟩ : ∃ z : Int64, p2.toInt64 = z ∧ z.toInt = p2.toInt := ⟨_, rfl, fl_w _⟩
    refine lv_i2l (v := w17) hx hb dX13_made_18 e_w17 ?_
    refine lv_ldc2 hx hb hown (htl _ mw_691) dX13_made_19 ?_
    refine lv_ldc2 hx hb hown (htl _ mw_1361) dX13_made_22 ?_
    have hk_m1 : ((-1) : Int64).toInt = (-1) := by decide
    have hk_3 : (3 : Int64).toInt = 3 := by decide
    refine mz_Sj (As := [.long w17, .long (-1), .long 3]) (rest := []) ⟨hx, hb, hml, hown, hts⟩ hK hM hS (k_X13_in l D cy ld ad am hD _ _ _ _ w17 (-1) 3) ⟨callB_of 3 hts (wl_in mw_292) rfl rfl rfl (htl _ mw_5) (htl _ mw_290) hd_yX13_in ⟨(Nat.le_of_ble_eq_true rfl), (Nat.le_of_ble_eq_true rfl)⟩, htl _ mw_291⟩ rfl hl.1 rfl (Nat.le_of_ble_eq_true rfl) dX13_made_25 ⟨(Nat.le_of_ble_eq_true rfl), (Nat.le_of_ble_eq_true rfl)⟩ (fun v18 H locs hpo hM hS => ?_)
    obtain ⟨hpo19, hpo20, hpo21, hpo22, hpo23, hpo24⟩ := hpo
    have hq_v18 := tk_rng v18
    refine lv_if_ne (tgt := 33) hx hb dX13_made_28 (by decide) (fun c9 => ?_) (fun c9 => ?_)
    · have hc26 : ¬ (v18.toInt = 0) := fun h9 => c9 ((fi_eq rfl (show (0 : Int32).toInt = 0 by decide)).mpr h9)
      have hwk_27 : (-1) ≤ w17.toInt ∧ w17.toInt ≤ 3 := by omega
      refine lv_aload_n hx hb dX13_made_33 rfl (lv_at hl 0 rfl) ?_
      refine lv_iconst (v := (-1)) hx hb dX13_made_34 (by decide) ?_
      have hk_m1 : ((-1) : Int32).toInt = (-1) := by decide
      refine mz_putI (ty := .int) (x := (-1)) hx hb htl hown hK hD hM hS 58 (Nat.le_of_ble_eq_true rfl) rfl (htl _ mw_1471) (fun _ h9 => h9) rfl (tyX13_ok 58 (by decide)) rfl rfl dX13_made_35 (fun H locs F hM hS hf9 hj9 => ?_)
      have hIF := hIF.put hf9 hj9 (tk_rng _).1 (tk_rng _).2 (by decide)
      have hFF := mz_frp (K := [0, 57, 58]) (Fa := Fa) hj9 hFF (by decide)
      have hf2 := (hj9 0 (by decide)).trans hf2
      have hf29 := hf9
      refine lv_aload_n hx hb dX13_made_38 rfl (lv_at hl 0 rfl) ?_
      refine lv_iconst (v := 0) hx hb dX13_made_39 (by decide) ?_
      have hk_0 : (0 : Int32).toInt = 0 := by decide
      have hk_0 : (0 : Int32).toInt = 0 := by decide
      refine mz_putI (ty := .int) (x := 0) hx hb htl hown hK hD hM hS 57 (Nat.le_of_ble_eq_true rfl) rfl (htl _ mw_1472) (fun _ h9 => h9) rfl (tyX13_ok 57 (by decide)) rfl rfl dX13_made_40 (fun H locs F hM hS hf9 hj9 => ?_)
      have hIF := hIF.put hf9 hj9 (show 0 ≤ (0 : Int32).toInt by omega) (show (0 : Int32).toInt ≤ 4 by omega) (by decide)
      have hFF := mz_frp (K := [0, 57, 58]) (Fa := Fa) hj9 hFF (by decide)
      have hf2 := (hj9 0 (by decide)).trans hf2
      have hf29 := (hj9 58 (by decide)).trans hf29
      have hf31 := hf9
      refine lv_iconst (v := 0) hx hb dX13_made_43 (by decide) ?_
      refine lv_istore_n (lv' := [(3, .int 0), (0, .ref am), (1, .int p1), (2, .int p2)]) hx hb dX13_made_44 rfl hl (by decide) rfl (fun ls hl => ?_)
      refine lv_aload_n hx hb dX13_made_45 rfl (lv_at hl 1 rfl) ?_
      refine mz_getR hx hb htl hown hK hM 55 (Nat.le_of_ble_eq_true rfl) (Nat.le_of_ble_eq_true rfl) (htl _ mw_236) (fun _ h9 => h9) dX13_made_46 ?_
      refine lv_iconst (v := 0) hx hb dX13_made_49 (by decide) ?_
      refine lv_iconst (v := (-1)) hx hb dX13_made_50 (by decide) ?_
      have hk_0 : (0 : Int32).toInt = 0 := by decide
      have hk_m1 : ((-1) : Int32).toInt = (-1) := by decide
      refine mz_iast (x := (-1)) hx hb hK hD hM hS 55 (Nat.le_of_ble_eq_true rfl) rfl (nn := 4) rfl (I := 0) (by decide) (by decide) (by decide) dX13_made_51 (fun H locs R hM hS hw9 hj9 => ?_)
      have hIR := hIR.put hw9 hj9 trivial
      have hRR := mz_frp (K := [55, 56]) (Fa := Ra) hj9 (fun _ _ => rfl) (by decide)
      have hf33 : R 55 0 = (-1) := (congrFun hw9 0).trans pk_us
      have hl368 : ∀ (N_l368 : Nat) (v118 : Int32) (H : Heap) (locs : List Loc) (F : Nat → Int32) (G : Nat → Int64) (R : Nat → Nat → Int32) (S : Nat → Nat → Int64), ((-1) ≤ v118.toInt) → (v118.toInt ≤ 3) → (mz_S D cy ad am F G R S H) → (va_S (mz_W ad am) s.heap H locs) → (mz_IF true F) → (mz_IG G) → (mz_IR [] true R) → (∀ k : Nat, k ∉ ([0, 57, 58] : List Nat) → F k = Fa k) → (∀ k : Nat, k ∉ ([] : List Nat) → G k = Ga k) → (∀ k : Nat, k ∉ ([55, 56] : List Nat) → R k = Ra k) → (F 0 = 0) → (∀ j : Nat, (j : Int) ≤ v118.toInt → -1 ≤ (R 55 j).toInt ∧ (R 55 j).toInt ≤ 9) → (oM (R 55) 10 12 3 (v118.toInt + 1).toNat < (N_l368 : Int)) → ∀ ls : Array Slot, lv_has ls 4 [(3, .int v118), (0, .ref am), (1, .int p1), (2, .int p2)] → W p l e ({ frames := 5, cells := 0, slots := 0, locals := 280 }) s m args below meth c H locs 0 0 (MQ below (mz_i D cy ad am (fun r F G R S => mz_IF true F ∧ mz_IG G ∧ mz_IR [] true R ∧ (∀ k : Nat, k ∉ ([0, 57, 58] : List Nat) → F k = Fa k) ∧ (∀ k : Nat, k ∉ ([55, 56] : List Nat) → R k = Ra k) ∧ (∀ k : Nat, k ∉ ([] : List Nat) → G k = Ga k))) args s 0 0 (mz_W ad am)) (F0 m 52 ls []) := by
        intro N_l368
        induction N_l368 with
        | zero => intro v118 H locs F G R S hq0_l368 hq1_l368 hM hS hIF hIG hIR hFF hGG hRR hf2 hod hm_l368 ls hl; exfalso; have h9 := oM.nn (f := R 55) (b := 10) (c := 12) (n := 3) (v118.toInt + 1).toNat (fun j hj => by have := (hod j (by omega)).2; omega); omega
        | succ N_l368 ih_l368 =>
          intro v118 H locs F G R S hq0_l368 hq1_l368 hM hS hIF hIG hIR hFF hGG hRR hf2 hod hm_l368 ls hl
          refine lv_iload_n hx hb dX13_made_52 rfl (lv_at hl 0 rfl) ?_
          refine lv_if_lt (tgt := 114) hx hb dX13_made_53 (by decide) (fun c9 => ?_) (fun c9 => ?_)
          · have hc369 : v118.toInt < 0 := (fi_lt rfl (show (0 : Int32).toInt = 0 by decide)).mp c9
            refine lv_iload_n hx hb dX13_made_114 rfl (lv_at hl 3 rfl) ?_
            refine lv_iconst (v := (-1)) hx hb dX13_made_115 (by decide) ?_
            refine lv_icmp_ne (tgt := 126) hx hb dX13_made_116 (by decide) (fun c9 => ?_) (fun c9 => ?_)
            · have hc389 : ¬ (p2.toInt = (-1)) := fun h9 => c9 ((fi_eq rfl (show ((-1) : Int32).toInt = (-1) by decide)).mpr h9)
              refine lv_iload_n hx hb dX13_made_126 rfl (lv_at hl 3 rfl) ?_
              refine lv_aload_n hx hb dX13_made_127 rfl (lv_at hl 1 rfl) ?_
              refine mz_getI hx hb htl hown hK hM 57 (Nat.le_of_ble_eq_true rfl) rfl (htl _ mw_1472) (fun _ h9 => h9) dX13_made_128 (fun v391 hf390 => ?_)
              have hq_v391 := tk_rng v391
              have hr_v391 : 0 ≤ v391.toInt ∧ v391.toInt ≤ 4 := hIF.at hf390
              refine lv_icmp_ge (tgt := 143) hx hb dX13_made_131 (by decide) (fun c9 => ?_) (fun c9 => ?_)
              · have hc392 : v391.toInt ≤ p2.toInt := (fi_le rfl rfl).mp c9
                refine lv_iconst (v := (-1)) hx hb dX13_made_143 (by decide) ?_
                have hk_m1 : ((-1) : Int32).toInt = (-1) := by decide
                exact mz_iret (v := (-1)) hx hb hr rfl hlocks ⟨hIF, hIG, hIR, hFF, hRR, hGG⟩ hM hS dX13_made_144
              · have hc392 : ¬ (v391.toInt ≤ p2.toInt) := fun h9 => c9 ((fi_le rfl rfl).mpr h9)
                refine lv_aload_n hx hb dX13_made_134 rfl (lv_at hl 1 rfl) ?_
                refine mz_getR hx hb htl hown hK hM 56 (Nat.le_of_ble_eq_true rfl) (Nat.le_of_ble_eq_true rfl) (htl _ mw_237) (fun _ h9 => h9) dX13_made_135 ?_
                refine lv_iload_n hx hb dX13_made_138 rfl (lv_at hl 3 rfl) ?_
                refine mz_iald hx hb hK hM 56 (Nat.le_of_ble_eq_true rfl) rfl (nn := 4) rfl rfl (by omega) (by omega) dX13_made_139 (fun v393 e_v393 => ?_)
                have hq_v393 := tk_rng v393
                refine lv_goto (tgt := 144) hx hb dX13_made_140 (by decide) ?_
                exact mz_iret (v := v393) hx hb hr rfl hlocks ⟨hIF, hIG, hIR, hFF, hRR, hGG⟩ hM hS dX13_made_144
            · have hc389 : p2.toInt = (-1) := (fi_eq rfl (show ((-1) : Int32).toInt = (-1) by decide)).mp c9
              refine lv_aload_n hx hb dX13_made_119 rfl (lv_at hl 1 rfl) ?_
              refine mz_getI hx hb htl hown hK hM 58 (Nat.le_of_ble_eq_true rfl) rfl (htl _ mw_1471) (fun _ h9 => h9) dX13_made_120 (fun v395 hf394 => ?_)
              have hq_v395 := tk_rng v395
              refine lv_goto (tgt := 144) hx hb dX13_made_123 (by decide) ?_
              exact mz_iret (v := v395) hx hb hr rfl hlocks ⟨hIF, hIG, hIR, hFF, hRR, hGG⟩ hM hS dX13_made_144
          · have hc369 : ¬ (v118.toInt < 0) := fun h9 => c9 ((fi_lt rfl (show (0 : Int32).toInt = 0 by decide)).mpr h9)
            refine lv_aload_n hx hb dX13_made_56 rfl (lv_at hl 1 rfl) ?_
            obtain ⟨f9, ef9⟩ : ∃ z : Nat → Int32, R 55 = z := ⟨_, rfl⟩
            have hod9 := hod
            rw [ef9] at hod9
            have hm9 := hm_l368
            rw [ef9] at hm9
            refine mz_getR hx hb htl hown hK hM 55 (Nat.le_of_ble_eq_true rfl) (Nat.le_of_ble_eq_true rfl) (htl _ mw_236) (fun _ h9 => h9) dX13_made_57 ?_
            refine lv_iload_n hx hb dX13_made_60 rfl (lv_at hl 0 rfl) ?_
            refine lv_dup2_11 hx hb dX13_made_61 rfl rfl ?_
            refine mz_iald hx hb hK hM 55 (Nat.le_of_ble_eq_true rfl) rfl (nn := 4) rfl rfl (by omega) (by omega) dX13_made_62 (fun v396 e_v396 => ?_)
            have hq_v396 := tk_rng v396
            have hfk : f9 v118.toInt.toNat = v396 := by rw [← ef9]; exact e_v396
            have hdg : -1 ≤ v396.toInt ∧ v396.toInt ≤ 9 := by have h9 := hod9 v118.toInt.toNat (by omega); rw [hfk] at h9; exact h9
            refine lv_iconst (v := 1) hx hb dX13_made_63 (by decide) ?_
            refine lv_iadd hx hb dX13_made_64 ?_
            refine tk_add rfl (show (1 : Int32).toInt = 1 by decide) (by omega) (by omega) (fun v397 h_v397 => ?_)
            refine mz_iast (x := v397) hx hb hK hD hM hS 55 (Nat.le_of_ble_eq_true rfl) rfl (nn := 4) rfl rfl (by omega) (by omega) dX13_made_65 (fun H locs R hM hS hw9 hj9 => ?_)
            have hIR := hIR.put hw9 hj9 trivial
            have hU1 : R 55 = upd f9 v118.toInt.toNat v397 := by rw [hw9, ef9]; rfl
            have hRR := mz_frp (K := [55, 56]) (Fa := Ra) hj9 hRR (by decide)
            have em398 : R 55 (v118 : Int32).toNatClampNeg = v397 := (congrFun hw9 _).trans pk_us
            refine lv_aload_n hx hb dX13_made_66 rfl (lv_at hl 1 rfl) ?_
            refine mz_getR hx hb htl hown hK hM 55 (Nat.le_of_ble_eq_true rfl) (Nat.le_of_ble_eq_true rfl) (htl _ mw_236) (fun _ h9 => h9) dX13_made_67 ?_
            refine lv_iload_n hx hb dX13_made_70 rfl (lv_at hl 0 rfl) ?_
            refine mz_iald hx hb hK hM 55 (Nat.le_of_ble_eq_true rfl) rfl (nn := 4) rfl rfl (by omega) (by omega) dX13_made_71 (fun v9 e9 => ?_)
            refine fx_ti (v := v397) (e9.symm.trans em398) ?_
            refine lv_aload_n hx hb dX13_made_72 rfl (lv_at hl 1 rfl) ?_
            refine mz_getR hx hb htl hown hK hM 3 (Nat.le_of_ble_eq_true rfl) (Nat.le_of_ble_eq_true rfl) (htl _ mw_188) (fun _ h9 => h9) dX13_made_73 ?_
            refine lv_iconst (v := 2) hx hb dX13_made_76 (by decide) ?_
            refine mz_iald hx hb hK hM 3 (Nat.le_of_ble_eq_true rfl) rfl (nn := 5560) rfl (I := 2) (by decide) (by decide) (by decide) dX13_made_77 (fun v401 hf400 => ?_)
            have hf400 : R 3 2 = v401 := hf400
            have hq_v401 := tk_rng v401
            have hr_v401 : 0 ≤ v401.toInt ∧ v401.toInt ≤ 10 := by have h9 := mz_r3c 2 (hIR.at 3) hf400 (by decide); unfold mE at h9; omega
            refine lv_icmp_lt (tgt := 87) hx hb dX13_made_78 (by decide) (fun c9 => ?_) (fun c9 => ?_)
            · have hc402 : v397.toInt < v401.toInt := (fi_lt rfl rfl).mp c9
              refine lv_aload_n hx hb dX13_made_87 rfl (lv_at hl 1 rfl) ?_
              refine lv_iload_n hx hb dX13_made_88 rfl (lv_at hl 0 rfl) ?_
              refine lv_iload_n hx hb dX13_made_89 rfl (lv_at hl 2 rfl) ?_
              refine mz_Vi (As := [.int v118, .int p1]) (rest := []) ⟨hx, hb, hml, hown, hts⟩ hK hM hS (k_X13_weighMade l D cy ld ad am hD _ _ _ _ v118 p1 hIF hIG hIR (by omega) (by omega) (by have h9 := od_r1 hod9 hU1 (by omega) (by omega); exact fun j hj => ⟨(h9 j hj).1, by have := (h9 j hj).2; omega⟩)) ⟨callB_of 2 hts (wl_in mw_1476) rfl rfl rfl (htl _ mw_5) (htl _ mw_1473) hd_yX13_weighMade ⟨(Nat.le_of_ble_eq_true rfl), (Nat.le_of_ble_eq_true rfl)⟩, htl _ mw_1474, htl _ mw_1475⟩ rfl hl.1 rfl (Nat.le_of_ble_eq_true rfl) dX13_made_90 ⟨(Nat.le_of_ble_eq_true rfl), (Nat.le_of_ble_eq_true rfl)⟩ (fun v403 H locs F G R S hpo hM hS => ?_)
              obtain ⟨hIF, hIG, hIR, hfr9, hrr9, hgr9, hpo404, hpo405, hpo406, hpo407⟩ := hpo
              have hq_v403 := tk_rng v403
              have hFF := mz_fr (K := [0, 57, 58]) (Fa := Fa) hfr9 hFF (by decide)
              have hRR := mz_fr (K := [55, 56]) (Fa := Ra) hrr9 hRR (by decide)
              have hGG := mz_fr (K := []) (Fa := Ga) hgr9 hGG (by decide)
              have em398 : R 55 (v118 : Int32).toNatClampNeg = _ := (congrFun (hrr9 55 (by decide)) _).trans em398
              have hf2 := (hfr9 0 (by decide)).trans hf2
              have hf400 : R 3 2 = _ := (congrFun (hrr9 3 (by decide)) 2).trans hf400
              have hU1 := (hrr9 55 (by decide)).trans hU1
              refine lv_if_eq (tgt := 52) hx hb dX13_made_93 (by decide) (fun c9 => ?_) (fun c9 => ?_)
              · have hc409 : v403.toInt = 0 := (fi_eq rfl (show (0 : Int32).toInt = 0 by decide)).mp c9
                exact ih_l368 v118 _ _ _ _ _ _ (by omega) (by omega) hM hS hIF hIG hIR hFF hGG hRR hf2 (od_r1 hod9 hU1 (by omega) (by omega)) (od_st hm9 (by omega) hU1 (by rw [hfk]; omega) (by decide)) _ (lv_sub hl [0, 1, 2, 3] rfl)
              · have hc409 : ¬ (v403.toInt = 0) := fun h9 => c9 ((fi_eq rfl (show (0 : Int32).toInt = 0 by decide)).mpr h9)
                refine lv_iload_n hx hb dX13_made_96 rfl (lv_at hl 0 rfl) ?_
                refine lv_iconst (v := 3) hx hb dX13_made_97 (by decide) ?_
                refine lv_icmp_ge (tgt := 52) hx hb dX13_made_98 (by decide) (fun c9 => ?_) (fun c9 => ?_)
                · have hc410 : 3 ≤ v118.toInt := (fi_le (show (3 : Int32).toInt = 3 by decide) rfl).mp c9
                  exact ih_l368 v118 _ _ _ _ _ _ (by omega) (by omega) hM hS hIF hIG hIR hFF hGG hRR hf2 (od_r1 hod9 hU1 (by omega) (by omega)) (od_st hm9 (by omega) hU1 (by rw [hfk]; omega) (by decide)) _ (lv_sub hl [0, 1, 2, 3] rfl)
                · have hc410 : ¬ (3 ≤ v118.toInt) := fun h9 => c9 ((fi_le (show (3 : Int32).toInt = 3 by decide) rfl).mpr h9)
                  obtain ⟨v411, h_v411, e_v411⟩ := tk_inc v118 1 (by decide) (by omega) (by omega)
                  refine lv_iinc (v := v411) (lv' := [(3, .int v411), (0, .ref am), (1, .int p1), (2, .int p2)]) hx hb dX13_made_101 hl (k := 0) rfl e_v411 (by decide) rfl (fun ls hl => ?_)
                  refine lv_aload_n hx hb dX13_made_104 rfl (lv_at hl 1 rfl) ?_
                  refine mz_getR hx hb htl hown hK hM 55 (Nat.le_of_ble_eq_true rfl) (Nat.le_of_ble_eq_true rfl) (htl _ mw_236) (fun _ h9 => h9) dX13_made_105 ?_
                  refine lv_iload_n hx hb dX13_made_108 rfl (lv_at hl 0 rfl) ?_
                  refine lv_iconst (v := (-1)) hx hb dX13_made_109 (by decide) ?_
                  have hk_m1 : ((-1) : Int32).toInt = (-1) := by decide
                  refine mz_iast (x := (-1)) hx hb hK hD hM hS 55 (Nat.le_of_ble_eq_true rfl) rfl (nn := 4) rfl rfl (by omega) (by omega) dX13_made_110 (fun H locs R hM hS hw9 hj9 => ?_)
                  have hIR := hIR.put hw9 hj9 trivial
                  have hU2 : R 55 = upd (upd f9 v118.toInt.toNat v397) (v118.toInt.toNat + 1) (-1) := by rw [hw9, hU1, show (v411 : Int32).toNatClampNeg = v118.toInt.toNat + 1 by show v411.toInt.toNat = _; omega]
                  have hk_m1 : ((-1) : Int32).toInt = (-1) := by decide
                  have hRR := mz_frp (K := [55, 56]) (Fa := Ra) hj9 hRR (by decide)
                  have hf400 : R 3 2 = _ := (congrFun (hj9 3 (by decide)) 2).trans hf400
                  have em412 : R 55 (v411 : Int32).toNatClampNeg = (-1) := (congrFun hw9 _).trans pk_us
                  refine lv_goto (tgt := 52) hx hb dX13_made_111 (by decide) ?_
                  exact ih_l368 v411 _ _ _ _ _ _ (by omega) (by omega) hM hS hIF hIG hIR hFF hGG hRR hf2 (od_r2 hod9 hU2 (by omega) (by omega) (by omega) (by omega) (by omega) (by omega)) (od_up hm9 (by omega) (by omega) hU2 (by rw [hfk]; omega) (by omega) (by decide) (by decide) (by omega)) _ (lv_sub hl [0, 1, 2, 3] rfl)
            · have hc402 : ¬ (v397.toInt < v401.toInt) := fun h9 => c9 ((fi_lt rfl rfl).mpr h9)
              obtain ⟨v414, h_v414, e_v414⟩ := tk_inc v118 (-1) (by decide) (by omega) (by omega)
              refine lv_iinc (v := v414) (lv' := [(3, .int v414), (0, .ref am), (1, .int p1), (2, .int p2)]) hx hb dX13_made_81 hl (k := 0) rfl e_v414 (by decide) rfl (fun ls hl => ?_)
              refine lv_goto (tgt := 52) hx hb dX13_made_84 (by decide) ?_
              exact ih_l368 v414 _ _ _ _ _ _ (by omega) (by omega) hM hS hIF hIG hIR hFF hGG hRR hf2 (od_r0 hod9 hU1 (by omega) (by omega)) (by rw [show (v414.toInt + 1).toNat = v118.toInt.toNat by omega]; exact od_dn hm9 (by omega) hU1 (by rw [hfk]; omega) (by decide) (by omega)) _ (lv_sub hl [0, 1, 2, 3] rfl)
      have hk_0 : (0 : Int32).toInt = 0 := by decide
      have hk_0 : (0 : Int32).toInt = 0 := by decide
      exact hl368 19009 0 _ _ _ _ _ _ (by omega) (by omega) hM hS hIF hIG hIR hFF (fun _ _ => rfl) hRR hf2 (fun j hj => by rw [show j = 0 by omega, hf33]; decide) (by rw [show ((0 : Int32).toInt + 1).toNat = 0 + 1 by decide, oM.s, hf33]; show (0 : Int) + (10 - (-1 : Int32).toInt) * ((12 ^ (3 - 0) : Nat) : Int) < ((19009 : Nat) : Int); decide) _ (lv_sub hl [0, 1, 2, 3] rfl)
    · have hc26 : v18.toInt = 0 := (fi_eq rfl (show (0 : Int32).toInt = 0 by decide)).mp c9
      refine lv_iconst (v := (-1)) hx hb dX13_made_31 (by decide) ?_
      have hk_m1 : ((-1) : Int32).toInt = (-1) := by decide
      exact mz_iret (v := (-1)) hx hb hr rfl hlocks ⟨hIF, hIG, hIR, hFF, (fun _ _ => rfl), (fun _ _ => rfl)⟩ hM hS dX13_made_32
end
section
set_option maxHeartbeats 4000000 in
set_option maxRecDepth 100000 in
theorem k_X13_term_2 (l : Launch) (D : va_G) (cy : Nat → ClassId) (ld ad : Nat → Nat) (am : Nat) (hD : mz_D ad am) (Fa : Nat → Int32) (Ga : Nat → Int64) (Ra : Nat → Nat → Int32) (Sa : Nat → Nat → Int64) (g0 : Int32) (hg_0 : Ra 3 8 = g0) : Met l yX13_term (wl yX13_term cX13_term 2 (some .int)) ({ frames := 3, cells := 0, slots := 0, locals := 140 }) (mz_p D cy ld ad am Fa Ga Ra Sa [.ref am, .int 2]) (mz_j D cy ad am Fa Ga Ra Sa (fun r => (-1) * g0.toInt + r.toInt = 0)) 0 0 (mz_W ad am) := by
  refine mz_met (y := yX13_term) (cc := cX13_term) (maxL := 2) (ret := (some .int)) (av := [.ref am, .int 2]) _ (by decide) (Nat.le_of_ble_eq_true rfl) ?_
  intro p e s m args below meth c hx hb hr hml hts htl hown hlocks hK H locs hM hS ls hl
  have hown : s.vm.findClass RX13 = some m.cls := hown
  have hl : lv_has ls 2 [(0, .ref am), (1, .int 2)] := hl
  have hq_g0 := tk_rng g0
  refine lv_aload_n hx hb dX13_term_0 rfl (lv_at hl 0 rfl) ?_
  refine mz_getR hx hb htl hown hK hM 3 (Nat.le_of_ble_eq_true rfl) (Nat.le_of_ble_eq_true rfl) (htl _ mw_188) (fun _ h9 => h9) dX13_term_1 ?_
  refine lv_bipush (v := 6) hx hb dX13_term_4 (by decide) ?_
  refine lv_iload_n hx hb dX13_term_6 rfl (lv_at hl 1 rfl) ?_
  refine lv_iadd hx hb dX13_term_7 ?_
  refine fx_ti (v := 8) (by decide) ?_
  refine mz_iald hx hb hK hM 3 (Nat.le_of_ble_eq_true rfl) rfl (nn := 5560) rfl (I := 8) (by decide) (by decide) (by decide) dX13_term_8 (fun v9 e9 => ?_)
  refine fx_ti (v := g0) (e9.symm.trans (show Ra 3 (8 : Int32).toNatClampNeg = _ from hg_0)) ?_
  exact mz_jret (v := g0) hx hb hr rfl hlocks (by omega) hM hS dX13_term_9
end
