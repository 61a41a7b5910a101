/-- a DUEL stands in each snapshot of the levels so far -/
def sn (f : Nat → Int32) (k : Int) : Prop := ∀ j : Nat, (j : Int) ≤ k → 0 ≤ (f (52 * (16 + j) + 6)).toInt
theorem sn.le {f g : Nat → Int32} {k k1 : Int} (h : sn f k) (e : g = f) (hk : k1 ≤ k) : sn g k1 := fun j hj => by
  rw [e]
  exact h j (by omega)
theorem sn.up {f g g6 : Nat → Int32} {k k1 : Int} {n : Nat} (h : sn g k) (hk : k1 = k + 1) (he : g6 = va_cpy f g 6 (52 * n) 52) (hn : (n : Int) = 16 + k1) (h12 : 0 ≤ (f 12).toInt) : sn g6 k1 := fun j hj => by
  rw [he]
  by_cases e : (j : Int) = k1
  · rw [mz_cpin (by omega) (by omega), show 6 + (52 * (16 + j) + 6 - 52 * n) = 12 by omega]
    exact h12
  · rw [mz_cpout (by omega)]
    exact h j (by omega)
theorem sn.back {g r q : Nat → Int32} {k : Int} {n : Nat} (h : sn g k) (he : r = va_cpy g q (52 * n) 6 52) (h0 : 16 ≤ n) (hn : (n : Int) ≤ 16 + k) : 0 ≤ (r 12).toInt := by
  rw [he, mz_cpin (by omega) (by omega)]
  have h9 := h (n - 16) (by omega)
  rw [show 52 * n + (12 - 6) = 52 * (16 + (n - 16)) + 6 by omega]
  exact h9
set_option maxHeartbeats 4000000 in
set_option maxRecDepth 100000 in
theorem k_X13_keepAll_x (l : Launch) (D : va_G) (cy : Nat → ClassId) (ld ad : Nat → Nat) (am : Nat) (hD : mz_D ad am) (Fa : Nat → Int32) (Ga : Nat → Int64) (Ra : Nat → Nat → Int32) (Sa : Nat → Nat → Int64) (p1 : Int32) (hIF : mz_IF true Fa) (hIG : mz_IG Ga) (hIR : mz_IR [] true Ra) (hp_0 : 0 ≤ p1.toInt) (hp_1 : p1.toInt ≤ 22) : Met l yX13_keepAll (wl yX13_keepAll cX13_keepAll 3 none) ({ frames := 3, cells := 0, slots := 0, locals := 140 }) (mz_p D cy ld ad am Fa Ga Ra Sa [.ref am, .int p1]) (mz_w D cy ad am (fun F G R S => mz_IF true F ∧ mz_IG G ∧ mz_IR [] true R ∧ (∀ k : Nat, k ∉ ([] : List Nat) → F k = Fa k) ∧ (∀ k : Nat, k ∉ ([6] : List Nat) → R k = Ra k) ∧ (∀ k : Nat, k ∉ ([] : List Nat) → G k = Ga k) ∧ R 6 = va_cpy (Ra 3) (Ra 6) 6 (52 * p1.toInt.toNat) 52)) 0 0 (mz_W ad am) := by sorry
