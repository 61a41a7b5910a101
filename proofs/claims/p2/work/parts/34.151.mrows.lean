/-- how many of the first s SINGERS are of CLAN c -/
def cn (f : Nat → Int32) (c : Int) : Nat → Int
  | 0 => 0
  | s + 1 => cn f c s + (if (f (20 + 5 * s)).toInt = c then 1 else 0)
theorem cn.s (f : Nat → Int32) (c : Int) (s : Nat) : cn f c (s + 1) = cn f c s + (if (f (20 + 5 * s)).toInt = c then 1 else 0) := rfl
theorem cn.mono (f : Nat → Int32) (c : Int) (s : Nat) : ∀ d : Nat, cn f c s ≤ cn f c (s + d) := by
  intro d
  induction d with
  | zero => exact Int.le_refl _
  | succ d ih =>
    have h := cn.s f c (s + d)
    rw [← Nat.add_assoc, h]
    split <;> omega
theorem cn.up {f : Nat → Int32} {c n n1 : Int} {s : Nat} {r : Int32} (h : n = cn f c s) (hr : r = f (20 + 5 * s)) (h1 : r.toInt = c → n1 = n + 1) (h0 : ¬ r.toInt = c → n1 = n) : n1 = cn f c (s + 1) := by
  rw [cn.s, ← hr, ← h]
  split
  · exact h1 (by assumption)
  · rw [h0 (by assumption)]
    omega
theorem cn.dn {f : Nat → Int32} {c left left1 N : Int} {s : Nat} {r : Int32} (h : left + cn f c s < N) (hr : r = f (20 + 5 * s)) (h1 : r.toInt = c → left1 = left - 1) (h0 : ¬ r.toInt = c → left1 = left) : left1 + cn f c (s + 1) < N := by
  rw [cn.s, ← hr]
  split
  · rw [h1 (by assumption)]
    omega
  · rw [h0 (by assumption)]
    omega
theorem cn.lt {f : Nat → Int32} {c left : Int} {s N : Nat} (h : left + cn f c s < cn f c N) (h0 : 0 ≤ left) : s < N := by
  by_cases e : s < N
  · exact e
  · have h9 := cn.mono f c N (s - N)
    rw [show N + (s - N) = s by omega] at h9
    omega
theorem cn.rel {f g : Nat → Int32} {c : Int} (h : rK2 f g) : ∀ s : Nat, s ≤ 8 → cn g c s = cn f c s := by
  intro s
  induction s with
  | zero => intro _; rfl
  | succ s ih =>
    intro hs
    rw [cn.s, cn.s, ih (by omega), h (20 + 5 * s) (by omega)]
set_option maxHeartbeats 4000000 in
set_option maxRecDepth 100000 in
theorem k_X13_manyOf_x (l : Launch) (D : va_G) (cy : Nat → ClassId) (ld ad : Nat → Nat) (am : Nat) (hD : mz_D ad am) (Fa : Nat → Int32) (Ga : Nat → Int64) (Ra : Nat → Nat → Int32) (Sa : Nat → Nat → Int64) (p1 : Int32) (g0 : Int32) (hIF : mz_IF false Fa) (hIG : mz_IG Ga) (hIR : mz_IR [] true Ra) (hg_0 : Ra 3 0 = g0) : Met l yX13_manyOf (wl yX13_manyOf cX13_manyOf 4 (some .int)) ({ frames := 4, cells := 0, slots := 0, locals := 210 }) (mz_p D cy ld ad am Fa Ga Ra Sa [.ref am, .int p1]) (mz_j D cy ad am Fa Ga Ra Sa (fun r => 0 ≤ r.toInt ∧ 0 ≤ g0.toInt + (-1) * r.toInt ∧ 0 ≤ r.toInt ∧ r.toInt ≤ 8 ∧ r.toInt = cn (Ra 3) p1.toInt g0.toInt.toNat)) 0 0 (mz_W ad am) := by sorry
