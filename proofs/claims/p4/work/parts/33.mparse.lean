/-! the reader of the reference: what it has laid so far is well formed but for what waits on the pile -/
def bc (pl : Nat → Int32) : Nat → Int
  | 0 => 0
  | i + 1 => bc pl i + (if 20 ≤ (pl i).toInt ∧ (pl i).toInt ≤ 27 then 1 else 0)
theorem bc.nn (pl : Nat → Int32) : ∀ i : Nat, 0 ≤ bc pl i := by
  intro i
  induction i with
  | zero => exact Int.le_refl 0
  | succ i ih =>
    unfold bc
    split <;> omega
theorem bc.congr {pl pl' : Nat → Int32} (e : Nat) (h : ∀ j : Nat, j < e → pl' j = pl j) : ∀ k : Nat, k ≤ e → bc pl' k = bc pl k := by
  intro k
  induction k with
  | zero => intro _; rfl
  | succ k ih =>
    intro hk
    unfold bc
    rw [ih (by omega), h k (by omega)]
theorem bc.s (pl : Nat → Int32) (i : Nat) : bc pl (i + 1) = bc pl i + (if 20 ≤ (pl i).toInt ∧ (pl i).toInt ≤ 27 then 1 else 0) := rfl
theorem dl.s (op : Nat → Int32) (k : Nat) : dl op (k + 1) = dl op k + (if (op k).toInt < 20 then 1 else if (op k).toInt = 28 then 0 else -1) := rfl
theorem dl.upd {op : Nat → Int32} {n : Nat} {x : Int32} {k : Nat} (hk : k ≤ n) : dl (upd op n x) k = dl op k := dl.congr n (fun j hj => pk_un (by omega)) k hk
theorem bc.upd {op : Nat → Int32} {n : Nat} {x : Int32} {k : Nat} (hk : k ≤ n) : bc (upd op n x) k = bc op k := bc.congr n (fun j hj => pk_un (by omega)) k hk
def pA (op arg pl pa : Nat → Int32) (s nC pd k : Nat) : Prop := 0 ≤ (op k).toInt ∧ (op k).toInt ≤ 30 ∧ ((op k).toInt < 20 → (op k).toInt ≤ 9 ∧ (6 ≤ (op k).toInt → 0 ≤ (arg k).toInt ∧ (arg k).toInt ≤ 7)) ∧ (20 ≤ (op k).toInt → (op k).toInt ≤ 27 → 2 ≤ dl op k - dl op s) ∧ (28 ≤ (op k).toInt → 1 ≤ dl op k - dl op s) ∧ (29 ≤ (op k).toInt → ((k : Int) < (arg k).toInt ∧ (arg k).toInt ≤ (nC : Int) ∧ dl op (arg k).toInt.toNat = dl op k) ∨ ∃ i : Nat, i < pd ∧ (pa i).toInt = (k : Int) ∧ 29 ≤ (pl i).toInt ∧ (pl i).toInt ≤ 30)
def pB (op pl pa : Nat → Int32) (s nC i : Nat) : Prop := 20 ≤ (pl i).toInt ∧ (pl i).toInt ≤ 32 ∧ (29 ≤ (pl i).toInt → (pl i).toInt ≤ 30 → (s : Int) ≤ (pa i).toInt ∧ (pa i).toInt < (nC : Int) ∧ 29 ≤ (op (pa i).toInt.toNat).toInt ∧ dl op (pa i).toInt.toNat - dl op s = bc pl i + 1)
def PI (op arg pl pa : Nat → Int32) (s nC pd : Nat) (c : Int) : Prop := s ≤ nC ∧ (∀ k : Nat, s ≤ k → k < nC → pA op arg pl pa s nC pd k) ∧ (∀ i : Nat, i < pd → pB op pl pa s nC i) ∧ dl op nC - dl op s = bc pl pd + c ∧ (∀ i j : Nat, i < j → j < pd → (pl i).toInt = 32 → (20 ≤ (pl j).toInt ∧ (pl j).toInt ≤ 24) ∨ (pl j).toInt = 32)
def nSq (pl : Nat → Int32) (pd : Nat) : Prop := ∀ i : Nat, i < pd → (pl i).toInt ≠ 32
theorem PI.start (op arg pl pa : Nat → Int32) (s : Nat) : PI op arg pl pa s s 0 0 := ⟨Nat.le_refl _, fun k h1 h2 => absurd h2 (by omega), fun i h => absurd h (by omega), by show dl op s - dl op s = (0 : Int) + 0; omega, fun i j _ h => absurd h (by omega)⟩
theorem PI.done {op arg pl pa : Nat → Int32} {s nC : Nat} {c : Int} (h : PI op arg pl pa s nC 0 c) : WFC op arg s nC := fun k h1 h2 => by
  obtain ⟨a1, a2, a3, a4, a5, a6⟩ := h.2.1 k h1 h2
  refine ⟨a1, a2, a3, a4, a5, fun h3 => ?_⟩
  rcases a6 h3 with h4 | ⟨i, hi, -⟩
  · exact h4
  · exact absurd hi (by omega)
theorem PI.popao {op arg arg1 pl pa : Nat → Int32} {s nC pd : Nat} {x : Int32} (h : PI op arg pl pa s nC (pd + 1) 1) (h1 : 29 ≤ (pl pd).toInt) (h2 : (pl pd).toInt ≤ 30) (hw : arg1 = upd arg (pa pd).toInt.toNat x) (hx : x.toInt = (nC : Int)) : PI op arg1 pl pa s nC pd 1 := by
  obtain ⟨g1, g2, g3, g4, g5⟩ := h
  obtain ⟨b1, b2, b3⟩ := g3 pd (by omega)
  obtain ⟨c1, c2, c3, c4⟩ := b3 h1 h2
  rw [bc.s, if_neg (by omega)] at g4
  refine ⟨g1, fun k k1 k2 => ?_, fun i hi => g3 i (by omega), by omega, fun i j q1 q2 q3 => g5 i j q1 (by omega) q3⟩
  obtain ⟨a1, a2, a3, a4, a5, a6⟩ := g2 k k1 k2
  by_cases e : k = (pa pd).toInt.toNat
  · refine ⟨a1, a2, fun q => ?_, a4, a5, fun q => Or.inl ?_⟩
    · rw [e] at q
      omega
    · rw [hw, ← e, pk_us, hx]
      refine ⟨by omega, by omega, ?_⟩
      rw [← e] at c4
      rw [show ((nC : Int)).toNat = nC by omega]
      omega
  · refine ⟨a1, a2, ?_, a4, a5, fun q => ?_⟩
    · rw [hw, pk_un e]
      exact a3
    · rw [hw, pk_un e]
      rcases a6 q with h4 | ⟨i, i1, i2, i3⟩
      · exact Or.inl h4
      · by_cases ei : i = pd
        · subst ei
          exact absurd i2 (by omega)
        · exact Or.inr ⟨i, by omega, i2, i3⟩
theorem PI.popop {op op1 arg arg1 pl pa : Nat → Int32} {s nC pd : Nat} {y : Int32} (h : PI op arg pl pa s nC (pd + 1) 1) (h1 : (pl pd).toInt ≤ 28) (hw1 : op1 = upd op nC (pl pd)) (hw2 : arg1 = upd arg nC y) : PI op1 arg1 pl pa s (nC + 1) pd 1 := by
  obtain ⟨g1, g2, g3, g4, g5⟩ := h
  obtain ⟨b1, b2, b3⟩ := g3 pd (by omega)
  have hn := bc.nn pl pd
  rw [bc.s] at g4
  subst hw1
  subst hw2
  refine ⟨by omega, fun k k1 k2 => ?_, fun i hi => ?_, ?_, fun i j q1 q2 q3 => g5 i j q1 (by omega) q3⟩
  · by_cases e : k = nC
    · subst e
      unfold pA
      rw [pk_us, dl.upd (Nat.le_refl _), dl.upd g1]
      refine ⟨by omega, by omega, fun q => absurd q (by omega), fun q1 q2 => ?_, fun q => ?_, fun q => absurd q (by omega)⟩
      · rw [if_pos ⟨q1, q2⟩] at g4
        omega
      · rw [if_neg (by omega)] at g4
        omega
    · obtain ⟨a1, a2, a3, a4, a5, a6⟩ := g2 k k1 (by omega)
      unfold pA
      rw [pk_un e, pk_un e, dl.upd (show k ≤ nC by omega), dl.upd g1]
      refine ⟨a1, a2, a3, a4, a5, fun q => ?_⟩
      rcases a6 q with h4 | ⟨i, i1, i2, i3, i4⟩
      · refine Or.inl ⟨h4.1, by omega, ?_⟩
        rw [dl.upd (by omega)]
        exact h4.2.2
      · by_cases ei : i = pd
        · subst ei
          exact absurd i3 (by omega)
        · exact Or.inr ⟨i, by omega, i2, i3, i4⟩
  · obtain ⟨q1, q2, q3⟩ := g3 i (by omega)
    refine ⟨q1, q2, fun z1 z2 => ?_⟩
    obtain ⟨r1, r2, r3, r4⟩ := q3 z1 z2
    rw [pk_un (by omega), dl.upd (by omega), dl.upd g1]
    exact ⟨r1, by omega, r3, r4⟩
  · rw [dl.s, pk_us, dl.upd (Nat.le_refl _), dl.upd g1, if_neg (by omega)]
    by_cases e : (pl pd).toInt = 28
    · rw [if_pos e]
      rw [if_neg (by omega)] at g4
      omega
    · rw [if_neg e]
      rw [if_pos (by omega)] at g4
      omega
theorem PI.popbr {op arg pl pa : Nat → Int32} {s nC pd : Nat} {c : Int} (h : PI op arg pl pa s nC (pd + 1) c) (h1 : 31 ≤ (pl pd).toInt) : PI op arg pl pa s nC pd c := by
  obtain ⟨g1, g2, g3, g4, g5⟩ := h
  rw [bc.s, if_neg (by omega)] at g4
  refine ⟨g1, fun k k1 k2 => ?_, fun i hi => g3 i (by omega), by omega, fun i j q1 q2 q3 => g5 i j q1 (by omega) q3⟩
  obtain ⟨a1, a2, a3, a4, a5, a6⟩ := g2 k k1 k2
  refine ⟨a1, a2, a3, a4, a5, fun q => ?_⟩
  rcases a6 q with h4 | ⟨i, i1, i2, i3, i4⟩
  · exact Or.inl h4
  · by_cases ei : i = pd
    · subst ei
      exact absurd i4 (by omega)
    · exact Or.inr ⟨i, by omega, i2, i3, i4⟩
theorem PI.leaf {op op1 arg arg1 pl pa : Nat → Int32} {s nC pd : Nat} {o y : Int32} (h : PI op arg pl pa s nC pd 0) (h0 : 0 ≤ o.toInt) (h1 : o.toInt ≤ 9) (h2 : 6 ≤ o.toInt → 0 ≤ y.toInt ∧ y.toInt ≤ 7) (hw1 : op1 = upd op nC o) (hw2 : arg1 = upd arg nC y) : PI op1 arg1 pl pa s (nC + 1) pd 1 := by
  obtain ⟨g1, g2, g3, g4, g5⟩ := h
  subst hw1
  subst hw2
  refine ⟨by omega, fun k k1 k2 => ?_, fun i hi => ?_, ?_, g5⟩
  · by_cases e : k = nC
    · subst e
      unfold pA
      rw [pk_us, pk_us]
      exact ⟨h0, by omega, fun _ => ⟨h1, h2⟩, fun q _ => absurd q (by omega), fun q => absurd q (by omega), fun q => absurd q (by omega)⟩
    · obtain ⟨a1, a2, a3, a4, a5, a6⟩ := g2 k k1 (by omega)
      unfold pA
      rw [pk_un e, pk_un e, dl.upd (show k ≤ nC by omega), dl.upd g1]
      refine ⟨a1, a2, a3, a4, a5, fun q => ?_⟩
      rcases a6 q with h4 | h4
      · refine Or.inl ⟨h4.1, by omega, ?_⟩
        rw [dl.upd (by omega)]
        exact h4.2.2
      · exact Or.inr h4
  · obtain ⟨q1, q2, q3⟩ := g3 i hi
    refine ⟨q1, q2, fun z1 z2 => ?_⟩
    obtain ⟨r1, r2, r3, r4⟩ := q3 z1 z2
    rw [pk_un (by omega), dl.upd (by omega), dl.upd g1]
    exact ⟨r1, by omega, r3, r4⟩
  · rw [dl.s, pk_us, dl.upd (Nat.le_refl _), dl.upd g1, if_pos (by omega)]
    omega
theorem PI.argset {op arg arg1 pl pa : Nat → Int32} {s nC pd n : Nat} {c : Int} {y : Int32} (h : PI op arg pl pa s nC pd c) (ho : (op n).toInt < 20) (h2 : 0 ≤ y.toInt ∧ y.toInt ≤ 7) (hw2 : arg1 = upd arg n y) : PI op arg1 pl pa s nC pd c := by
  obtain ⟨g1, g2, g3, g4, g5⟩ := h
  subst hw2
  refine ⟨g1, fun k k1 k2 => ?_, g3, g4, g5⟩
  obtain ⟨a1, a2, a3, a4, a5, a6⟩ := g2 k k1 k2
  by_cases e : k = n
  · subst e
    unfold pA
    rw [pk_us]
    exact ⟨a1, a2, fun q => ⟨(a3 q).1, fun _ => h2⟩, a4, a5, fun q => absurd q (by omega)⟩
  · unfold pA
    rw [pk_un e]
    exact ⟨a1, a2, a3, a4, a5, a6⟩
theorem PI.push {op arg pl pl1 pa pa1 : Nat → Int32} {s nC pd : Nat} {c c1 : Int} {o y : Int32} (h : PI op arg pl pa s nC pd c) (h0 : 20 ≤ o.toInt) (h1 : o.toInt ≤ 32) (hao : o.toInt ≠ 29 ∧ o.toInt ≠ 30) (hc : c1 = if o.toInt ≤ 27 then c - 1 else c) (hsq : (20 ≤ o.toInt ∧ o.toInt ≤ 24) ∨ o.toInt = 32 ∨ nSq pl pd) (hw1 : pl1 = upd pl pd o) (hw2 : pa1 = upd pa pd y) : PI op arg pl1 pa1 s nC (pd + 1) c1 := by
  obtain ⟨g1, g2, g3, g4, g5⟩ := h
  subst hw1
  subst hw2
  refine ⟨g1, fun k k1 k2 => ?_, fun i hi => ?_, ?_, fun i j q1 q2 q3 => ?_⟩
  · obtain ⟨a1, a2, a3, a4, a5, a6⟩ := g2 k k1 k2
    refine ⟨a1, a2, a3, a4, a5, fun q => ?_⟩
    rcases a6 q with h4 | ⟨i, i1, i2⟩
    · exact Or.inl h4
    · refine Or.inr ⟨i, by omega, ?_⟩
      rw [pk_un (by omega), pk_un (by omega)]
      exact i2
  · by_cases e : i = pd
    · subst e
      unfold pB
      rw [pk_us]
      exact ⟨h0, h1, fun z1 z2 => absurd z1 (by omega)⟩
    · unfold pB
      rw [pk_un e, pk_un e, bc.upd (by omega)]
      exact g3 i (by omega)
  · rw [bc.s, pk_us, bc.upd (Nat.le_refl _), hc]
    by_cases e : o.toInt ≤ 27
    · rw [if_pos ⟨h0, e⟩, if_pos e]
      omega
    · rw [if_neg (by omega), if_neg e]
      omega
  · by_cases e : j = pd
    · subst e
      rw [pk_us]
      rw [pk_un (by omega)] at q3
      rcases hsq with h4 | h4 | h4
      · exact Or.inl h4
      · exact Or.inr h4
      · exact absurd q3 (h4 i q1)
    · rw [pk_un e]
      rw [pk_un (by omega)] at q3
      exact g5 i j q1 (by omega) q3
theorem PI.andor {op op1 arg arg1 pl pl1 pa pa1 : Nat → Int32} {s nC pd : Nat} {o y x : Int32} (h : PI op arg pl pa s nC pd 1) (h0 : 29 ≤ o.toInt) (h1 : o.toInt ≤ 30) (hsq : nSq pl pd) (hx : x.toInt = (nC : Int)) (hw1 : pl1 = upd pl pd o) (hw2 : pa1 = upd pa pd x) (hw3 : op1 = upd op nC o) (hw4 : arg1 = upd arg nC y) : PI op1 arg1 pl1 pa1 s (nC + 1) (pd + 1) 0 := by
  obtain ⟨g1, g2, g3, g4, g5⟩ := h
  subst hw1
  subst hw2
  subst hw3
  subst hw4
  have hn := bc.nn pl pd
  refine ⟨by omega, fun k k1 k2 => ?_, fun i hi => ?_, ?_, fun i j q1 q2 q3 => ?_⟩
  · by_cases e : k = nC
    · subst e
      unfold pA
      rw [pk_us, dl.upd (Nat.le_refl _), dl.upd g1]
      exact ⟨by omega, h1, fun q => absurd q (by omega), fun _ q => absurd q (by omega), fun _ => by omega, fun _ => Or.inr ⟨pd, by omega, by rw [pk_us]; exact hx, by rw [pk_us]; exact ⟨h0, h1⟩⟩⟩
    · obtain ⟨a1, a2, a3, a4, a5, a6⟩ := g2 k k1 (by omega)
      unfold pA
      rw [pk_un e, pk_un e, dl.upd (show k ≤ nC by omega), dl.upd g1]
      refine ⟨a1, a2, a3, a4, a5, fun q => ?_⟩
      rcases a6 q with h4 | ⟨i, i1, i2⟩
      · refine Or.inl ⟨h4.1, by omega, ?_⟩
        rw [dl.upd (by omega)]
        exact h4.2.2
      · refine Or.inr ⟨i, by omega, ?_⟩
        rw [pk_un (by omega), pk_un (by omega)]
        exact i2
  · by_cases e : i = pd
    · subst e
      unfold pB
      rw [pk_us, pk_us, hx, show ((nC : Int)).toNat = nC by omega, pk_us, dl.upd (Nat.le_refl _), dl.upd g1, bc.upd (Nat.le_refl _)]
      exact ⟨by omega, by omega, fun _ _ => ⟨by omega, by omega, h0, by omega⟩⟩
    · obtain ⟨q1, q2, q3⟩ := g3 i (by omega)
      unfold pB
      rw [pk_un e, pk_un e, bc.upd (by omega)]
      refine ⟨q1, q2, fun z1 z2 => ?_⟩
      obtain ⟨r1, r2, r3, r4⟩ := q3 z1 z2
      rw [pk_un (by omega), dl.upd (by omega), dl.upd g1]
      exact ⟨r1, by omega, r3, r4⟩
  · rw [dl.s, pk_us, dl.upd (Nat.le_refl _), dl.upd g1, if_neg (by omega), if_neg (by omega), bc.s, pk_us, bc.upd (Nat.le_refl _), if_neg (by omega)]
    omega
  · by_cases e : j = pd
    · subst e
      rw [pk_un (by omega)] at q3
      exact absurd q3 (hsq i q1)
    · rw [pk_un e]
      rw [pk_un (by omega)] at q3
      exact g5 i j q1 (by omega) q3
def PT (op arg pl pa : Nat → Int32) (s nC pd : Nat) (tn : Int) : Prop := PI op arg pl pa s nC pd (if tn ≤ 1 then 0 else 1) ∧ (tn = 0 ∨ tn = 2 → nSq pl pd) ∧ (tn = 4 → ∀ i : Nat, i < pd → (pl i).toInt ≤ 30)
/-- below s nothing has changed -/
def low (s : Nat) (f g : Nat → Int32) : Prop := ∀ j : Nat, j < s → g j = f j
theorem low.refl (s : Nat) (f : Nat → Int32) : low s f f := fun _ _ => rfl
theorem low.trans {s s' : Nat} {f g k : Nat → Int32} (h : low s f g) (h2 : low s' g k) (hs : s ≤ s') : low s f k := fun j hj => (h2 j (by omega)).trans (h j hj)
theorem low.upd {s n : Nat} {f g : Nat → Int32} {x : Int32} (h : low s f g) (hn : s ≤ n) : low s f (upd g n x) := fun j hj => (pk_un (by omega)).trans (h j hj)
theorem PI.to {op arg pl pa op1 arg1 pl1 pa1 : Nat → Int32} {s nC pd nC1 pd1 : Nat} {c : Int} (h : PI op arg pl pa s nC pd c) (e1 : op1 = op) (e2 : arg1 = arg) (e3 : pl1 = pl) (e4 : pa1 = pa) (e5 : nC1 = nC) (e6 : pd1 = pd) : PI op1 arg1 pl1 pa1 s nC1 pd1 c := by
  subst e1
  subst e2
  subst e3
  subst e4
  subst e5
  subst e6
  exact h
theorem low.to {s : Nat} {f g g1 : Nat → Int32} (h : low s f g) (e : g1 = g) : low s f g1 := e ▸ h
theorem nSq.to {pl pl1 : Nat → Int32} {pd pd1 : Nat} (h : nSq pl pd) (e : pl1 = pl) (e2 : pd1 ≤ pd) : nSq pl1 pd1 := fun i hi => e ▸ h i (by omega)
theorem nSq.push {pl pl1 : Nat → Int32} {pd : Nat} {o : Int32} (h : nSq pl pd) (e : pl1 = upd pl pd o) (ho : o.toInt ≠ 32) : nSq pl1 (pd + 1) := fun i hi => by
  rw [e]
  by_cases q : i = pd
  · subst q
    rw [pk_us]
    exact ho
  · rw [pk_un q]
    exact h i (by omega)
/-- the last bracket is no square one: none is -/
theorem PI.nsq {op arg pl pa : Nat → Int32} {s nC pd : Nat} {c : Int} (h : PI op arg pl pa s nC pd c) (hl : ∀ i : Nat, i < pd → (pl i).toInt = 32 → ∃ j : Nat, i < j ∧ j < pd ∧ (pl j).toInt = 31) : nSq pl pd := fun i hi e => by
  obtain ⟨j, h1, h2, h3⟩ := hl i hi e
  rcases h.2.2.2.2 i j h1 h2 e with h4 | h4 <;> omega
/-- the last bracket among the first n of the pile; -1: none -/
def inn (pl : Nat → Int32) (n : Nat) (r : Int) : Prop := (r = -1 → ∀ i : Nat, i < n → (pl i).toInt ≤ 30) ∧ (r ≠ -1 → 31 ≤ r ∧ ∃ j : Nat, j < n ∧ (pl j).toInt = r ∧ ∀ i : Nat, j < i → i < n → (pl i).toInt ≤ 30)
theorem inn.zero (pl : Nat → Int32) : inn pl 0 (-1) := ⟨fun _ i h => absurd h (by omega), fun h => absurd rfl h⟩
theorem inn.new {pl : Nat → Int32} {n : Nat} {r : Int} (h : 31 ≤ (pl n).toInt) (e : (pl n).toInt = r) : inn pl (n + 1) r := ⟨fun q => absurd q (by omega), fun _ => ⟨by omega, n, by omega, e, fun i h1 h2 => absurd h2 (by omega)⟩⟩
theorem inn.old {pl : Nat → Int32} {n : Nat} {r : Int} (hi : inn pl n r) (h : (pl n).toInt ≤ 30) : inn pl (n + 1) r := ⟨fun q i hn => by
  by_cases e : i = n
  · subst e
    exact h
  · exact hi.1 q i (by omega), fun q => by
  obtain ⟨g1, j, g2, g3, g4⟩ := hi.2 q
  refine ⟨g1, j, by omega, g3, fun i h1 h2 => ?_⟩
  by_cases e : i = n
  · subst e
    exact h
  · exact g4 i h1 (by omega)⟩
theorem inn.nsq {op arg pl pa : Nat → Int32} {s nC pd : Nat} {c r : Int} (hi : inn pl pd r) (h : PI op arg pl pa s nC pd c) (h32 : r ≠ 32) : nSq pl pd := fun i hn e => by
  by_cases q : r = -1
  · have := hi.1 q i hn
    omega
  · obtain ⟨g1, j, g2, g3, g4⟩ := hi.2 q
    have h5 := (h.2.2.1 j g2).2.1
    by_cases e1 : i < j
    · rcases h.2.2.2.2 i j e1 g2 e with h4 | h4 <;> omega
    · by_cases e2 : i = j
      · subst e2
        omega
      · have := g4 i (by omega) hn
        omega
/-- behind settle(5) a bracket lies on top -/
theorem PI.top5 {op arg pl pa : Nat → Int32} {s nC pd : Nat} {c : Int} {j : Nat} (h : PI op arg pl pa s nC (pd + 1) c) (hj : j < pd + 1) (e : (pl j).toInt = 32) (h25 : 25 ≤ (pl pd).toInt) : 31 ≤ (pl pd).toInt := by
  by_cases e1 : j = pd
  · subst e1
    omega
  · rcases h.2.2.2.2 j pd (by omega) (by omega) e with h4 | h4 <;> omega
theorem PT.p {op arg pl pa : Nat → Int32} {s nC pd : Nat} {tn c : Int} (h : PT op arg pl pa s nC pd tn) (hc : c = if tn ≤ 1 then 0 else 1) : PI op arg pl pa s nC pd c := hc ▸ h.1
theorem PT.mk {op arg pl pa op1 arg1 pl1 pa1 : Nat → Int32} {s nC pd nC1 pd1 : Nat} {tn c : Int} (h : PI op arg pl pa s nC pd c) (hc : c = if tn ≤ 1 then 0 else 1) (h1 : tn = 0 ∨ tn = 2 → nSq pl pd) (h2 : tn = 4 → ∀ i : Nat, i < pd → (pl i).toInt ≤ 30) (e1 : op1 = op) (e2 : arg1 = arg) (e3 : pl1 = pl) (e4 : pa1 = pa) (e5 : nC1 = nC) (e6 : pd1 = pd) : PT op1 arg1 pl1 pa1 s nC1 pd1 tn := by
  subst e1
  subst e2
  subst e3
  subst e4
  subst e5
  subst e6
  exact ⟨hc ▸ h, h1, h2⟩
/-- what falls while an expression is read -/
def mz_me (b t f : Int) : Int := if b = 0 ∧ t ≠ 4 then 5 * (401 - f) + t + 1 else 0
theorem mz_me.nn {b t f : Int} (h0 : 0 ≤ t) (h : f ≤ 400) : 0 ≤ mz_me b t f := by
  unfold mz_me
  split <;> omega
theorem mz_me.lt {b t f b1 t1 f1 : Int} {N : Nat} (h : mz_me b t f < ((N + 1 : Nat) : Int)) (hb : b = 0) (ht : t ≠ 4) (h0 : 0 ≤ t) (hf : f ≤ 400) (hs : b1 = 0 → t1 ≠ 4 → (f + 1 ≤ f1 ∧ t1 ≤ 3) ∨ (f ≤ f1 ∧ t1 < t)) : mz_me b1 t1 f1 < (N : Int) := by
  unfold mz_me at h ⊢
  rw [if_pos ⟨hb, ht⟩] at h
  by_cases q : b1 = 0 ∧ t1 ≠ 4
  · rw [if_pos q]
    rcases hs q.1 q.2 with h4 | h4 <;> omega
  · rw [if_neg q]
    omega
theorem mz_me.le {b t f : Int} (h0 : 0 ≤ f) (h1 : t ≤ 4) : mz_me b t f < ((2011 : Nat) : Int) := by
  unfold mz_me
  split <;> omega
/-- all is read: the code is well formed -/
theorem PT.over {op arg pl pa : Nat → Int32} {s nC pd : Nat} (h : PI op arg pl pa s nC pd 1) (h0 : pd = 0) : WFC op arg s nC := by
  subst h0
  exact h.done
theorem dl.le (op : Nat → Int32) (s : Nat) : ∀ k : Nat, s ≤ k → dl op k - dl op s ≤ (k : Int) - (s : Int) := by
  intro k
  induction k with
  | zero => intro h; rw [show s = 0 by omega]; omega
  | succ k ih =>
    intro h
    by_cases e : s = k + 1
    · subst e
      omega
    · have h9 := ih (by omega)
      rw [dl.s]
      split
      · omega
      · split <;> omega
/-- the clauses that are read (w places each): where their code lies (at ds), and that it is well formed -/
def CLS (w : Nat) (ds : List Nat) (op arg cl : Nat → Int32) (nC n : Int) : Prop := ∀ c d : Nat, (c : Int) < n → d ∈ ds → WFX op arg (cl (w * c + d)) (cl (w * c + d + 1)) ∧ (cl (w * c + d + 1)).toInt ≤ nC
theorem WFX.low {op arg op1 arg1 : Nat → Int32} {s e : Int32} {n : Nat} (h : WFX op arg s e) (he : e.toInt ≤ (n : Int)) (h1 : low n op op1) (h2 : low n arg arg1) : WFX op1 arg1 s e := ⟨h.1, h.2.1, h.2.2.1, h.2.2.2.congr (by have := h.1; have := h.2.1; omega) (fun j hj => ⟨h1 j (by omega), h2 j (by omega)⟩)⟩
theorem WFX.nil {op arg : Nat → Int32} {s : Int32} (h0 : 0 ≤ s.toInt) (h1 : s.toInt ≤ 400) : WFX op arg s s := ⟨h0, Int.le_refl _, h1, fun k a b => absurd b (by omega)⟩
theorem CLS.none (w : Nat) (ds : List Nat) (op arg cl : Nat → Int32) (nC : Int) : CLS w ds op arg cl nC 0 := fun c d h => absurd h (by omega)
theorem CLS.low {w : Nat} {ds : List Nat} {op arg op1 arg1 cl : Nat → Int32} {nC n : Int} {N : Nat} (h : CLS w ds op arg cl nC n) (hN : nC ≤ (N : Int)) (h1 : low N op op1) (h2 : low N arg arg1) : CLS w ds op1 arg1 cl nC n := fun c d hc hd => by
  obtain ⟨g1, g2⟩ := h c d hc hd
  exact ⟨g1.low (by omega) h1 h2, g2⟩
theorem CLS.to {w : Nat} {ds : List Nat} {op arg op1 arg1 cl : Nat → Int32} {nC n : Int} (h : CLS w ds op arg cl nC n) (e1 : op1 = op) (e2 : arg1 = arg) : CLS w ds op1 arg1 cl nC n := by
  subst e1
  subst e2
  exact h
theorem mz_snoc {w : Nat} {ds : List Nat} {op arg cl cl1 : Nat → Int32} {nC nC1 n n1 : Int} {N : Nat} (h : CLS w ds op arg cl nC n) (hn : n = (N : Int)) (hn1 : n1 = n + 1) (hl : low (w * N) cl cl1) (hw : ∀ d ∈ ds, d + 1 < w) (hC : nC ≤ nC1) (hx : ∀ d ∈ ds, WFX op arg (cl1 (w * N + d)) (cl1 (w * N + d + 1)) ∧ (cl1 (w * N + d + 1)).toInt ≤ nC1) : CLS w ds op arg cl1 nC1 n1 := fun c d hc hd => by
  by_cases e : c = N
  · subst e
    exact hx d hd
  · obtain ⟨g1, g2⟩ := h c d (by omega) hd
    have h9 := hw d hd
    have h8 : w * c + w ≤ w * N := by
      have : w * (c + 1) ≤ w * N := Nat.mul_le_mul_left w (by omega)
      rw [Nat.mul_add] at this
      omega
    rw [hl _ (by omega), hl _ (by omega)]
    exact ⟨g1, by omega⟩
/-- a code laid out two by two -/
def cpi (f g1 g2 : Nat → Int32) (b n : Nat) : Nat → Int32 := fun j => if b ≤ j ∧ j < b + 2 * n then (if (j - b) % 2 = 0 then g1 ((j - b) / 2) else g2 ((j - b) / 2)) else f j
theorem cpi.zero (f g1 g2 : Nat → Int32) (b : Nat) : cpi f g1 g2 b 0 = f := by
  funext j
  unfold cpi
  rw [if_neg (by omega)]
theorem cpi.out {f g1 g2 : Nat → Int32} {b n j : Nat} (h : j < b ∨ b + 2 * n ≤ j) : cpi f g1 g2 b n j = f j := by
  unfold cpi
  rw [if_neg (by omega)]
theorem cpi.even {f g1 g2 : Nat → Int32} {b n j : Nat} (h : j < n) : cpi f g1 g2 b n (b + 2 * j) = g1 j := by
  unfold cpi
  rw [if_pos (by omega), if_pos (by omega), show (b + 2 * j - b) / 2 = j by omega]
theorem cpi.odd {f g1 g2 : Nat → Int32} {b n j : Nat} (h : j < n) : cpi f g1 g2 b n (b + 2 * j + 1) = g2 j := by
  unfold cpi
  rw [if_pos (by omega), if_neg (by omega), show (b + 2 * j + 1 - b) / 2 = j by omega]
theorem cpi.step {f g1 g2 u u1 u2 : Nat → Int32} {b n : Nat} {i i2 x y : Int32} (hc : u = cpi f g1 g2 b n) (hw1 : u1 = upd u i.toNatClampNeg x) (hi : i.toInt = ((b + 2 * n : Nat) : Int)) (hx : x = g1 n) (hw2 : u2 = upd u1 i2.toNatClampNeg y) (hi2 : i2.toInt = ((b + 2 * n + 1 : Nat) : Int)) (hy : y = g2 n) : u2 = cpi f g1 g2 b (n + 1) := by
  have a1 := tk_nat hi (by omega)
  have a2 := tk_nat hi2 (by omega)
  rw [hw2, hw1, hc, show i.toNatClampNeg = b + 2 * n by omega, show i2.toNatClampNeg = b + 2 * n + 1 by omega, hx, hy]
  funext j
  by_cases e1 : j = b + 2 * n + 1
  · subst e1
    rw [pk_us, cpi.odd (by omega)]
  · rw [pk_un e1]
    by_cases e2 : j = b + 2 * n
    · subst e2
      rw [pk_us, cpi.even (by omega)]
    · rw [pk_un e2]
      unfold cpi
      by_cases e3 : b ≤ j ∧ j < b + 2 * n
      · rw [if_pos e3, if_pos (show b ≤ j ∧ j < b + 2 * (n + 1) by omega)]
      · rw [if_neg e3, if_neg (show ¬ (b ≤ j ∧ j < b + 2 * (n + 1)) by omega)]
theorem mz_newlaw {f cl op arg : Nat → Int32} {q n nC : Nat} {x v : Int32} (h3 : mz_P true 3 f) (hq : q < 6) (hn : n ≤ 12) (hnC : nC ≤ 400) (hx : x.toInt = (n : Int)) (hv : v.toInt = (q : Int) + 1) (hC : CLS 8 [3, 5] op arg cl nC n) : mz_P true 3 (upd (cpi (va_cpy cl (upd f (160 + 900 * q + 1) x) 0 (160 + 900 * q + 2) (8 * n)) op arg (160 + 900 * q + 98) nC) 4 v) := by
  have lo : ∀ j : Nat, j ≠ 4 → (j < 160 + 900 * q ∨ 160 + 900 * q + 900 ≤ j) → upd (cpi (va_cpy cl (upd f (160 + 900 * q + 1) x) 0 (160 + 900 * q + 2) (8 * n)) op arg (160 + 900 * q + 98) nC) 4 v j = f j := fun j e h => by
    rw [pk_un e, cpi.out (by omega), mz_cpout (by omega), pk_un (by omega)]
  refine ⟨fun j hj => ?_, fun _ => ?_, fun q' hq' => ?_⟩
  · by_cases e : j = 4
    · subst e
      rw [pk_us]
      unfold mE
      omega
    · rw [lo j e (by omega)]
      exact h3.1 j hj
  · exact dO.congr (fun j hj => lo _ (by omega) (by omega)) (h3.2.1 rfl)
  · by_cases e : q' = q
    · subst e
      have e1 : upd (cpi (va_cpy cl (upd f (160 + 900 * q' + 1) x) 0 (160 + 900 * q' + 2) (8 * n)) op arg (160 + 900 * q' + 98) nC) 4 v (160 + 900 * q' + 1) = x := by
        rw [pk_un (by omega), cpi.out (by omega), mz_cpout (by omega), pk_us]
      have hlo : low nC op (fun j => upd (cpi (va_cpy cl (upd f (160 + 900 * q' + 1) x) 0 (160 + 900 * q' + 2) (8 * n)) op arg (160 + 900 * q' + 98) nC) 4 v (160 + 900 * q' + 98 + 2 * j)) := fun j hj => by
        show upd _ 4 v _ = _
        rw [pk_un (by omega), cpi.even hj]
      have hla : low nC arg (fun j => upd (cpi (va_cpy cl (upd f (160 + 900 * q' + 1) x) 0 (160 + 900 * q' + 2) (8 * n)) op arg (160 + 900 * q' + 98) nC) 4 v (160 + 900 * q' + 98 + 2 * j + 1)) := fun j hj => by
        show upd _ 4 v _ = _
        rw [pk_un (by omega), cpi.odd hj]
      refine ⟨by rw [e1]; omega, fun c hc => ?_⟩
      rw [e1] at hc
      have e2 : ∀ i : Nat, i < 8 → upd (cpi (va_cpy cl (upd f (160 + 900 * q' + 1) x) 0 (160 + 900 * q' + 2) (8 * n)) op arg (160 + 900 * q' + 98) nC) 4 v (160 + 900 * q' + 2 + 8 * c + i) = cl (8 * c + i) := fun i hi => by
        rw [pk_un (by omega), cpi.out (by omega), mz_cpin (by omega) (by omega)]
        congr 1
        omega
      rw [e2 3 (by omega), e2 4 (by omega), e2 5 (by omega), e2 6 (by omega)]
      obtain ⟨a1, a2⟩ := hC c 3 (by omega) (by decide)
      obtain ⟨b1, b2⟩ := hC c 5 (by omega) (by decide)
      exact ⟨a1.low a2 hlo hla, b1.low b2 hlo hla⟩
    · exact (h3.2.2 q' hq').shift (fun j hj => lo _ (by omega) (by omega))
