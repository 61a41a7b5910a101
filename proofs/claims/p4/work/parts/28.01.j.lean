/-! JX: what both sides do, as plain functions -/
def jm (h o b : Int32) : Int32 := if b.toInt = ((h >>> (o &&& 31)) &&& (1 : Int32)).toInt then h else if b.toInt = 1 then h + ((1 : Int32) <<< (o &&& 31)) else h + -((1 : Int32) <<< (o &&& 31))
theorem jh_all : ∀ (x : Fin 256) (y : Fin 8) (z : Fin 2), jh (nI x.val) (nI y.val) (nI z.val) = jm (nI x.val) (nI y.val) (nI z.val) ∧ 0 ≤ (jh (nI x.val) (nI y.val) (nI z.val)).toInt ∧ (jh (nI x.val) (nI y.val) (nI z.val)).toInt ≤ 255 := by decide +kernel
theorem nI_get {x : Int32} (h0 : 0 ≤ x.toInt) : ∃ a : Nat, a < 2 ^ 31 ∧ x = nI a := by
  obtain ⟨a, ha, e⟩ := nI_of (x := x) (fun q => by have := (fi_lt rfl (show (0 : Int32).toInt = 0 by decide)).mp q; omega)
  exact ⟨a, ha, e⟩
theorem jh_jm {h o b : Int32} (h0 : 0 ≤ h.toInt) (h1 : h.toInt ≤ 255) (o0 : 0 ≤ o.toInt) (o1 : o.toInt ≤ 7) (b0 : 0 ≤ b.toInt) (b1 : b.toInt ≤ 1) : jh h o b = jm h o b ∧ 0 ≤ (jh h o b).toInt ∧ (jh h o b).toInt ≤ 255 := by
  obtain ⟨x, hx, rfl⟩ := nI_get h0
  obtain ⟨y, hy, rfl⟩ := nI_get o0
  obtain ⟨z, hz, rfl⟩ := nI_get b0
  rw [nI_toInt hx] at h1
  rw [nI_toInt hy] at o1
  rw [nI_toInt hz] at b1
  exact jh_all ⟨x, by omega⟩ ⟨y, by omega⟩ ⟨z, by omega⟩
/-- a byte of a number, as the reference takes it -/
def jbr (x s : Int32) : Int32 := (x >>> (s &&& 31)) &&& (255 : Int32)
def jpr (f : Nat → Int32) (n : Nat) (x : Int32) : Nat → Int32 := upd (upd (upd (upd f n (jbr x 24)) (n + 1) (jbr x 16)) (n + 2) (jbr x 8)) (n + 3) (jbr x 0)
theorem j255 : ∀ i : Fin 32, (255#32).getLsbD i.val = decide (i.val < 8) := by decide +kernel
theorem jb_bv (x : BitVec 32) (s : Nat) (hs : s ≤ 24) : (x >>> s) &&& 255#32 = (x.sshiftRight s) &&& 255#32 := by
  apply BitVec.eq_of_getLsbD_eq
  intro i hi
  rw [BitVec.getLsbD_and, BitVec.getLsbD_and, BitVec.getLsbD_ushiftRight, BitVec.getLsbD_sshiftRight, j255 ⟨i, hi⟩]
  by_cases h8 : i < 8
  · have h9 : s + i < 32 := by omega
    have h7 : ¬ (32 ≤ i) := by omega
    simp [h9, h7]
  · simp [h8]
theorem jb_24 (x : Int32) : jb x 24 = jbr x 24 := Int32.toBitVec_inj.mp (show (x.toBitVec >>> (24 : Nat)) &&& 255#32 = (x.toBitVec.sshiftRight 24) &&& 255#32 from jb_bv _ _ (by decide))
theorem jb_16 (x : Int32) : jb x 16 = jbr x 16 := Int32.toBitVec_inj.mp (show (x.toBitVec >>> (16 : Nat)) &&& 255#32 = (x.toBitVec.sshiftRight 16) &&& 255#32 from jb_bv _ _ (by decide))
theorem jb_8 (x : Int32) : jb x 8 = jbr x 8 := Int32.toBitVec_inj.mp (show (x.toBitVec >>> (8 : Nat)) &&& 255#32 = (x.toBitVec.sshiftRight 8) &&& 255#32 from jb_bv _ _ (by decide))
theorem jb_0 (x : Int32) : jb x 0 = jbr x 0 := Int32.toBitVec_inj.mp (show (x.toBitVec >>> (0 : Nat)) &&& 255#32 = (x.toBitVec.sshiftRight 0) &&& 255#32 from jb_bv _ _ (by decide))
theorem jpf_jpr {f g : Nat → Int32} {n m : Nat} {x : Int32} (h : ∀ j : Nat, j < n → f j = g j) (hm : m = n + 4) : ∀ j : Nat, j < m → jpf f n x j = jpr g n x j := fun j hj => by
  unfold jpf jpr
  rw [jb_24, jb_16, jb_8, jb_0]
  by_cases e3 : j = n + 3
  · subst e3
    rw [pk_us, pk_us]
  · rw [pk_un e3, pk_un e3]
    by_cases e2 : j = n + 2
    · subst e2
      rw [pk_us, pk_us]
    · rw [pk_un e2, pk_un e2]
      by_cases e1 : j = n + 1
      · subst e1
        rw [pk_us, pk_us]
      · rw [pk_un e1, pk_un e1]
        by_cases e0 : j = n
        · subst e0
          rw [pk_us, pk_us]
        · rw [pk_un e0, pk_un e0]
          exact h j (by omega)
/-- what an answer from 0 on says, and what one below 0 -/
def jW (v : Int32) (A B : Prop) : Prop := (0 ≤ v.toInt → A) ∧ (v.toInt ≤ -1 → B)
/-- the reference behind i bytes of the TAPE: its row is f, so many came, so many COUGHS -/
def jrow (tp : Nat → Int32) (L : Int) (f3 : Nat → Int32) (i c r : Int) (f : Nat → Int32) : Prop := ∃ q : Nat, i = 2 * (q : Int) ∧ ∃ F G : Nat → Int32, rw9 tp L (f3 1).toInt (fun j => f3 (58 + 2 * j)) (fun j => f3 (59 + 2 * j)) q = ((f 1).toInt, c, r, F, G) ∧ (∀ j : Nat, j < 10 → f (58 + 2 * j) = F j ∧ f (59 + 2 * j) = G j) ∧ ∀ j : Nat, j ≠ 1 → ¬ (58 ≤ j ∧ j < 78) → f j = f3 j
theorem jrow.zero (tp : Nat → Int32) (L : Int) (f3 f : Nat → Int32) (h : f = f3) : jrow tp L f3 0 0 0 f := by
  subst h
  exact ⟨0, rfl, _, _, rfl, fun _ _ => ⟨rfl, rfl⟩, fun _ _ _ => rfl⟩
theorem jrow.no {tp f3 f : Nat → Int32} {L i c r i1 c1 r1 : Int} (h : jrow tp L f3 i c r f) (hL : L ≤ i + 1) (e0 : i1 = i + 2) (e1 : c1 = c) (e2 : r1 = r + 1) : jrow tp L f3 i1 c1 r1 f := by
  obtain ⟨q, hi, F, G, hw, hF, ho⟩ := h
  exact ⟨q + 1, by omega, F, G, rw9_no hw hi hL rfl e1 e2, hF, ho⟩
theorem jrow.call {tp f3 f f1 : Nat → Int32} {L i c r i1 c1 r1 : Int} {a b v g : Int32} {ia ib : Nat} (h : jrow tp L f3 i c r f) (hL : i + 1 < L) (hg : f 1 = g) (ha : a = tp ia) (ha2 : (ia : Int) = i) (hb : b = tp ib) (hb2 : (ib : Int) = i + 1) (hq : jW v (∃ z : Int32, z.toInt = g.toInt + 1 ∧ f1 = upd (upd (upd f (58 + 2 * g.toInt.toNat) a) (59 + 2 * g.toInt.toNat) b) (1) z) (f1 = f)) (g0 : 0 ≤ g.toInt) (e0 : i1 = i + 2) (hy : 0 ≤ v.toInt → 1 ≤ a.toInt ∧ a.toInt ≤ 99 ∧ 0 ≤ b.toInt ∧ b.toInt ≤ 4 ∧ g.toInt ≤ 9) (hn : v.toInt ≤ -1 → ¬ (1 ≤ a.toInt ∧ a.toInt ≤ 99 ∧ 0 ≤ b.toInt ∧ b.toInt ≤ 4 ∧ g.toInt ≤ 9)) (h1 : 0 ≤ v.toInt → c1 = c + 1 ∧ r1 = r) (h0 : v.toInt ≤ -1 → c1 = c ∧ r1 = r + 1) : jrow tp L f3 i1 c1 r1 f1 := by
  obtain ⟨q, hi, F, G, hw, hF, ho⟩ := h
  rw [hg] at hw
  have ea : a = tp (2 * q) := ha.trans (congrArg tp (by omega))
  have eb : b = tp (2 * q + 1) := hb.trans (congrArg tp (by omega))
  by_cases e : 0 ≤ v.toInt
  · obtain ⟨z, hz, rfl⟩ := hq.1 e
    have h9 := hy e
    refine ⟨q + 1, by omega, _, _, rw9_call (n1 := z.toInt) hw hi hL ea eb rfl hy hn (fun _ => ⟨hz, h1 e⟩) (fun h8 => by omega), fun j hj => ?_, fun j hj hj2 => ?_⟩
    · rw [cif_t e, cif_t e]
      by_cases ej : j = g.toInt.toNat
      · subst ej
        rw [pk_us, pk_us, pk_un (by omega), pk_un (by omega), pk_us, pk_un (by omega), pk_us]
        exact ⟨rfl, rfl⟩
      · rw [pk_un ej, pk_un ej, pk_un (by omega), pk_un (by omega), pk_un (by omega), pk_un (by omega), pk_un (by omega), pk_un (by omega)]
        exact hF j hj
    · rw [pk_un hj, pk_un (by omega), pk_un (by omega)]
      exact ho j hj hj2
  · have e2 : v.toInt ≤ -1 := by omega
    have h9 := hq.2 e2
    subst h9
    refine ⟨q + 1, by omega, _, _, rw9_call (n1 := (f1 1).toInt) hw hi hL ea eb rfl hy hn (fun h8 => by omega) (fun _ => ⟨by rw [hg], h0 e2⟩), fun j hj => ?_, ho⟩
    rw [cif_f e2, cif_f e2]
    exact hF j hj
theorem rw9_cong {tp ft : Nat → Int32} {L n : Int} {f g f' g' : Nat → Int32} (hL : ∀ j : Nat, (j : Int) < L → ft j = tp j) (h0 : 0 ≤ n) (h10 : n ≤ 10) (hfg : ∀ j : Nat, (j : Int) < n → f j = f' j ∧ g j = g' j) : ∀ k : Nat, (rw9 ft L n f g k).1 = (rw9 tp L n f' g' k).1 ∧ (rw9 ft L n f g k).2.1 = (rw9 tp L n f' g' k).2.1 ∧ (rw9 ft L n f g k).2.2.1 = (rw9 tp L n f' g' k).2.2.1 ∧ 0 ≤ (rw9 ft L n f g k).1 ∧ (rw9 ft L n f g k).1 ≤ 10 ∧ ∀ j : Nat, (j : Int) < (rw9 ft L n f g k).1 → (rw9 ft L n f g k).2.2.2.1 j = (rw9 tp L n f' g' k).2.2.2.1 j ∧ (rw9 ft L n f g k).2.2.2.2 j = (rw9 tp L n f' g' k).2.2.2.2 j := by
  intro k
  induction k with
  | zero => exact ⟨rfl, rfl, rfl, h0, h10, hfg⟩
  | succ k ih =>
    obtain ⟨i1, i2, i3, i4, i5, i6⟩ := ih
    by_cases hk : 2 * (k : Int) + 1 < L
    · have ea : ft (2 * k) = tp (2 * k) := hL _ (by omega)
      have eb : ft (2 * k + 1) = tp (2 * k + 1) := hL _ (by omega)
      rw [rw9.s, rw9.s, ea, eb, ← i1]
      split
      · rename_i hc
        refine ⟨rfl, by rw [i2], by rw [i3], by show 0 ≤ _ + 1; omega, by show _ + 1 ≤ (10 : Int); omega, fun j hj => ?_⟩
        show upd _ _ _ j = upd _ _ _ j ∧ upd _ _ _ j = upd _ _ _ j
        by_cases ej : j = (rw9 ft L n f g k).1.toNat
        · rw [ej, pk_us, pk_us, pk_us, pk_us]
          exact ⟨rfl, rfl⟩
        · rw [pk_un ej, pk_un ej, pk_un ej, pk_un ej]
          have hj2 : (j : Int) < (rw9 ft L n f g k).1 + 1 := hj
          exact i6 j (by omega)
      · exact ⟨rfl, i2, by rw [i3], i4, i5, i6⟩
    · rw [rw9.s, rw9.s, if_neg (fun h => hk h.1), if_neg (fun h => hk h.1)]
      exact ⟨i1, i2, by rw [i3], i4, i5, i6⟩
theorem jrow_end {tp ft f3 f3' fs fk f9 f8 : Nat → Int32} {L r2 c2 : Int} {n1 n9 c9 r : Int32} {k : Nat} (hL : ∀ j : Nat, (j : Int) < L → ft j = tp j) (hn : f3 1 = n1) (h0 : 0 ≤ n1.toInt) (h10 : n1.toInt ≤ 10) (hfs : ∀ j : Nat, (j : Int) < n1.toInt → fs j = f3 (58 + 2 * j) ∧ fk j = f3 (59 + 2 * j)) (hc : rw9 ft L n1.toInt fs fk k = (n9.toInt, r.toInt, c9.toInt, f9, f8)) (hr : jrow tp L f3 (2 * (k : Int)) r2 c2 f3') : f3' 1 = n9 ∧ r.toInt = r2 ∧ c9.toInt = c2 ∧ 0 ≤ n9.toInt ∧ n9.toInt ≤ 10 ∧ (∀ j : Nat, (j : Int) < n9.toInt → f9 j = f3' (58 + 2 * j) ∧ f8 j = f3' (59 + 2 * j)) ∧ ∀ j : Nat, j ≠ 1 → ¬ (58 ≤ j ∧ j < 78) → f3' j = f3 j := by
  obtain ⟨q, hq, F, G, hw, hF, ho⟩ := hr
  have eq : q = k := by omega
  subst eq
  rw [hn] at hw
  obtain ⟨i1, i2, i3, i4, i5, i6⟩ := rw9_cong (f := fs) (g := fk) (f' := fun j => f3 (58 + 2 * j)) (g' := fun j => f3 (59 + 2 * j)) hL h0 h10 hfs q
  rw [hc, hw] at i1 i2 i3
  rw [hc] at i4 i5
  rw [hc, hw] at i6
  have i1 : n9.toInt = (f3' 1).toInt := i1
  have i4 : 0 ≤ n9.toInt := i4
  have i5 : n9.toInt ≤ 10 := i5
  refine ⟨(fi_eq rfl rfl).mpr i1.symm, i2, i3, i4, i5, fun j hj => ?_, ho⟩
  have h9 := i6 j hj
  have h8 := hF j (by omega)
  exact ⟨h9.1.trans h8.1.symm, h9.2.trans h8.2.symm⟩

