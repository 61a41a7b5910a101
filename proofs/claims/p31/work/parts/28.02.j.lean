/-! p31: the search for a VERSE MADE, as a machine that both sides run -/
abbrev mSt : Type := Int × Int × (Nat → Int32)
abbrev mT : Type := Int × (Nat → Int32) × mSt
def mq (N : Int) (q : Nat → Int32) (j : Nat) : Int32 := if (j : Int) < N then q j else 0
theorem mq_at {N : Int} {q : Nat → Int32} {j : Nat} (h : (j : Int) < N) : mq N q j = q j := if_pos h
theorem mq_cg {N : Int} {q q' : Nat → Int32} (h : ∀ j : Nat, (j : Int) < N → q j = q' j) : mq N q = mq N q' := funext fun j => by
  unfold mq
  by_cases e : (j : Int) < N
  · rw [if_pos e, if_pos e, h j e]
  · rw [if_neg e, if_neg e]
def mAg (m : Nat) (f g : Nat → Int32) : Prop := ∀ j : Nat, j < m → f j = g j
def mAB (n : Int) (f g : Nat → Int32) : Prop := ∀ j : Nat, (j : Int) < n → f j = g j
theorem mAg.refl (m : Nat) (f : Nat → Int32) : mAg m f f := fun _ _ => rfl
theorem mAg.trans {m : Nat} {f g h : Nat → Int32} (a : mAg m f g) (b : mAg m g h) : mAg m f h := fun j hj => (a j hj).trans (b j hj)
theorem mAg.symm {m : Nat} {f g : Nat → Int32} (a : mAg m f g) : mAg m g f := fun j hj => (a j hj).symm
theorem mAg.mono {m n : Nat} {f g : Nat → Int32} (a : mAg n f g) (h : m ≤ n) : mAg m f g := fun j hj => a j (Nat.lt_of_lt_of_le hj h)
theorem mAg.pd {m k : Nat} {f g : Nat → Int32} {x : Int32} (a : mAg m f g) (hk : k = m) : mAg m (upd f k x) g := fun j hj => (pk_un (by omega)).trans (a j hj)
theorem mAg.up {m k : Nat} {f g : Nat → Int32} {x y : Int32} (a : mAg m f g) (hk : k = m) (e : x = y) : mAg (m + 1) (upd f m x) (upd g k y) := fun j hj => by
  subst hk
  subst e
  by_cases h : j = k
  · rw [h, pk_us, pk_us]
  · rw [pk_un h, pk_un h]
    exact a j (by omega)
def mBon (q2 f : Nat → Int32) (m : Nat) : Int := if m ≠ 0 ∧ q2 (f m).toInt.toNat = q2 (f (m - 1)).toInt.toNat then 3 else 0
def mS (q1 q2 f : Nat → Int32) : Nat → Int
  | 0 => 0
  | m + 1 => mS q1 q2 f m + ((q1 (f m).toInt.toNat).toInt + mBon q2 f m)
def mL (q3 f : Nat → Int32) : Nat → Int
  | 0 => 0
  | m + 1 => mL q3 f m + (q3 (f m).toInt.toNat).toInt
def mD (f : Nat → Int32) (m : Nat) : Prop := ∀ a b : Nat, a < b → b < m → (f a).toInt ≠ (f b).toInt
def mOk (L : Int) (q3 f : Nat → Int32) (m : Nat) : Prop := mD f m ∧ mL q3 f m ≤ L
theorem mS_s (q1 q2 f : Nat → Int32) (m : Nat) : mS q1 q2 f (m + 1) = mS q1 q2 f m + ((q1 (f m).toInt.toNat).toInt + mBon q2 f m) := rfl
theorem mL_s (q3 f : Nat → Int32) (m : Nat) : mL q3 f (m + 1) = mL q3 f m + (q3 (f m).toInt.toNat).toInt := rfl
theorem mBon_cg {q2 f g : Nat → Int32} {m : Nat} (h : mAg (m + 1) f g) : mBon q2 f m = mBon q2 g m := by
  unfold mBon
  rw [h m (by omega), h (m - 1) (by omega)]
theorem mS_cg {q1 q2 f g : Nat → Int32} : ∀ m : Nat, mAg m f g → mS q1 q2 f m = mS q1 q2 g m := by
  intro m
  induction m with
  | zero => intro _; rfl
  | succ m ih =>
    intro h
    rw [mS_s, mS_s, ih (h.mono (by omega)), mBon_cg h, h m (by omega)]
theorem mL_cg {q3 f g : Nat → Int32} : ∀ m : Nat, mAg m f g → mL q3 f m = mL q3 g m := by
  intro m
  induction m with
  | zero => intro _; rfl
  | succ m ih =>
    intro h
    rw [mL_s, mL_s, ih (h.mono (by omega)), h m (by omega)]
theorem mD_cg {f g : Nat → Int32} {m : Nat} (h : mAg m f g) (d : mD f m) : mD g m := fun a b hab hb => by
  rw [← h a (by omega), ← h b hb]
  exact d a b hab hb
theorem mD_up {f : Nat → Int32} {m : Nat} {x : Int32} (d : mD f m) (h : ∀ j : Nat, j < m → (f j).toInt ≠ x.toInt) : mD (upd f m x) (m + 1) := fun a b hab hb => by
  by_cases e : b = m
  · subst e
    rw [pk_us, pk_un (by omega)]
    exact h a hab
  · rw [pk_un e, pk_un (by omega)]
    exact d a b hab (by omega)
def mTop (q1 q2 : Nat → Int32) (m : Nat) (f : Nat → Int32) (σ : mSt) : mSt := if m ≠ 0 ∧ σ.1 < mS q1 q2 f m then (mS q1 q2 f m, (m : Int), f) else σ
noncomputable def mStep (N L : Int) (q1 q2 q3 : Nat → Int32) (x : mT) : mT := by
  classical
  exact if x.1 < 0 then x else if N ≤ (x.2.1 x.1.toNat + 1).toInt then (x.1 - 1, upd x.2.1 x.1.toNat (x.2.1 x.1.toNat + 1), x.2.2) else if mOk L q3 (upd x.2.1 x.1.toNat (x.2.1 x.1.toNat + 1)) (x.1.toNat + 1) then (if x.1.toNat < 3 then (((x.1.toNat + 1 : Nat) : Int), upd (upd x.2.1 x.1.toNat (x.2.1 x.1.toNat + 1)) (x.1.toNat + 1) (-1), mTop q1 q2 (x.1.toNat + 1) (upd x.2.1 x.1.toNat (x.2.1 x.1.toNat + 1)) x.2.2) else (x.1, upd x.2.1 x.1.toNat (x.2.1 x.1.toNat + 1), mTop q1 q2 (x.1.toNat + 1) (upd x.2.1 x.1.toNat (x.2.1 x.1.toNat + 1)) x.2.2)) else (x.1, upd x.2.1 x.1.toNat (x.2.1 x.1.toNat + 1), x.2.2)
section MADE
variable {N L : Int} {q1 q2 q3 : Nat → Int32} {k : Nat} {f : Nat → Int32} {σ : mSt} {x : Int32}
theorem mStep_fix {y : mT} (h : y.1 < 0) : mStep N L q1 q2 q3 y = y := if_pos h
theorem mStep_end (hx : f k + 1 = x) (h : N ≤ x.toInt) : mStep N L q1 q2 q3 ((k : Int), f, σ) = ((k : Int) - 1, upd f k x, σ) := by
  subst hx
  unfold mStep
  rw [if_neg (show ¬ ((k : Int)) < 0 by omega)]
  exact if_pos h
theorem mStep_no (hx : f k + 1 = x) (h : ¬ N ≤ x.toInt) (ho : ¬ mOk L q3 (upd f k x) (k + 1)) : mStep N L q1 q2 q3 ((k : Int), f, σ) = ((k : Int), upd f k x, σ) := by
  subst hx
  unfold mStep
  rw [if_neg (show ¬ ((k : Int)) < 0 by omega)]
  refine (if_neg h).trans ?_
  exact if_neg ho
theorem mStep_dn (hx : f k + 1 = x) (h : ¬ N ≤ x.toInt) (ho : mOk L q3 (upd f k x) (k + 1)) (hk : k < 3) : mStep N L q1 q2 q3 ((k : Int), f, σ) = (((k + 1 : Nat) : Int), upd (upd f k x) (k + 1) (-1), mTop q1 q2 (k + 1) (upd f k x) σ) := by
  subst hx
  unfold mStep
  rw [if_neg (show ¬ ((k : Int)) < 0 by omega)]
  refine (if_neg h).trans ?_
  refine (if_pos ho).trans ?_
  exact if_pos hk
theorem mStep_st (hx : f k + 1 = x) (h : ¬ N ≤ x.toInt) (ho : mOk L q3 (upd f k x) (k + 1)) (hk : ¬ k < 3) : mStep N L q1 q2 q3 ((k : Int), f, σ) = ((k : Int), upd f k x, mTop q1 q2 (k + 1) (upd f k x) σ) := by
  subst hx
  unfold mStep
  rw [if_neg (show ¬ ((k : Int)) < 0 by omega)]
  refine (if_neg h).trans ?_
  refine (if_pos ho).trans ?_
  exact if_neg hk
noncomputable def mIt (N L : Int) (q1 q2 q3 : Nat → Int32) : Nat → mT → mT
  | 0, y => y
  | n + 1, y => mIt N L q1 q2 q3 n (mStep N L q1 q2 q3 y)
def mR (N L : Int) (q1 q2 q3 : Nat → Int32) (y z : mT) : Prop := ∃ n : Nat, mIt N L q1 q2 q3 n y = z
theorem mIt_add : ∀ (a b : Nat) (y : mT), mIt N L q1 q2 q3 (a + b) y = mIt N L q1 q2 q3 b (mIt N L q1 q2 q3 a y) := by
  intro a
  induction a with
  | zero => intro b y; rw [Nat.zero_add]; rfl
  | succ a ih =>
    intro b y
    rw [Nat.add_right_comm a 1 b]
    exact ih b _
theorem mIt_fix {y : mT} (h : y.1 < 0) : ∀ n : Nat, mIt N L q1 q2 q3 n y = y := by
  intro n
  induction n with
  | zero => rfl
  | succ n ih =>
    show mIt N L q1 q2 q3 n (mStep N L q1 q2 q3 y) = y
    rw [mStep_fix h, ih]
theorem mR.refl (y : mT) : mR N L q1 q2 q3 y y := ⟨0, rfl⟩
theorem mR.trans {y z w : mT} (a : mR N L q1 q2 q3 y z) (b : mR N L q1 q2 q3 z w) : mR N L q1 q2 q3 y w := by
  obtain ⟨n, hn⟩ := a
  obtain ⟨m, hm⟩ := b
  exact ⟨n + m, by rw [mIt_add, hn, hm]⟩
theorem mR.one {y z : mT} (a : mStep N L q1 q2 q3 y = z) : mR N L q1 q2 q3 y z := ⟨1, a⟩
theorem mR.det {y z w : mT} (a : mR N L q1 q2 q3 y z) (b : mR N L q1 q2 q3 y w) (hz : z.1 < 0) (hw : w.1 < 0) : z = w := by
  obtain ⟨n, hn⟩ := a
  obtain ⟨m, hm⟩ := b
  rcases Nat.le_total n m with h | h
  · obtain ⟨d, rfl⟩ := Nat.exists_eq_add_of_le h
    rw [mIt_add, hn, mIt_fix hz] at hm
    exact hm
  · obtain ⟨d, rfl⟩ := Nat.exists_eq_add_of_le h
    rw [mIt_add, hm, mIt_fix hw] at hn
    exact hn.symm
theorem m_inc {y : Int32} {i : Int} (h : y.toInt = i - 1) (h0 : 0 ≤ i) (h1 : i ≤ 1000) : (y + 1).toInt = i := by
  obtain ⟨z, hz, e⟩ := tk_inc y 1 (by decide) (by omega) (by omega)
  have e2 : y + 1 = z := e
  rw [e2]
  omega
theorem m_eq {y z : Int32} (h : y.toInt = z.toInt) : y = z := (fi_eq rfl rfl).mpr h
variable {m : Nat} {J Jc : Nat → Int32} {s0 s s' : mSt} {i : Int}
def mP (N L : Int) (q1 q2 q3 : Nat → Int32) (m : Nat) (J : Nat → Int32) (s0 s1 : mSt) : Prop := ∀ f C : Nat → Int32, mAg m f J → mAB s0.2.1 s0.2.2 C → ∃ g E : Nat → Int32, mR N L q1 q2 q3 ((m : Int), upd f m (-1), mTop q1 q2 m f (s0.1, s0.2.1, C)) ((m : Int) - 1, g, s1.1, s1.2.1, E) ∧ mAg m g J ∧ mAB s1.2.1 s1.2.2 E
def mP4 (q1 q2 : Nat → Int32) (J : Nat → Int32) (s0 s1 : mSt) : Prop := ∀ f C : Nat → Int32, mAg 4 f J → mAB s0.2.1 s0.2.2 C → ∃ E : Nat → Int32, mTop q1 q2 4 f (s0.1, s0.2.1, C) = (s1.1, s1.2.1, E) ∧ mAB s1.2.1 s1.2.2 E
def mI (N L : Int) (q1 q2 q3 : Nat → Int32) (m : Nat) (J : Nat → Int32) (s0 : mSt) (i : Int) (s : mSt) : Prop := ∀ f C : Nat → Int32, mAg m f J → mAB s0.2.1 s0.2.2 C → ∃ g E : Nat → Int32, mR N L q1 q2 q3 ((m : Int), upd f m (-1), mTop q1 q2 m f (s0.1, s0.2.1, C)) ((m : Int), g, s.1, s.2.1, E) ∧ mAg m g J ∧ (g m).toInt = i - 1 ∧ mAB s.2.1 s.2.2 E
theorem mTop_y {B C : Nat → Int32} {b l t : Int} (hm : m ≠ 0) (hf : mAg m f J) (ht : t = mS q1 q2 J m) (hlt : b < t) : mTop q1 q2 m f (b, l, C) = (t, (m : Int), f) := by
  unfold mTop
  rw [mS_cg m hf, ← ht]
  exact if_pos ⟨hm, hlt⟩
theorem mTop_n {C : Nat → Int32} {b l : Int} (hf : mAg m f J) (h : m = 0 ∨ mS q1 q2 J m ≤ b) : mTop q1 q2 m f (b, l, C) = (b, l, C) := by
  unfold mTop
  rw [mS_cg m hf]
  refine if_neg (fun h9 => ?_)
  have h8 : b < mS q1 q2 J m := h9.2
  have h7 := h9.1
  omega
theorem mI_top {t l : Int} {B : Nat → Int32} (hi : i = 0) (hm : m ≠ 0) (ht : t = mS q1 q2 J m) (hlt : s0.1 < t) (hl : l = (m : Int)) (hB : mAg m B J) : mI N L q1 q2 q3 m J s0 i (t, l, B) := fun f C hf _ => by
  subst hl
  subst hi
  refine ⟨upd f m (-1), f, ?_, hf.pd rfl, by rw [pk_us]; decide, fun j hj => ?_⟩
  · rw [mTop_y (B := C) hm hf ht hlt]
    exact mR.refl _
  · have hj9 : (j : Int) < (m : Int) := hj
    exact (hB j (by omega)).trans (hf j (by omega)).symm
theorem mI_nt (hi : i = 0) (h : m = 0 ∨ mS q1 q2 J m ≤ s0.1) : mI N L q1 q2 q3 m J s0 i s0 := fun f C hf hC => by
  subst hi
  refine ⟨upd f m (-1), C, ?_, hf.pd rfl, by rw [pk_us]; decide, hC⟩
  rw [mTop_n hf h]
  exact mR.refl _
theorem mI_skip {i' : Int} (hi : i' = i + 1) (h : mI N L q1 q2 q3 m J s0 i s) (h0 : 0 ≤ i) (hN : i < N) (hN9 : N ≤ 10) (hno : (∃ j : Nat, j < m ∧ (J j).toInt = i) ∨ L < mL q3 J m + (q3 i.toNat).toInt) : mI N L q1 q2 q3 m J s0 i' s := fun f C hf hC => by
  subst hi
  obtain ⟨g, E, hr, hg, hm, hE⟩ := h f C hf hC
  have hx := m_inc hm h0 (by omega)
  refine ⟨upd g m (g m + 1), E, hr.trans (mR.one (mStep_no rfl (by omega) (fun ho => ?_))), hg.pd rfl, by rw [pk_us]; omega, hE⟩
  rcases hno with ⟨j, hj, e⟩ | hlg
  · have h9 := ho.1 j m hj (by omega)
    rw [pk_us, pk_un (by omega), hg j hj] at h9
    omega
  · have h9 := ho.2
    rw [mL_s, pk_us, mL_cg m (hg.pd rfl), hx] at h9
    omega
theorem mI_ok {g : Nat → Int32} (hg : mAg m g J) (hd : mD J m) (hx : (g m + 1).toInt = i) (hno : ∀ j : Nat, j < m → (J j).toInt ≠ i) (hlg : mL q3 J m + (q3 i.toNat).toInt ≤ L) : mOk L q3 (upd g m (g m + 1)) (m + 1) := by
  refine ⟨mD_up (mD_cg hg.symm hd) (fun j hj => by rw [hg j hj, hx]; exact hno j hj), ?_⟩
  rw [mL_s, pk_us, mL_cg m (hg.pd rfl), hx]
  exact hlg
theorem mI_child {i' : Int} {y : Int32} {k : Nat} (hi : i' = i + 1) (h : mI N L q1 q2 q3 m J s0 i s) (h0 : 0 ≤ i) (hN : i < N) (hN9 : N ≤ 10) (hd : mD J m) (hno : ∀ j : Nat, j < m → (J j).toInt ≠ i) (hlg : mL q3 J m + (q3 i.toNat).toInt ≤ L) (hy : y.toInt = i) (hJ : mAg m Jc J) (hk : k = m) (hm3 : m < 3) (hc : mP N L q1 q2 q3 (m + 1) (upd Jc k y) s s') : mI N L q1 q2 q3 m J s0 i' s' := fun f C hf hC => by
  subst hi
  obtain ⟨g, E, hr, hg, hm, hE⟩ := h f C hf hC
  have hx := m_inc hm h0 (by omega)
  have e : g m + 1 = y := m_eq (by omega)
  have hok := mI_ok hg hd hx hno hlg
  rw [e] at hok hx
  obtain ⟨g', E', hr', hg', hE'⟩ := hc (upd g m y) E ((hg.trans hJ.symm).up hk rfl) hE
  rw [show ((m + 1 : Nat) : Int) - 1 = (m : Int) by omega] at hr'
  refine ⟨g', E', (hr.trans (mR.one (mStep_dn e (by omega) hok hm3))).trans hr', fun j hj => ?_, ?_, hE'⟩
  · subst hk
    rw [hg' j (by omega), pk_un (by omega)]
    exact hJ j hj
  · subst hk
    rw [hg' k (by omega), pk_us]
    omega
theorem mI_last {i' : Int} {y : Int32} {k : Nat} (hi : i' = i + 1) (h : mI N L q1 q2 q3 3 J s0 i s) (h0 : 0 ≤ i) (hN : i < N) (hN9 : N ≤ 10) (hd : mD J 3) (hno : ∀ j : Nat, j < 3 → (J j).toInt ≠ i) (hlg : mL q3 J 3 + (q3 i.toNat).toInt ≤ L) (hy : y.toInt = i) (hJ : mAg 3 Jc J) (hk : k = 3) (hc : mP4 q1 q2 (upd Jc k y) s s') : mI N L q1 q2 q3 3 J s0 i' s' := fun f C hf hC => by
  subst hi
  obtain ⟨g, E, hr, hg, hm, hE⟩ := h f C hf hC
  have hx := m_inc hm h0 (by omega)
  have e : g 3 + 1 = y := m_eq (by omega)
  have hok := mI_ok hg hd hx hno hlg
  rw [e] at hok hx
  obtain ⟨E', e', hE'⟩ := hc (upd g 3 y) E ((hg.trans hJ.symm).up hk rfl) hE
  have e9 := mStep_st (N := N) (L := L) (q1 := q1) (q2 := q2) (q3 := q3) (σ := (s.1, s.2.1, E)) e (by omega) hok (by omega)
  rw [show (3 + 1 : Nat) = 4 by decide, e'] at e9
  exact ⟨upd g 3 y, E', hr.trans (mR.one e9), hg.pd rfl, by rw [pk_us]; omega, hE'⟩
theorem mI_end (h : mI N L q1 q2 q3 m J s0 i s) (hN : N ≤ i) (h0 : 0 ≤ i) (h9 : i ≤ 1000) : mP N L q1 q2 q3 m J s0 s := fun f C hf hC => by
  obtain ⟨g, E, hr, hg, hm, hE⟩ := h f C hf hC
  have hx := m_inc hm h0 h9
  exact ⟨upd g m (g m + 1), E, hr.trans (mR.one (mStep_end rfl (by omega))), hg.pd rfl, hE⟩
theorem mP4_y {t l : Int} {B : Nat → Int32} (ht : t = mS q1 q2 J 4) (hlt : s0.1 < t) (hl : l = 4) (hB : mAg 4 B J) : mP4 q1 q2 J s0 (t, l, B) := fun f C hf _ => by
  subst hl
  refine ⟨f, mTop_y (B := C) (by decide) hf ht hlt, fun j hj => ?_⟩
  have hj9 : (j : Int) < 4 := hj
  exact (hB j (by omega)).trans (hf j (by omega)).symm
theorem mP4_n (h : mS q1 q2 J 4 ≤ s0.1) : mP4 q1 q2 J s0 s0 := fun f C hf hC => ⟨C, mTop_n hf (Or.inr h), hC⟩
/-! what the class carries along -/
def mB (J : Nat → Int32) (m : Nat) (u : Int32) : Prop := ∀ c : Nat, c < 10 → (u.toBitVec.getLsbD c = false ↔ ∀ j : Nat, j < m → (J j).toInt ≠ (c : Int))
def mU (N L : Int) (q1 q2 q3 : Nat → Int32) (m : Nat) (J : Nat → Int32) (u s l : Int32) : Prop := mD J m ∧ (∀ j : Nat, j < m → 0 ≤ (J j).toInt ∧ (J j).toInt < N) ∧ s.toInt = mS q1 q2 J m ∧ l.toInt = L - mL q3 J m ∧ mB J m u
theorem m1_32 : ∀ j : Fin 32, (1#32).getLsbD j.val = decide (j.val = 0) := by decide +kernel
theorem mb_bv (v : BitVec 32) (c : Nat) (hc : c < 31) : (v.sshiftRight c) &&& 1#32 = 0#32 ↔ v.getLsbD c = false := by
  constructor
  · intro h
    have h9 := congrArg (fun w => BitVec.getLsbD w 0) h
    have h8 : ((v.sshiftRight c) &&& 1#32).getLsbD 0 = (0#32).getLsbD 0 := h9
    rw [BitVec.getLsbD_and, BitVec.getLsbD_sshiftRight, m1_32 ⟨0, by decide⟩] at h8
    have h7 : c < 32 := by omega
    simpa [h7] using h8
  · intro h
    apply BitVec.eq_of_getLsbD_eq
    intro j hj
    rw [BitVec.getLsbD_and, m1_32 ⟨j, hj⟩]
    by_cases e : j = 0
    · subst e
      have h7 : c < 32 := by omega
      rw [BitVec.getLsbD_sshiftRight, Nat.add_zero, if_pos h7, h]
      rfl
    · simp [e]
theorem mb_z {v : Int32} : v.toInt = 0 ↔ v = 0 := ⟨fun h => (fi_eq rfl rfl).mpr (h.trans (by decide)), fun h => by rw [h]; decide⟩
theorem mb_lit {u v : Int32} {c : Nat} (hc : c < 31) (h : v.toBitVec = (u.toBitVec.sshiftRight c) &&& 1#32) : v.toInt = 0 ↔ u.toBitVec.getLsbD c = false := by
  rw [mb_z, ← mb_bv _ c hc, ← h]
  exact Int32.toBitVec_inj.symm
theorem mb_test {u y : Int32} (h0 : 0 ≤ y.toInt) (h9 : y.toInt ≤ 9) : ((u >>> (y &&& 31)) &&& (1 : Int32)).toInt = 0 ↔ u.toBitVec.getLsbD y.toInt.toNat = false := by
  have hy : y = nI y.toInt.toNat := m_eq (by rw [nI_toInt (by omega)]; omega)
  have key : ∀ c : Nat, c < 10 → (((u >>> (nI c &&& 31)) &&& (1 : Int32)).toInt = 0 ↔ u.toBitVec.getLsbD c = false) := by
    intro c hc
    match c, hc with
    | 0, _ => exact mb_lit (by decide) rfl
    | 1, _ => exact mb_lit (by decide) rfl
    | 2, _ => exact mb_lit (by decide) rfl
    | 3, _ => exact mb_lit (by decide) rfl
    | 4, _ => exact mb_lit (by decide) rfl
    | 5, _ => exact mb_lit (by decide) rfl
    | 6, _ => exact mb_lit (by decide) rfl
    | 7, _ => exact mb_lit (by decide) rfl
    | 8, _ => exact mb_lit (by decide) rfl
    | 9, _ => exact mb_lit (by decide) rfl
    | n + 10, h => exact absurd h (by omega)
  have h := key y.toInt.toNat (by omega)
  rw [← hy] at h
  exact h
theorem mb_or1 : ∀ (b c : Fin 10), ((1 : Int32) <<< (nI b.val &&& 31)).toBitVec.getLsbD c.val = decide (b.val = c.val) := by decide +kernel
theorem mb_or {u y : Int32} (h0 : 0 ≤ y.toInt) (h9 : y.toInt ≤ 9) {c : Nat} (hc : c < 10) : (u ||| ((1 : Int32) <<< (y &&& 31))).toBitVec.getLsbD c = (u.toBitVec.getLsbD c || decide (y.toInt.toNat = c)) := by
  have hy : y = nI y.toInt.toNat := m_eq (by rw [nI_toInt (by omega)]; omega)
  have h := mb_or1 ⟨y.toInt.toNat, by omega⟩ ⟨c, hc⟩
  rw [← hy] at h
  rw [Int32.toBitVec_or, BitVec.getLsbD_or, h]
theorem mB_next {u y : Int32} (h : mB J m u) (h0 : 0 ≤ y.toInt) (h9 : y.toInt ≤ 9) : mB (upd J m y) (m + 1) (u ||| ((1 : Int32) <<< (y &&& 31))) := fun c hc => by
  rw [mb_or h0 h9 hc]
  constructor
  · intro hf j hj
    have h1 : u.toBitVec.getLsbD c = false := by
      cases e : u.toBitVec.getLsbD c
      · rfl
      · rw [e] at hf; simp at hf
    have h2 : ¬ y.toInt.toNat = c := fun e => by rw [decide_eq_true e, Bool.or_true] at hf; exact Bool.noConfusion hf
    by_cases e : j = m
    · subst e
      rw [pk_us]
      omega
    · rw [pk_un e]
      exact (h c hc).mp h1 j (by omega)
  · intro hf
    have h1 := (h c hc).mpr (fun j hj => by have h7 := hf j (by omega); rw [pk_un (by omega)] at h7; exact h7)
    have h2 := hf m (by omega)
    rw [pk_us] at h2
    have h3 : ¬ y.toInt.toNat = c := by omega
    rw [h1, decide_eq_false h3]
    rfl
theorem mB_cg {u : Int32} (h : mB J m u) (e : mAg m Jc J) : mB Jc m u := fun c hc => (h c hc).trans ⟨fun g j hj => by rw [e j hj]; exact g j hj, fun g j hj => by rw [← e j hj]; exact g j hj⟩
theorem mU_at {u t l : Int32} (h : mU N L q1 q2 q3 m J u t l) (e : mAg m Jc J) {j : Nat} (hj : j < m) : 0 ≤ (Jc j).toInt ∧ (Jc j).toInt < N := by
  rw [e j hj]
  exact h.2.1 j hj
theorem mU_free {u t l y : Int32} (h : mU N L q1 q2 q3 m J u t l) (h0 : 0 ≤ y.toInt) (h9 : y.toInt ≤ 9) (hb : ((u >>> (y &&& 31)) &&& (1 : Int32)).toInt = 0) : ∀ j : Nat, j < m → (J j).toInt ≠ y.toInt := fun j hj => by
  have h1 := (h.2.2.2.2 y.toInt.toNat (by omega)).mp ((mb_test h0 h9).mp hb) j hj
  omega
theorem mU_used {u t l y : Int32} (h : mU N L q1 q2 q3 m J u t l) (h0 : 0 ≤ y.toInt) (h9 : y.toInt ≤ 9) (hb : ((u >>> (y &&& 31)) &&& (1 : Int32)).toInt ≠ 0) : ∃ j : Nat, j < m ∧ (J j).toInt = y.toInt := by
  by_cases e : ∃ j : Nat, j < m ∧ (J j).toInt = y.toInt
  · exact e
  · refine absurd ((mb_test h0 h9).mpr ((h.2.2.2.2 y.toInt.toNat (by omega)).mpr (fun j hj h7 => e ⟨j, hj, by omega⟩))) hb
theorem mBon_0 {k : Nat} {y : Int32} (hm : m = 0) : mBon q2 (upd Jc k y) m = 0 := if_neg (fun h => h.1 hm)
theorem mBon_y {y z : Int32} {k j : Nat} (hm : m ≠ 0) (hk : k = m) (hj : j = m - 1) (ez : z = Jc j) (e : q2 y.toInt.toNat = q2 z.toInt.toNat) : mBon q2 (upd Jc k y) m = 3 := by
  subst hk
  subst hj
  unfold mBon
  rw [pk_us, pk_un (by omega), ← ez]
  exact if_pos ⟨hm, e⟩
theorem mBon_n {y z : Int32} {k j : Nat} (hm : m ≠ 0) (hk : k = m) (hj : j = m - 1) (ez : z = Jc j) (e : q2 y.toInt.toNat ≠ q2 z.toInt.toNat) : mBon q2 (upd Jc k y) m = 0 := by
  subst hk
  subst hj
  unfold mBon
  rw [pk_us, pk_un (by omega), ← ez]
  exact if_neg (fun h => e h.2)
theorem mU_next {u t l y u2 t2 l2 v1 v3 : Int32} {b : Int} {k : Nat} (h : mU N L q1 q2 q3 m J u t l) (e : mAg m Jc J) (h0 : 0 ≤ y.toInt) (hN : y.toInt < N) (hN9 : N ≤ 10) (hb : ((u >>> (y &&& 31)) &&& (1 : Int32)).toInt = 0) (hu : u ||| ((1 : Int32) <<< (y &&& 31)) = u2) (e1 : q1 y.toInt.toNat = v1) (e3 : q3 y.toInt.toNat = v3) (hk : k = m) (hbo : mBon q2 (upd Jc k y) m = b) (ht : t2.toInt = t.toInt + v1.toInt + b) (hl : l2.toInt = l.toInt - v3.toInt) : mU N L q1 q2 q3 (m + 1) (upd Jc k y) u2 t2 l2 := by
  have hfr := mU_free h h0 (by omega) hb
  subst hk
  subst hu
  obtain ⟨hd, hr, hs, hlg, hB⟩ := h
  refine ⟨mD_up (mD_cg e.symm hd) (fun j hj => by rw [e j hj]; exact hfr j hj), fun j hj => ?_, ?_, ?_, mB_next (mB_cg hB e) h0 (by omega)⟩
  · by_cases ej : j = k
    · rw [ej, pk_us]
      exact ⟨h0, hN⟩
    · rw [pk_un ej, e j (by omega)]
      exact hr j (by omega)
  · rw [mS_s, hbo, pk_us, e1, mS_cg k (e.pd rfl), ← hs]
    omega
  · rw [mL_s, pk_us, e3, mL_cg k (e.pd rfl)]
    omega
theorem mU_0 {t l : Int32} (ht : t.toInt = 0) (hl : l.toInt = L) : mU N L q1 q2 q3 0 J 0 t l := ⟨fun a b _ hb => absurd hb (by omega), fun j hj => absurd hj (by omega), ht, by show l.toInt = L - 0; omega, fun c _ => ⟨fun _ j hj => absurd hj (by omega), fun _ => by show (0#32).getLsbD c = false; simp⟩⟩
end MADE
/-- what is answered at the search's end -/
def mAns (y : mT) (i : Int) : Int := if i = -1 then y.2.2.1 else if 0 ≤ i ∧ i < y.2.2.2.1 then (y.2.2.2.2 i.toNat).toInt else -1
/-- the search from the start: what i asks -/
def mEnd (N L : Int) (q1 q2 q3 : Nat → Int32) (i r : Int) : Prop := ∀ f C : Nat → Int32, ∃ y : mT, y.1 < 0 ∧ mR N L q1 q2 q3 (0, upd f 0 (-1), -1, 0, C) y ∧ r = mAns y i
theorem mEnd.of {N L i r b0 l0 b l : Int} {q1 q2 q3 J B0 B : Nat → Int32} (h : mP N L q1 q2 q3 0 J (b0, l0, B0) (b, l, B)) (hb : b0 = -1) (hl : l0 = 0) (hr : ∀ E : Nat → Int32, mAB l B E → r = mAns (-1, J, b, l, E) i) : mEnd N L q1 q2 q3 i r := fun f C => by
  subst hb
  subst hl
  obtain ⟨g, E, hR, -, hE⟩ := h f C (fun j hj => absurd hj (by omega)) (fun j hj => absurd (show (j : Int) < 0 from hj) (by omega))
  refine ⟨(((0 : Nat) : Int) - 1, g, b, l, E), by show ((0 : Nat) : Int) - 1 < 0; decide, ?_, hr E hE⟩
  have e : mTop q1 q2 0 f (-1, 0, C) = (-1, 0, C) := if_neg (fun h9 => h9.1 rfl)
  have h8 : mR N L q1 q2 q3 (((0 : Nat) : Int), upd f 0 (-1), mTop q1 q2 0 f (-1, 0, C)) (((0 : Nat) : Int) - 1, g, b, l, E) := hR
  rw [e] at h8
  exact h8
theorem mAns_s {g : Nat → Int32} {k b l i : Int} {E : Nat → Int32} (hi : i = -1) : mAns (k, g, b, l, E) i = b := if_pos hi
theorem mAns_at {g : Nat → Int32} {k b l i : Int} {E B : Nat → Int32} {x : Int32} {j : Nat} (h0 : 0 ≤ i) (hl : i < l) (hB : mAB l B E) (hx : x = B j) (hj : j = i.toNat) : x.toInt = mAns (k, g, b, l, E) i := by
  subst hj
  unfold mAns
  rw [if_neg (by omega), if_pos ⟨h0, hl⟩, hx, hB i.toNat (by omega)]
theorem mAns_n {g : Nat → Int32} {k b l i : Int} {E : Nat → Int32} (h : i ≤ -2 ∨ (0 ≤ i ∧ l ≤ i)) : mAns (k, g, b, l, E) i = -1 := by
  unfold mAns
  rw [if_neg (by omega)]
  exact if_neg (fun h9 => by have h8 : 0 ≤ i ∧ i < l := h9; omega)
/-- Making of the class -/
def jM (D : va_G) (a0 bj bb : Nat) (bl bs : Int32) (J B : Nat → Int32) (H : Heap) : Prop := tk_f D H a0 3 1 (.ref bj) ∧ tk_f D H a0 3 2 (.ref bb) ∧ tk_f D H a0 3 3 (.int bl) ∧ tk_f D H a0 3 4 (.int bs) ∧ tk_c H bj 4 J ∧ tk_c H bb 4 B
theorem jM.ex {D : va_G} {cy : Nat → ClassId} {ld : Nat → Nat} {t : tk_T} {H : Heap} {a0 : Nat} (hG : tk_G D cy ld t [] H) (h0 : t a0 = (4, 0, 0)) : ∃ (bj bb : Nat) (bl bs : Int32) (J B : Nat → Int32), t bj = (22, 4, 0) ∧ t bb = (20, 4, 0) ∧ (0 ≤ bl.toInt ∧ bl.toInt ≤ 4) ∧ jM D a0 bj bb bl bs J B H := by
  obtain ⟨v0, e0, w0⟩ := tk_peek (ci := 3) (C := RX3) (T := TX3) (N := 5) (sp := (6, 22, 4, 0)) hG h0 (by decide) tk_no rfl 1 (by decide) rfl
  obtain ⟨bj, rfl, h1⟩ := w0
  obtain ⟨v1, e1, w1⟩ := tk_peek (ci := 3) (C := RX3) (T := TX3) (N := 5) (sp := (6, 20, 4, 0)) hG h0 (by decide) tk_no rfl 2 (by decide) rfl
  obtain ⟨bb, rfl, h2⟩ := w1
  obtain ⟨v2, e2, w2⟩ := tk_peek (ci := 3) (C := RX3) (T := TX3) (N := 5) (sp := (0, 0, 4, 0)) hG h0 (by decide) tk_no rfl 3 (by decide) rfl
  obtain ⟨bl, rfl, a2, b2⟩ := w2
  obtain ⟨v3, e3, w3⟩ := tk_peek (ci := 3) (C := RX3) (T := TX3) (N := 5) (sp := (0, (-2147483648), 2147483647, 0)) hG h0 (by decide) tk_no rfl 4 (by decide) rfl
  obtain ⟨bs, rfl, a3, b3⟩ := w3
  have h1 : t bj = (22, 4, 0) := h1
  have h2 : t bb = (20, 4, 0) := h2
  obtain ⟨J, g1⟩ := tk_c.ex hG h1 (by decide) (fun _ h => h) tk_no
  obtain ⟨B, g2⟩ := tk_c.ex hG h2 (by decide) (fun _ h => h) tk_no
  exact ⟨bj, bb, bl, bs, J, B, h1, h2, ⟨a2, b2⟩, e0, e1, e2, e3, g1, g2⟩
theorem jmade {N N' L i r r' : Int} {q1 q2 q3 q1' q2' q3' f C : Nat → Int32} (h : mEnd N L q1 q2 q3 i r) (h' : ∃ y : mT, y.1 < 0 ∧ mR N' L q1' q2' q3' (0, upd f 0 (-1), -1, 0, C) y ∧ r' = mAns y i) (hN : N' = N) (h1 : q1' = q1) (h2 : q2' = q2) (h3 : q3' = q3) : r = r' := by
  subst hN
  subst h1
  subst h2
  subst h3
  obtain ⟨y, hy, hR, e⟩ := h f C
  obtain ⟨y', hy', hR', e'⟩ := h'
  rw [e, e', hR.det hR' hy hy']
/-! the reference's side -/
theorem mq_pc {ρ : Nat → Int32} {N : Int} {v w p : Int32} {b c : Nat} (h : w = ρ (78 + 3 * v.toInt + p.toInt).toNat) (hp : p.toInt = (c : Int)) (hb : b = 78 + c) (h0 : 0 ≤ v.toInt) (hN : v.toInt < N) : mq N (fun j => ρ (b + 3 * j)) v.toInt.toNat = w := by
  rw [h, mq_at (by omega)]
  show ρ (b + 3 * v.toInt.toNat) = _
  rw [show (78 + 3 * v.toInt + p.toInt).toNat = b + 3 * v.toInt.toNat by omega]
section MADER
variable {N L : Int} {q1 q2 q3 f g : Nat → Int32} {m : Nat}
theorem mBon_i0 (hm : m = 0) : mBon q2 f m = 0 := if_neg (fun h => h.1 hm)
theorem mBon_iy (hm : m ≠ 0) (e : q2 (f m).toInt.toNat = q2 (f (m - 1)).toInt.toNat) : mBon q2 f m = 3 := if_pos ⟨hm, e⟩
theorem mBon_in (e : q2 (f m).toInt.toNat ≠ q2 (f (m - 1)).toInt.toNat) : mBon q2 f m = 0 := if_neg (fun h => e h.2)
theorem mS_next {t t' b : Int} {m' : Nat} {v : Int32} (h : t = mS q1 q2 f m) (hm : m' = m + 1) (e : q1 (f m).toInt.toNat = v) (hb : mBon q2 f m = b) (ht : t' = t + (v.toInt + b)) : t' = mS q1 q2 f m' := by
  subst hm
  rw [mS_s, ← h, e, hb, ht]
theorem mL_next {t t' : Int} {m' : Nat} {v : Int32} (h : t = mL q3 f m) (hm : m' = m + 1) (e : q3 (f m).toInt.toNat = v) (ht : t' = t + v.toInt) : t' = mL q3 f m' := by
  subst hm
  rw [mL_s, ← h, e, ht]
theorem mD_next {m' : Nat} (h : mD f m) (hm : m' = m + 1) (e : ∀ j : Nat, j < m → (f j).toInt ≠ (f m).toInt) : mD f m' := fun a b hab hb => by
  subst hm
  by_cases eb : b = m
  · subst eb
    exact e a hab
  · exact h a b hab (by omega)
variable {y : mT} {kz k1 : Int} {K : Nat} {x : Int32} {σ σ' : mSt}
theorem mo_x {x y : Int32} (h : x.toInt = y.toInt + 1) (h0 : 0 ≤ x.toInt) (h9 : x.toInt ≤ 1000) : y + 1 = x := m_eq ((m_inc (i := x.toInt) (by omega) h0 h9))
theorem mo_end (h : mR N L q1 q2 q3 y (kz, f, σ)) (hK : kz = (K : Int)) (hU : g = upd f K x) (hx : x.toInt = (f K).toInt + 1) (h0 : 0 ≤ x.toInt) (h9 : x.toInt ≤ 1000) (hN : N ≤ x.toInt) (hk : k1 = kz - 1) : mR N L q1 q2 q3 y (k1, g, σ) := by
  subst hK
  subst hU
  subst hk
  exact h.trans (mR.one (mStep_end (mo_x hx h0 h9) hN))
theorem mo_no (h : mR N L q1 q2 q3 y (kz, f, σ)) (hK : kz = (K : Int)) (hU : g = upd f K x) (hx : x.toInt = (f K).toInt + 1) (h0 : 0 ≤ x.toInt) (h9 : x.toInt ≤ 1000) (hN : x.toInt < N) (ho : ¬ mOk L q3 (upd f K x) (K + 1)) : mR N L q1 q2 q3 y (kz, g, σ) := by
  subst hK
  subst hU
  exact h.trans (mR.one (mStep_no (mo_x hx h0 h9) (by omega) ho))
theorem mo_st (h : mR N L q1 q2 q3 y (kz, f, σ)) (hK : kz = (K : Int)) (hU : g = upd f K x) (hx : x.toInt = (f K).toInt + 1) (h0 : 0 ≤ x.toInt) (h9 : x.toInt ≤ 1000) (hN : x.toInt < N) (ho : mOk L q3 (upd f K x) (K + 1)) (hk : ¬ K < 3) (hs : mTop q1 q2 (K + 1) (upd f K x) σ = σ') : mR N L q1 q2 q3 y (kz, g, σ') := by
  subst hK
  subst hU
  subst hs
  exact h.trans (mR.one (mStep_st (mo_x hx h0 h9) (by omega) ho hk))
theorem mo_dn {z : Int32} (h : mR N L q1 q2 q3 y (kz, f, σ)) (hK : kz = (K : Int)) (hU : g = upd (upd f K x) (K + 1) z) (hz : z.toInt = -1) (hx : x.toInt = (f K).toInt + 1) (h0 : 0 ≤ x.toInt) (h9 : x.toInt ≤ 1000) (hN : x.toInt < N) (ho : mOk L q3 (upd f K x) (K + 1)) (hk : K < 3) (hs : mTop q1 q2 (K + 1) (upd f K x) σ = σ') (hk1 : k1 = kz + 1) : mR N L q1 q2 q3 y (k1, g, σ') := by
  have e : z = -1 := m_eq (hz.trans (by decide))
  subst hK
  subst hU
  subst hs
  subst e
  have h1 := h.trans (mR.one (mStep_dn (L := L) (q1 := q1) (q2 := q2) (mo_x hx h0 h9) (by omega) ho hk))
  rw [show ((K + 1 : Nat) : Int) = k1 by omega] at h1
  exact h1
end MADER

