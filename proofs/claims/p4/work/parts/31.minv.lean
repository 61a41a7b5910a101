def mE (j x : Int) : Prop := (j = 0 → 0 ≤ x ∧ x ≤ 8) ∧ (j = 1 → 0 ≤ x ∧ x ≤ 10) ∧ (j = 2 → 0 ≤ x ∧ x ≤ 10) ∧ (j = 3 → 0 ≤ x ∧ x ≤ 8) ∧ (j = 4 → 0 ≤ x ∧ x ≤ 6) ∧ (j = 5 → -1 ≤ x ∧ x ≤ 5) ∧ (18 ≤ j → j < 58 → j % 5 = 0 → 0 ≤ x ∧ x ≤ 1) ∧ (18 ≤ j → j < 58 → j % 5 = 1 → 0 ≤ x ∧ x ≤ 1) ∧ (116 ≤ j → j < 156 → j % 5 = 1 → 0 ≤ x ∧ x ≤ 9) ∧ (116 ≤ j → j < 156 → j % 5 = 2 → 0 ≤ x ∧ x ≤ 7)
/-- a DUEL at o: none, or its SINGERS, its HOUR and whose turn it is stand -/
def dO (f : Nat → Int32) (o : Nat) : Prop := (-1 ≤ (f o).toInt ∧ (f o).toInt ≤ 7) ∧ (-1 ≤ (f (o + 1)).toInt ∧ (f (o + 1)).toInt ≤ 7) ∧ (-1 ≤ (f (o + 2)).toInt ∧ (f (o + 2)).toInt ≤ 99) ∧ (-1 ≤ (f (o + 3)).toInt ∧ (f (o + 3)).toInt ≤ 11) ∧ (-1 ≤ (f (o + 4)).toInt ∧ (f (o + 4)).toInt ≤ 7) ∧ ((f o).toInt ≠ -1 → (f (o + 1)).toInt ≠ -1 ∧ (f (o + 3)).toInt ≠ -1 ∧ (f (o + 4)).toInt ≠ -1)
/-- how high the row of numbers stands ahead of place k of a code -/
def dl (op : Nat → Int32) : Nat → Int
  | 0 => 0
  | k + 1 => dl op k + (if (op k).toInt < 20 then 1 else if (op k).toInt = 28 then 0 else -1)
def WFC (op arg : Nat → Int32) (s e : Nat) : Prop := ∀ k : Nat, s ≤ k → k < e → 0 ≤ (op k).toInt ∧ (op k).toInt ≤ 30 ∧ ((op k).toInt < 20 → (op k).toInt ≤ 9 ∧ (6 ≤ (op k).toInt → 0 ≤ (arg k).toInt ∧ (arg k).toInt ≤ 7)) ∧ (20 ≤ (op k).toInt → (op k).toInt ≤ 27 → 2 ≤ dl op k - dl op s) ∧ (28 ≤ (op k).toInt → 1 ≤ dl op k - dl op s) ∧ (29 ≤ (op k).toInt → (k : Int) < (arg k).toInt ∧ (arg k).toInt ≤ (e : Int) ∧ dl op (arg k).toInt.toNat = dl op k)
def WFX (op arg : Nat → Int32) (s e : Int32) : Prop := 0 ≤ s.toInt ∧ s.toInt ≤ e.toInt ∧ e.toInt ≤ 400 ∧ WFC op arg s.toInt.toNat e.toInt.toNat
def WFL (f : Nat → Int32) (b : Nat) : Prop := (0 ≤ (f (b + 1)).toInt ∧ (f (b + 1)).toInt ≤ 12) ∧ ∀ c : Nat, (c : Int) < (f (b + 1)).toInt → WFX (fun j => f (b + 98 + 2 * j)) (fun j => f (b + 98 + 2 * j + 1)) (f (b + 2 + 8 * c + 3)) (f (b + 2 + 8 * c + 4)) ∧ WFX (fun j => f (b + 98 + 2 * j)) (fun j => f (b + 98 + 2 * j + 1)) (f (b + 2 + 8 * c + 5)) (f (b + 2 + 8 * c + 6))
def rO (f : Nat → Int32) (o : Nat) : Prop := (∀ j : Nat, j < 160 → mE j (f (o + j)).toInt) ∧ dO f (o + 12) ∧ ∀ q : Nat, q < 6 → WFL f (o + (160 + 900 * q))
def sO (f : Nat → Int32) (o : Nat) : Prop := (∀ j : Nat, 6 ≤ j → j < 58 → mE j (f (o + (j - 6))).toInt) ∧ dO f (o + 6)
/-- what row k may hold; b: the DUEL of row 3 stands -/
def mz_P (b : Bool) (k : Nat) (f : Nat → Int32) : Prop := match k with
  | 3 => (∀ j : Nat, j < 160 → mE j (f j).toInt) ∧ (b = true → dO f 12) ∧ ∀ q : Nat, q < 6 → WFL f (160 + 900 * q)
  | 4 => ∀ s : Nat, s < 2 → rO f (5560 * s)
  | 6 => ∀ s : Nat, s < 23 → sO f (52 * s)
  | 9 => ∀ s : Nat, s < 16 → sO f (52 * s)
  | 7 => ∀ j : Nat, j < 16 → 0 ≤ (f j).toInt ∧ (f j).toInt ≤ 3
  | 10 => ∀ j : Nat, j < 16 → 0 ≤ (f j).toInt ∧ (f j).toInt ≤ 3
  | 28 => ∀ j : Nat, j < 400 → 0 ≤ (f j).toInt ∧ (f j).toInt ≤ 399
  | 50 => ∀ j : Nat, j < 8 → 0 ≤ (f j).toInt ∧ (f j).toInt ≤ 7
  | _ => True
/-- o: 'ordered' is false -/
def mz_IF (o : Bool) (F : Nat → Int32) : Prop := (∀ k : Nat, mz_lo k ≤ (F k).toInt ∧ (F k).toInt ≤ mz_hi k) ∧ (o = true → F 20 = 0)
def mz_IG (G : Nat → Int64) : Prop := 0 ≤ (G 47).toInt ∧ (G 47).toInt ≤ 1000002
def mz_IR (X : List Nat) (b : Bool) (R : Nat → Nat → Int32) : Prop := ∀ k : Nat, k ∉ X → mz_P b k (R k)
theorem mz_IF.at {o : Bool} {F : Nat → Int32} {k : Nat} {v : Int32} (h : mz_IF o F) (e : F k = v) : mz_lo k ≤ v.toInt ∧ v.toInt ≤ mz_hi k := e ▸ h.1 k
theorem mz_IF.put0 {F F1 : Nat → Int32} {k : Nat} {x : Int32} (h : ∀ k : Nat, mz_lo k ≤ (F k).toInt ∧ (F k).toInt ≤ mz_hi k) (h1 : F1 k = x) (h2 : ∀ j : Nat, j ≠ k → F1 j = F j) (lo : mz_lo k ≤ x.toInt) (hi : x.toInt ≤ mz_hi k) : ∀ k : Nat, mz_lo k ≤ (F1 k).toInt ∧ (F1 k).toInt ≤ mz_hi k := fun j => by
  by_cases e : j = k
  · subst e
    rw [h1]
    exact ⟨lo, hi⟩
  · rw [h2 j e]
    exact h j
theorem mz_IF.put {o : Bool} {F F1 : Nat → Int32} {k : Nat} {x : Int32} (h : mz_IF o F) (h1 : F1 k = x) (h2 : ∀ j : Nat, j ≠ k → F1 j = F j) (lo : mz_lo k ≤ x.toInt) (hi : x.toInt ≤ mz_hi k) (hk : 20 ≠ k) : mz_IF o F1 := ⟨mz_IF.put0 h.1 h1 h2 lo hi, fun e => by rw [h2 20 hk]; exact h.2 e⟩
theorem mz_IF.put20 {o : Bool} {F F1 : Nat → Int32} {x : Int32} (h : mz_IF o F) (h1 : F1 20 = x) (h2 : ∀ j : Nat, j ≠ 20 → F1 j = F j) (lo : 0 ≤ x.toInt) (hi : x.toInt ≤ 1) : mz_IF false F1 := ⟨mz_IF.put0 h.1 h1 h2 lo hi, fun e => by cases e⟩
theorem mz_IF.full {o : Bool} {F : Nat → Int32} {x : Int32} (h : mz_IF o F) (e : F 20 = x) (e2 : x.toInt = 0) : mz_IF true F := ⟨h.1, fun _ => e.trans ((fi_eq e2 (show (0 : Int32).toInt = 0 by decide)).mpr rfl)⟩
theorem mz_IF.weak {o : Bool} {F : Nat → Int32} (h : mz_IF o F) : mz_IF false F := ⟨h.1, fun e => by cases e⟩
theorem mz_IF.zero {F : Nat → Int32} {x : Int32} (h : mz_IF true F) (e : F 20 = x) : x.toInt = 0 := by
  rw [← e, h.2 rfl]
  decide
theorem mz_IG.put {G G1 : Nat → Int64} {k : Nat} (h : mz_IG G) (h2 : ∀ j : Nat, j ≠ k → G1 j = G j) (hk : 47 ≠ k) : mz_IG G1 := by
  unfold mz_IG
  rw [h2 47 hk]
  exact h
theorem mz_IG.put47 {G1 : Nat → Int64} {x : Int64} (h1 : G1 47 = x) (lo : 0 ≤ x.toInt) (hi : x.toInt ≤ 1000002) : mz_IG G1 := by
  unfold mz_IG
  rw [h1]
  exact ⟨lo, hi⟩
theorem mz_IR.put {X : List Nat} {b : Bool} {R R1 : Nat → Nat → Int32} {k : Nat} {f : Nat → Int32} (h : mz_IR X b R) (h1 : R1 k = f) (h2 : ∀ j : Nat, j ≠ k → R1 j = R j) (hP : mz_P b k f) : mz_IR X b R1 := fun j hj => by
  by_cases e : j = k
  · subst e
    rw [h1]
    exact hP
  · rw [h2 j e]
    exact h j hj
theorem mz_IR.putX {X : List Nat} {b : Bool} {R R1 : Nat → Nat → Int32} {k : Nat} (h : mz_IR X b R) (h2 : ∀ j : Nat, j ≠ k → R1 j = R j) (hk : k ∈ X) : mz_IR X b R1 := fun j hj => by
  rw [h2 j (fun e => hj (e ▸ hk))]
  exact h j hj
theorem mz_IR.hole {X : List Nat} {b : Bool} {R : Nat → Nat → Int32} (h : mz_IR [] b R) : mz_IR X b R := fun j _ => h j (fun h => by cases h)
theorem mz_IR.close {k : Nat} {b : Bool} {R : Nat → Nat → Int32} (h : mz_IR [k] b R) (hP : mz_P b k (R k)) : mz_IR [] b R := fun j _ => by
  by_cases e : j = k
  · subst e
    exact hP
  · exact h j (fun h => e (List.mem_singleton.mp h))
theorem mz_P.to {b b' : Bool} {k : Nat} {f : Nat → Int32} (h : mz_P b k f) (h3 : k ≠ 3) : mz_P b' k f := by
  unfold mz_P at h ⊢
  split <;> first | exact absurd rfl h3 | simpa using h
theorem mz_IR.bare {X : List Nat} {R : Nat → Nat → Int32} (h : mz_IR X true R) : mz_IR X false R := fun j hj => by
  by_cases e : j = 3
  · subst e
    have h3 : mz_P true 3 (R 3) := h 3 hj
    exact ⟨h3.1, (fun e => by cases e), h3.2.2⟩
  · exact (h j hj).to e
theorem mz_IR.duel {R : Nat → Nat → Int32} (h : mz_IR [] false R) (hd : dO (R 3) 12) : mz_IR [] true R := fun j hj => by
  by_cases e : j = 3
  · subst e
    have h3 : mz_P false 3 (R 3) := h 3 hj
    exact ⟨h3.1, fun _ => hd, h3.2.2⟩
  · exact (h j hj).to e
theorem mz_IR.at {b : Bool} {R : Nat → Nat → Int32} (h : mz_IR [] b R) (k : Nat) : mz_P b k (R k) := h k (fun h => by cases h)
theorem mz_IR.d {R : Nat → Nat → Int32} (h : mz_IR [] true R) : dO (R 3) 12 := (h.at 3 : mz_P true 3 (R 3)).2.1 rfl
theorem mz_elp {f : Nat → Int32} {lo hi : Int} {n i : Nat} {x : Int32} (h : ∀ j : Nat, j < n → lo ≤ (f j).toInt ∧ (f j).toInt ≤ hi) (h1 : lo ≤ x.toInt) (h2 : x.toInt ≤ hi) : ∀ j : Nat, j < n → lo ≤ (upd f i x j).toInt ∧ (upd f i x j).toInt ≤ hi := fun j hj => by
  by_cases e : j = i
  · subst e
    rw [pk_us]
    exact ⟨h1, h2⟩
  · rw [pk_un e]
    exact h j hj
theorem mz_elg {f : Nat → Int32} {lo hi I : Int} {n : Nat} {i x : Int32} (h : ∀ j : Nat, j < n → lo ≤ (f j).toInt ∧ (f j).toInt ≤ hi) (hx : f i.toNatClampNeg = x) (hi0 : i.toInt = I) (h0 : 0 ≤ I) (h1 : I < (n : Int)) : lo ≤ x.toInt ∧ x.toInt ≤ hi := by
  have h2 := tk_nat hi0 h0
  rw [← hx]
  exact h _ (by omega)
theorem WFL.congr {f g : Nat → Int32} {b : Nat} (h : ∀ j : Nat, b ≤ j → g j = f j) (hw : WFL f b) : WFL g b := by
  unfold WFL at hw ⊢
  have e1 : (fun j => g (b + 98 + 2 * j)) = (fun j => f (b + 98 + 2 * j)) := funext fun j => h _ (by omega)
  have e2 : (fun j => g (b + 98 + 2 * j + 1)) = (fun j => f (b + 98 + 2 * j + 1)) := funext fun j => h _ (by omega)
  rw [e1, e2, h (b + 1) (by omega)]
  refine ⟨hw.1, fun c hc => ?_⟩
  rw [h (b + 2 + 8 * c + 3) (by omega), h (b + 2 + 8 * c + 4) (by omega), h (b + 2 + 8 * c + 5) (by omega), h (b + 2 + 8 * c + 6) (by omega)]
  exact hw.2 c hc
theorem dO.congr {f g : Nat → Int32} {o o' : Nat} (h : ∀ j : Nat, j < 5 → g (o' + j) = f (o + j)) (hw : dO f o) : dO g o' := by
  unfold dO at hw ⊢
  have e0 := h 0 (by decide)
  have e1 := h 1 (by decide)
  have e2 := h 2 (by decide)
  have e3 := h 3 (by decide)
  have e4 := h 4 (by decide)
  simp only [Nat.add_zero] at e0
  rw [e0, e1, e2, e3, e4]
  exact hw
theorem mz_r3 {b : Bool} {f : Nat → Int32} {i x : Int32} {I : Int} (h : mz_P b 3 f) (hi : i.toInt = I) (h0 : 0 ≤ I) (h1 : I < 160) (h2 : b = true → I < 12 ∨ 17 ≤ I) (hE : mE I x.toInt) : mz_P b 3 (upd f i.toNatClampNeg x) := by
  have hn := tk_nat hi h0
  refine ⟨fun j hj => ?_, fun e => ?_, fun q hq => ?_⟩
  · by_cases e : j = i.toNatClampNeg
    · subst e
      rw [pk_us, hn]
      exact hE
    · rw [pk_un e]
      exact h.1 j hj
  · have := h2 e
    exact dO.congr (fun j hj => pk_un (by omega)) (h.2.1 e)
  · exact WFL.congr (fun j hj => pk_un (by omega)) (h.2.2 q hq)
theorem mz_r3g {b : Bool} {f : Nat → Int32} {i x : Int32} {I : Int} (h : mz_P b 3 f) (hx : f i.toNatClampNeg = x) (hi : i.toInt = I) (h0 : 0 ≤ I) (h1 : I < 160) : mE I x.toInt := by
  have hn := tk_nat hi h0
  have h9 := h.1 i.toNatClampNeg (by omega)
  rw [hn, hx] at h9
  exact h9
theorem mz_r3c {b : Bool} {f : Nat → Int32} {x : Int32} (n : Nat) (h : mz_P b 3 f) (hx : f n = x) (h1 : n < 160) : mE n x.toInt := hx ▸ h.1 n h1
theorem mz_fr {α : Type} {F1 F Fa : Nat → α} {K K' : List Nat} (h : ∀ k : Nat, k ∉ K' → F1 k = F k) (h0 : ∀ k : Nat, k ∉ K → F k = Fa k) (hs : ∀ k ∈ K', k ∈ K) : ∀ k : Nat, k ∉ K → F1 k = Fa k := fun k hk => (h k (fun q => hk (hs k q))).trans (h0 k hk)
theorem mz_frp {α : Type} {F1 F Fa : Nat → α} {K : List Nat} {k : Nat} (h : ∀ j : Nat, j ≠ k → F1 j = F j) (h0 : ∀ k : Nat, k ∉ K → F k = Fa k) (hk : k ∈ K) : ∀ j : Nat, j ∉ K → F1 j = Fa j := fun j hj => (h j (fun e => hj (e ▸ hk))).trans (h0 j hj)
/-- since then row 3 has changed only in what a DUEL and a DAWN change -/
def rK1 (f g : Nat → Int32) : Prop := ∀ j : Nat, ¬ (6 ≤ j ∧ j < 58) → g j = f j
def rK2 (f g : Nat → Int32) : Prop := ∀ j : Nat, ¬ (6 ≤ j ∧ j < 58 ∧ (j < 18 ∨ j % 5 ≠ 0)) → g j = f j
theorem rK1.put {f g g1 : Nat → Int32} {i x : Int32} {I : Int} (h : rK1 f g) (e : g1 = upd g i.toNatClampNeg x) (hi : i.toInt = I) (h0 : 6 ≤ I) (h1 : I < 58) : rK1 f g1 := fun j hj => by
  have hn := tk_nat hi (by omega)
  rw [e, pk_un (by omega)]
  exact h j hj
theorem rK2.put {f g g1 : Nat → Int32} {i x : Int32} {I : Int} (h : rK2 f g) (e : g1 = upd g i.toNatClampNeg x) (hi : i.toInt = I) (h0 : 6 ≤ I) (h1 : I < 58) (h2 : I < 18 ∨ I % 5 ≠ 0) : rK2 f g1 := fun j hj => by
  have hn := tk_nat hi (by omega)
  rw [e, pk_un (by omega)]
  exact h j hj
theorem rK1.trans {f g k : Nat → Int32} (h : rK1 f g) (h2 : rK1 g k) : rK1 f k := fun j hj => (h2 j hj).trans (h j hj)
theorem rK2.trans {f g k : Nat → Int32} (h : rK2 f g) (h2 : rK2 g k) : rK2 f k := fun j hj => (h2 j hj).trans (h j hj)
theorem rK2.k1 {f g : Nat → Int32} (h : rK2 f g) : rK1 f g := fun j hj => h j (fun q => hj ⟨q.1, q.2.1⟩)
theorem rK1.refl {f g : Nat → Int32} (h : g = f) : rK1 f g := fun j _ => by rw [h]
theorem rK2.refl {f g : Nat → Int32} (h : g = f) : rK2 f g := fun j _ => by rw [h]
/-- since then row 3 has kept how many there are, VERSES, PARTS, who HEARS -/
def rK3 (f g : Nat → Int32) : Prop := ∀ j : Nat, (j < 4 ∨ (58 ≤ j ∧ j < 116)) → g j = f j
theorem rK3.put {f g g1 : Nat → Int32} {i x : Int32} {I : Int} (h : rK3 f g) (e : g1 = upd g i.toNatClampNeg x) (hi : i.toInt = I) (h1 : (4 ≤ I ∧ I < 58) ∨ 116 ≤ I) : rK3 f g1 := fun j hj => by
  have hn := tk_nat hi (by omega)
  rw [e, pk_un (by omega)]
  exact h j hj
theorem rK3.trans {f g k : Nat → Int32} (h : rK3 f g) (h2 : rK3 g k) : rK3 f k := fun j hj => (h2 j hj).trans (h j hj)
theorem rK1.k3 {f g : Nat → Int32} (h : rK1 f g) : rK3 f g := fun j hj => h j (by omega)
theorem rK3.refl {f g : Nat → Int32} (h : g = f) : rK3 f g := fun j _ => by rw [h]
