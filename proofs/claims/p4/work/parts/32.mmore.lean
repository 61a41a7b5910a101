theorem mz_cps {f g u u1 : Nat → Int32} {sp dp n : Nat} {i x : Int32} (hw : u1 = upd u i.toNatClampNeg x) (hc : u = va_cpy f g sp dp n) (hi : i.toInt = ((dp + n : Nat) : Int)) (hx : x = f (sp + n)) : u1 = va_cpy f g sp dp (n + 1) := by
  have hn := tk_nat hi (by omega)
  have e : i.toNatClampNeg = dp + n := by omega
  rw [hw, hc, e, hx]
  funext j
  unfold upd va_cpy
  by_cases h : j = dp + n
  · subst h
    rw [if_pos rfl, if_pos (by omega)]
    congr 1
    omega
  · rw [if_neg h]
    by_cases h2 : dp ≤ j ∧ j < dp + n
    · rw [if_pos h2, if_pos (by omega)]
    · rw [if_neg h2, if_neg (by omega)]
theorem mz_cp0 (f g : Nat → Int32) (sp dp : Nat) : va_cpy f g sp dp 0 = g := by
  funext j
  unfold va_cpy
  rw [if_neg (by omega)]
theorem mz_cpin {f g : Nat → Int32} {sp dp n j : Nat} (h1 : dp ≤ j) (h2 : j < dp + n) : va_cpy f g sp dp n j = f (sp + (j - dp)) := by
  unfold va_cpy
  rw [if_pos ⟨h1, h2⟩]
theorem mz_cpout {f g : Nat → Int32} {sp dp n j : Nat} (h : j < dp ∨ dp + n ≤ j) : va_cpy f g sp dp n j = g j := by
  unfold va_cpy
  rw [if_neg (by omega)]
theorem sO.congr {f g : Nat → Int32} {o o' : Nat} (h : ∀ i : Nat, i < 52 → g (o' + i) = f (o + i)) (hs : sO f o) : sO g o' := ⟨fun j h1 h2 => by
  rw [h (j - 6) (by omega)]
  exact hs.1 j h1 h2, dO.congr (fun j hj => by
  rw [Nat.add_assoc, Nat.add_assoc]
  exact h (6 + j) (by omega)) hs.2⟩
theorem sO.of3 {f g : Nat → Int32} {o : Nat} (h3 : mz_P true 3 f) (h : ∀ i : Nat, i < 52 → g (o + i) = f (6 + i)) : sO g o := ⟨fun j h1 h2 => by
  rw [h (j - 6) (by omega), show 6 + (j - 6) = j by omega]
  exact h3.1 j (by omega), dO.congr (o := 12) (fun j hj => by
  rw [Nat.add_assoc, h (6 + j) (by omega)]
  congr 1
  omega) (h3.2.1 rfl)⟩
theorem mz_keep {f g : Nat → Int32} {n k : Nat} (h3 : mz_P true 3 f) (h6 : ∀ s : Nat, s < n → sO g (52 * s)) (hk : k < n) : ∀ s : Nat, s < n → sO (va_cpy f g 6 (52 * k) 52) (52 * s) := fun s hs => by
  by_cases e : s = k
  · subst e
    exact sO.of3 h3 (fun i hi => by rw [mz_cpin (by omega) (by omega)]; congr 1; omega)
  · exact sO.congr (fun i hi => mz_cpout (by omega)) (h6 s hs)
theorem mz_back3 {f u : Nat → Int32} {o : Nat} (h3 : mz_P true 3 f) (hs : sO u o) : mz_P true 3 (va_cpy u f o 6 52) := by
  refine ⟨fun j hj => ?_, fun _ => ?_, fun q hq => ?_⟩
  · by_cases e : 6 ≤ j ∧ j < 58
    · rw [mz_cpin (by omega) (by omega)]
      exact hs.1 j e.1 e.2
    · rw [mz_cpout (by omega)]
      exact h3.1 j hj
  · exact dO.congr (fun j hj => by rw [mz_cpin (by omega) (by omega)]; congr 1; omega) hs.2
  · exact WFL.congr (fun j hj => mz_cpout (by omega)) (h3.2.2 q hq)
theorem dl.congr {op op' : Nat → Int32} (e : Nat) (h : ∀ j : Nat, j < e → op' j = op j) : ∀ k : Nat, k ≤ e → dl op' k = dl op k := by
  intro k
  induction k with
  | zero => intro _; rfl
  | succ k ih =>
    intro hk
    unfold dl
    rw [ih (by omega), h k (by omega)]
theorem WFC.congr {op arg op' arg' : Nat → Int32} {s e : Nat} (hs : s ≤ e) (h : ∀ j : Nat, j < e → op' j = op j ∧ arg' j = arg j) (hw : WFC op arg s e) : WFC op' arg' s e := by
  have hd := dl.congr e (fun j hj => (h j hj).1)
  intro k h1 h2
  have h9 := hw k h1 h2
  rw [(h k h2).1, (h k h2).2, hd k (by omega), hd s hs]
  refine ⟨h9.1, h9.2.1, h9.2.2.1, h9.2.2.2.1, h9.2.2.2.2.1, fun h3 => ?_⟩
  obtain ⟨g1, g2, g3⟩ := h9.2.2.2.2.2 h3
  exact ⟨g1, g2, by rw [hd _ (by omega)]; exact g3⟩
theorem WFX.congr {op arg op' arg' : Nat → Int32} {s e : Int32} (h : ∀ j : Nat, j < 400 → op' j = op j ∧ arg' j = arg j) (hw : WFX op arg s e) : WFX op' arg' s e := ⟨hw.1, hw.2.1, hw.2.2.1, hw.2.2.2.congr (by have := hw.1; have := hw.2.1; omega) (fun j hj => h j (by have := hw.2.2.1; omega))⟩
theorem WFL.shift {f g : Nat → Int32} {b b' : Nat} (h : ∀ j : Nat, j < 900 → g (b' + j) = f (b + j)) (hw : WFL f b) : WFL g b' := by
  have e1 := h 1 (by omega)
  refine ⟨by rw [e1]; exact hw.1, fun c hc => ?_⟩
  rw [e1] at hc
  have hc2 := hw.1.2
  have h9 := hw.2 c hc
  have e2 : ∀ i : Nat, i < 8 → g (b' + 2 + 8 * c + i) = f (b + 2 + 8 * c + i) := fun i hi => by
    have := h (2 + 8 * c + i) (by omega)
    rw [show b' + 2 + 8 * c + i = b' + (2 + 8 * c + i) by omega, this]
    congr 1
    omega
  rw [e2 3 (by omega), e2 4 (by omega), e2 5 (by omega), e2 6 (by omega)]
  have e3 : ∀ j : Nat, j < 400 → g (b' + 98 + 2 * j) = f (b + 98 + 2 * j) ∧ g (b' + 98 + 2 * j + 1) = f (b + 98 + 2 * j + 1) := fun j hj => by
    have h1 := h (98 + 2 * j) (by omega)
    have h2 := h (98 + 2 * j + 1) (by omega)
    refine ⟨?_, ?_⟩
    · rw [show b' + 98 + 2 * j = b' + (98 + 2 * j) by omega, h1]
      congr 1
      omega
    · rw [show b' + 98 + 2 * j + 1 = b' + (98 + 2 * j + 1) by omega, h2]
      congr 1
      omega
  exact ⟨h9.1.congr e3, h9.2.congr e3⟩
theorem rO.of3 {f g : Nat → Int32} {o : Nat} (h3 : mz_P true 3 f) (h : ∀ i : Nat, i < 5560 → g (o + i) = f i) : rO g o := ⟨fun j hj => by
  rw [h j (by omega)]
  exact h3.1 j hj, dO.congr (o := 12) (fun j hj => by
  rw [Nat.add_assoc, h (12 + j) (by omega)]) (h3.2.1 rfl), fun q hq => (h3.2.2 q hq).shift (fun j hj => by
  rw [Nat.add_assoc, h (160 + 900 * q + j) (by omega)])⟩
theorem rO.to3 {f g : Nat → Int32} {o : Nat} (h3 : rO g o) (h : ∀ i : Nat, i < 5560 → f i = g (o + i)) : mz_P true 3 f := ⟨fun j hj => by
  rw [h j (by omega)]
  exact h3.1 j hj, fun _ => dO.congr (o := o + 12) (fun j hj => by
  rw [h (12 + j) (by omega), Nat.add_assoc]) h3.2.1, fun q hq => (h3.2.2 q hq).shift (fun j hj => by
  rw [h (160 + 900 * q + j) (by omega)]
  congr 1
  omega)⟩
theorem rO.congr {f g : Nat → Int32} {o : Nat} (h3 : rO g o) (h : ∀ i : Nat, i < 5560 → f (o + i) = g (o + i)) : rO f o := ⟨fun j hj => by
  rw [h j (by omega)]
  exact h3.1 j hj, dO.congr (fun j hj => by
  rw [Nat.add_assoc, h (12 + j) (by omega)]) h3.2.1, fun q hq => (h3.2.2 q hq).shift (fun j hj => by
  rw [Nat.add_assoc, h (160 + 900 * q + j) (by omega)])⟩
theorem mz_img {f g : Nat → Int32} {k : Nat} (h3 : mz_P true 3 f) (h4 : ∀ s : Nat, s < 2 → rO g (5560 * s)) : ∀ s : Nat, s < 2 → rO (va_cpy f g 0 (5560 * k) 5560) (5560 * s) := fun s hs => by
  by_cases e : s = k
  · subst e
    exact rO.of3 h3 (fun i hi => by rw [mz_cpin (by omega) (by omega)]; congr 1; omega)
  · exact (h4 s hs).congr (fun i hi => mz_cpout (by omega))
theorem mz_unimg {f g : Nat → Int32} {k : Nat} (h4 : rO g (5560 * k)) : mz_P true 3 (va_cpy g f (5560 * k) 0 5560) := h4.to3 (fun i hi => by rw [mz_cpin (by omega) (by omega)]; congr 1)
theorem mz_shift {g : Nat → Int32} (h6 : ∀ s : Nat, s < 23 → sO g (52 * s)) : ∀ s : Nat, s < 23 → sO (va_cpy g g 52 0 780) (52 * s) := fun s hs => by
  by_cases e : s < 15
  · exact sO.congr (o := 52 * (s + 1)) (fun i hi => by rw [mz_cpin (by omega) (by omega)]; congr 1; omega) (h6 (s + 1) (by omega))
  · exact sO.congr (fun i hi => mz_cpout (by omega)) (h6 s hs)
theorem mz_bef {f g : Nat → Int32} (h6 : ∀ s : Nat, s < 23 → sO f (52 * s)) : ∀ s : Nat, s < 16 → sO (va_cpy f g 0 0 832) (52 * s) := fun s hs => sO.congr (o := 52 * s) (fun i hi => by rw [mz_cpin (by omega) (by omega)]; congr 1; omega) (h6 s (by omega))
theorem mz_aft {f g : Nat → Int32} (h9 : ∀ s : Nat, s < 16 → sO f (52 * s)) (h6 : ∀ s : Nat, s < 23 → sO g (52 * s)) : ∀ s : Nat, s < 23 → sO (va_cpy f g 0 0 832) (52 * s) := fun s hs => by
  by_cases e : s < 16
  · exact sO.congr (o := 52 * s) (fun i hi => by rw [mz_cpin (by omega) (by omega)]; congr 1; omega) (h9 s e)
  · exact sO.congr (fun i hi => mz_cpout (by omega)) (h6 s hs)
/-- what falls while a DUEL on paper is sung -/
def mz_md (f t h : Int) : Int := if f = -1 then 0 else 2 * (12 - h) + (if t = f then 1 else 0) + 1
theorem mz_md.nn {f t h : Int} (hh : h ≤ 12) : 0 ≤ mz_md f t h := by
  unfold mz_md
  split
  · omega
  · split <;> omega
theorem mz_md.le {f t h : Int} (hh : -1 ≤ h) : mz_md f t h < ((30 : Nat) : Int) := by
  unfold mz_md
  split
  · omega
  · split <;> omega
theorem mz_md.lt {f t h f1 t1 h1 : Int} {N : Nat} (hm : mz_md f t h < ((N + 1 : Nat) : Int)) (hf : 0 ≤ f) (hh : h ≤ 11) (hf1 : -1 ≤ f1) (a1 : 0 ≤ f1 → f1 = f ∧ h ≤ h1) (a2 : 0 ≤ f1 → f + 1 ≤ t → h + 1 ≤ h1) (a3 : 0 ≤ f1 → t ≤ f - 1 → h + 1 ≤ h1) (a4 : 0 ≤ f1 → h1 ≤ h → t1 = f → False) : mz_md f1 t1 h1 < (N : Int) := by
  unfold mz_md at hm ⊢
  rw [if_neg (by omega)] at hm
  by_cases e : f1 = -1
  · rw [if_pos e]
    split at hm <;> omega
  · rw [if_neg e]
    have b1 := a1 (by omega)
    have b2 := a2 (by omega)
    have b3 := a3 (by omega)
    have b4 : ¬ (h1 ≤ h ∧ t1 = f) := fun q => a4 (by omega) q.1 q.2
    split at hm <;> split <;> omega
