/-! kinds that grow: law() makes a Script -/
def tk_ext (t t' : tk_T) : Prop := ∀ a : Nat, (t a).1 ≠ 0 → t' a = t a
def tk_okS (sp : tk_S) : Prop := ((sp.1 = 1 ∨ sp.1 = 2 ∨ sp.1 = 3 ∨ sp.1 = 6) → sp.2.1.toNat ≠ 0) ∧ ((sp.1 = 8 ∨ sp.1 = 9 ∨ sp.1 = 10 ∨ sp.1 = 11) → sp.2.2.1.toNat ≠ 0)
def tk_okF : Prop := ∀ k : Nat, k < 20 → ∀ sp ∈ tk_F k, tk_okS sp
theorem tk_V.mono {ld : Nat → Nat} {t t' : tk_T} {n r : Nat} {sp : tk_S} {v : Value} (hx : tk_ext t t') (hs : tk_okS sp) (h : tk_V ld t n r sp v) : tk_V ld t' n r sp v := by
  obtain ⟨c, x, y, z⟩ := sp
  obtain ⟨h1, h2⟩ := hs
  match c, h, h1, h2 with
  | 0, h, _, _ => exact h
  | 1, h, h1, _ =>
    obtain ⟨a, e, h⟩ := h
    exact ⟨a, e, (hx a (by rw [h]; exact h1 (Or.inl rfl))).trans h⟩
  | 2, h, h1, _ =>
    obtain ⟨a, e, h⟩ := h
    exact ⟨a, e, (hx a (by rw [h]; exact h1 (Or.inr (Or.inl rfl)))).trans h⟩
  | 3, h, h1, _ =>
    obtain ⟨a, e, h⟩ := h
    exact ⟨a, e, (hx a (by rw [h]; exact h1 (Or.inr (Or.inr (Or.inl rfl))))).trans h⟩
  | 4, h, _, _ => exact h
  | 5, h, _, _ => exact h
  | 6, h, h1, _ =>
    obtain ⟨a, e, h⟩ := h
    exact ⟨a, e, (hx a (by rw [h]; exact h1 (Or.inr (Or.inr (Or.inr rfl))))).trans h⟩
  | 7, h, _, _ => exact h
  | 8, h, _, h2 =>
    obtain ⟨e, h⟩ := h
    exact ⟨e, (hx _ (by rw [h]; exact h2 (Or.inl rfl))).trans h⟩
  | 9, h, _, h2 =>
    obtain ⟨e, h⟩ := h
    exact ⟨e, (hx _ (by rw [h]; exact h2 (Or.inr (Or.inl rfl)))).trans h⟩
  | 10, h, _, h2 =>
    obtain ⟨e, h⟩ := h
    exact ⟨e, (hx _ (by rw [h]; exact h2 (Or.inr (Or.inr (Or.inl rfl))))).trans h⟩
  | 11, h, _, h2 =>
    obtain ⟨e, h⟩ := h
    exact ⟨e, (hx _ (by rw [h]; exact h2 (Or.inr (Or.inr (Or.inr rfl))))).trans h⟩
  | c + 12, h, _, _ => exact h
theorem tk_R.mono {ld : Nat → Nat} {t t' : tk_T} {k r j : Nat} {o : Option Nat} (hx : tk_ext t t') (h : tk_R ld t k r j o) : tk_R ld t' k r j o := by
  by_cases h25 : k = 25
  · subst h25
    obtain ⟨a, e, h⟩ := h
    exact ⟨a, e, (hx a (by rw [h]; exact Nat.succ_ne_zero _)).trans h⟩
  by_cases h26 : k = 26
  · subst h26
    obtain ⟨e, h⟩ := h
    exact ⟨e, (hx _ (by rw [h]; exact Nat.succ_ne_zero _)).trans h⟩
  by_cases h27 : k = 27
  · subst h27
    obtain ⟨e, h⟩ := h
    exact ⟨e, (hx _ (by rw [h]; exact Nat.succ_ne_zero _)).trans h⟩
  by_cases h28 : k = 28
  · subst h28
    intro a e
    obtain ⟨n, r, h⟩ := h a e
    exact ⟨n, r, (hx a (by rw [h]; exact Nat.succ_ne_zero _)).trans h⟩
  by_cases h30 : k = 30
  · subst h30
    obtain ⟨a, e, h⟩ := h
    exact ⟨a, e, (hx a (by rw [h]; exact Nat.succ_ne_zero _)).trans h⟩
  unfold tk_R
  split <;> first | contradiction | trivial
theorem tk_A.mono {cy : Nat → ClassId} {ld : Nat → Nat} {t t' : tk_T} {k n r : Nat} {e : va_E} (hx : tk_ext t t') (h : tk_A cy ld t k n r e) : tk_A cy ld t' k n r e := by
  unfold tk_A at h ⊢
  generalize tk_K k = c at h ⊢
  match c, h with
  | 0, h => exact h
  | 1, h => exact h
  | 2, h => exact h
  | c + 3, h =>
    obtain ⟨f, e, h⟩ := h
    exact ⟨f, e, fun j hj => (h j hj).mono hx⟩
theorem tk_O.mono {cy : Nat → ClassId} {ld : Nat → Nat} {t t' : tk_T} {k n r : Nat} {e : va_E} (hF : tk_okF) (hx : tk_ext t t') (h : tk_O cy ld t k n r e) : tk_O cy ld t' k n r e := by
  unfold tk_O at h ⊢
  by_cases hk : k < 20
  · rw [if_pos hk] at h ⊢
    obtain ⟨fs, e1, hl, hv, hX⟩ := h
    refine ⟨fs, e1, hl, fun j sp hj => ?_, hX⟩
    obtain ⟨v, g1, g2⟩ := hv j sp hj
    exact ⟨v, g1, g2.mono hx (hF k hk sp (List.mem_of_getElem? hj))⟩
  · rw [if_neg hk] at h ⊢
    exact h.mono hx
theorem tk_G.grow {D : va_G} {cy : Nat → ClassId} {ld : Nat → Nat} {t t' : tk_T} {H : Heap} (hF : tk_okF) (hG : tk_G D cy ld t [] H) (hx : tk_ext t t') (hnew : ∀ a : Nat, (t a).1 = 0 → (t' a).1 ≠ 0 → ∃ e : va_E, va_at D vwCl (a, e) H ∧ tk_O cy ld t' (t' a).1 (t' a).2.1 (t' a).2.2 e) : tk_G D cy ld t' [] H := by
  intro a ha _
  by_cases h : (t a).1 = 0
  · exact hnew a h ha
  · obtain ⟨e, g1, g2⟩ := hG a h tk_no
    rw [hx a h]
    exact ⟨e, g1, g2.mono hF hx⟩
/-- all typed cells are old -/
theorem tk_G.old {D : va_G} {cy : Nat → ClassId} {ld : Nat → Nat} {t : tk_T} {H0 H : Heap} {locs : List Loc} (hG : tk_G D cy ld t [] H0) (hS : va_S (fun q => H0.size ≤ q) H0 H locs) : tk_G D cy ld t [] H := by
  intro a ha hX
  obtain ⟨e, g1, g2⟩ := hG a ha hX
  exact ⟨e, g1.kept (hS.2.1 a g1.lt (Nat.not_le.mpr g1.lt)), g2⟩
theorem tk_G.lt {D : va_G} {cy : Nat → ClassId} {ld : Nat → Nat} {t : tk_T} {H : Heap} {a : Nat} (hG : tk_G D cy ld t [] H) (ha : (t a).1 ≠ 0) : a < H.size := by
  obtain ⟨e, g1, -⟩ := hG a ha tk_no
  exact g1.lt
theorem tk_Z.grow {ld : Nat → Nat} {t t' : tk_T} {s : State} (h : tk_Z ld t s) (hn : ∀ a : Nat, a < s.heap.size → (t' a).1 ≠ 0 → (t a).1 ≠ 0) : tk_Z ld t' s := by
  have hz : ∀ {C n d : String} {v : Value}, va_Z C n d v (fun a => (t a).1 ≠ 0) s s.heap → va_Z C n d v (fun a => (t' a).1 ≠ 0) s s.heap := by
    rintro C n d v ⟨cf, kf, fi, f, a, cell, q1, q2, q3, q4, q5, q6, q7, q8⟩
    exact ⟨cf, kf, fi, f, a, cell, q1, q2, q3, q4, q5, q6, q7, fun q => q8 (hn a (Array.getElem?_eq_some_iff.mp q5).1 q)⟩
  refine ⟨⟨fun i hi => ?_, h.1.2⟩, hz h.2.1, h.2.2.elim (fun q => Or.inl (hz q)) (fun q => q.elim (fun x q => Or.inr ⟨x, hz q⟩))⟩
  obtain ⟨⟨c1, a1, a2, a3, a4⟩, ⟨cf, k, fi, f, c2, b1, b2, b3, b4, b5, b6⟩, ⟨cf', k', fi', f', c3, d1, d2, d3, d4, d5, d6⟩, ⟨c4, e1, e2, e3, e4, e5, e6, e7⟩⟩ := h.1.1 i hi
  exact ⟨⟨c1, a1, a2, a3, fun q => a4 (hn _ (Array.getElem?_eq_some_iff.mp a1).1 q)⟩, ⟨cf, k, fi, f, c2, b1, b2, b3, b4, b5, fun q => b6 (hn _ (Array.getElem?_eq_some_iff.mp b3).1 q)⟩, ⟨cf', k', fi', f', c3, d1, d2, d3, d4, d5, fun q => d6 (hn _ (Array.getElem?_eq_some_iff.mp d3).1 q)⟩, ⟨c4, e1, e2, e3, e4, e5, e6, fun q => e7 (hn _ (Array.getElem?_eq_some_iff.mp e1).1 q)⟩⟩
/-- the seven cells of a new Script take their kinds -/
theorem tk_born {D : va_G} {cy : Nat → ClassId} {ld : Nat → Nat} {t : tk_T} {H0 H : Heap} {locs : List Loc} {q N R : Nat} {x : Nat → Nat} {f : Nat → Nat → Int32} {vN vR vK vL : Int32} (hF : tk_okF) (hG : tk_G D cy ld t [] H0) (hS : va_S (fun a => H0.size ≤ a) H0 H locs)
    (hP : va_P D vwCl [(q, .inr (7, [.ref (x 0), .ref (x 1), .ref (x 2), .ref (x 3), .ref (x 4), .ref (x 5), .int vN, .int vR, .int vK, .int vL])), (x 0, .inl (cy 0, N, .inl (f 0))), (x 1, .inl (cy 0, N, .inl (f 1))), (x 2, .inl (cy 0, R, .inl (f 2))), (x 3, .inl (cy 0, R, .inl (f 3))), (x 4, .inl (cy 0, R, .inl (f 4))), (x 5, .inl (cy 0, 3 * R, .inl (f 5)))] H)
    (hD : va_D (fun a => H0.size ≤ a) [(q, .inr (7, [.ref (x 0), .ref (x 1), .ref (x 2), .ref (x 3), .ref (x 4), .ref (x 5), .int vN, .int vR, .int vK, .int vL])), (x 0, .inl (cy 0, N, .inl (f 0))), (x 1, .inl (cy 0, N, .inl (f 1))), (x 2, .inl (cy 0, R, .inl (f 2))), (x 3, .inl (cy 0, R, .inl (f 3))), (x 4, .inl (cy 0, R, .inl (f 4))), (x 5, .inl (cy 0, 3 * R, .inl (f 5)))])
    (hN : N ≤ 512) (hR : R ≤ 12) (h1 : 0 ≤ vN.toInt ∧ vN.toInt ≤ N) (h2 : 0 ≤ vR.toInt ∧ vR.toInt ≤ R) (hL : 0 ≤ vL.toInt ∧ vL.toInt ≤ 1) (h3 : ∀ j : Nat, j < R → 0 ≤ (f 3 j).toInt ∧ (f 3 j).toInt ≤ 20) :
    ∃ t' : tk_T, tk_ext t t' ∧ tk_G D cy ld t' [] H ∧ t' q = (8, N, R) ∧ ∀ a : Nat, (t' a).1 ≠ 0 → (t a).1 ≠ 0 ∨ H0.size ≤ a := by
  have hG1 := hG.old hS
  have hq := hD.2 0 _ rfl
  have hx : ∀ k : Nat, k < 6 → H0.size ≤ x k := by
    intro k hk
    match k, hk with
    | 0, _ => exact hD.2 1 _ rfl
    | 1, _ => exact hD.2 2 _ rfl
    | 2, _ => exact hD.2 3 _ rfl
    | 3, _ => exact hD.2 4 _ rfl
    | 4, _ => exact hD.2 5 _ rfl
    | 5, _ => exact hD.2 6 _ rfl
    | k + 6, h => omega
  have n : ∀ (i j : Nat) (p r : Nat × va_E), i ≠ j → _ → _ → p.1 ≠ r.1 := fun i j p r hne hi hj e => hne (hD.1 i j p r hi hj e)
  have n01 : x 0 ≠ q := n 1 0 _ _ (by decide) rfl rfl
  have n11 : x 1 ≠ q := n 2 0 _ _ (by decide) rfl rfl
  have n21 : x 2 ≠ q := n 3 0 _ _ (by decide) rfl rfl
  have n31 : x 3 ≠ q := n 4 0 _ _ (by decide) rfl rfl
  have n41 : x 4 ≠ q := n 5 0 _ _ (by decide) rfl rfl
  have n51 : x 5 ≠ q := n 6 0 _ _ (by decide) rfl rfl
  have n10 : x 1 ≠ x 0 := n 2 1 _ _ (by decide) rfl rfl
  have n20 : x 2 ≠ x 0 := n 3 1 _ _ (by decide) rfl rfl
  have n30 : x 3 ≠ x 0 := n 4 1 _ _ (by decide) rfl rfl
  have n40 : x 4 ≠ x 0 := n 5 1 _ _ (by decide) rfl rfl
  have n50 : x 5 ≠ x 0 := n 6 1 _ _ (by decide) rfl rfl
  have n2a : x 2 ≠ x 1 := n 3 2 _ _ (by decide) rfl rfl
  have n3a : x 3 ≠ x 1 := n 4 2 _ _ (by decide) rfl rfl
  have n4a : x 4 ≠ x 1 := n 5 2 _ _ (by decide) rfl rfl
  have n5a : x 5 ≠ x 1 := n 6 2 _ _ (by decide) rfl rfl
  have n3b : x 3 ≠ x 2 := n 4 3 _ _ (by decide) rfl rfl
  have n4b : x 4 ≠ x 2 := n 5 3 _ _ (by decide) rfl rfl
  have n5b : x 5 ≠ x 2 := n 6 3 _ _ (by decide) rfl rfl
  have n4c : x 4 ≠ x 3 := n 5 4 _ _ (by decide) rfl rfl
  have n5c : x 5 ≠ x 3 := n 6 4 _ _ (by decide) rfl rfl
  have n5d : x 5 ≠ x 4 := n 6 5 _ _ (by decide) rfl rfl
  let t' : tk_T := fun a => if a = q then (8, N, R) else if a = x 0 then (20, N, 0) else if a = x 1 then (20, N, 0) else if a = x 2 then (20, R, 0) else if a = x 3 then (23, R, 0) else if a = x 4 then (20, R, 0) else if a = x 5 then (20, 3 * R, 0) else t a
  have eq : t' q = (8, N, R) := if_pos rfl
  have e0 : t' (x 0) = (20, N, 0) := by simp [t', n01]
  have e1 : t' (x 1) = (20, N, 0) := by simp [t', n11, n10]
  have e2 : t' (x 2) = (20, R, 0) := by simp [t', n21, n20, n2a]
  have e3 : t' (x 3) = (23, R, 0) := by simp [t', n31, n30, n3a, n3b]
  have e4 : t' (x 4) = (20, R, 0) := by simp [t', n41, n40, n4a, n4b, n4c]
  have e5 : t' (x 5) = (20, 3 * R, 0) := by simp [t', n51, n50, n5a, n5b, n5c, n5d]
  have eo : ∀ a : Nat, a < H0.size → t' a = t a := by
    intro a ha
    have g0 := hx 0 (by decide)
    have g1 := hx 1 (by decide)
    have g2 := hx 2 (by decide)
    have g3 := hx 3 (by decide)
    have g4 := hx 4 (by decide)
    have g5 := hx 5 (by decide)
    have gq : H0.size ≤ q := hq
    simp only [t']
    rw [if_neg (by omega), if_neg (by omega), if_neg (by omega), if_neg (by omega), if_neg (by omega), if_neg (by omega), if_neg (by omega)]
  have hext : tk_ext t t' := fun a ha => eo a (hG.lt ha)
  refine ⟨t', hext, hG1.grow hF hext (fun a ha ha' => ?_), eq, fun a ha => ?_⟩
  · have arr : ∀ (k a n r : Nat) (g : Nat → Int32), t' a = (k, n, r) → 20 ≤ k → tk_K k = 0 → va_at D vwCl (a, .inl (cy 0, n, .inl g)) H → (∀ j : Nat, j < n → tk_E k r j (g j).toInt) → ∃ e : va_E, va_at D vwCl (a, e) H ∧ tk_O cy ld t' (t' a).1 (t' a).2.1 (t' a).2.2 e := by
      intro k a n r g h hk hK hat hE
      refine ⟨_, hat, ?_⟩
      rw [h]
      show tk_O cy ld t' k n r _
      unfold tk_O
      rw [if_neg (Nat.not_lt.mpr hk)]
      unfold tk_A
      rw [hK]
      exact ⟨g, rfl, hE⟩
    by_cases c0 : a = q
    · subst c0
      refine ⟨_, hP 0 _ rfl, ?_⟩
      rw [eq]
      show tk_O cy ld t' 8 N R _
      unfold tk_O
      rw [if_pos (by decide)]
      refine ⟨_, rfl, rfl, fun j sp hj => ?_, ⟨hN, hR⟩⟩
      match j, hj with
      | 0, hj => cases hj; exact ⟨_, rfl, _, rfl, e0⟩
      | 1, hj => cases hj; exact ⟨_, rfl, _, rfl, e1⟩
      | 2, hj => cases hj; exact ⟨_, rfl, _, rfl, e2.trans (by rw [show ((1 : Int).toNat) * R = R from Nat.one_mul R]; rfl)⟩
      | 3, hj => cases hj; exact ⟨_, rfl, _, rfl, e3.trans (by rw [show ((1 : Int).toNat) * R = R from Nat.one_mul R]; rfl)⟩
      | 4, hj => cases hj; exact ⟨_, rfl, _, rfl, e4.trans (by rw [show ((1 : Int).toNat) * R = R from Nat.one_mul R]; rfl)⟩
      | 5, hj => cases hj; exact ⟨_, rfl, _, rfl, e5⟩
      | 6, hj => cases hj; exact ⟨_, rfl, _, rfl, h1⟩
      | 7, hj => cases hj; exact ⟨_, rfl, _, rfl, h2⟩
      | 8, hj => cases hj; exact ⟨_, rfl, _, rfl, (tk_rng _).1, (tk_rng _).2⟩
      | 9, hj => cases hj; exact ⟨_, rfl, _, rfl, hL⟩
      | j + 10, hj => simp [tk_F] at hj
    by_cases c1 : a = x 0
    · subst c1; exact arr 20 _ _ _ _ e0 (by decide) rfl (hP 1 _ rfl) (fun _ _ => trivial)
    by_cases c2 : a = x 1
    · subst c2; exact arr 20 _ _ _ _ e1 (by decide) rfl (hP 2 _ rfl) (fun _ _ => trivial)
    by_cases c3 : a = x 2
    · subst c3; exact arr 20 _ _ _ _ e2 (by decide) rfl (hP 3 _ rfl) (fun _ _ => trivial)
    by_cases c4 : a = x 3
    · subst c4; exact arr 23 _ _ _ _ e3 (by decide) rfl (hP 4 _ rfl) (fun j hj => h3 j hj)
    by_cases c5 : a = x 4
    · subst c5; exact arr 20 _ _ _ _ e4 (by decide) rfl (hP 5 _ rfl) (fun _ _ => trivial)
    by_cases c6 : a = x 5
    · subst c6; exact arr 20 _ _ _ _ e5 (by decide) rfl (hP 6 _ rfl) (fun _ _ => trivial)
    exfalso
    apply ha'
    simp only [t']
    rw [if_neg c0, if_neg c1, if_neg c2, if_neg c3, if_neg c4, if_neg c5, if_neg c6]
    exact ha
  · by_cases h : a < H0.size
    · rw [eo a h] at ha
      exact Or.inl ha
    · exact Or.inr (Nat.not_lt.mp h)
theorem tk_copy0 {p : Program} {l : Launch} {e : Env} {R : Room} {s : State} {m : MethodId} {args : Array Value} {below : List Frame} {meth : Method} {c : Code} {H : Heap} {locs : List Loc} {cells slots : Nat} {Q : State → Prop} {pc : Nat} {ls : Array Slot} {rest : List Value} {A : Nat → Prop} {H0 : Heap} {index : Nat} {D : va_G} {cy : Nat → ClassId} {ld : Nat → Nat} {own : String} {cc : ByteArray} {a : Nat} (hexec : p.tables.exec = Jvm.exec) (hb : c.code = cc) (hml : c.maxLocals = ls.size) (hown : s.vm.findClass own = some m.cls) (hlink : (Cond.methodLink own index arraycopyName).before args s = true) (hnat : (Cond.native arraycopyName).before args s = true) (hstat : (Cond.static arraycopyName).before args s = true) (hini : (Cond.initialized "java/lang/System").before args s = true)
    (hK : kk_K D cy ld s) (hS : va_S A H0 H locs) {a0 n0 n1 : Nat} {f g : Nat → Int32} (hc0 : va_at D vwCl (a0, .inl (cy 0, n0, .inl f)) H) (hc1 : va_at D vwCl (a, .inl (cy 0, n1, .inl g)) H)
    {sp dp nc : Int32} {SP DP NC : Int} (hsp : sp.toInt = SP) (hdp : dp.toInt = DP) (hnc : nc.toInt = NC) (h1 : 0 ≤ SP) (h2 : 0 ≤ DP) (h3 : 0 ≤ NC) (h4 : SP + NC ≤ (n0 : Int)) (h5 : DP + NC ≤ (n1 : Int)) (hA : A a)
    (hframes : 1 ≤ R.frames) (hlocals : (rest.map fun v => v.category).sum + (nativeFrameWords "java/lang/System" "arraycopy" 5 + 11) ≤ R.locals) (hdg : decode cc pc = .ok (.invokestatic index, 3))
    (kk : ∀ (H1 : Heap) (locs1 : List Loc), va_at D vwCl (a, .inl (cy 0, n1, .inl (va_cpy f g sp.toNatClampNeg dp.toNatClampNeg nc.toNatClampNeg))) H1 → va_S A H0 H1 locs1 → (∀ q : Nat, q ≠ a → H1[q]? = H[q]?) → W p l e R s m args below meth c H1 locs1 cells slots Q (F0 m (pc + 3) ls rest)) : W p l e R s m args below meth c H locs cells slots Q (F0 m pc ls (.int nc :: .int dp :: .ref a :: .int sp :: .ref a0 :: rest)) := by
  change H[a0]? = some (vp_cell (cy 0) (n0, .inl f)) at hc0
  change H[a]? = some (vp_cell (cy 0) (n1, .inl g)) at hc1
  have z1 := tk_nat hsp h1
  have z2 := tk_nat hdp h2
  have z3 := tk_nat hnc h3
  have g1 : ¬ sp < 0 := fun h => by have := Int32.lt_iff_toInt_lt.mp h; rw [hsp] at this; exact absurd this (by show ¬ SP < 0; omega)
  have g2 : ¬ dp < 0 := fun h => by have := Int32.lt_iff_toInt_lt.mp h; rw [hdp] at this; exact absurd this (by show ¬ DP < 0; omega)
  have g3 : ¬ nc < 0 := fun h => by have := Int32.lt_iff_toInt_lt.mp h; rw [hnc] at this; exact absurd this (by show ¬ NC < 0; omega)
  intro T hT Xs
  obtain ⟨-, kq0, hq0, cm0, hkk0⟩ := (hK.1.2 0 _ rfl).1 n0 (fun j => .int (f j))
  obtain ⟨-, kq1, hq1, cm1, hkk1⟩ := (hK.1.2 0 _ rfl).1 n1 (fun j => .int (g j))
  obtain ⟨vm', X', step⟩ := Xs.arraycopy hexec hown hlink hnat hstat hini (src := a0) (dst := a) (cs := vp_cell (cy 0) (n0, .inl f)) (cd := vp_cell (cy 0) (n1, .inl g)) (srcPos := sp) (destPos := dp) (n := nc) (by rw [hT]; exact hc0) (by rw [hT]; exact hc1)
    (fun _ h => by cases h) (fun _ h => by cases h) (fun h => by cases h) (fun h => by cases h) hq0 hq1 hkk0 hkk1 (by simp [refKind]) g1 g2 g3
    (by rw [hsp, hnc]; show ¬ _ > ((arrV (cy 0) n0 (fun j => .int (f j))).slots.size : Int); rw [arrV_size]; omega)
    (by rw [hdp, hnc]; show ¬ _ > ((arrV (cy 0) n1 (fun j => .int (g j))).slots.size : Int); rw [arrV_size]; omega)
    (fun vm₁ _ i hi => by
      have e : (vp_cell (cy 0) (n0, .inl f)).slots.getD (sp.toNatClampNeg + i) .null = .int (f (sp.toNatClampNeg + i)) := by
        show (arrV (cy 0) n0 (fun j => .int (f j))).slots.getD _ _ = _
        rw [Array.getD_eq_getD_getElem?, arrV_read _ _ (by omega)]
        rfl
      refine ⟨?_, ?_⟩
      · rw [e]
        rfl
      · rw [e]
        exact trivial)
    (g := F0 m pc ls (.int nc :: .int dp :: .ref a :: .int sp :: .ref a0 :: rest)) rfl (by rw [hml]) (rest := rest) rfl (by rw [hb]; exact hdg) hframes (by show 2 * 0 + _ + _ ≤ _; omega)
  have e1 : copied (vp_cell (cy 0) (n0, .inl f)) (vp_cell (cy 0) (n1, .inl g)) sp dp nc = vp_cell (cy 0) (n1, .inl (va_cpy f g sp.toNatClampNeg dp.toNatClampNeg nc.toNatClampNeg)) := va_copied (fun z => .int z) (cy 0) (cy 0) f g (by omega)
  rw [e1] at X' step
  have hl : a < H.size := (Array.getElem?_eq_some_iff.mp hc1).1
  have hheap : ((T.setVm vm').setCell a (vp_cell (cy 0) (n1, .inl (va_cpy f g sp.toNatClampNeg dp.toNatClampNeg nc.toNatClampNeg)))).heap = H.setIfInBounds a (vp_cell (cy 0) (n1, .inl (va_cpy f g sp.toNatClampNeg dp.toNatClampNeg nc.toNatClampNeg))) := by rw [← hT]; rfl
  have oq : ∀ q : Nat, q ≠ a → (H.setIfInBounds a (vp_cell (cy 0) (n1, .inl (va_cpy f g sp.toNatClampNeg dp.toNatClampNeg nc.toNatClampNeg))))[q]? = H[q]? := fun q hq => by simp [Array.getElem?_setIfInBounds, Ne.symm hq]
  have hG1 : va_at D vwCl (a, .inl (cy 0, n1, .inl (va_cpy f g sp.toNatClampNeg dp.toNatClampNeg nc.toNatClampNeg))) (H.setIfInBounds a (vp_cell (cy 0) (n1, .inl (va_cpy f g sp.toNatClampNeg dp.toNatClampNeg nc.toNatClampNeg)))) := by
    show (H.setIfInBounds a _)[a]? = some _
    simp [Array.getElem?_setIfInBounds, hl]
  obtain ⟨t9, a9, b9⟩ := kk _ _ hG1 ⟨by simp; exact hS.1, fun q g1 g2 => by
      rw [oq q (fun e => g2 (by rw [e]; exact hA))]
      exact hS.2.1 q g1 g2, fun q hq => by
      rcases List.mem_append.mp hq with h | h
      · exact hS.2.2 q h
      · obtain ⟨z, -, hz⟩ := List.mem_map.mp h
        rw [← hz]
        exact hA⟩ oq _ hheap X'
  exact ⟨t9, step t9 a9, b9⟩
def tps (D : va_G) (cy : Nat → ClassId) (ld : Nat → Nat) (t : tk_T) (av : List Value) (sz : Nat) : Array Value → State → Prop := va_Pc av (fun U => tk_G D cy ld t [] U.heap ∧ kk_K D cy ld U ∧ U.heap.size = sz ∧ tk_Z ld t U)
def tqs (D : va_G) (cy : Nat → ClassId) (ld : Nat → Nat) (t : tk_T) (sz : Nat) : Array Value → State → Outcome → State → Prop := va_Qq (S := Nat × tk_T) (fun r u => r = some u.1) (fun u st => tk_ext t u.2 ∧ tk_G D cy ld u.2 [] st.heap ∧ (∃ n r : Nat, u.2 u.1 = (8, n, r)) ∧ ∀ a : Nat, (u.2 a).1 ≠ 0 → (t a).1 ≠ 0 ∨ sz ≤ a) (fun q => sz ≤ q)
theorem tps_blind {D : va_G} {cy : Nat → ClassId} {ld : Nat → Nat} {t : tk_T} {av : List Value} {sz : Nat} : FrameBlind (tps D cy ld t av sz) := fun a U g mk q => by
  obtain ⟨q0, q1, q2, q3, q4⟩ := q
  exact ⟨q0, q1, kk_call g mk a q2, q3, ⟨vk_S.moved (u := U) (U := U.calling g mk a) (Vm.Alike.refl U.vm) q4.1, va_Z.moved (u := U) (U := U.calling g mk a) (Vm.Alike.refl U.vm) q4.2.1, q4.2.2.elim (fun h => Or.inl (va_Z.moved (u := U) (U := U.calling g mk a) (Vm.Alike.refl U.vm) h)) (fun h => h.elim (fun x h => Or.inr ⟨x, va_Z.moved (u := U) (U := U.calling g mk a) (Vm.Alike.refl U.vm) h⟩))⟩⟩
theorem tk_mets {l : Launch} {D : va_G} {cy : Nat → ClassId} {ld : Nat → Nat} {y : MethodName} {cc : ByteArray} {maxL mc ms sz : Nat} {ret : Option FieldType} {rm : Room} {av : List Value} {t : tk_T} (QC : Nat → Array Value → State → Outcome → State → Prop) (hy : plainName y.cls = true) (hlen : (lg_sl av).length ≤ maxL)
    (body : ∀ (p : Program) (e : Env) (s : State) (m : MethodId) (args : Array Value) (below : List Frame) (meth : Method) (c : Code), p.tables.exec = Jvm.exec → c.code = cc → meth.sig.returnType = ret → c.maxLocals = maxL → (∀ w ∈ wl y cc maxL ret, w.before args s = true) → (∀ w ∈ wsA, w.before args s = true) → s.vm.findClass y.cls = some m.cls → meth.locks = false → kk_K D cy ld s → tk_G D cy ld t [] s.heap → tk_Z ld t s → ∀ ls : Array Slot, lv_has ls maxL (lv_args 0 av) →
      W p l e rm s m args below meth c s.heap [] 0 0 (MQ below (QC s.heap.size) args s mc ms (fun q => s.heap.size ≤ q)) (F0 m 0 ls [])) : Met l y (wl y cc maxL ret) rm (tps D cy ld t av sz) (QC sz) mc ms (fun q => sz ≤ q) := by
  refine Met.ofW (cc := cc) (maxL := maxL) (ret := ret) hy rfl ?_
  intro p e s m args below meth c s₁ B hml hv
  obtain ⟨rfl, hG, hK, hsz, hZ⟩ := hv
  subst hsz
  have hts := atoms_spec (ws := wl y cc maxL ret) B.pre
  have hl := lv_entry av (n := maxL) hlen
  rw [lg_entry_eq]
  exact body p e s m _ below meth c B.exec B.bytes B.returns hml hts (fun w hw => hts w (List.mem_cons_of_mem _ hw)) (findClass_of_methodNamed B.named) B.notSynchronized hK hG hZ _ hl
theorem tk_Z.atA {ld : Nat → Nat} {t : tk_T} {s U : State} {A : Nat → Prop} {H : Heap} {locs : List Loc} (h : tk_Z ld t s) (hAZ : ∀ q : Nat, q < s.heap.size → A q → (t q).1 ≠ 0) (hS : va_S A s.heap H locs) (hU : U.heap = H) (hW : s.vm.Alike U.vm) : tk_Z ld t U := by
  have hq : ∀ a : Nat, a < s.heap.size → ¬ (t a).1 ≠ 0 → U.heap[a]? = s.heap[a]? := fun a h1 h2 => by
    rw [hU]
    exact hS.2.1 a h1 (fun q => h2 (hAZ a h1 q))
  refine ⟨(vk_S.moved hW h.1).kept hq, (va_Z.moved hW h.2.1).kept hq, ?_⟩
  rcases h.2.2 with h | ⟨x, h⟩
  · exact Or.inl ((va_Z.moved hW h).kept hq)
  · exact Or.inr ⟨x, (va_Z.moved hW h).kept hq⟩
theorem tk_ViA {p : Program} {l : Launch} {e : Env} {R : Room} {s : State} {m : MethodId} {args : Array Value} {below : List Frame} {meth : Method} {c : Code} {H : Heap} {locs : List Loc} {cells slots : Nat} {Q : State → Prop} {pc : Nat} {ls : Array Slot} {rest st : List Value} {A : Nat → Prop} {mc ms nL maxL n index : Nat} {D : va_G} {cy : Nat → ClassId} {ld : Nat → Nat} {own C : String} {Ts wsy : List Cond} {cc bytes : ByteArray} {y : MethodName} {ret : Option FieldType} {rm : Room} {As : List Value} {b ci nn rr : Nat} {t : tk_T} {X : List Nat} {T : u_T} {N : Nat} {L : List (Nat × Nat × Nat)} {post : Int32 → Heap → Prop} (S : CallFix p m c cc nL s args Ts own) (hK : kk_K D cy ld s) (hG : tk_G D cy ld t X H) (hZ : tk_Z ld t s) (hAZ : ∀ q : Nat, q < s.heap.size → A q → (t q).1 ≠ 0) (hS : va_S A s.heap H locs) {B : Heap → Prop} (hM : Met l y wsy rm (tp D cy ld t X (.ref b :: As) B) (ti D cy ld t X post (tk_w t L)) mc ms (tk_w t L)) (hB : B H) (cw : CallW R s args own C index y bytes maxL ret wsy rm mc ms n) (hb0 : t b = (ci + 1, nn, rr)) (hci : ci + 1 < 20) (hXb : b ∉ X) (hcl : vwCl[ci]? = some (C, T, N)) (hsub : ∀ q, tk_w t L q → A q) (hn : As.length = n) (hsize : ls.size = nL) (hst : st = As.reverse ++ .ref b :: rest) (hW : (rest.map fun v => v.category).sum ≤ 8) (hdg : decode cc pc = .ok (.invokevirtual index, 3)) (hf : cells + mc ≤ R.cells ∧ slots + ms ≤ R.slots)
    (kk : ∀ (r : Int32) (H1 : Heap) (locs1 : List Loc), post r H1 → tk_G D cy ld t X H1 → va_S A s.heap H1 locs1 → H.size ≤ H1.size → (∀ q : Nat, q < H.size → ¬ tk_w t L q → H1[q]? = H[q]?) → W p l e R s m args below meth c H1 locs1 (cells + mc) (slots + ms) Q (F0 m (pc + 3) ls (.int r :: rest))) : W p l e R s m args below meth c H locs cells slots Q (F0 m pc ls st) := by
  subst hst
  obtain ⟨fs0, hat0, -⟩ := hG.obj hb0 hci hXb
  refine va_calli (va_runV (As := As) (rest := rest) S hM cw ⟨tp_blind, va_recv hK.1 (tk_one hat0) hcl (q0 := 0) rfl, fun U hU hW2 => ⟨rfl, by rw [hU]; exact hG, kk_warm hW2 hK, by rw [hU]; exact hB, tk_Z.atA hZ hAZ hS hU hW2.alike⟩⟩ rfl hn hsize rfl (lv_room hW) hdg hf) hS (fun q _ h => hsub q h) hsub (fun r u t9 H1 locs1 ht hvm hw hBB hz1 hk1 hS1 => ?_)
  obtain ⟨hG1, hp1⟩ := hBB
  subst hw
  rw [ht] at hG1 hp1
  exact kk r H1 locs1 hp1 hG1 hS1 hz1 hk1
theorem tk_w.grow {t t' : tk_T} {L : List (Nat × Nat × Nat)} {n0 sz q : Nat} (g1 : tk_ext t t') (g4 : ∀ a : Nat, (t' a).1 ≠ 0 → (t a).1 ≠ 0 ∨ sz ≤ a) (hz : n0 ≤ sz) (h : tk_w t' L q) : tk_w t L q ∨ n0 ≤ q := by
  obtain ⟨h0, q', hq', h1⟩ := h
  rcases g4 q h0 with h | h
  · rw [g1 q h] at h0 h1
    exact Or.inl ⟨h0, q', hq', h1⟩
  · exact Or.inr (Nat.le_trans hz h)
def tql (D : va_G) (cy : Nat → ClassId) (ld : Nat → Nat) (t : tk_T) (A : Nat → Prop) (sz : Nat) : Array Value → State → Outcome → State → Prop := va_Qi (S := Int32 × tk_T) (fun r u => r = u.1) (fun u st => tk_ext t u.2 ∧ tk_G D cy ld u.2 [] st.heap ∧ ∀ a : Nat, (u.2 a).1 ≠ 0 → (t a).1 ≠ 0 ∨ sz ≤ a) A

theorem dfX7 : ∀ j, j < 10 → defaultValue (tyX7 j) = vp_V [.null, .null, .null, .null, .null, .null, .int 0, .int 0, .int 0, .int 0] j := by decide +kernel
theorem dX7_init_0 : decode cX7_init 0 = .ok (.aload_n 0, 1) := by decide +kernel
theorem dX7_init_1 : decode cX7_init 1 = .ok (.invokespecial 3, 3) := by decide +kernel
theorem dX7_init_4 : decode cX7_init 4 = .ok (.aload_n 0, 1) := by decide +kernel
theorem dX7_init_5 : decode cX7_init 5 = .ok (.iload_n 1, 1) := by decide +kernel
theorem dX7_init_6 : decode cX7_init 6 = .ok (.newarray .int, 2) := by decide +kernel
theorem dX7_init_8 : decode cX7_init 8 = .ok (.putfield 9, 3) := by decide +kernel
theorem dX7_init_11 : decode cX7_init 11 = .ok (.aload_n 0, 1) := by decide +kernel
theorem dX7_init_12 : decode cX7_init 12 = .ok (.iload_n 1, 1) := by decide +kernel
theorem dX7_init_13 : decode cX7_init 13 = .ok (.newarray .int, 2) := by decide +kernel
theorem dX7_init_15 : decode cX7_init 15 = .ok (.putfield 15, 3) := by decide +kernel
theorem dX7_init_18 : decode cX7_init 18 = .ok (.aload_n 0, 1) := by decide +kernel
theorem dX7_init_19 : decode cX7_init 19 = .ok (.iload_n 2, 1) := by decide +kernel
theorem dX7_init_20 : decode cX7_init 20 = .ok (.newarray .int, 2) := by decide +kernel
theorem dX7_init_22 : decode cX7_init 22 = .ok (.putfield 18, 3) := by decide +kernel
theorem dX7_init_25 : decode cX7_init 25 = .ok (.aload_n 0, 1) := by decide +kernel
theorem dX7_init_26 : decode cX7_init 26 = .ok (.iload_n 2, 1) := by decide +kernel
theorem dX7_init_27 : decode cX7_init 27 = .ok (.newarray .int, 2) := by decide +kernel
theorem dX7_init_29 : decode cX7_init 29 = .ok (.putfield 21, 3) := by decide +kernel
theorem dX7_init_32 : decode cX7_init 32 = .ok (.aload_n 0, 1) := by decide +kernel
theorem dX7_init_33 : decode cX7_init 33 = .ok (.iload_n 2, 1) := by decide +kernel
theorem dX7_init_34 : decode cX7_init 34 = .ok (.newarray .int, 2) := by decide +kernel
theorem dX7_init_36 : decode cX7_init 36 = .ok (.putfield 24, 3) := by decide +kernel
theorem dX7_init_39 : decode cX7_init 39 = .ok (.aload_n 0, 1) := by decide +kernel
theorem dX7_init_40 : decode cX7_init 40 = .ok (.iload_n 2, 1) := by decide +kernel
theorem dX7_init_41 : decode cX7_init 41 = .ok (.iconst 3, 1) := by decide +kernel
theorem dX7_init_42 : decode cX7_init 42 = .ok (.imul, 1) := by decide +kernel
theorem dX7_init_43 : decode cX7_init 43 = .ok (.newarray .int, 2) := by decide +kernel
theorem dX7_init_45 : decode cX7_init 45 = .ok (.putfield 27, 3) := by decide +kernel
theorem dX7_init_48 : decode cX7_init 48 = .ok (.return_, 1) := by decide +kernel
set_option maxHeartbeats 4000000 in
set_option maxRecDepth 100000 in
theorem k_X7_init (l : Launch) (D : va_G) (cy : Nat → ClassId) (ld : Nat → Nat) (sz : Nat) (a0 : Nat) (p1 p2 : Int32) (N R : Nat) (h1 : p1.toInt = N) (h2 : p2.toInt = R) (hN : N ≤ 512) (hR : R ≤ 12) : Met l yX7_init (wl yX7_init cX7_init 3 none) ({ frames := 3, cells := 6, slots := 1096, locals := 140 }) (pp D cy ld [.ref a0, .int p1, .int p2] sz [(a0, .inr (7, [.null, .null, .null, .null, .null, .null, .int 0, .int 0, .int 0, .int 0]))]) (qv D (fun x : Nat → Nat => [(a0, .inr (7, [.ref (x 0), .ref (x 1), .ref (x 2), .ref (x 3), .ref (x 4), .ref (x 5), .int 0, .int 0, .int 0, .int 0])), (x 0, .inl (cy 0, N, .inl (fun _ => 0))), (x 1, .inl (cy 0, N, .inl (fun _ => 0))), (x 2, .inl (cy 0, R, .inl (fun _ => 0))), (x 3, .inl (cy 0, R, .inl (fun _ => 0))), (x 4, .inl (cy 0, R, .inl (fun _ => 0))), (x 5, .inl (cy 0, 3 * R, .inl (fun _ => 0)))]) (va_A [(a0, .inr (7, [.null, .null, .null, .null, .null, .null, .int 0, .int 0, .int 0, .int 0]))] sz)) 6 1096 (va_A [(a0, .inr (7, [.null, .null, .null, .null, .null, .null, .int 0, .int 0, .int 0, .int 0]))] sz) := by
  refine fx_met (y := yX7_init) (cc := cX7_init) (maxL := 3) (ret := none) (av := [.ref a0, .int p1, .int p2]) (wc := [(a0, .inr (7, [.null, .null, .null, .null, .null, .null, .int 0, .int 0, .int 0, .int 0]))]) (sz := sz) (cy := cy) (ld := ld) (qv D (fun x : Nat → Nat => [(a0, .inr (7, [.ref (x 0), .ref (x 1), .ref (x 2), .ref (x 3), .ref (x 4), .ref (x 5), .int 0, .int 0, .int 0, .int 0])), (x 0, .inl (cy 0, N, .inl (fun _ => 0))), (x 1, .inl (cy 0, N, .inl (fun _ => 0))), (x 2, .inl (cy 0, R, .inl (fun _ => 0))), (x 3, .inl (cy 0, R, .inl (fun _ => 0))), (x 4, .inl (cy 0, R, .inl (fun _ => 0))), (x 5, .inl (cy 0, 3 * R, .inl (fun _ => 0)))])) (by decide) (Nat.le_of_ble_eq_true rfl) ?_
  intro p e s m args below meth c hx hb hr hml hts htl hown hlocks hin hK hP A hD hA hS ls hl
  have hown : s.vm.findClass RX7 = some m.cls := hown
  have hin : meth.name = "<init>" := hin
  have hl : lv_has ls 3 [(0, .ref a0), (1, .int p1), (2, .int p2)] := hl
  have hN1 : p1.toNatClampNeg = N := by have := tk_nat h1 (by omega); omega
  have hR1 : p2.toNatClampNeg = R := by have := tk_nat h2 (by omega); omega
  have hN0 : ¬ p1 < 0 := fun q => by have := (fi_lt h1 (show (0 : Int32).toInt = 0 by decide)).mp q; omega
  have hR0 : ¬ p2 < 0 := fun q => by have := (fi_lt h2 (show (0 : Int32).toInt = 0 by decide)).mp q; omega
  refine lv_aload_n hx hb dX7_init_0 rfl (lv_at hl 0 rfl) ?_
  refine W.objInit hx hb hown (htl _ mw_137) (htl _ mw_10) (htl _ mw_11) rfl (by rw [hml]; exact hl.1) rfl dX7_init_1 (Nat.le_of_ble_eq_true rfl) (Nat.le_of_ble_eq_true rfl) ?_
  refine W.eq (g2 := F0 m 4 ls []) rfl ?_
  refine lv_aload_n hx hb dX7_init_4 rfl (lv_at hl 0 rfl) ?_
  refine lv_iload_n hx hb dX7_init_5 rfl (lv_at hl 1 rfl) ?_
  refine fx_newa hx hb (htl _ mw_32) rfl hK hP hD hS hA 0 rfl (fun _ h => h) (a0 := (N, .inl (fun _ => 0))) (fun _ => rfl) hN0 hN1 (show N * 4 ≤ 536870912 by omega) (Nat.le_of_ble_eq_true rfl) (show 0 + N ≤ 1096 by omega) dX7_init_6 (fun q0 H hP hD hS => ?_)
  refine W.widen (k := 1) (n := 512) (Nat.le_of_ble_eq_true rfl) (by omega) ?_
  have hP : va_P D vwCl [(a0, .inr (7, [.null, .null, .null, .null, .null, .null, .int 0, .int 0, .int 0, .int 0])), (q0, .inl (cy 0, N, .inl (fun _ => 0)))] H := hP
  have hD : va_D A [(a0, .inr (7, [.null, .null, .null, .null, .null, .null, .int 0, .int 0, .int 0, .int 0])), (q0, .inl (cy 0, N, .inl (fun _ => 0)))] := hD
  refine va_putF (ci := 7) (v := .ref q0) (ty := .array (.int)) (C := RX7) (T := TX7) (N := 10) hx hb htl inX7 tyX7 tyX7_ok nmX7 hown hK.1 hP hD hS 0 rfl rfl 0 (by decide) (htl _ mw_138) (fun _ h9 => h9) rfl hin rfl (tyX7_ok 0 (by decide)) rfl rfl (Nat.le_of_ble_eq_true rfl) dX7_init_8 (fun H locs hP hD hS => ?_)
  have hP : va_P D vwCl [(a0, .inr (7, [.ref q0, .null, .null, .null, .null, .null, .int 0, .int 0, .int 0, .int 0])), (q0, .inl (cy 0, N, .inl (fun _ => 0)))] H := hP
  have hD : va_D A [(a0, .inr (7, [.ref q0, .null, .null, .null, .null, .null, .int 0, .int 0, .int 0, .int 0])), (q0, .inl (cy 0, N, .inl (fun _ => 0)))] := hD
  refine lv_aload_n hx hb dX7_init_11 rfl (lv_at hl 0 rfl) ?_
  refine lv_iload_n hx hb dX7_init_12 rfl (lv_at hl 1 rfl) ?_
  refine fx_newa hx hb (htl _ mw_32) rfl hK hP hD hS hA 0 rfl (fun _ h => h) (a0 := (N, .inl (fun _ => 0))) (fun _ => rfl) hN0 hN1 (show N * 4 ≤ 536870912 by omega) (Nat.le_of_ble_eq_true rfl) (show 512 + N ≤ 1096 by omega) dX7_init_13 (fun q1 H hP hD hS => ?_)
  refine W.widen (k := 2) (n := 1024) (Nat.le_of_ble_eq_true rfl) (by omega) ?_
  have hP : va_P D vwCl [(a0, .inr (7, [.ref q0, .null, .null, .null, .null, .null, .int 0, .int 0, .int 0, .int 0])), (q0, .inl (cy 0, N, .inl (fun _ => 0))), (q1, .inl (cy 0, N, .inl (fun _ => 0)))] H := hP
  have hD : va_D A [(a0, .inr (7, [.ref q0, .null, .null, .null, .null, .null, .int 0, .int 0, .int 0, .int 0])), (q0, .inl (cy 0, N, .inl (fun _ => 0))), (q1, .inl (cy 0, N, .inl (fun _ => 0)))] := hD
  refine va_putF (ci := 7) (v := .ref q1) (ty := .array (.int)) (C := RX7) (T := TX7) (N := 10) hx hb htl inX7 tyX7 tyX7_ok nmX7 hown hK.1 hP hD hS 0 rfl rfl 1 (by decide) (htl _ mw_139) (fun _ h9 => h9) rfl hin rfl (tyX7_ok 1 (by decide)) rfl rfl (Nat.le_of_ble_eq_true rfl) dX7_init_15 (fun H locs hP hD hS => ?_)
  have hP : va_P D vwCl [(a0, .inr (7, [.ref q0, .ref q1, .null, .null, .null, .null, .int 0, .int 0, .int 0, .int 0])), (q0, .inl (cy 0, N, .inl (fun _ => 0))), (q1, .inl (cy 0, N, .inl (fun _ => 0)))] H := hP
  have hD : va_D A [(a0, .inr (7, [.ref q0, .ref q1, .null, .null, .null, .null, .int 0, .int 0, .int 0, .int 0])), (q0, .inl (cy 0, N, .inl (fun _ => 0))), (q1, .inl (cy 0, N, .inl (fun _ => 0)))] := hD
  refine lv_aload_n hx hb dX7_init_18 rfl (lv_at hl 0 rfl) ?_
  refine lv_iload_n hx hb dX7_init_19 rfl (lv_at hl 2 rfl) ?_
  refine fx_newa hx hb (htl _ mw_32) rfl hK hP hD hS hA 0 rfl (fun _ h => h) (a0 := (R, .inl (fun _ => 0))) (fun _ => rfl) hR0 hR1 (show R * 4 ≤ 536870912 by omega) (Nat.le_of_ble_eq_true rfl) (show 1024 + R ≤ 1096 by omega) dX7_init_20 (fun q2 H hP hD hS => ?_)
  refine W.widen (k := 3) (n := 1036) (Nat.le_of_ble_eq_true rfl) (by omega) ?_
  have hP : va_P D vwCl [(a0, .inr (7, [.ref q0, .ref q1, .null, .null, .null, .null, .int 0, .int 0, .int 0, .int 0])), (q0, .inl (cy 0, N, .inl (fun _ => 0))), (q1, .inl (cy 0, N, .inl (fun _ => 0))), (q2, .inl (cy 0, R, .inl (fun _ => 0)))] H := hP
  have hD : va_D A [(a0, .inr (7, [.ref q0, .ref q1, .null, .null, .null, .null, .int 0, .int 0, .int 0, .int 0])), (q0, .inl (cy 0, N, .inl (fun _ => 0))), (q1, .inl (cy 0, N, .inl (fun _ => 0))), (q2, .inl (cy 0, R, .inl (fun _ => 0)))] := hD
  refine va_putF (ci := 7) (v := .ref q2) (ty := .array (.int)) (C := RX7) (T := TX7) (N := 10) hx hb htl inX7 tyX7 tyX7_ok nmX7 hown hK.1 hP hD hS 0 rfl rfl 2 (by decide) (htl _ mw_140) (fun _ h9 => h9) rfl hin rfl (tyX7_ok 2 (by decide)) rfl rfl (Nat.le_of_ble_eq_true rfl) dX7_init_22 (fun H locs hP hD hS => ?_)
  have hP : va_P D vwCl [(a0, .inr (7, [.ref q0, .ref q1, .ref q2, .null, .null, .null, .int 0, .int 0, .int 0, .int 0])), (q0, .inl (cy 0, N, .inl (fun _ => 0))), (q1, .inl (cy 0, N, .inl (fun _ => 0))), (q2, .inl (cy 0, R, .inl (fun _ => 0)))] H := hP
  have hD : va_D A [(a0, .inr (7, [.ref q0, .ref q1, .ref q2, .null, .null, .null, .int 0, .int 0, .int 0, .int 0])), (q0, .inl (cy 0, N, .inl (fun _ => 0))), (q1, .inl (cy 0, N, .inl (fun _ => 0))), (q2, .inl (cy 0, R, .inl (fun _ => 0)))] := hD
  refine lv_aload_n hx hb dX7_init_25 rfl (lv_at hl 0 rfl) ?_
  refine lv_iload_n hx hb dX7_init_26 rfl (lv_at hl 2 rfl) ?_
  refine fx_newa hx hb (htl _ mw_32) rfl hK hP hD hS hA 0 rfl (fun _ h => h) (a0 := (R, .inl (fun _ => 0))) (fun _ => rfl) hR0 hR1 (show R * 4 ≤ 536870912 by omega) (Nat.le_of_ble_eq_true rfl) (show 1036 + R ≤ 1096 by omega) dX7_init_27 (fun q3 H hP hD hS => ?_)
  refine W.widen (k := 4) (n := 1048) (Nat.le_of_ble_eq_true rfl) (by omega) ?_
  have hP : va_P D vwCl [(a0, .inr (7, [.ref q0, .ref q1, .ref q2, .null, .null, .null, .int 0, .int 0, .int 0, .int 0])), (q0, .inl (cy 0, N, .inl (fun _ => 0))), (q1, .inl (cy 0, N, .inl (fun _ => 0))), (q2, .inl (cy 0, R, .inl (fun _ => 0))), (q3, .inl (cy 0, R, .inl (fun _ => 0)))] H := hP
  have hD : va_D A [(a0, .inr (7, [.ref q0, .ref q1, .ref q2, .null, .null, .null, .int 0, .int 0, .int 0, .int 0])), (q0, .inl (cy 0, N, .inl (fun _ => 0))), (q1, .inl (cy 0, N, .inl (fun _ => 0))), (q2, .inl (cy 0, R, .inl (fun _ => 0))), (q3, .inl (cy 0, R, .inl (fun _ => 0)))] := hD
  refine va_putF (ci := 7) (v := .ref q3) (ty := .array (.int)) (C := RX7) (T := TX7) (N := 10) hx hb htl inX7 tyX7 tyX7_ok nmX7 hown hK.1 hP hD hS 0 rfl rfl 3 (by decide) (htl _ mw_141) (fun _ h9 => h9) rfl hin rfl (tyX7_ok 3 (by decide)) rfl rfl (Nat.le_of_ble_eq_true rfl) dX7_init_29 (fun H locs hP hD hS => ?_)
  have hP : va_P D vwCl [(a0, .inr (7, [.ref q0, .ref q1, .ref q2, .ref q3, .null, .null, .int 0, .int 0, .int 0, .int 0])), (q0, .inl (cy 0, N, .inl (fun _ => 0))), (q1, .inl (cy 0, N, .inl (fun _ => 0))), (q2, .inl (cy 0, R, .inl (fun _ => 0))), (q3, .inl (cy 0, R, .inl (fun _ => 0)))] H := hP
  have hD : va_D A [(a0, .inr (7, [.ref q0, .ref q1, .ref q2, .ref q3, .null, .null, .int 0, .int 0, .int 0, .int 0])), (q0, .inl (cy 0, N, .inl (fun _ => 0))), (q1, .inl (cy 0, N, .inl (fun _ => 0))), (q2, .inl (cy 0, R, .inl (fun _ => 0))), (q3, .inl (cy 0, R, .inl (fun _ => 0)))] := hD
  refine lv_aload_n hx hb dX7_init_32 rfl (lv_at hl 0 rfl) ?_
  refine lv_iload_n hx hb dX7_init_33 rfl (lv_at hl 2 rfl) ?_
  refine fx_newa hx hb (htl _ mw_32) rfl hK hP hD hS hA 0 rfl (fun _ h => h) (a0 := (R, .inl (fun _ => 0))) (fun _ => rfl) hR0 hR1 (show R * 4 ≤ 536870912 by omega) (Nat.le_of_ble_eq_true rfl) (show 1048 + R ≤ 1096 by omega) dX7_init_34 (fun q4 H hP hD hS => ?_)
  refine W.widen (k := 5) (n := 1060) (Nat.le_of_ble_eq_true rfl) (by omega) ?_
  have hP : va_P D vwCl [(a0, .inr (7, [.ref q0, .ref q1, .ref q2, .ref q3, .null, .null, .int 0, .int 0, .int 0, .int 0])), (q0, .inl (cy 0, N, .inl (fun _ => 0))), (q1, .inl (cy 0, N, .inl (fun _ => 0))), (q2, .inl (cy 0, R, .inl (fun _ => 0))), (q3, .inl (cy 0, R, .inl (fun _ => 0))), (q4, .inl (cy 0, R, .inl (fun _ => 0)))] H := hP
  have hD : va_D A [(a0, .inr (7, [.ref q0, .ref q1, .ref q2, .ref q3, .null, .null, .int 0, .int 0, .int 0, .int 0])), (q0, .inl (cy 0, N, .inl (fun _ => 0))), (q1, .inl (cy 0, N, .inl (fun _ => 0))), (q2, .inl (cy 0, R, .inl (fun _ => 0))), (q3, .inl (cy 0, R, .inl (fun _ => 0))), (q4, .inl (cy 0, R, .inl (fun _ => 0)))] := hD
  refine va_putF (ci := 7) (v := .ref q4) (ty := .array (.int)) (C := RX7) (T := TX7) (N := 10) hx hb htl inX7 tyX7 tyX7_ok nmX7 hown hK.1 hP hD hS 0 rfl rfl 4 (by decide) (htl _ mw_142) (fun _ h9 => h9) rfl hin rfl (tyX7_ok 4 (by decide)) rfl rfl (Nat.le_of_ble_eq_true rfl) dX7_init_36 (fun H locs hP hD hS => ?_)
  have hP : va_P D vwCl [(a0, .inr (7, [.ref q0, .ref q1, .ref q2, .ref q3, .ref q4, .null, .int 0, .int 0, .int 0, .int 0])), (q0, .inl (cy 0, N, .inl (fun _ => 0))), (q1, .inl (cy 0, N, .inl (fun _ => 0))), (q2, .inl (cy 0, R, .inl (fun _ => 0))), (q3, .inl (cy 0, R, .inl (fun _ => 0))), (q4, .inl (cy 0, R, .inl (fun _ => 0)))] H := hP
  have hD : va_D A [(a0, .inr (7, [.ref q0, .ref q1, .ref q2, .ref q3, .ref q4, .null, .int 0, .int 0, .int 0, .int 0])), (q0, .inl (cy 0, N, .inl (fun _ => 0))), (q1, .inl (cy 0, N, .inl (fun _ => 0))), (q2, .inl (cy 0, R, .inl (fun _ => 0))), (q3, .inl (cy 0, R, .inl (fun _ => 0))), (q4, .inl (cy 0, R, .inl (fun _ => 0)))] := hD
  refine lv_aload_n hx hb dX7_init_39 rfl (lv_at hl 0 rfl) ?_
  refine lv_iload_n hx hb dX7_init_40 rfl (lv_at hl 2 rfl) ?_
  refine lv_iconst (v := 3) hx hb dX7_init_41 (by decide) ?_
  refine lv_imul hx hb dX7_init_42 ?_
  refine tk_mul h2 (show (3 : Int32).toInt = 3 by decide) (by omega) (by omega) (fun z hz => ?_)
  have hz1 : z.toNatClampNeg = 3 * R := by have := tk_nat hz (by omega); omega
  have hz0 : ¬ z < 0 := fun q => by have := (fi_lt hz (show (0 : Int32).toInt = 0 by decide)).mp q; omega
  refine fx_newa hx hb (htl _ mw_32) rfl hK hP hD hS hA 0 rfl (fun _ h => h) (a0 := (3 * R, .inl (fun _ => 0))) (fun _ => rfl) hz0 hz1 (show (3 * R) * 4 ≤ 536870912 by omega) (Nat.le_of_ble_eq_true rfl) (show 1060 + 3 * R ≤ 1096 by omega) dX7_init_43 (fun q5 H hP hD hS => ?_)
  refine W.widen (k := 6) (n := 1096) (Nat.le_of_ble_eq_true rfl) (by omega) ?_
  have hP : va_P D vwCl [(a0, .inr (7, [.ref q0, .ref q1, .ref q2, .ref q3, .ref q4, .null, .int 0, .int 0, .int 0, .int 0])), (q0, .inl (cy 0, N, .inl (fun _ => 0))), (q1, .inl (cy 0, N, .inl (fun _ => 0))), (q2, .inl (cy 0, R, .inl (fun _ => 0))), (q3, .inl (cy 0, R, .inl (fun _ => 0))), (q4, .inl (cy 0, R, .inl (fun _ => 0))), (q5, .inl (cy 0, 3 * R, .inl (fun _ => 0)))] H := hP
  have hD : va_D A [(a0, .inr (7, [.ref q0, .ref q1, .ref q2, .ref q3, .ref q4, .null, .int 0, .int 0, .int 0, .int 0])), (q0, .inl (cy 0, N, .inl (fun _ => 0))), (q1, .inl (cy 0, N, .inl (fun _ => 0))), (q2, .inl (cy 0, R, .inl (fun _ => 0))), (q3, .inl (cy 0, R, .inl (fun _ => 0))), (q4, .inl (cy 0, R, .inl (fun _ => 0))), (q5, .inl (cy 0, 3 * R, .inl (fun _ => 0)))] := hD
  refine va_putF (ci := 7) (v := .ref q5) (ty := .array (.int)) (C := RX7) (T := TX7) (N := 10) hx hb htl inX7 tyX7 tyX7_ok nmX7 hown hK.1 hP hD hS 0 rfl rfl 5 (by decide) (htl _ mw_143) (fun _ h9 => h9) rfl hin rfl (tyX7_ok 5 (by decide)) rfl rfl (Nat.le_of_ble_eq_true rfl) dX7_init_45 (fun H locs hP hD hS => ?_)
  have hP : va_P D vwCl [(a0, .inr (7, [.ref q0, .ref q1, .ref q2, .ref q3, .ref q4, .ref q5, .int 0, .int 0, .int 0, .int 0])), (q0, .inl (cy 0, N, .inl (fun _ => 0))), (q1, .inl (cy 0, N, .inl (fun _ => 0))), (q2, .inl (cy 0, R, .inl (fun _ => 0))), (q3, .inl (cy 0, R, .inl (fun _ => 0))), (q4, .inl (cy 0, R, .inl (fun _ => 0))), (q5, .inl (cy 0, 3 * R, .inl (fun _ => 0)))] H := hP
  have hD : va_D A [(a0, .inr (7, [.ref q0, .ref q1, .ref q2, .ref q3, .ref q4, .ref q5, .int 0, .int 0, .int 0, .int 0])), (q0, .inl (cy 0, N, .inl (fun _ => 0))), (q1, .inl (cy 0, N, .inl (fun _ => 0))), (q2, .inl (cy 0, R, .inl (fun _ => 0))), (q3, .inl (cy 0, R, .inl (fun _ => 0))), (q4, .inl (cy 0, R, .inl (fun _ => 0))), (q5, .inl (cy 0, 3 * R, .inl (fun _ => 0)))] := hD
  exact fx_vret hx hb hr hlocks (fun k => ([q0, q1, q2, q3, q4, q5] : List Nat).getD k 0) hP hD hS [0, 1, 2, 3, 4, 5, 6] (by decide) rfl dX7_init_48
theorem hd7_init : yX7_init.cls ≠ "java/lang/invoke/MethodHandle" ∧ yX7_init.cls ≠ "java/lang/invoke/VarHandle" ∧ (parseMethodDescriptor yX7_init.desc).map (fun d => d.parameters.length) = some 2 := by decide +kernel
theorem dX7_cut_0 : decode cX7_cut 0 = .ok (.new 10, 3) := by decide +kernel
theorem dX7_cut_3 : decode cX7_cut 3 = .ok (.dup, 1) := by decide +kernel
theorem dX7_cut_4 : decode cX7_cut 4 = .ok (.aload_n 0, 1) := by decide +kernel
theorem dX7_cut_5 : decode cX7_cut 5 = .ok (.getfield 30, 3) := by decide +kernel
theorem dX7_cut_8 : decode cX7_cut 8 = .ok (.aload_n 0, 1) := by decide +kernel
theorem dX7_cut_9 : decode cX7_cut 9 = .ok (.getfield 34, 3) := by decide +kernel
theorem dX7_cut_12 : decode cX7_cut 12 = .ok (.invokespecial 44, 3) := by decide +kernel
theorem dX7_cut_15 : decode cX7_cut 15 = .ok (.astore_n 1, 1) := by decide +kernel
theorem dX7_cut_16 : decode cX7_cut 16 = .ok (.aload_n 0, 1) := by decide +kernel
theorem dX7_cut_17 : decode cX7_cut 17 = .ok (.getfield 9, 3) := by decide +kernel
theorem dX7_cut_20 : decode cX7_cut 20 = .ok (.iconst 0, 1) := by decide +kernel
theorem dX7_cut_21 : decode cX7_cut 21 = .ok (.aload_n 1, 1) := by decide +kernel
theorem dX7_cut_22 : decode cX7_cut 22 = .ok (.getfield 9, 3) := by decide +kernel
theorem dX7_cut_25 : decode cX7_cut 25 = .ok (.iconst 0, 1) := by decide +kernel
theorem dX7_cut_26 : decode cX7_cut 26 = .ok (.aload_n 0, 1) := by decide +kernel
theorem dX7_cut_27 : decode cX7_cut 27 = .ok (.getfield 30, 3) := by decide +kernel
theorem dX7_cut_30 : decode cX7_cut 30 = .ok (.invokestatic 47, 3) := by decide +kernel
theorem dX7_cut_33 : decode cX7_cut 33 = .ok (.aload_n 0, 1) := by decide +kernel
theorem dX7_cut_34 : decode cX7_cut 34 = .ok (.getfield 15, 3) := by decide +kernel
theorem dX7_cut_37 : decode cX7_cut 37 = .ok (.iconst 0, 1) := by decide +kernel
theorem dX7_cut_38 : decode cX7_cut 38 = .ok (.aload_n 1, 1) := by decide +kernel
theorem dX7_cut_39 : decode cX7_cut 39 = .ok (.getfield 15, 3) := by decide +kernel
theorem dX7_cut_42 : decode cX7_cut 42 = .ok (.iconst 0, 1) := by decide +kernel
theorem dX7_cut_43 : decode cX7_cut 43 = .ok (.aload_n 0, 1) := by decide +kernel
theorem dX7_cut_44 : decode cX7_cut 44 = .ok (.getfield 30, 3) := by decide +kernel
theorem dX7_cut_47 : decode cX7_cut 47 = .ok (.invokestatic 47, 3) := by decide +kernel
theorem dX7_cut_50 : decode cX7_cut 50 = .ok (.aload_n 0, 1) := by decide +kernel
theorem dX7_cut_51 : decode cX7_cut 51 = .ok (.getfield 18, 3) := by decide +kernel
theorem dX7_cut_54 : decode cX7_cut 54 = .ok (.iconst 0, 1) := by decide +kernel
theorem dX7_cut_55 : decode cX7_cut 55 = .ok (.aload_n 1, 1) := by decide +kernel
theorem dX7_cut_56 : decode cX7_cut 56 = .ok (.getfield 18, 3) := by decide +kernel
theorem dX7_cut_59 : decode cX7_cut 59 = .ok (.iconst 0, 1) := by decide +kernel
theorem dX7_cut_60 : decode cX7_cut 60 = .ok (.aload_n 0, 1) := by decide +kernel
theorem dX7_cut_61 : decode cX7_cut 61 = .ok (.getfield 34, 3) := by decide +kernel
theorem dX7_cut_64 : decode cX7_cut 64 = .ok (.invokestatic 47, 3) := by decide +kernel
theorem dX7_cut_67 : decode cX7_cut 67 = .ok (.aload_n 0, 1) := by decide +kernel
theorem dX7_cut_68 : decode cX7_cut 68 = .ok (.getfield 21, 3) := by decide +kernel
theorem dX7_cut_71 : decode cX7_cut 71 = .ok (.iconst 0, 1) := by decide +kernel
theorem dX7_cut_72 : decode cX7_cut 72 = .ok (.aload_n 1, 1) := by decide +kernel
theorem dX7_cut_73 : decode cX7_cut 73 = .ok (.getfield 21, 3) := by decide +kernel
theorem dX7_cut_76 : decode cX7_cut 76 = .ok (.iconst 0, 1) := by decide +kernel
theorem dX7_cut_77 : decode cX7_cut 77 = .ok (.aload_n 0, 1) := by decide +kernel
theorem dX7_cut_78 : decode cX7_cut 78 = .ok (.getfield 34, 3) := by decide +kernel
theorem dX7_cut_81 : decode cX7_cut 81 = .ok (.invokestatic 47, 3) := by decide +kernel
theorem dX7_cut_84 : decode cX7_cut 84 = .ok (.aload_n 0, 1) := by decide +kernel
theorem dX7_cut_85 : decode cX7_cut 85 = .ok (.getfield 24, 3) := by decide +kernel
theorem dX7_cut_88 : decode cX7_cut 88 = .ok (.iconst 0, 1) := by decide +kernel
theorem dX7_cut_89 : decode cX7_cut 89 = .ok (.aload_n 1, 1) := by decide +kernel
theorem dX7_cut_90 : decode cX7_cut 90 = .ok (.getfield 24, 3) := by decide +kernel
theorem dX7_cut_93 : decode cX7_cut 93 = .ok (.iconst 0, 1) := by decide +kernel
theorem dX7_cut_94 : decode cX7_cut 94 = .ok (.aload_n 0, 1) := by decide +kernel
theorem dX7_cut_95 : decode cX7_cut 95 = .ok (.getfield 34, 3) := by decide +kernel
theorem dX7_cut_98 : decode cX7_cut 98 = .ok (.invokestatic 47, 3) := by decide +kernel
theorem dX7_cut_101 : decode cX7_cut 101 = .ok (.aload_n 0, 1) := by decide +kernel
theorem dX7_cut_102 : decode cX7_cut 102 = .ok (.getfield 27, 3) := by decide +kernel
theorem dX7_cut_105 : decode cX7_cut 105 = .ok (.iconst 0, 1) := by decide +kernel
theorem dX7_cut_106 : decode cX7_cut 106 = .ok (.aload_n 1, 1) := by decide +kernel
theorem dX7_cut_107 : decode cX7_cut 107 = .ok (.getfield 27, 3) := by decide +kernel
theorem dX7_cut_110 : decode cX7_cut 110 = .ok (.iconst 0, 1) := by decide +kernel
theorem dX7_cut_111 : decode cX7_cut 111 = .ok (.aload_n 0, 1) := by decide +kernel
theorem dX7_cut_112 : decode cX7_cut 112 = .ok (.getfield 34, 3) := by decide +kernel
theorem dX7_cut_115 : decode cX7_cut 115 = .ok (.iconst 3, 1) := by decide +kernel
theorem dX7_cut_116 : decode cX7_cut 116 = .ok (.imul, 1) := by decide +kernel
theorem dX7_cut_117 : decode cX7_cut 117 = .ok (.invokestatic 47, 3) := by decide +kernel
theorem dX7_cut_120 : decode cX7_cut 120 = .ok (.aload_n 1, 1) := by decide +kernel
theorem dX7_cut_121 : decode cX7_cut 121 = .ok (.aload_n 0, 1) := by decide +kernel
theorem dX7_cut_122 : decode cX7_cut 122 = .ok (.getfield 30, 3) := by decide +kernel
theorem dX7_cut_125 : decode cX7_cut 125 = .ok (.putfield 30, 3) := by decide +kernel
theorem dX7_cut_128 : decode cX7_cut 128 = .ok (.aload_n 1, 1) := by decide +kernel
theorem dX7_cut_129 : decode cX7_cut 129 = .ok (.aload_n 0, 1) := by decide +kernel
theorem dX7_cut_130 : decode cX7_cut 130 = .ok (.getfield 34, 3) := by decide +kernel
theorem dX7_cut_133 : decode cX7_cut 133 = .ok (.putfield 34, 3) := by decide +kernel
theorem dX7_cut_136 : decode cX7_cut 136 = .ok (.aload_n 1, 1) := by decide +kernel
theorem dX7_cut_137 : decode cX7_cut 137 = .ok (.aload_n 0, 1) := by decide +kernel
theorem dX7_cut_138 : decode cX7_cut 138 = .ok (.getfield 37, 3) := by decide +kernel
theorem dX7_cut_141 : decode cX7_cut 141 = .ok (.putfield 37, 3) := by decide +kernel
theorem dX7_cut_144 : decode cX7_cut 144 = .ok (.aload_n 1, 1) := by decide +kernel
theorem dX7_cut_145 : decode cX7_cut 145 = .ok (.aload_n 0, 1) := by decide +kernel
theorem dX7_cut_146 : decode cX7_cut 146 = .ok (.getfield 40, 3) := by decide +kernel
theorem dX7_cut_149 : decode cX7_cut 149 = .ok (.putfield 40, 3) := by decide +kernel
theorem dX7_cut_152 : decode cX7_cut 152 = .ok (.aload_n 1, 1) := by decide +kernel
theorem dX7_cut_153 : decode cX7_cut 153 = .ok (.areturn, 1) := by decide +kernel
set_option maxHeartbeats 8000000 in
set_option maxRecDepth 100000 in
theorem k_X7_cut (l : Launch) (D : va_G) (cy : Nat → ClassId) (ld : Nat → Nat) (t : tk_T) (hF : tk_okF) (sz : Nat) (a0 : Nat) (ht_a0 : t a0 = (8, 512, 12)) : Met l yX7_cut (wl yX7_cut cX7_cut 2 (some (.object "CradleDuel$Script"))) ({ frames := 5, cells := 7, slots := 1106, locals := 300 }) (tps D cy ld t [.ref a0] sz) (tqs D cy ld t sz) 7 1106 (fun q => sz ≤ q) := by
  refine tk_mets (y := yX7_cut) (cc := cX7_cut) (maxL := 2) (ret := (some (.object "CradleDuel$Script"))) (av := [.ref a0]) (tqs D cy ld t) (by decide) (Nat.le_of_ble_eq_true rfl) ?_
  intro p e s m args below meth c hx hb hr hml hts htl hown hlocks hK hG hZ ls hl
  have hown : s.vm.findClass RX7 = some m.cls := hown
  have hl : lv_has ls 2 [(0, .ref a0)] := hl
  have hS : va_S (fun q : Nat => s.heap.size ≤ q) s.heap s.heap [] := va_S.rf
  have hP : va_P D vwCl [] s.heap := fun k q h => by simp at h
  have hD : va_D (fun q : Nat => s.heap.size ≤ q) [] := ⟨fun i j p q h => by simp at h, fun k q h => by simp at h⟩
  have hA : ∀ q : Nat, s.heap.size ≤ q → (fun q : Nat => s.heap.size ≤ q) q := fun _ h => h
  obtain ⟨v9, hfvN, hV9⟩ := tk_peek (ci := 7) (C := RX7) (T := TX7) (N := 10) (sp := (4, 0, 0, 0)) hG ht_a0 (by decide) tk_no rfl 6 (by decide) rfl
  obtain ⟨vN, rfl, (ha_vN : 0 ≤ vN.toInt), (hb_vN : vN.toInt ≤ ((512 : Nat) : Int))⟩ := hV9
  obtain ⟨v9, hfvR, hV9⟩ := tk_peek (ci := 7) (C := RX7) (T := TX7) (N := 10) (sp := (5, 0, 0, 0)) hG ht_a0 (by decide) tk_no rfl 7 (by decide) rfl
  obtain ⟨vR, rfl, (ha_vR : 0 ≤ vR.toInt), (hb_vR : vR.toInt ≤ ((12 : Nat) : Int))⟩ := hV9
  obtain ⟨N, hN⟩ : ∃ N : Nat, vN.toInt = (N : Int) := ⟨vN.toInt.toNat, by omega⟩
  obtain ⟨R, hR⟩ : ∃ R : Nat, vR.toInt = (R : Int) := ⟨vR.toInt.toNat, by omega⟩
  have hN2 : N ≤ 512 := by omega
  have hR2 : R ≤ 12 := by omega
  refine va_new (ci := 7) (fs := [.null, .null, .null, .null, .null, .null, .int 0, .int 0, .int 0, .int 0]) (C := RX7) (T := TX7) (N := 10) hx hb htl inX7 tyX7 tyX7_ok hown (htl _ mw_653) (htl _ mw_130) (htl _ mw_131) hK.1 hP hD hS hA rfl dfX7 (Nat.le_of_ble_eq_true rfl) (Nat.le_of_ble_eq_true rfl) dX7_cut_0 (fun q H hP hD hS => ?_)
  refine W.widen (k := 1) (n := 10) (Nat.le_of_ble_eq_true rfl) (Nat.le_of_ble_eq_true rfl) ?_
  have hP : va_P D vwCl [(q, .inr (7, [.null, .null, .null, .null, .null, .null, .int 0, .int 0, .int 0, .int 0]))] H := hP
  have hD : va_D (fun q : Nat => s.heap.size ≤ q) [(q, .inr (7, [.null, .null, .null, .null, .null, .null, .int 0, .int 0, .int 0, .int 0]))] := hD
  refine lv_dup hx hb dX7_cut_3 rfl ?_
  refine lv_aload_n hx hb dX7_cut_4 rfl (lv_at hl 0 rfl) ?_
  refine tk_getk (ci := 7) (C := RX7) (T := TX7) (N := 10) (sp := (4, 0, 0, 0)) hx hb htl inX7 hown hK (hG.old hS) ht_a0 (by decide) tk_no rfl 6 (by decide) (htl _ mw_487) (fun _ h9 => h9) rfl (hfvN.kept (hS.2.1 a0 hfvN.lt (Nat.not_le.mpr hfvN.lt))) dX7_cut_5 ?_
  refine lv_aload_n hx hb dX7_cut_8 rfl (lv_at hl 0 rfl) ?_
  refine tk_getk (ci := 7) (C := RX7) (T := TX7) (N := 10) (sp := (5, 0, 0, 0)) hx hb htl inX7 hown hK (hG.old hS) ht_a0 (by decide) tk_no rfl 7 (by decide) (htl _ mw_488) (fun _ h9 => h9) rfl (hfvR.kept (hS.2.1 a0 hfvR.lt (Nat.not_le.mpr hfvR.lt))) dX7_cut_9 ?_
  refine fx_Iv (As := [.int vN, .int vR]) (rest := [.ref q]) (wr := []) ⟨hx, hb, hml, hown, hts⟩ hK hP hD hS hA (k_X7_init l D cy ld _ q vN vR N R hN hR hN2 hR2) ⟨callB_of 2 hts (wl_in mw_136) rfl rfl rfl (htl _ mw_131) (htl _ mw_658) hd7_init ⟨(Nat.le_of_ble_eq_true rfl), (Nat.le_of_ble_eq_true rfl)⟩, rfl, htl _ mw_135⟩ [0] [] rfl rfl rfl rfl (by decide) rfl hl.1 rfl (Nat.le_of_ble_eq_true rfl) dX7_cut_12 ⟨(Nat.le_of_ble_eq_true rfl), (Nat.le_of_ble_eq_true rfl)⟩ (fun x H locs hP hD hS => ?_)
  refine W.widen (k := 7) (n := 1106) (Nat.le_of_ble_eq_true rfl) (Nat.le_of_ble_eq_true rfl) ?_
  have hP : va_P D vwCl [(q, .inr (7, [.ref (x 0), .ref (x 1), .ref (x 2), .ref (x 3), .ref (x 4), .ref (x 5), .int 0, .int 0, .int 0, .int 0])), (x 0, .inl (cy 0, N, .inl (fun _ => 0))), (x 1, .inl (cy 0, N, .inl (fun _ => 0))), (x 2, .inl (cy 0, R, .inl (fun _ => 0))), (x 3, .inl (cy 0, R, .inl (fun _ => 0))), (x 4, .inl (cy 0, R, .inl (fun _ => 0))), (x 5, .inl (cy 0, 3 * R, .inl (fun _ => 0)))] H := hP
  have hD : va_D (fun q : Nat => s.heap.size ≤ q) [(q, .inr (7, [.ref (x 0), .ref (x 1), .ref (x 2), .ref (x 3), .ref (x 4), .ref (x 5), .int 0, .int 0, .int 0, .int 0])), (x 0, .inl (cy 0, N, .inl (fun _ => 0))), (x 1, .inl (cy 0, N, .inl (fun _ => 0))), (x 2, .inl (cy 0, R, .inl (fun _ => 0))), (x 3, .inl (cy 0, R, .inl (fun _ => 0))), (x 4, .inl (cy 0, R, .inl (fun _ => 0))), (x 5, .inl (cy 0, 3 * R, .inl (fun _ => 0)))] := hD
  refine lv_astore_n (lv' := [(1, .ref q), (0, .ref a0)]) hx hb dX7_cut_15 rfl hl (by decide) rfl (fun ls hl => ?_)
  refine lv_aload_n hx hb dX7_cut_16 rfl (lv_at hl 1 rfl) ?_
  refine tk_get (ci := 7) (C := RX7) (T := TX7) (N := 10) (sp := (2, 20, 0, 0)) hx hb htl inX7 hown hK (hG.old hS) ht_a0 (by decide) tk_no rfl 0 (by decide) (htl _ mw_138) (fun _ h9 => h9) rfl dX7_cut_17 (fun v9 _ hV9 => ?_)
  obtain ⟨b0, rfl, ht_b0⟩ := hV9
  have ht_b0 : t b0 = (20, 512, 0) := ht_b0
  refine lv_iconst (v := 0) hx hb dX7_cut_20 (by decide) ?_
  refine lv_aload_n hx hb dX7_cut_21 rfl (lv_at hl 0 rfl) ?_
  refine va_get (ci := 7) (v := .ref (x 0)) (C := RX7) (T := TX7) (N := 10) hx hb htl inX7 hown hK.1 hP 0 rfl rfl 0 (by decide) (htl _ mw_138) (fun _ h9 => h9) rfl dX7_cut_22 ?_
  refine lv_iconst (v := 0) hx hb dX7_cut_25 (by decide) ?_
  refine lv_aload_n hx hb dX7_cut_26 rfl (lv_at hl 1 rfl) ?_
  refine tk_getk (ci := 7) (C := RX7) (T := TX7) (N := 10) (sp := (4, 0, 0, 0)) hx hb htl inX7 hown hK (hG.old hS) ht_a0 (by decide) tk_no rfl 6 (by decide) (htl _ mw_487) (fun _ h9 => h9) rfl (hfvN.kept (hS.2.1 a0 hfvN.lt (Nat.not_le.mpr hfvN.lt))) dX7_cut_27 ?_
  obtain ⟨e0, hc0, hE0⟩ := (hG.old hS).arr ht_b0 (by decide) tk_no
  obtain ⟨f0, rfl, hf0⟩ := hE0
  refine tk_copy0 (A := (fun q : Nat => s.heap.size ≤ q)) (SP := 0) (DP := 0) (NC := (N : Int)) hx hb (by rw [hml]; exact hl.1.symm) hown (htl _ mw_654) (htl _ mw_655) (htl _ mw_656) (htl _ mw_657) hK hS hc0 (hP 1 _ rfl) (by decide) (by decide) hN (by decide) (by decide) (by omega) (by omega) (by omega) (hD.2 1 _ rfl) (Nat.le_of_ble_eq_true rfl) (Nat.le_of_ble_eq_true rfl) dX7_cut_30 (fun H locs hat9 hS9 hq9 => ?_)
  have hP := hP.set hD (p := 1) rfl hat9 hq9
  have hD := hD.set (p := 1) (e := .inl (cy 0, N, .inl (va_cpy f0 (fun _ => 0) (0 : Int32).toNatClampNeg (0 : Int32).toNatClampNeg vN.toNatClampNeg))) rfl
  have hS := hS9
  have hP : va_P D vwCl [(q, .inr (7, [.ref (x 0), .ref (x 1), .ref (x 2), .ref (x 3), .ref (x 4), .ref (x 5), .int 0, .int 0, .int 0, .int 0])), (x 0, .inl (cy 0, N, .inl (va_cpy f0 (fun _ => 0) (0 : Int32).toNatClampNeg (0 : Int32).toNatClampNeg vN.toNatClampNeg))), (x 1, .inl (cy 0, N, .inl (fun _ => 0))), (x 2, .inl (cy 0, R, .inl (fun _ => 0))), (x 3, .inl (cy 0, R, .inl (fun _ => 0))), (x 4, .inl (cy 0, R, .inl (fun _ => 0))), (x 5, .inl (cy 0, 3 * R, .inl (fun _ => 0)))] H := hP
  have hD : va_D (fun q : Nat => s.heap.size ≤ q) [(q, .inr (7, [.ref (x 0), .ref (x 1), .ref (x 2), .ref (x 3), .ref (x 4), .ref (x 5), .int 0, .int 0, .int 0, .int 0])), (x 0, .inl (cy 0, N, .inl (va_cpy f0 (fun _ => 0) (0 : Int32).toNatClampNeg (0 : Int32).toNatClampNeg vN.toNatClampNeg))), (x 1, .inl (cy 0, N, .inl (fun _ => 0))), (x 2, .inl (cy 0, R, .inl (fun _ => 0))), (x 3, .inl (cy 0, R, .inl (fun _ => 0))), (x 4, .inl (cy 0, R, .inl (fun _ => 0))), (x 5, .inl (cy 0, 3 * R, .inl (fun _ => 0)))] := hD
  refine lv_aload_n hx hb dX7_cut_33 rfl (lv_at hl 1 rfl) ?_
  refine tk_get (ci := 7) (C := RX7) (T := TX7) (N := 10) (sp := (2, 20, 0, 0)) hx hb htl inX7 hown hK (hG.old hS) ht_a0 (by decide) tk_no rfl 1 (by decide) (htl _ mw_139) (fun _ h9 => h9) rfl dX7_cut_34 (fun v9 _ hV9 => ?_)
  obtain ⟨b1, rfl, ht_b1⟩ := hV9
  have ht_b1 : t b1 = (20, 512, 0) := ht_b1
  refine lv_iconst (v := 0) hx hb dX7_cut_37 (by decide) ?_
  refine lv_aload_n hx hb dX7_cut_38 rfl (lv_at hl 0 rfl) ?_
  refine va_get (ci := 7) (v := .ref (x 1)) (C := RX7) (T := TX7) (N := 10) hx hb htl inX7 hown hK.1 hP 0 rfl rfl 1 (by decide) (htl _ mw_139) (fun _ h9 => h9) rfl dX7_cut_39 ?_
  refine lv_iconst (v := 0) hx hb dX7_cut_42 (by decide) ?_
  refine lv_aload_n hx hb dX7_cut_43 rfl (lv_at hl 1 rfl) ?_
  refine tk_getk (ci := 7) (C := RX7) (T := TX7) (N := 10) (sp := (4, 0, 0, 0)) hx hb htl inX7 hown hK (hG.old hS) ht_a0 (by decide) tk_no rfl 6 (by decide) (htl _ mw_487) (fun _ h9 => h9) rfl (hfvN.kept (hS.2.1 a0 hfvN.lt (Nat.not_le.mpr hfvN.lt))) dX7_cut_44 ?_
  obtain ⟨e1, hc1, hE1⟩ := (hG.old hS).arr ht_b1 (by decide) tk_no
  obtain ⟨f1, rfl, hf1⟩ := hE1
  refine tk_copy0 (A := (fun q : Nat => s.heap.size ≤ q)) (SP := 0) (DP := 0) (NC := (N : Int)) hx hb (by rw [hml]; exact hl.1.symm) hown (htl _ mw_654) (htl _ mw_655) (htl _ mw_656) (htl _ mw_657) hK hS hc1 (hP 2 _ rfl) (by decide) (by decide) hN (by decide) (by decide) (by omega) (by omega) (by omega) (hD.2 2 _ rfl) (Nat.le_of_ble_eq_true rfl) (Nat.le_of_ble_eq_true rfl) dX7_cut_47 (fun H locs hat9 hS9 hq9 => ?_)
  have hP := hP.set hD (p := 2) rfl hat9 hq9
  have hD := hD.set (p := 2) (e := .inl (cy 0, N, .inl (va_cpy f1 (fun _ => 0) (0 : Int32).toNatClampNeg (0 : Int32).toNatClampNeg vN.toNatClampNeg))) rfl
  have hS := hS9
  have hP : va_P D vwCl [(q, .inr (7, [.ref (x 0), .ref (x 1), .ref (x 2), .ref (x 3), .ref (x 4), .ref (x 5), .int 0, .int 0, .int 0, .int 0])), (x 0, .inl (cy 0, N, .inl (va_cpy f0 (fun _ => 0) (0 : Int32).toNatClampNeg (0 : Int32).toNatClampNeg vN.toNatClampNeg))), (x 1, .inl (cy 0, N, .inl (va_cpy f1 (fun _ => 0) (0 : Int32).toNatClampNeg (0 : Int32).toNatClampNeg vN.toNatClampNeg))), (x 2, .inl (cy 0, R, .inl (fun _ => 0))), (x 3, .inl (cy 0, R, .inl (fun _ => 0))), (x 4, .inl (cy 0, R, .inl (fun _ => 0))), (x 5, .inl (cy 0, 3 * R, .inl (fun _ => 0)))] H := hP
  have hD : va_D (fun q : Nat => s.heap.size ≤ q) [(q, .inr (7, [.ref (x 0), .ref (x 1), .ref (x 2), .ref (x 3), .ref (x 4), .ref (x 5), .int 0, .int 0, .int 0, .int 0])), (x 0, .inl (cy 0, N, .inl (va_cpy f0 (fun _ => 0) (0 : Int32).toNatClampNeg (0 : Int32).toNatClampNeg vN.toNatClampNeg))), (x 1, .inl (cy 0, N, .inl (va_cpy f1 (fun _ => 0) (0 : Int32).toNatClampNeg (0 : Int32).toNatClampNeg vN.toNatClampNeg))), (x 2, .inl (cy 0, R, .inl (fun _ => 0))), (x 3, .inl (cy 0, R, .inl (fun _ => 0))), (x 4, .inl (cy 0, R, .inl (fun _ => 0))), (x 5, .inl (cy 0, 3 * R, .inl (fun _ => 0)))] := hD
  refine lv_aload_n hx hb dX7_cut_50 rfl (lv_at hl 1 rfl) ?_
  refine tk_get (ci := 7) (C := RX7) (T := TX7) (N := 10) (sp := (3, 20, 1, 0)) hx hb htl inX7 hown hK (hG.old hS) ht_a0 (by decide) tk_no rfl 2 (by decide) (htl _ mw_140) (fun _ h9 => h9) rfl dX7_cut_51 (fun v9 _ hV9 => ?_)
  obtain ⟨b2, rfl, ht_b2⟩ := hV9
  have ht_b2 : t b2 = (20, 12, 0) := ht_b2
  refine lv_iconst (v := 0) hx hb dX7_cut_54 (by decide) ?_
  refine lv_aload_n hx hb dX7_cut_55 rfl (lv_at hl 0 rfl) ?_
  refine va_get (ci := 7) (v := .ref (x 2)) (C := RX7) (T := TX7) (N := 10) hx hb htl inX7 hown hK.1 hP 0 rfl rfl 2 (by decide) (htl _ mw_140) (fun _ h9 => h9) rfl dX7_cut_56 ?_
  refine lv_iconst (v := 0) hx hb dX7_cut_59 (by decide) ?_
  refine lv_aload_n hx hb dX7_cut_60 rfl (lv_at hl 1 rfl) ?_
  refine tk_getk (ci := 7) (C := RX7) (T := TX7) (N := 10) (sp := (5, 0, 0, 0)) hx hb htl inX7 hown hK (hG.old hS) ht_a0 (by decide) tk_no rfl 7 (by decide) (htl _ mw_488) (fun _ h9 => h9) rfl (hfvR.kept (hS.2.1 a0 hfvR.lt (Nat.not_le.mpr hfvR.lt))) dX7_cut_61 ?_
  obtain ⟨e2, hc2, hE2⟩ := (hG.old hS).arr ht_b2 (by decide) tk_no
  obtain ⟨f2, rfl, hf2⟩ := hE2
  refine tk_copy0 (A := (fun q : Nat => s.heap.size ≤ q)) (SP := 0) (DP := 0) (NC := (R : Int)) hx hb (by rw [hml]; exact hl.1.symm) hown (htl _ mw_654) (htl _ mw_655) (htl _ mw_656) (htl _ mw_657) hK hS hc2 (hP 3 _ rfl) (by decide) (by decide) hR (by decide) (by decide) (by omega) (by omega) (by omega) (hD.2 3 _ rfl) (Nat.le_of_ble_eq_true rfl) (Nat.le_of_ble_eq_true rfl) dX7_cut_64 (fun H locs hat9 hS9 hq9 => ?_)
  have hP := hP.set hD (p := 3) rfl hat9 hq9
  have hD := hD.set (p := 3) (e := .inl (cy 0, R, .inl (va_cpy f2 (fun _ => 0) (0 : Int32).toNatClampNeg (0 : Int32).toNatClampNeg vR.toNatClampNeg))) rfl
  have hS := hS9
  have hP : va_P D vwCl [(q, .inr (7, [.ref (x 0), .ref (x 1), .ref (x 2), .ref (x 3), .ref (x 4), .ref (x 5), .int 0, .int 0, .int 0, .int 0])), (x 0, .inl (cy 0, N, .inl (va_cpy f0 (fun _ => 0) (0 : Int32).toNatClampNeg (0 : Int32).toNatClampNeg vN.toNatClampNeg))), (x 1, .inl (cy 0, N, .inl (va_cpy f1 (fun _ => 0) (0 : Int32).toNatClampNeg (0 : Int32).toNatClampNeg vN.toNatClampNeg))), (x 2, .inl (cy 0, R, .inl (va_cpy f2 (fun _ => 0) (0 : Int32).toNatClampNeg (0 : Int32).toNatClampNeg vR.toNatClampNeg))), (x 3, .inl (cy 0, R, .inl (fun _ => 0))), (x 4, .inl (cy 0, R, .inl (fun _ => 0))), (x 5, .inl (cy 0, 3 * R, .inl (fun _ => 0)))] H := hP
  have hD : va_D (fun q : Nat => s.heap.size ≤ q) [(q, .inr (7, [.ref (x 0), .ref (x 1), .ref (x 2), .ref (x 3), .ref (x 4), .ref (x 5), .int 0, .int 0, .int 0, .int 0])), (x 0, .inl (cy 0, N, .inl (va_cpy f0 (fun _ => 0) (0 : Int32).toNatClampNeg (0 : Int32).toNatClampNeg vN.toNatClampNeg))), (x 1, .inl (cy 0, N, .inl (va_cpy f1 (fun _ => 0) (0 : Int32).toNatClampNeg (0 : Int32).toNatClampNeg vN.toNatClampNeg))), (x 2, .inl (cy 0, R, .inl (va_cpy f2 (fun _ => 0) (0 : Int32).toNatClampNeg (0 : Int32).toNatClampNeg vR.toNatClampNeg))), (x 3, .inl (cy 0, R, .inl (fun _ => 0))), (x 4, .inl (cy 0, R, .inl (fun _ => 0))), (x 5, .inl (cy 0, 3 * R, .inl (fun _ => 0)))] := hD
  refine lv_aload_n hx hb dX7_cut_67 rfl (lv_at hl 1 rfl) ?_
  refine tk_get (ci := 7) (C := RX7) (T := TX7) (N := 10) (sp := (3, 23, 1, 0)) hx hb htl inX7 hown hK (hG.old hS) ht_a0 (by decide) tk_no rfl 3 (by decide) (htl _ mw_141) (fun _ h9 => h9) rfl dX7_cut_68 (fun v9 _ hV9 => ?_)
  obtain ⟨b3, rfl, ht_b3⟩ := hV9
  have ht_b3 : t b3 = (23, 12, 0) := ht_b3
  refine lv_iconst (v := 0) hx hb dX7_cut_71 (by decide) ?_
  refine lv_aload_n hx hb dX7_cut_72 rfl (lv_at hl 0 rfl) ?_
  refine va_get (ci := 7) (v := .ref (x 3)) (C := RX7) (T := TX7) (N := 10) hx hb htl inX7 hown hK.1 hP 0 rfl rfl 3 (by decide) (htl _ mw_141) (fun _ h9 => h9) rfl dX7_cut_73 ?_
  refine lv_iconst (v := 0) hx hb dX7_cut_76 (by decide) ?_
  refine lv_aload_n hx hb dX7_cut_77 rfl (lv_at hl 1 rfl) ?_
  refine tk_getk (ci := 7) (C := RX7) (T := TX7) (N := 10) (sp := (5, 0, 0, 0)) hx hb htl inX7 hown hK (hG.old hS) ht_a0 (by decide) tk_no rfl 7 (by decide) (htl _ mw_488) (fun _ h9 => h9) rfl (hfvR.kept (hS.2.1 a0 hfvR.lt (Nat.not_le.mpr hfvR.lt))) dX7_cut_78 ?_
  obtain ⟨e3, hc3, hE3⟩ := (hG.old hS).arr ht_b3 (by decide) tk_no
  obtain ⟨f3, rfl, hf3⟩ := hE3
  refine tk_copy0 (A := (fun q : Nat => s.heap.size ≤ q)) (SP := 0) (DP := 0) (NC := (R : Int)) hx hb (by rw [hml]; exact hl.1.symm) hown (htl _ mw_654) (htl _ mw_655) (htl _ mw_656) (htl _ mw_657) hK hS hc3 (hP 4 _ rfl) (by decide) (by decide) hR (by decide) (by decide) (by omega) (by omega) (by omega) (hD.2 4 _ rfl) (Nat.le_of_ble_eq_true rfl) (Nat.le_of_ble_eq_true rfl) dX7_cut_81 (fun H locs hat9 hS9 hq9 => ?_)
  have hP := hP.set hD (p := 4) rfl hat9 hq9
  have hD := hD.set (p := 4) (e := .inl (cy 0, R, .inl (va_cpy f3 (fun _ => 0) (0 : Int32).toNatClampNeg (0 : Int32).toNatClampNeg vR.toNatClampNeg))) rfl
  have hS := hS9
  have hP : va_P D vwCl [(q, .inr (7, [.ref (x 0), .ref (x 1), .ref (x 2), .ref (x 3), .ref (x 4), .ref (x 5), .int 0, .int 0, .int 0, .int 0])), (x 0, .inl (cy 0, N, .inl (va_cpy f0 (fun _ => 0) (0 : Int32).toNatClampNeg (0 : Int32).toNatClampNeg vN.toNatClampNeg))), (x 1, .inl (cy 0, N, .inl (va_cpy f1 (fun _ => 0) (0 : Int32).toNatClampNeg (0 : Int32).toNatClampNeg vN.toNatClampNeg))), (x 2, .inl (cy 0, R, .inl (va_cpy f2 (fun _ => 0) (0 : Int32).toNatClampNeg (0 : Int32).toNatClampNeg vR.toNatClampNeg))), (x 3, .inl (cy 0, R, .inl (va_cpy f3 (fun _ => 0) (0 : Int32).toNatClampNeg (0 : Int32).toNatClampNeg vR.toNatClampNeg))), (x 4, .inl (cy 0, R, .inl (fun _ => 0))), (x 5, .inl (cy 0, 3 * R, .inl (fun _ => 0)))] H := hP
  have hD : va_D (fun q : Nat => s.heap.size ≤ q) [(q, .inr (7, [.ref (x 0), .ref (x 1), .ref (x 2), .ref (x 3), .ref (x 4), .ref (x 5), .int 0, .int 0, .int 0, .int 0])), (x 0, .inl (cy 0, N, .inl (va_cpy f0 (fun _ => 0) (0 : Int32).toNatClampNeg (0 : Int32).toNatClampNeg vN.toNatClampNeg))), (x 1, .inl (cy 0, N, .inl (va_cpy f1 (fun _ => 0) (0 : Int32).toNatClampNeg (0 : Int32).toNatClampNeg vN.toNatClampNeg))), (x 2, .inl (cy 0, R, .inl (va_cpy f2 (fun _ => 0) (0 : Int32).toNatClampNeg (0 : Int32).toNatClampNeg vR.toNatClampNeg))), (x 3, .inl (cy 0, R, .inl (va_cpy f3 (fun _ => 0) (0 : Int32).toNatClampNeg (0 : Int32).toNatClampNeg vR.toNatClampNeg))), (x 4, .inl (cy 0, R, .inl (fun _ => 0))), (x 5, .inl (cy 0, 3 * R, .inl (fun _ => 0)))] := hD
  refine lv_aload_n hx hb dX7_cut_84 rfl (lv_at hl 1 rfl) ?_
  refine tk_get (ci := 7) (C := RX7) (T := TX7) (N := 10) (sp := (3, 20, 1, 0)) hx hb htl inX7 hown hK (hG.old hS) ht_a0 (by decide) tk_no rfl 4 (by decide) (htl _ mw_142) (fun _ h9 => h9) rfl dX7_cut_85 (fun v9 _ hV9 => ?_)
  obtain ⟨b4, rfl, ht_b4⟩ := hV9
  have ht_b4 : t b4 = (20, 12, 0) := ht_b4
  refine lv_iconst (v := 0) hx hb dX7_cut_88 (by decide) ?_
  refine lv_aload_n hx hb dX7_cut_89 rfl (lv_at hl 0 rfl) ?_
  refine va_get (ci := 7) (v := .ref (x 4)) (C := RX7) (T := TX7) (N := 10) hx hb htl inX7 hown hK.1 hP 0 rfl rfl 4 (by decide) (htl _ mw_142) (fun _ h9 => h9) rfl dX7_cut_90 ?_
  refine lv_iconst (v := 0) hx hb dX7_cut_93 (by decide) ?_
  refine lv_aload_n hx hb dX7_cut_94 rfl (lv_at hl 1 rfl) ?_
  refine tk_getk (ci := 7) (C := RX7) (T := TX7) (N := 10) (sp := (5, 0, 0, 0)) hx hb htl inX7 hown hK (hG.old hS) ht_a0 (by decide) tk_no rfl 7 (by decide) (htl _ mw_488) (fun _ h9 => h9) rfl (hfvR.kept (hS.2.1 a0 hfvR.lt (Nat.not_le.mpr hfvR.lt))) dX7_cut_95 ?_
  obtain ⟨e4, hc4, hE4⟩ := (hG.old hS).arr ht_b4 (by decide) tk_no
  obtain ⟨f4, rfl, hf4⟩ := hE4
  refine tk_copy0 (A := (fun q : Nat => s.heap.size ≤ q)) (SP := 0) (DP := 0) (NC := (R : Int)) hx hb (by rw [hml]; exact hl.1.symm) hown (htl _ mw_654) (htl _ mw_655) (htl _ mw_656) (htl _ mw_657) hK hS hc4 (hP 5 _ rfl) (by decide) (by decide) hR (by decide) (by decide) (by omega) (by omega) (by omega) (hD.2 5 _ rfl) (Nat.le_of_ble_eq_true rfl) (Nat.le_of_ble_eq_true rfl) dX7_cut_98 (fun H locs hat9 hS9 hq9 => ?_)
  have hP := hP.set hD (p := 5) rfl hat9 hq9
  have hD := hD.set (p := 5) (e := .inl (cy 0, R, .inl (va_cpy f4 (fun _ => 0) (0 : Int32).toNatClampNeg (0 : Int32).toNatClampNeg vR.toNatClampNeg))) rfl
  have hS := hS9
  have hP : va_P D vwCl [(q, .inr (7, [.ref (x 0), .ref (x 1), .ref (x 2), .ref (x 3), .ref (x 4), .ref (x 5), .int 0, .int 0, .int 0, .int 0])), (x 0, .inl (cy 0, N, .inl (va_cpy f0 (fun _ => 0) (0 : Int32).toNatClampNeg (0 : Int32).toNatClampNeg vN.toNatClampNeg))), (x 1, .inl (cy 0, N, .inl (va_cpy f1 (fun _ => 0) (0 : Int32).toNatClampNeg (0 : Int32).toNatClampNeg vN.toNatClampNeg))), (x 2, .inl (cy 0, R, .inl (va_cpy f2 (fun _ => 0) (0 : Int32).toNatClampNeg (0 : Int32).toNatClampNeg vR.toNatClampNeg))), (x 3, .inl (cy 0, R, .inl (va_cpy f3 (fun _ => 0) (0 : Int32).toNatClampNeg (0 : Int32).toNatClampNeg vR.toNatClampNeg))), (x 4, .inl (cy 0, R, .inl (va_cpy f4 (fun _ => 0) (0 : Int32).toNatClampNeg (0 : Int32).toNatClampNeg vR.toNatClampNeg))), (x 5, .inl (cy 0, 3 * R, .inl (fun _ => 0)))] H := hP
  have hD : va_D (fun q : Nat => s.heap.size ≤ q) [(q, .inr (7, [.ref (x 0), .ref (x 1), .ref (x 2), .ref (x 3), .ref (x 4), .ref (x 5), .int 0, .int 0, .int 0, .int 0])), (x 0, .inl (cy 0, N, .inl (va_cpy f0 (fun _ => 0) (0 : Int32).toNatClampNeg (0 : Int32).toNatClampNeg vN.toNatClampNeg))), (x 1, .inl (cy 0, N, .inl (va_cpy f1 (fun _ => 0) (0 : Int32).toNatClampNeg (0 : Int32).toNatClampNeg vN.toNatClampNeg))), (x 2, .inl (cy 0, R, .inl (va_cpy f2 (fun _ => 0) (0 : Int32).toNatClampNeg (0 : Int32).toNatClampNeg vR.toNatClampNeg))), (x 3, .inl (cy 0, R, .inl (va_cpy f3 (fun _ => 0) (0 : Int32).toNatClampNeg (0 : Int32).toNatClampNeg vR.toNatClampNeg))), (x 4, .inl (cy 0, R, .inl (va_cpy f4 (fun _ => 0) (0 : Int32).toNatClampNeg (0 : Int32).toNatClampNeg vR.toNatClampNeg))), (x 5, .inl (cy 0, 3 * R, .inl (fun _ => 0)))] := hD
  refine lv_aload_n hx hb dX7_cut_101 rfl (lv_at hl 1 rfl) ?_
  refine tk_get (ci := 7) (C := RX7) (T := TX7) (N := 10) (sp := (3, 20, 3, 0)) hx hb htl inX7 hown hK (hG.old hS) ht_a0 (by decide) tk_no rfl 5 (by decide) (htl _ mw_143) (fun _ h9 => h9) rfl dX7_cut_102 (fun v9 _ hV9 => ?_)
  obtain ⟨b5, rfl, ht_b5⟩ := hV9
  have ht_b5 : t b5 = (20, 36, 0) := ht_b5
  refine lv_iconst (v := 0) hx hb dX7_cut_105 (by decide) ?_
  refine lv_aload_n hx hb dX7_cut_106 rfl (lv_at hl 0 rfl) ?_
  refine va_get (ci := 7) (v := .ref (x 5)) (C := RX7) (T := TX7) (N := 10) hx hb htl inX7 hown hK.1 hP 0 rfl rfl 5 (by decide) (htl _ mw_143) (fun _ h9 => h9) rfl dX7_cut_107 ?_
  refine lv_iconst (v := 0) hx hb dX7_cut_110 (by decide) ?_
  refine lv_aload_n hx hb dX7_cut_111 rfl (lv_at hl 1 rfl) ?_
  refine tk_getk (ci := 7) (C := RX7) (T := TX7) (N := 10) (sp := (5, 0, 0, 0)) hx hb htl inX7 hown hK (hG.old hS) ht_a0 (by decide) tk_no rfl 7 (by decide) (htl _ mw_488) (fun _ h9 => h9) rfl (hfvR.kept (hS.2.1 a0 hfvR.lt (Nat.not_le.mpr hfvR.lt))) dX7_cut_112 ?_
  refine lv_iconst (v := 3) hx hb dX7_cut_115 (by decide) ?_
  refine lv_imul hx hb dX7_cut_116 ?_
  refine tk_mul hR (show (3 : Int32).toInt = 3 by decide) (by omega) (by omega) (fun z hz => ?_)
  obtain ⟨e5, hc5, hE5⟩ := (hG.old hS).arr ht_b5 (by decide) tk_no
  obtain ⟨f5, rfl, hf5⟩ := hE5
  refine tk_copy0 (A := (fun q : Nat => s.heap.size ≤ q)) (SP := 0) (DP := 0) (NC := (R : Int) * 3) hx hb (by rw [hml]; exact hl.1.symm) hown (htl _ mw_654) (htl _ mw_655) (htl _ mw_656) (htl _ mw_657) hK hS hc5 (hP 6 _ rfl) (by decide) (by decide) hz (by decide) (by decide) (by omega) (by omega) (by omega) (hD.2 6 _ rfl) (Nat.le_of_ble_eq_true rfl) (Nat.le_of_ble_eq_true rfl) dX7_cut_117 (fun H locs hat9 hS9 hq9 => ?_)
  have hP := hP.set hD (p := 6) rfl hat9 hq9
  have hD := hD.set (p := 6) (e := .inl (cy 0, 3 * R, .inl (va_cpy f5 (fun _ => 0) (0 : Int32).toNatClampNeg (0 : Int32).toNatClampNeg z.toNatClampNeg))) rfl
  have hS := hS9
  have hP : va_P D vwCl [(q, .inr (7, [.ref (x 0), .ref (x 1), .ref (x 2), .ref (x 3), .ref (x 4), .ref (x 5), .int 0, .int 0, .int 0, .int 0])), (x 0, .inl (cy 0, N, .inl (va_cpy f0 (fun _ => 0) (0 : Int32).toNatClampNeg (0 : Int32).toNatClampNeg vN.toNatClampNeg))), (x 1, .inl (cy 0, N, .inl (va_cpy f1 (fun _ => 0) (0 : Int32).toNatClampNeg (0 : Int32).toNatClampNeg vN.toNatClampNeg))), (x 2, .inl (cy 0, R, .inl (va_cpy f2 (fun _ => 0) (0 : Int32).toNatClampNeg (0 : Int32).toNatClampNeg vR.toNatClampNeg))), (x 3, .inl (cy 0, R, .inl (va_cpy f3 (fun _ => 0) (0 : Int32).toNatClampNeg (0 : Int32).toNatClampNeg vR.toNatClampNeg))), (x 4, .inl (cy 0, R, .inl (va_cpy f4 (fun _ => 0) (0 : Int32).toNatClampNeg (0 : Int32).toNatClampNeg vR.toNatClampNeg))), (x 5, .inl (cy 0, 3 * R, .inl (va_cpy f5 (fun _ => 0) (0 : Int32).toNatClampNeg (0 : Int32).toNatClampNeg z.toNatClampNeg)))] H := hP
  have hD : va_D (fun q : Nat => s.heap.size ≤ q) [(q, .inr (7, [.ref (x 0), .ref (x 1), .ref (x 2), .ref (x 3), .ref (x 4), .ref (x 5), .int 0, .int 0, .int 0, .int 0])), (x 0, .inl (cy 0, N, .inl (va_cpy f0 (fun _ => 0) (0 : Int32).toNatClampNeg (0 : Int32).toNatClampNeg vN.toNatClampNeg))), (x 1, .inl (cy 0, N, .inl (va_cpy f1 (fun _ => 0) (0 : Int32).toNatClampNeg (0 : Int32).toNatClampNeg vN.toNatClampNeg))), (x 2, .inl (cy 0, R, .inl (va_cpy f2 (fun _ => 0) (0 : Int32).toNatClampNeg (0 : Int32).toNatClampNeg vR.toNatClampNeg))), (x 3, .inl (cy 0, R, .inl (va_cpy f3 (fun _ => 0) (0 : Int32).toNatClampNeg (0 : Int32).toNatClampNeg vR.toNatClampNeg))), (x 4, .inl (cy 0, R, .inl (va_cpy f4 (fun _ => 0) (0 : Int32).toNatClampNeg (0 : Int32).toNatClampNeg vR.toNatClampNeg))), (x 5, .inl (cy 0, 3 * R, .inl (va_cpy f5 (fun _ => 0) (0 : Int32).toNatClampNeg (0 : Int32).toNatClampNeg z.toNatClampNeg)))] := hD
  refine lv_aload_n hx hb dX7_cut_120 rfl (lv_at hl 0 rfl) ?_
  refine lv_aload_n hx hb dX7_cut_121 rfl (lv_at hl 1 rfl) ?_
  refine tk_getk (ci := 7) (C := RX7) (T := TX7) (N := 10) (sp := (4, 0, 0, 0)) hx hb htl inX7 hown hK (hG.old hS) ht_a0 (by decide) tk_no rfl 6 (by decide) (htl _ mw_487) (fun _ h9 => h9) rfl (hfvN.kept (hS.2.1 a0 hfvN.lt (Nat.not_le.mpr hfvN.lt))) dX7_cut_122 ?_
  refine va_put (ci := 7) (v := .int vN) (ty := .int) (C := RX7) (T := TX7) (N := 10) hx hb htl inX7 tyX7 tyX7_ok nmX7 hown hK.1 hP hD hS 0 rfl rfl 6 (by decide) (htl _ mw_487) (fun _ h9 => h9) rfl (tyX7_ok 6 (by decide)) rfl rfl (Nat.le_of_ble_eq_true rfl) dX7_cut_125 (fun H locs hP hD hS => ?_)
  have hP : va_P D vwCl [(q, .inr (7, [.ref (x 0), .ref (x 1), .ref (x 2), .ref (x 3), .ref (x 4), .ref (x 5), .int vN, .int 0, .int 0, .int 0])), (x 0, .inl (cy 0, N, .inl (va_cpy f0 (fun _ => 0) (0 : Int32).toNatClampNeg (0 : Int32).toNatClampNeg vN.toNatClampNeg))), (x 1, .inl (cy 0, N, .inl (va_cpy f1 (fun _ => 0) (0 : Int32).toNatClampNeg (0 : Int32).toNatClampNeg vN.toNatClampNeg))), (x 2, .inl (cy 0, R, .inl (va_cpy f2 (fun _ => 0) (0 : Int32).toNatClampNeg (0 : Int32).toNatClampNeg vR.toNatClampNeg))), (x 3, .inl (cy 0, R, .inl (va_cpy f3 (fun _ => 0) (0 : Int32).toNatClampNeg (0 : Int32).toNatClampNeg vR.toNatClampNeg))), (x 4, .inl (cy 0, R, .inl (va_cpy f4 (fun _ => 0) (0 : Int32).toNatClampNeg (0 : Int32).toNatClampNeg vR.toNatClampNeg))), (x 5, .inl (cy 0, 3 * R, .inl (va_cpy f5 (fun _ => 0) (0 : Int32).toNatClampNeg (0 : Int32).toNatClampNeg z.toNatClampNeg)))] H := hP
  have hD : va_D (fun q : Nat => s.heap.size ≤ q) [(q, .inr (7, [.ref (x 0), .ref (x 1), .ref (x 2), .ref (x 3), .ref (x 4), .ref (x 5), .int vN, .int 0, .int 0, .int 0])), (x 0, .inl (cy 0, N, .inl (va_cpy f0 (fun _ => 0) (0 : Int32).toNatClampNeg (0 : Int32).toNatClampNeg vN.toNatClampNeg))), (x 1, .inl (cy 0, N, .inl (va_cpy f1 (fun _ => 0) (0 : Int32).toNatClampNeg (0 : Int32).toNatClampNeg vN.toNatClampNeg))), (x 2, .inl (cy 0, R, .inl (va_cpy f2 (fun _ => 0) (0 : Int32).toNatClampNeg (0 : Int32).toNatClampNeg vR.toNatClampNeg))), (x 3, .inl (cy 0, R, .inl (va_cpy f3 (fun _ => 0) (0 : Int32).toNatClampNeg (0 : Int32).toNatClampNeg vR.toNatClampNeg))), (x 4, .inl (cy 0, R, .inl (va_cpy f4 (fun _ => 0) (0 : Int32).toNatClampNeg (0 : Int32).toNatClampNeg vR.toNatClampNeg))), (x 5, .inl (cy 0, 3 * R, .inl (va_cpy f5 (fun _ => 0) (0 : Int32).toNatClampNeg (0 : Int32).toNatClampNeg z.toNatClampNeg)))] := hD
  refine lv_aload_n hx hb dX7_cut_128 rfl (lv_at hl 0 rfl) ?_
  refine lv_aload_n hx hb dX7_cut_129 rfl (lv_at hl 1 rfl) ?_
  refine tk_getk (ci := 7) (C := RX7) (T := TX7) (N := 10) (sp := (5, 0, 0, 0)) hx hb htl inX7 hown hK (hG.old hS) ht_a0 (by decide) tk_no rfl 7 (by decide) (htl _ mw_488) (fun _ h9 => h9) rfl (hfvR.kept (hS.2.1 a0 hfvR.lt (Nat.not_le.mpr hfvR.lt))) dX7_cut_130 ?_
  refine va_put (ci := 7) (v := .int vR) (ty := .int) (C := RX7) (T := TX7) (N := 10) hx hb htl inX7 tyX7 tyX7_ok nmX7 hown hK.1 hP hD hS 0 rfl rfl 7 (by decide) (htl _ mw_488) (fun _ h9 => h9) rfl (tyX7_ok 7 (by decide)) rfl rfl (Nat.le_of_ble_eq_true rfl) dX7_cut_133 (fun H locs hP hD hS => ?_)
  have hP : va_P D vwCl [(q, .inr (7, [.ref (x 0), .ref (x 1), .ref (x 2), .ref (x 3), .ref (x 4), .ref (x 5), .int vN, .int vR, .int 0, .int 0])), (x 0, .inl (cy 0, N, .inl (va_cpy f0 (fun _ => 0) (0 : Int32).toNatClampNeg (0 : Int32).toNatClampNeg vN.toNatClampNeg))), (x 1, .inl (cy 0, N, .inl (va_cpy f1 (fun _ => 0) (0 : Int32).toNatClampNeg (0 : Int32).toNatClampNeg vN.toNatClampNeg))), (x 2, .inl (cy 0, R, .inl (va_cpy f2 (fun _ => 0) (0 : Int32).toNatClampNeg (0 : Int32).toNatClampNeg vR.toNatClampNeg))), (x 3, .inl (cy 0, R, .inl (va_cpy f3 (fun _ => 0) (0 : Int32).toNatClampNeg (0 : Int32).toNatClampNeg vR.toNatClampNeg))), (x 4, .inl (cy 0, R, .inl (va_cpy f4 (fun _ => 0) (0 : Int32).toNatClampNeg (0 : Int32).toNatClampNeg vR.toNatClampNeg))), (x 5, .inl (cy 0, 3 * R, .inl (va_cpy f5 (fun _ => 0) (0 : Int32).toNatClampNeg (0 : Int32).toNatClampNeg z.toNatClampNeg)))] H := hP
  have hD : va_D (fun q : Nat => s.heap.size ≤ q) [(q, .inr (7, [.ref (x 0), .ref (x 1), .ref (x 2), .ref (x 3), .ref (x 4), .ref (x 5), .int vN, .int vR, .int 0, .int 0])), (x 0, .inl (cy 0, N, .inl (va_cpy f0 (fun _ => 0) (0 : Int32).toNatClampNeg (0 : Int32).toNatClampNeg vN.toNatClampNeg))), (x 1, .inl (cy 0, N, .inl (va_cpy f1 (fun _ => 0) (0 : Int32).toNatClampNeg (0 : Int32).toNatClampNeg vN.toNatClampNeg))), (x 2, .inl (cy 0, R, .inl (va_cpy f2 (fun _ => 0) (0 : Int32).toNatClampNeg (0 : Int32).toNatClampNeg vR.toNatClampNeg))), (x 3, .inl (cy 0, R, .inl (va_cpy f3 (fun _ => 0) (0 : Int32).toNatClampNeg (0 : Int32).toNatClampNeg vR.toNatClampNeg))), (x 4, .inl (cy 0, R, .inl (va_cpy f4 (fun _ => 0) (0 : Int32).toNatClampNeg (0 : Int32).toNatClampNeg vR.toNatClampNeg))), (x 5, .inl (cy 0, 3 * R, .inl (va_cpy f5 (fun _ => 0) (0 : Int32).toNatClampNeg (0 : Int32).toNatClampNeg z.toNatClampNeg)))] := hD
  refine lv_aload_n hx hb dX7_cut_136 rfl (lv_at hl 0 rfl) ?_
  refine lv_aload_n hx hb dX7_cut_137 rfl (lv_at hl 1 rfl) ?_
  refine tk_get (ci := 7) (C := RX7) (T := TX7) (N := 10) (sp := (0, (-2147483648), 2147483647, 0)) hx hb htl inX7 hown hK (hG.old hS) ht_a0 (by decide) tk_no rfl 8 (by decide) (htl _ mw_489) (fun _ h9 => h9) rfl dX7_cut_138 (fun v9 _ hV9 => ?_)
  obtain ⟨vK, rfl, (ha_vK : (-2147483648) ≤ vK.toInt), (hb_vK : vK.toInt ≤ 2147483647)⟩ := hV9
  refine va_put (ci := 7) (v := .int vK) (ty := .int) (C := RX7) (T := TX7) (N := 10) hx hb htl inX7 tyX7 tyX7_ok nmX7 hown hK.1 hP hD hS 0 rfl rfl 8 (by decide) (htl _ mw_489) (fun _ h9 => h9) rfl (tyX7_ok 8 (by decide)) rfl rfl (Nat.le_of_ble_eq_true rfl) dX7_cut_141 (fun H locs hP hD hS => ?_)
  have hP : va_P D vwCl [(q, .inr (7, [.ref (x 0), .ref (x 1), .ref (x 2), .ref (x 3), .ref (x 4), .ref (x 5), .int vN, .int vR, .int vK, .int 0])), (x 0, .inl (cy 0, N, .inl (va_cpy f0 (fun _ => 0) (0 : Int32).toNatClampNeg (0 : Int32).toNatClampNeg vN.toNatClampNeg))), (x 1, .inl (cy 0, N, .inl (va_cpy f1 (fun _ => 0) (0 : Int32).toNatClampNeg (0 : Int32).toNatClampNeg vN.toNatClampNeg))), (x 2, .inl (cy 0, R, .inl (va_cpy f2 (fun _ => 0) (0 : Int32).toNatClampNeg (0 : Int32).toNatClampNeg vR.toNatClampNeg))), (x 3, .inl (cy 0, R, .inl (va_cpy f3 (fun _ => 0) (0 : Int32).toNatClampNeg (0 : Int32).toNatClampNeg vR.toNatClampNeg))), (x 4, .inl (cy 0, R, .inl (va_cpy f4 (fun _ => 0) (0 : Int32).toNatClampNeg (0 : Int32).toNatClampNeg vR.toNatClampNeg))), (x 5, .inl (cy 0, 3 * R, .inl (va_cpy f5 (fun _ => 0) (0 : Int32).toNatClampNeg (0 : Int32).toNatClampNeg z.toNatClampNeg)))] H := hP
  have hD : va_D (fun q : Nat => s.heap.size ≤ q) [(q, .inr (7, [.ref (x 0), .ref (x 1), .ref (x 2), .ref (x 3), .ref (x 4), .ref (x 5), .int vN, .int vR, .int vK, .int 0])), (x 0, .inl (cy 0, N, .inl (va_cpy f0 (fun _ => 0) (0 : Int32).toNatClampNeg (0 : Int32).toNatClampNeg vN.toNatClampNeg))), (x 1, .inl (cy 0, N, .inl (va_cpy f1 (fun _ => 0) (0 : Int32).toNatClampNeg (0 : Int32).toNatClampNeg vN.toNatClampNeg))), (x 2, .inl (cy 0, R, .inl (va_cpy f2 (fun _ => 0) (0 : Int32).toNatClampNeg (0 : Int32).toNatClampNeg vR.toNatClampNeg))), (x 3, .inl (cy 0, R, .inl (va_cpy f3 (fun _ => 0) (0 : Int32).toNatClampNeg (0 : Int32).toNatClampNeg vR.toNatClampNeg))), (x 4, .inl (cy 0, R, .inl (va_cpy f4 (fun _ => 0) (0 : Int32).toNatClampNeg (0 : Int32).toNatClampNeg vR.toNatClampNeg))), (x 5, .inl (cy 0, 3 * R, .inl (va_cpy f5 (fun _ => 0) (0 : Int32).toNatClampNeg (0 : Int32).toNatClampNeg z.toNatClampNeg)))] := hD
  refine lv_aload_n hx hb dX7_cut_144 rfl (lv_at hl 0 rfl) ?_
  refine lv_aload_n hx hb dX7_cut_145 rfl (lv_at hl 1 rfl) ?_
  refine tk_get (ci := 7) (C := RX7) (T := TX7) (N := 10) (sp := (0, 0, 1, 0)) hx hb htl inX7 hown hK (hG.old hS) ht_a0 (by decide) tk_no rfl 9 (by decide) (htl _ mw_490) (fun _ h9 => h9) rfl dX7_cut_146 (fun v9 _ hV9 => ?_)
  obtain ⟨vL, rfl, (ha_vL : 0 ≤ vL.toInt), (hb_vL : vL.toInt ≤ 1)⟩ := hV9
  refine va_put (ci := 7) (v := .int vL) (ty := .boolean) (C := RX7) (T := TX7) (N := 10) hx hb htl inX7 tyX7 tyX7_ok nmX7 hown hK.1 hP hD hS 0 rfl rfl 9 (by decide) (htl _ mw_490) (fun _ h9 => h9) rfl (tyX7_ok 9 (by decide)) (tk_nz ha_vL hb_vL) (tk_fz ha_vL hb_vL) (Nat.le_of_ble_eq_true rfl) dX7_cut_149 (fun H locs hP hD hS => ?_)
  have hP : va_P D vwCl [(q, .inr (7, [.ref (x 0), .ref (x 1), .ref (x 2), .ref (x 3), .ref (x 4), .ref (x 5), .int vN, .int vR, .int vK, .int vL])), (x 0, .inl (cy 0, N, .inl (va_cpy f0 (fun _ => 0) (0 : Int32).toNatClampNeg (0 : Int32).toNatClampNeg vN.toNatClampNeg))), (x 1, .inl (cy 0, N, .inl (va_cpy f1 (fun _ => 0) (0 : Int32).toNatClampNeg (0 : Int32).toNatClampNeg vN.toNatClampNeg))), (x 2, .inl (cy 0, R, .inl (va_cpy f2 (fun _ => 0) (0 : Int32).toNatClampNeg (0 : Int32).toNatClampNeg vR.toNatClampNeg))), (x 3, .inl (cy 0, R, .inl (va_cpy f3 (fun _ => 0) (0 : Int32).toNatClampNeg (0 : Int32).toNatClampNeg vR.toNatClampNeg))), (x 4, .inl (cy 0, R, .inl (va_cpy f4 (fun _ => 0) (0 : Int32).toNatClampNeg (0 : Int32).toNatClampNeg vR.toNatClampNeg))), (x 5, .inl (cy 0, 3 * R, .inl (va_cpy f5 (fun _ => 0) (0 : Int32).toNatClampNeg (0 : Int32).toNatClampNeg z.toNatClampNeg)))] H := hP
  have hD : va_D (fun q : Nat => s.heap.size ≤ q) [(q, .inr (7, [.ref (x 0), .ref (x 1), .ref (x 2), .ref (x 3), .ref (x 4), .ref (x 5), .int vN, .int vR, .int vK, .int vL])), (x 0, .inl (cy 0, N, .inl (va_cpy f0 (fun _ => 0) (0 : Int32).toNatClampNeg (0 : Int32).toNatClampNeg vN.toNatClampNeg))), (x 1, .inl (cy 0, N, .inl (va_cpy f1 (fun _ => 0) (0 : Int32).toNatClampNeg (0 : Int32).toNatClampNeg vN.toNatClampNeg))), (x 2, .inl (cy 0, R, .inl (va_cpy f2 (fun _ => 0) (0 : Int32).toNatClampNeg (0 : Int32).toNatClampNeg vR.toNatClampNeg))), (x 3, .inl (cy 0, R, .inl (va_cpy f3 (fun _ => 0) (0 : Int32).toNatClampNeg (0 : Int32).toNatClampNeg vR.toNatClampNeg))), (x 4, .inl (cy 0, R, .inl (va_cpy f4 (fun _ => 0) (0 : Int32).toNatClampNeg (0 : Int32).toNatClampNeg vR.toNatClampNeg))), (x 5, .inl (cy 0, 3 * R, .inl (va_cpy f5 (fun _ => 0) (0 : Int32).toNatClampNeg (0 : Int32).toNatClampNeg z.toNatClampNeg)))] := hD
  refine lv_aload_n hx hb dX7_cut_152 rfl (lv_at hl 0 rfl) ?_
  have h39 : ∀ j : Nat, j < R → 0 ≤ ((va_cpy f3 (fun _ => 0) (0 : Int32).toNatClampNeg (0 : Int32).toNatClampNeg vR.toNatClampNeg) j).toInt ∧ ((va_cpy f3 (fun _ => 0) (0 : Int32).toNatClampNeg (0 : Int32).toNatClampNeg vR.toNatClampNeg) j).toInt ≤ 20 := by
    intro j hj
    unfold va_cpy
    split
    · rename_i h
      exact hf3 _ (by have h0 : (0 : Int32).toNatClampNeg = 0 := by decide
                      have h1 := tk_nat hR (by omega)
                      omega)
    · show 0 ≤ (0 : Int32).toInt ∧ (0 : Int32).toInt ≤ 20
      decide
  obtain ⟨t9, g1, g2, g3, g4⟩ := tk_born (f := fun k => ([(va_cpy f0 (fun _ => 0) (0 : Int32).toNatClampNeg (0 : Int32).toNatClampNeg vN.toNatClampNeg), (va_cpy f1 (fun _ => 0) (0 : Int32).toNatClampNeg (0 : Int32).toNatClampNeg vN.toNatClampNeg), (va_cpy f2 (fun _ => 0) (0 : Int32).toNatClampNeg (0 : Int32).toNatClampNeg vR.toNatClampNeg), (va_cpy f3 (fun _ => 0) (0 : Int32).toNatClampNeg (0 : Int32).toNatClampNeg vR.toNatClampNeg), (va_cpy f4 (fun _ => 0) (0 : Int32).toNatClampNeg (0 : Int32).toNatClampNeg vR.toNatClampNeg), (va_cpy f5 (fun _ => 0) (0 : Int32).toNatClampNeg (0 : Int32).toNatClampNeg z.toNatClampNeg)] : List (Nat → Int32)).getD k (fun _ => 0)) hF hG hS hP hD hN2 hR2 ⟨ha_vN, by omega⟩ ⟨ha_vR, by omega⟩ ⟨ha_vL, hb_vL⟩ h39
  exact W.aret hx hb hr (Or.inl ⟨_, rfl⟩) (Or.inr ⟨_, rfl⟩) (fun t8 ht _ => ⟨⟨some q, (q, t9), rfl, rfl, by show tk_ext t t9 ∧ tk_G D cy ld t9 [] t8.heap ∧ (∃ n r : Nat, t9 q = (8, n, r)) ∧ ∀ a : Nat, (t9 a).1 ≠ 0 → (t a).1 ≠ 0 ∨ s.heap.size ≤ a; rw [ht]; exact ⟨g1, g2, ⟨_, _, g3⟩, g4⟩⟩, hS.F ht⟩) hS.2.2 dX7_cut_153 hlocks
theorem hd_yX2_addLaw : yX2_addLaw.cls ≠ "java/lang/invoke/MethodHandle" ∧ yX2_addLaw.cls ≠ "java/lang/invoke/VarHandle" ∧ (parseMethodDescriptor yX2_addLaw.desc).map (fun d => d.parameters.length) = some 1 := by decide +kernel
theorem hd7_cut : yX7_cut.cls ≠ "java/lang/invoke/MethodHandle" ∧ yX7_cut.cls ≠ "java/lang/invoke/VarHandle" ∧ (parseMethodDescriptor yX7_cut.desc).map (fun d => d.parameters.length) = some 0 := by decide +kernel
theorem dX12_law_0 : decode cX12_law 0 = .ok (.aload_n 0, 1) := by decide +kernel
theorem dX12_law_1 : decode cX12_law 1 = .ok (.getfield 178, 3) := by decide +kernel
theorem dX12_law_4 : decode cX12_law 4 = .ok (.istore_n 1, 1) := by decide +kernel
theorem dX12_law_5 : decode cX12_law 5 = .ok (.aload_n 0, 1) := by decide +kernel
theorem dX12_law_6 : decode cX12_law 6 = .ok (.iconst 0, 1) := by decide +kernel
theorem dX12_law_7 : decode cX12_law 7 = .ok (.putfield 178, 3) := by decide +kernel
theorem dX12_law_10 : decode cX12_law 10 = .ok (.aload_n 0, 1) := by decide +kernel
theorem dX12_law_11 : decode cX12_law 11 = .ok (.getfield 10, 3) := by decide +kernel
theorem dX12_law_14 : decode cX12_law 14 = .ok (.getfield 188, 3) := by decide +kernel
theorem dX12_law_17 : decode cX12_law 17 = .ok (.bipush 6, 2) := by decide +kernel
theorem dX12_law_19 : decode cX12_law 19 = .ok (.if_icmp .lt 10, 3) := by decide +kernel
theorem dX12_law_29 : decode cX12_law 29 = .ok (.aload_n 0, 1) := by decide +kernel
theorem dX12_law_30 : decode cX12_law 30 = .ok (.aload_n 0, 1) := by decide +kernel
theorem dX12_law_31 : decode cX12_law 31 = .ok (.getfield 64, 3) := by decide +kernel
theorem dX12_law_34 : decode cX12_law 34 = .ok (.iload_n 1, 1) := by decide +kernel
theorem dX12_law_35 : decode cX12_law 35 = .ok (.iconst 1, 1) := by decide +kernel
theorem dX12_law_36 : decode cX12_law 36 = .ok (.invokevirtual 191, 3) := by decide +kernel
theorem dX12_law_39 : decode cX12_law 39 = .ok (.putfield 99, 3) := by decide +kernel
theorem dX12_law_42 : decode cX12_law 42 = .ok (.aload_n 0, 1) := by decide +kernel
theorem dX12_law_43 : decode cX12_law 43 = .ok (.getfield 99, 3) := by decide +kernel
theorem dX12_law_46 : decode cX12_law 46 = .ok (.iconst (-1), 1) := by decide +kernel
theorem dX12_law_47 : decode cX12_law 47 = .ok (.if_icmp .eq 10, 3) := by decide +kernel
theorem dX12_law_57 : decode cX12_law 57 = .ok (.aload_n 0, 1) := by decide +kernel
theorem dX12_law_58 : decode cX12_law 58 = .ok (.aload_n 0, 1) := by decide +kernel
theorem dX12_law_59 : decode cX12_law 59 = .ok (.getfield 10, 3) := by decide +kernel
theorem dX12_law_62 : decode cX12_law 62 = .ok (.aload_n 0, 1) := by decide +kernel
theorem dX12_law_63 : decode cX12_law 63 = .ok (.getfield 64, 3) := by decide +kernel
theorem dX12_law_66 : decode cX12_law 66 = .ok (.getfield 195, 3) := by decide +kernel
theorem dX12_law_69 : decode cX12_law 69 = .ok (.invokevirtual 199, 3) := by decide +kernel
theorem dX12_law_72 : decode cX12_law 72 = .ok (.invokevirtual 205, 3) := by decide +kernel
theorem dX12_law_75 : decode cX12_law 75 = .ok (.invokevirtual 165, 3) := by decide +kernel
theorem dX12_law_78 : decode cX12_law 78 = .ok (.ireturn, 1) := by decide +kernel
theorem dX12_law_50 : decode cX12_law 50 = .ok (.aload_n 0, 1) := by decide +kernel
theorem dX12_law_51 : decode cX12_law 51 = .ok (.bipush (-6), 2) := by decide +kernel
theorem dX12_law_53 : decode cX12_law 53 = .ok (.invokevirtual 159, 3) := by decide +kernel
theorem dX12_law_56 : decode cX12_law 56 = .ok (.ireturn, 1) := by decide +kernel
theorem dX12_law_22 : decode cX12_law 22 = .ok (.aload_n 0, 1) := by decide +kernel
theorem dX12_law_23 : decode cX12_law 23 = .ok (.bipush (-5), 2) := by decide +kernel
theorem dX12_law_25 : decode cX12_law 25 = .ok (.invokevirtual 159, 3) := by decide +kernel
theorem dX12_law_28 : decode cX12_law 28 = .ok (.ireturn, 1) := by decide +kernel
