/-! JX: what stands between both at the law's loop -/
def jA (ld : Nat → Nat) (t : tk_T) (a r : Nat) : Prop := t a = (3, 0, r) ∧ t (ld (70 + r)) = (32, 8, r) ∧ t (ld (80 + r)) = (33, 10, r) ∧ t (ld (90 + r)) = (34, 10, r) ∧ t (ld (100 + r)) = (35, 10, r) ∧ t (ld (110 + r)) = (36, 10, r) ∧ t (ld (120 + r)) = (37, 10, r)
def jT (ld : Nat → Nat) (t : tk_T) : Prop := jA ld t (ld 20) 0 ∧ jA ld t (ld 24) 6 ∧ jA ld t (ld 25) 7 ∧ t (ld 26) = (20, 400, 9) ∧ t (ld 49) = (29, 2, 0)
theorem jA.ext {ld : Nat → Nat} {t t' : tk_T} {a r : Nat} (g : tk_ext t t') (h : jA ld t a r) : jA ld t' a r := by
  obtain ⟨h0, h1, h2, h3, h4, h5, h6⟩ := h
  exact ⟨(g _ (by rw [h0]; exact Nat.succ_ne_zero _)).trans h0, (g _ (by rw [h1]; exact Nat.succ_ne_zero _)).trans h1, (g _ (by rw [h2]; exact Nat.succ_ne_zero _)).trans h2, (g _ (by rw [h3]; exact Nat.succ_ne_zero _)).trans h3, (g _ (by rw [h4]; exact Nat.succ_ne_zero _)).trans h4, (g _ (by rw [h5]; exact Nat.succ_ne_zero _)).trans h5, (g _ (by rw [h6]; exact Nat.succ_ne_zero _)).trans h6⟩
theorem jT.ext {ld : Nat → Nat} {t t' : tk_T} (g : tk_ext t t') (h : jT ld t) : jT ld t' := by
  obtain ⟨h0, h1, h2, h3, h4⟩ := h
  exact ⟨h0.ext g, h1.ext g, h2.ext g, (g _ (by rw [h3]; exact Nat.succ_ne_zero _)).trans h3, (g _ (by rw [h4]; exact Nat.succ_ne_zero _)).trans h4⟩
/-- nothing of Hills of region r is written -/
def jok (r : Nat) (L : List (Nat × Nat × Nat)) : Bool := L.all (fun q => !((q.1 == 3 || (32 ≤ q.1 && q.1 < 38)) && q.2.1 ≤ r && r ≤ q.2.2))
theorem jok.no {t : tk_T} {L : List (Nat × Nat × Nat)} {a k n r : Nat} (hL : jok r L = true) (ha : t a = (k, n, r)) (hk : k = 3 ∨ (32 ≤ k ∧ k < 38)) : ¬ tk_w t L a := tk_w.no ha (fun q hq e h1 h2 => by
  have h := List.all_eq_true.mp hL q hq
  subst e
  rcases hk with hk | ⟨hk, hk2⟩
  · simp [hk, h1, h2] at h
  · simp [hk, hk2, h1, h2] at h)
theorem jC.kept {D : va_G} {ld : Nat → Nat} {a r : Nat} {n0 n1 n2 n3 : Int32} {fh fs fk q1 q2 q3 : Nat → Int32} {H H1 : Heap} (h : jC D ld a r n0 n1 n2 n3 fh fs fk q1 q2 q3 H) (e : H1[a]? = H[a]?) (e0 : H1[ld (70 + r)]? = H[ld (70 + r)]?) (e1 : H1[ld (80 + r)]? = H[ld (80 + r)]?) (e2 : H1[ld (90 + r)]? = H[ld (90 + r)]?) (e3 : H1[ld (100 + r)]? = H[ld (100 + r)]?) (e4 : H1[ld (110 + r)]? = H[ld (110 + r)]?) (e5 : H1[ld (120 + r)]? = H[ld (120 + r)]?) : jC D ld a r n0 n1 n2 n3 fh fs fk q1 q2 q3 H1 := by
  obtain ⟨h0, h1, h2, h3, h4, h5, h6, h7, h8, h9⟩ := h
  exact ⟨h0.kept e, h1.kept e, h2.kept e, h3.kept e, h4.kept e0, h5.kept e1, h6.kept e2, h7.kept e3, h8.kept e4, h9.kept e5⟩
theorem jC.all {D : va_G} {ld : Nat → Nat} {t : tk_T} {a r : Nat} {n0 n1 n2 n3 : Int32} {fh fs fk q1 q2 q3 : Nat → Int32} {H H1 : Heap} (hA : jA ld t a r) (h : jC D ld a r n0 n1 n2 n3 fh fs fk q1 q2 q3 H) (hq : ∀ q : Nat, (t q).1 ≠ 0 → H1[q]? = H[q]?) : jC D ld a r n0 n1 n2 n3 fh fs fk q1 q2 q3 H1 := by
  obtain ⟨h0, h1, h2, h3, h4, h5, h6⟩ := hA
  exact h.kept (hq _ (by rw [h0]; exact Nat.succ_ne_zero _)) (hq _ (by rw [h1]; exact Nat.succ_ne_zero _)) (hq _ (by rw [h2]; exact Nat.succ_ne_zero _)) (hq _ (by rw [h3]; exact Nat.succ_ne_zero _)) (hq _ (by rw [h4]; exact Nat.succ_ne_zero _)) (hq _ (by rw [h5]; exact Nat.succ_ne_zero _)) (hq _ (by rw [h6]; exact Nat.succ_ne_zero _))
theorem jC.call {D : va_G} {ld : Nat → Nat} {t : tk_T} {L : List (Nat × Nat × Nat)} {a r : Nat} {n0 n1 n2 n3 : Int32} {fh fs fk q1 q2 q3 : Nat → Int32} {H H1 : Heap} (hA : jA ld t a r) (h : jC D ld a r n0 n1 n2 n3 fh fs fk q1 q2 q3 H) (hq : ∀ q : Nat, q < H.size → ¬ tk_w t L q → H1[q]? = H[q]?) (hL : jok r L = true) : jC D ld a r n0 n1 n2 n3 fh fs fk q1 q2 q3 H1 := by
  obtain ⟨h0, h1, h2, h3, h4, h5, h6⟩ := hA
  have g := id h
  obtain ⟨g0, -, -, -, g4, g5, g6, g7, g8, g9⟩ := g
  exact h.kept (hq _ g0.lt (jok.no hL h0 (by decide))) (hq _ g4.1 (jok.no hL h1 (by decide))) (hq _ g5.1 (jok.no hL h2 (by decide))) (hq _ g6.1 (jok.no hL h3 (by decide))) (hq _ g7.1 (jok.no hL h4 (by decide))) (hq _ g8.1 (jok.no hL h5 (by decide))) (hq _ g9.1 (jok.no hL h6 (by decide)))
theorem jC.ex {D : va_G} {cy : Nat → ClassId} {ld : Nat → Nat} {t : tk_T} {H : Heap} {a r : Nat} (hG : tk_G D cy ld t [] H) (hA : jA ld t a r) : ∃ (n0 n1 n2 n3 : Int32) (fh fs fk q1 q2 q3 : Nat → Int32), jC D ld a r n0 n1 n2 n3 fh fs fk q1 q2 q3 H ∧ (0 ≤ n0.toInt ∧ n0.toInt ≤ 8) ∧ (0 ≤ n1.toInt ∧ n1.toInt ≤ 10) ∧ (0 ≤ n2.toInt ∧ n2.toInt ≤ 10) ∧ 0 ≤ n3.toInt ∧ n3.toInt ≤ 8 := by
  obtain ⟨h0, h1, h2, h3, h4, h5, h6⟩ := hA
  obtain ⟨v0, e0, w0⟩ := tk_peek (ci := 2) (C := RX2) (T := TX2) (N := 20) (sp := (0, 0, 8, 0)) hG h0 (by decide) tk_no rfl 0 (by decide) rfl
  obtain ⟨n0, rfl, a0, b0⟩ := w0
  obtain ⟨v1, e1, w1⟩ := tk_peek (ci := 2) (C := RX2) (T := TX2) (N := 20) (sp := (0, 0, 10, 0)) hG h0 (by decide) tk_no rfl 4 (by decide) rfl
  obtain ⟨n1, rfl, a1, b1⟩ := w1
  obtain ⟨v2, e2, w2⟩ := tk_peek (ci := 2) (C := RX2) (T := TX2) (N := 20) (sp := (0, 0, 10, 0)) hG h0 (by decide) tk_no rfl 7 (by decide) rfl
  obtain ⟨n2, rfl, a2, b2⟩ := w2
  obtain ⟨v3, e3, w3⟩ := tk_peek (ci := 2) (C := RX2) (T := TX2) (N := 20) (sp := (0, 0, 8, 0)) hG h0 (by decide) tk_no rfl 11 (by decide) rfl
  obtain ⟨n3, rfl, a3, b3⟩ := w3
  obtain ⟨f1, g1⟩ := tk_c.ex hG h1 (by decide) (fun _ h => h) tk_no
  obtain ⟨f2, g2⟩ := tk_c.ex hG h2 (by decide) (fun _ h => h) tk_no
  obtain ⟨f3, g3⟩ := tk_c.ex hG h3 (by decide) (fun _ h => h) tk_no
  obtain ⟨f4, g4⟩ := tk_c.ex hG h4 (by decide) (fun _ h => h) tk_no
  obtain ⟨f5, g5⟩ := tk_c.ex hG h5 (by decide) (fun _ h => h) tk_no
  obtain ⟨f6, g6⟩ := tk_c.ex hG h6 (by decide) (fun _ h => h) tk_no
  exact ⟨n0, n1, n2, n3, f1, f2, f3, f4, f5, f6, ⟨e0, e1, e2, e3, g1, g2, g3, g4, g5, g6⟩, ⟨a0, b0⟩, ⟨a1, b1⟩, ⟨a2, b2⟩, a3, b3⟩
/-- the class's numbers and rows against the reference's row -/
def jR (n0 n1 n2 n3 : Int32) (fh fs fk q1 q2 q3 ρ : Nat → Int32) : Prop := (ρ 0 = n0 ∧ ρ 1 = n1 ∧ ρ 2 = n2 ∧ ρ 3 = n3) ∧ ((0 ≤ n0.toInt ∧ n0.toInt ≤ 8) ∧ (0 ≤ n1.toInt ∧ n1.toInt ≤ 10) ∧ (0 ≤ n2.toInt ∧ n2.toInt ≤ 10) ∧ 0 ≤ n3.toInt ∧ n3.toInt ≤ 8) ∧ (∀ j : Nat, (j : Int) < n0.toInt → fh j = ρ (108 + j) ∧ 0 ≤ (fh j).toInt ∧ (fh j).toInt ≤ 255) ∧ (∀ j : Nat, (j : Int) < n1.toInt → fs j = ρ (58 + 2 * j) ∧ fk j = ρ (59 + 2 * j)) ∧ ∀ j : Nat, (j : Int) < n2.toInt → q1 j = ρ (78 + 3 * j) ∧ q2 j = ρ (79 + 3 * j) ∧ q3 j = ρ (80 + 3 * j)
section JRS
variable {n0 n1 n2 n3 : Int32} {fh fs fk q1 q2 q3 ρ ρ' : Nat → Int32}
theorem jR.rel (h : jR n0 n1 n2 n3 fh fs fk q1 q2 q3 ρ) (e : rK3 ρ ρ') : jR n0 n1 n2 n3 fh fs fk q1 q2 q3 ρ' := by
  obtain ⟨⟨a0, a1, a2, a3⟩, hr, hh, hs, hq⟩ := h
  have hr' := hr
  obtain ⟨⟨r0, r1⟩, ⟨r2, r3⟩, ⟨r4, r5⟩, r6, r7⟩ := hr'
  refine ⟨⟨(e 0 (by omega)).trans a0, (e 1 (by omega)).trans a1, (e 2 (by omega)).trans a2, (e 3 (by omega)).trans a3⟩, hr, fun j hj => ?_, fun j hj => ?_, fun j hj => ?_⟩
  · rw [e _ (by omega)]
    exact hh j hj
  · rw [e _ (by omega), e _ (by omega)]
    exact hs j hj
  · rw [e _ (by omega), e _ (by omega), e _ (by omega)]
    exact hq j hj
theorem jR.singer {v v2 x a b c : Int32} {m : Nat} (h : jR n0 n1 n2 n3 fh fs fk q1 q2 q3 ρ) (hv : v.toInt = v2.toInt) (hy : 0 ≤ v.toInt → n0.toInt ≤ 7 ∧ x.toInt = n0.toInt + 1) (hn : v.toInt ≤ -1 → x.toInt = n0.toInt) (hm : m = n0.toInt.toNat) (hq : jW v2 (∃ z : Int32, z.toInt = n0.toInt + 1 ∧ ρ' = upd (upd (upd (upd (upd (upd (upd ρ (18 + 5 * m) a) (19 + 5 * m) b) (20 + 5 * m) c) (21 + 5 * m) 0) (22 + 5 * m) 0) (108 + m) 0) (0) z) (ρ' = ρ)) : jR x n1 n2 n3 (cif v (upd fh m 0) fh) fs fk q1 q2 q3 ρ' := by
  by_cases e : 0 ≤ v.toInt
  · obtain ⟨z, hz, rfl⟩ := hq.1 (by omega)
    clear hq
    obtain ⟨⟨a0, a1, a2, a3⟩, ⟨⟨r0, r1⟩, ⟨r2, r3⟩, ⟨r4, r5⟩, r6, r7⟩, hh, hs, hp⟩ := h
    have h9 := hy e
    rw [cif_t e]
    have o : ∀ j : Nat, j ≠ 0 → (j < 18 ∨ 58 ≤ j) → j ≠ 108 + m → upd (upd (upd (upd (upd (upd (upd ρ (18 + 5 * m) a) (19 + 5 * m) b) (20 + 5 * m) c) (21 + 5 * m) 0) (22 + 5 * m) 0) (108 + m) 0) (0) z j = ρ j := fun j h1 h2 h3 => by
      rw [pk_un h1, pk_un h3, pk_un (by omega), pk_un (by omega), pk_un (by omega), pk_un (by omega), pk_un (by omega)]
    refine ⟨⟨pk_us.trans ((fi_eq rfl rfl).mpr (by omega)), (o 1 (by omega) (by omega) (by omega)).trans a1, (o 2 (by omega) (by omega) (by omega)).trans a2, (o 3 (by omega) (by omega) (by omega)).trans a3⟩, ⟨⟨by omega, by omega⟩, ⟨r2, r3⟩, ⟨r4, r5⟩, r6, r7⟩, fun j hj => ?_, fun j hj => ?_, fun j hj => ?_⟩
    · by_cases ej : j = m
      · subst ej
        rw [pk_us, pk_un (by omega), pk_us]
        exact ⟨rfl, by decide, by decide⟩
      · rw [pk_un ej, o _ (by omega) (by omega) (by omega)]
        exact hh j (by omega)
    · rw [o _ (by omega) (by omega) (by omega), o _ (by omega) (by omega) (by omega)]
      exact hs j hj
    · rw [o _ (by omega) (by omega) (by omega), o _ (by omega) (by omega) (by omega), o _ (by omega) (by omega) (by omega)]
      exact hp j hj
  · have e2 : v.toInt ≤ -1 := by omega
    rw [cif_f e2, hq.2 (by omega), (fi_eq rfl rfl).mpr (hn e2)]
    exact h
theorem jR.verse {v v2 x a b : Int32} {m : Nat} (h : jR n0 n1 n2 n3 fh fs fk q1 q2 q3 ρ) (hv : v.toInt = v2.toInt) (hy : 0 ≤ v.toInt → n1.toInt ≤ 9 ∧ x.toInt = n1.toInt + 1) (hn : v.toInt ≤ -1 → x.toInt = n1.toInt) (hm : m = n1.toInt.toNat) (hq : jW v2 (∃ z : Int32, z.toInt = n1.toInt + 1 ∧ ρ' = upd (upd (upd ρ (58 + 2 * m) a) (59 + 2 * m) b) (1) z) (ρ' = ρ)) : jR n0 x n2 n3 fh (cif v (upd fs m a) fs) (cif v (upd fk m b) fk) q1 q2 q3 ρ' := by
  by_cases e : 0 ≤ v.toInt
  · obtain ⟨z, hz, rfl⟩ := hq.1 (by omega)
    clear hq
    obtain ⟨⟨a0, a1, a2, a3⟩, ⟨⟨r0, r1⟩, ⟨r2, r3⟩, ⟨r4, r5⟩, r6, r7⟩, hh, hs, hp⟩ := h
    have h9 := hy e
    rw [cif_t e, cif_t e]
    have o : ∀ j : Nat, j ≠ 1 → j ≠ 58 + 2 * m → j ≠ 59 + 2 * m → upd (upd (upd ρ (58 + 2 * m) a) (59 + 2 * m) b) (1) z j = ρ j := fun j h1 h2 h3 => by
      rw [pk_un h1, pk_un h3, pk_un h2]
    refine ⟨⟨(o 0 (by omega) (by omega) (by omega)).trans a0, pk_us.trans ((fi_eq rfl rfl).mpr (by omega)), (o 2 (by omega) (by omega) (by omega)).trans a2, (o 3 (by omega) (by omega) (by omega)).trans a3⟩, ⟨⟨r0, r1⟩, ⟨by omega, by omega⟩, ⟨r4, r5⟩, r6, r7⟩, fun j hj => ?_, fun j hj => ?_, fun j hj => ?_⟩
    · rw [o _ (by omega) (by omega) (by omega)]
      exact hh j hj
    · by_cases ej : j = m
      · subst ej
        rw [pk_us, pk_us, pk_un (by omega), pk_un (by omega), pk_us, pk_un (by omega), pk_us]
        exact ⟨rfl, rfl⟩
      · rw [pk_un ej, pk_un ej, o _ (by omega) (by omega) (by omega), o _ (by omega) (by omega) (by omega)]
        exact hs j (by omega)
    · rw [o _ (by omega) (by omega) (by omega), o _ (by omega) (by omega) (by omega), o _ (by omega) (by omega) (by omega)]
      exact hp j hj
  · have e2 : v.toInt ≤ -1 := by omega
    rw [cif_f e2, cif_f e2, hq.2 (by omega), (fi_eq rfl rfl).mpr (hn e2)]
    exact h
theorem jR.piece {v v2 x a b c : Int32} {m : Nat} (h : jR n0 n1 n2 n3 fh fs fk q1 q2 q3 ρ) (hv : v.toInt = v2.toInt) (hy : 0 ≤ v.toInt → n2.toInt ≤ 9 ∧ x.toInt = n2.toInt + 1) (hn : v.toInt ≤ -1 → x.toInt = n2.toInt) (hm : m = n2.toInt.toNat) (hq : jW v2 (∃ z : Int32, z.toInt = n2.toInt + 1 ∧ ρ' = upd (upd (upd (upd ρ (78 + 3 * m) a) (79 + 3 * m) b) (80 + 3 * m) c) (2) z) (ρ' = ρ)) : jR n0 n1 x n3 fh fs fk (cif v (upd q1 m a) q1) (cif v (upd q2 m b) q2) (cif v (upd q3 m c) q3) ρ' := by
  by_cases e : 0 ≤ v.toInt
  · obtain ⟨z, hz, rfl⟩ := hq.1 (by omega)
    clear hq
    obtain ⟨⟨a0, a1, a2, a3⟩, ⟨⟨r0, r1⟩, ⟨r2, r3⟩, ⟨r4, r5⟩, r6, r7⟩, hh, hs, hp⟩ := h
    have h9 := hy e
    rw [cif_t e, cif_t e, cif_t e]
    have o : ∀ j : Nat, j ≠ 2 → j ≠ 78 + 3 * m → j ≠ 79 + 3 * m → j ≠ 80 + 3 * m → upd (upd (upd (upd ρ (78 + 3 * m) a) (79 + 3 * m) b) (80 + 3 * m) c) (2) z j = ρ j := fun j h1 h2 h3 h4 => by
      rw [pk_un h1, pk_un h4, pk_un h3, pk_un h2]
    refine ⟨⟨(o 0 (by omega) (by omega) (by omega) (by omega)).trans a0, (o 1 (by omega) (by omega) (by omega) (by omega)).trans a1, pk_us.trans ((fi_eq rfl rfl).mpr (by omega)), (o 3 (by omega) (by omega) (by omega) (by omega)).trans a3⟩, ⟨⟨r0, r1⟩, ⟨r2, r3⟩, ⟨by omega, by omega⟩, r6, r7⟩, fun j hj => ?_, fun j hj => ?_, fun j hj => ?_⟩
    · rw [o _ (by omega) (by omega) (by omega) (by omega)]
      exact hh j hj
    · rw [o _ (by omega) (by omega) (by omega) (by omega), o _ (by omega) (by omega) (by omega) (by omega)]
      exact hs j hj
    · by_cases ej : j = m
      · subst ej
        rw [pk_us, pk_us, pk_us, pk_un (by omega), pk_un (by omega), pk_un (by omega), pk_us, pk_un (by omega), pk_un (by omega), pk_us, pk_un (by omega), pk_us]
        exact ⟨rfl, rfl, rfl⟩
      · rw [pk_un ej, pk_un ej, pk_un ej, o _ (by omega) (by omega) (by omega) (by omega), o _ (by omega) (by omega) (by omega) (by omega), o _ (by omega) (by omega) (by omega) (by omega)]
        exact hp j (by omega)
  · have e2 : v.toInt ≤ -1 := by omega
    rw [cif_f e2, cif_f e2, cif_f e2, hq.2 (by omega), (fi_eq rfl rfl).mpr (hn e2)]
    exact h
theorem jR.hears {v v2 p1 p2 p3 : Int32} {m : Nat} (h : jR n0 n1 n2 n3 fh fs fk q1 q2 q3 ρ) (hv : v.toInt = v2.toInt) (hm : m = p1.toInt.toNat) (hy : 0 ≤ v.toInt → 0 ≤ p3.toInt ∧ p3.toInt ≤ 1 ∧ 0 ≤ p1.toInt ∧ p1.toInt < n0.toInt ∧ 0 ≤ p2.toInt ∧ p2.toInt < n0.toInt) (hq : (0 ≤ v2.toInt → ρ' = upd ρ (108 + m) (jm (ρ (108 + m)) p2 p3)) ∧ (v2.toInt ≤ -1 → ρ' = ρ)) : jR n0 n1 n2 n3 (cif v (upd fh m (jh (fh m) p2 p3)) fh) fs fk q1 q2 q3 ρ' := by
  by_cases e : 0 ≤ v.toInt
  · have h8 := hq.1 (by omega)
    subst h8
    obtain ⟨⟨a0, a1, a2, a3⟩, ⟨⟨r0, r1⟩, ⟨r2, r3⟩, ⟨r4, r5⟩, r6, r7⟩, hh, hs, hp⟩ := h
    have h9 := hy e
    rw [cif_t e]
    have hb := hh m (by omega)
    have hj := jh_jm (o := p2) (b := p3) hb.2.1 hb.2.2 (by omega) (by omega) (by omega) (by omega)
    refine ⟨⟨(pk_un (by omega)).trans a0, (pk_un (by omega)).trans a1, (pk_un (by omega)).trans a2, (pk_un (by omega)).trans a3⟩, ⟨⟨r0, r1⟩, ⟨r2, r3⟩, ⟨r4, r5⟩, r6, r7⟩, fun j hj9 => ?_, fun j hj9 => ?_, fun j hj9 => ?_⟩
    · by_cases ej : j = m
      · subst ej
        rw [pk_us, pk_us, ← hb.1]
        exact hj
      · rw [pk_un ej, pk_un (by omega)]
        exact hh j hj9
    · rw [pk_un (by omega), pk_un (by omega)]
      exact hs j hj9
    · rw [pk_un (by omega), pk_un (by omega), pk_un (by omega)]
      exact hp j hj9
  · have e2 : v.toInt ≤ -1 := by omega
    rw [cif_f e2, hq.2 (by omega)]
    exact h
theorem jR.sights {x : Int32} (h : jR n0 n1 n2 n3 fh fs fk q1 q2 q3 ρ) (h0 : 0 ≤ x.toInt) (h8 : x.toInt ≤ 8) (e : ρ' 3 = x) (o : ∀ j : Nat, (j < 3 ∨ (58 ≤ j ∧ j < 116)) → ρ' j = ρ j) : jR n0 n1 n2 x fh fs fk q1 q2 q3 ρ' := by
  obtain ⟨⟨a0, a1, a2, a3⟩, ⟨⟨r0, r1⟩, ⟨r2, r3⟩, ⟨r4, r5⟩, r6, r7⟩, hh, hs, hp⟩ := h
  refine ⟨⟨(o 0 (by omega)).trans a0, (o 1 (by omega)).trans a1, (o 2 (by omega)).trans a2, e⟩, ⟨⟨r0, r1⟩, ⟨r2, r3⟩, ⟨r4, r5⟩, h0, h8⟩, fun j hj => ?_, fun j hj => ?_, fun j hj => ?_⟩
  · rw [o _ (by omega)]
    exact hh j hj
  · rw [o _ (by omega), o _ (by omega)]
    exact hs j hj
  · rw [o _ (by omega), o _ (by omega), o _ (by omega)]
    exact hp j hj
theorem jR.sight {v v2 x a b c d e9 : Int32} {m : Nat} (h : jR n0 n1 n2 n3 fh fs fk q1 q2 q3 ρ) (hv : v.toInt = v2.toInt) (hy : 0 ≤ v.toInt → n3.toInt ≤ 7 ∧ x.toInt = n3.toInt + 1) (hn : v.toInt ≤ -1 → x.toInt = n3.toInt) (hm : m = n3.toInt.toNat) (hq : jW v2 (∃ z : Int32, z.toInt = n3.toInt + 1 ∧ ρ' = upd (upd (upd (upd (upd (upd ρ (116 + 5 * m) a) (117 + 5 * m) b) (118 + 5 * m) c) (119 + 5 * m) d) (120 + 5 * m) e9) (3) z) (ρ' = ρ)) : jR n0 n1 n2 x fh fs fk q1 q2 q3 ρ' := by
  have hr3 := h.2.1.2.2.2
  by_cases e : 0 ≤ v.toInt
  · obtain ⟨z, hz, rfl⟩ := hq.1 (by omega)
    clear hq
    have h9 := hy e
    exact h.sights (by omega) (by omega) (pk_us.trans ((fi_eq rfl rfl).mpr (by omega))) (fun j hj => by
      rw [pk_un (by omega), pk_un (by omega), pk_un (by omega), pk_un (by omega), pk_un (by omega), pk_un (by omega)])
  · have e2 : v.toInt ≤ -1 := by omega
    rw [hq.2 (by omega), (fi_eq rfl rfl).mpr (hn e2)]
    exact h
theorem jR.forget {x : Int32} (h : jR n0 n1 n2 n3 fh fs fk q1 q2 q3 ρ) (hx : x.toInt = 0) (hq : ρ' = upd ρ 3 0) : jR n0 n1 n2 x fh fs fk q1 q2 q3 ρ' := by
  subst hq
  exact h.sights (by omega) (by omega) (pk_us.trans ((fi_eq (show (0 : Int32).toInt = 0 by decide) rfl).mpr hx.symm)) (fun j hj => pk_un (by omega))
theorem jR.row {x : Int32} {f9 f8 : Nat → Int32} (h : jR n0 n1 n2 n3 fh fs fk q1 q2 q3 ρ) (e1 : ρ' 1 = x) (h0 : 0 ≤ x.toInt) (h10 : x.toInt ≤ 10) (hc : ∀ j : Nat, (j : Int) < x.toInt → f9 j = ρ' (58 + 2 * j) ∧ f8 j = ρ' (59 + 2 * j)) (o : ∀ j : Nat, j ≠ 1 → ¬ (58 ≤ j ∧ j < 78) → ρ' j = ρ j) : jR n0 x n2 n3 fh f9 f8 q1 q2 q3 ρ' := by
  obtain ⟨⟨a0, a1, a2, a3⟩, ⟨⟨r0, r1⟩, ⟨r2, r3⟩, ⟨r4, r5⟩, r6, r7⟩, hh, hs, hp⟩ := h
  refine ⟨⟨(o 0 (by omega) (by omega)).trans a0, e1, (o 2 (by omega) (by omega)).trans a2, (o 3 (by omega) (by omega)).trans a3⟩, ⟨⟨r0, r1⟩, ⟨h0, h10⟩, ⟨r4, r5⟩, r6, r7⟩, fun j hj => ?_, hc, fun j hj => ?_⟩
  · rw [o _ (by omega) (by omega)]
    exact hh j hj
  · rw [o _ (by omega) (by omega), o _ (by omega) (by omega), o _ (by omega) (by omega)]
    exact hp j hj
/-- BACK: all of it, or nothing -/
theorem jR.back {m0 m1 m2 m3 x0 x1 x2 x3 v : Int32} {gh gs gk s1 s2 s3 σ : Nat → Int32} (h : jR n0 n1 n2 n3 fh fs fk q1 q2 q3 ρ) (hy : 0 ≤ v.toInt → jR m0 m1 m2 m3 gh gs gk s1 s2 s3 σ ∧ rK3 σ ρ' ∧ x0.toInt = m0.toInt ∧ x1.toInt = m1.toInt ∧ x2.toInt = m2.toInt ∧ x3.toInt = m3.toInt) (hn : v.toInt ≤ -1 → ρ' = ρ ∧ x0.toInt = n0.toInt ∧ x1.toInt = n1.toInt ∧ x2.toInt = n2.toInt ∧ x3.toInt = n3.toInt) : jR x0 x1 x2 x3 (cif v gh fh) (cif v gs fs) (cif v gk fk) (cif v s1 q1) (cif v s2 q2) (cif v s3 q3) ρ' := by
  by_cases e : 0 ≤ v.toInt
  · obtain ⟨g, g9, y0, y1, y2, y3⟩ := hy e
    rw [cif_t e, cif_t e, cif_t e, cif_t e, cif_t e, cif_t e, (fi_eq rfl rfl).mpr y0, (fi_eq rfl rfl).mpr y1, (fi_eq rfl rfl).mpr y2, (fi_eq rfl rfl).mpr y3]
    exact g.rel g9
  · have e2 : v.toInt ≤ -1 := by omega
    obtain ⟨g, y0, y1, y2, y3⟩ := hn e2
    rw [cif_f e2, cif_f e2, cif_f e2, cif_f e2, cif_f e2, cif_f e2, (fi_eq rfl rfl).mpr y0, (fi_eq rfl rfl).mpr y1, (fi_eq rfl rfl).mpr y2, (fi_eq rfl rfl).mpr y3, g]
    exact h
end JRS
/-- Hills at a, of region r, stand as the row ρ says -/
def jI (D : va_G) (ld : Nat → Nat) (a r : Nat) (ρ : Nat → Int32) (H : Heap) : Prop := ∃ (n0 n1 n2 n3 : Int32) (fh fs fk q1 q2 q3 : Nat → Int32), jC D ld a r n0 n1 n2 n3 fh fs fk q1 q2 q3 H ∧ jR n0 n1 n2 n3 fh fs fk q1 q2 q3 ρ
theorem jI.rel {D : va_G} {ld : Nat → Nat} {a r : Nat} {ρ ρ' : Nat → Int32} {H : Heap} (h : jI D ld a r ρ H) (e : rK3 ρ ρ') : jI D ld a r ρ' H := by
  obtain ⟨n0, n1, n2, n3, fh, fs, fk, q1, q2, q3, h1, h2⟩ := h
  exact ⟨_, _, _, _, _, _, _, _, _, _, h1, h2.rel e⟩
theorem jI.call {D : va_G} {ld : Nat → Nat} {t : tk_T} {L : List (Nat × Nat × Nat)} {a r : Nat} {ρ : Nat → Int32} {H H1 : Heap} (hA : jA ld t a r) (h : jI D ld a r ρ H) (hq : ∀ q : Nat, q < H.size → ¬ tk_w t L q → H1[q]? = H[q]?) (hL : jok r L = true) : jI D ld a r ρ H1 := by
  obtain ⟨n0, n1, n2, n3, fh, fs, fk, q1, q2, q3, h1, h2⟩ := h
  exact ⟨_, _, _, _, _, _, _, _, _, _, jC.call hA h1 hq hL, h2⟩
theorem jI.all {D : va_G} {ld : Nat → Nat} {t : tk_T} {a r : Nat} {ρ : Nat → Int32} {H H1 : Heap} (hA : jA ld t a r) (h : jI D ld a r ρ H) (hq : ∀ q : Nat, (t q).1 ≠ 0 → H1[q]? = H[q]?) : jI D ld a r ρ H1 := by
  obtain ⟨n0, n1, n2, n3, fh, fs, fk, q1, q2, q3, h1, h2⟩ := h
  exact ⟨_, _, _, _, _, _, _, _, _, _, jC.all hA h1 hq, h2⟩
/-- the kept flags, and the IMAGES that are kept -/
def jK (D : va_G) (ld : Nat → Nat) (ρ4 ρ5 : Nat → Int32) (H : Heap) : Prop := ∃ kf : Nat → Int32, tk_ab H (ld 49) kf ∧ (kf 0 = ρ5 0 ∧ kf 1 = ρ5 1) ∧ ((0 ≤ (kf 0).toInt ∧ (kf 0).toInt ≤ 1) ∧ 0 ≤ (kf 1).toInt ∧ (kf 1).toInt ≤ 1) ∧ ((kf 0).toInt = 1 → jI D ld (ld 24) 6 (fun i => ρ4 (0 + i)) H) ∧ ((kf 1).toInt = 1 → jI D ld (ld 25) 7 (fun i => ρ4 (5560 + i)) H)
theorem jK.call {D : va_G} {ld : Nat → Nat} {t : tk_T} {L : List (Nat × Nat × Nat)} {ρ4 ρ5 : Nat → Int32} {H H1 : Heap} (hT : jT ld t) (h : jK D ld ρ4 ρ5 H) (hq : ∀ q : Nat, q < H.size → ¬ tk_w t L q → H1[q]? = H[q]?) (h6 : jok 6 L = true) (h7 : jok 7 L = true) (h29 : ∀ q ∈ L, 29 = q.1 → q.2.1 ≤ 0 → 0 ≤ q.2.2 → False) : jK D ld ρ4 ρ5 H1 := by
  obtain ⟨kf, g1, g2, g3, g4, g5⟩ := h
  exact ⟨kf, g1.call hq (tk_w.no hT.2.2.2.2 h29), g2, g3, fun e => jI.call hT.2.1 (g4 e) hq h6, fun e => jI.call hT.2.2.1 (g5 e) hq h7⟩
theorem jK.all {D : va_G} {ld : Nat → Nat} {t : tk_T} {ρ4 ρ5 : Nat → Int32} {H H1 : Heap} (hT : jT ld t) (h : jK D ld ρ4 ρ5 H) (hq : ∀ q : Nat, (t q).1 ≠ 0 → H1[q]? = H[q]?) : jK D ld ρ4 ρ5 H1 := by
  obtain ⟨kf, g1, g2, g3, g4, g5⟩ := h
  exact ⟨kf, g1.kept (hq _ (by rw [hT.2.2.2.2]; exact Nat.succ_ne_zero _)), g2, g3, fun e => jI.all hT.2.1 (g4 e) hq, fun e => jI.all hT.2.2.1 (g5 e) hq⟩
/-- at the loop: kinds of known places, the real Hills, IMAGES, the TAPE, its length, COUGHS -/
def lw_J (D : va_G) (ld : Nat → Nat) (t : tk_T) (a0 : Nat) (F : Nat → Int32) (R : Nat → Nat → Int32) (H : Heap) : Prop := jT ld t ∧ jI D ld (ld 20) 0 (R 3) H ∧ jK D ld (R 4) (R 5) H ∧ (∃ ft : Nat → Int32, tk_c H (ld 26) 400 ft ∧ ∀ j : Nat, (j : Int) < (F 13).toInt → ft j = R 12 j) ∧ tk_f D H a0 12 13 (.int (F 13)) ∧ tk_f D H a0 12 15 (.int (F 11))
theorem jI.zero {D : va_G} {cy : Nat → ClassId} {ld : Nat → Nat} {t : tk_T} {H : Heap} {a r : Nat} {ρ : Nat → Int32} (hG : tk_G D cy ld t [] H) (hA : jA ld t a r) (h0 : tk_f D H a 2 0 (.int 0)) (h1 : tk_f D H a 2 4 (.int 0)) (h2 : tk_f D H a 2 7 (.int 0)) (h3 : tk_f D H a 2 11 (.int 0)) (e0 : ρ 0 = 0) (e1 : ρ 1 = 0) (e2 : ρ 2 = 0) (e3 : ρ 3 = 0) : jI D ld a r ρ H := by
  obtain ⟨n0, n1, n2, n3, fh, fs, fk, q1, q2, q3, ⟨-, -, -, -, g4, g5, g6, g7, g8, g9⟩, -⟩ := jC.ex hG hA
  have z : (0 : Int32).toInt = 0 := by decide
  exact ⟨0, 0, 0, 0, fh, fs, fk, q1, q2, q3, ⟨h0, h1, h2, h3, g4, g5, g6, g7, g8, g9⟩, ⟨e0, e1, e2, e3⟩, by rw [z]; omega, fun j hj => absurd hj (by rw [z]; omega), fun j hj => absurd hj (by rw [z]; omega), fun j hj => absurd hj (by rw [z]; omega)⟩
theorem jC.rng {D : va_G} {cy : Nat → ClassId} {ld : Nat → Nat} {t : tk_T} {H : Heap} {kf0 : Int32} {a r : Nat} {ρ : Nat → Int32} (hG : tk_G D cy ld t [] H) (hA : jA ld t a r) (hk : kf0.toInt = 1 → jI D ld a r ρ H) : ∃ (n0 n1 n2 n3 : Int32) (fh fs fk q1 q2 q3 : Nat → Int32), jC D ld a r n0 n1 n2 n3 fh fs fk q1 q2 q3 H ∧ ((0 ≤ n0.toInt ∧ n0.toInt ≤ 8) ∧ (0 ≤ n1.toInt ∧ n1.toInt ≤ 10) ∧ (0 ≤ n2.toInt ∧ n2.toInt ≤ 10) ∧ 0 ≤ n3.toInt ∧ n3.toInt ≤ 8) ∧ (kf0.toInt = 1 → jR n0 n1 n2 n3 fh fs fk q1 q2 q3 ρ) := by
  by_cases e : kf0.toInt = 1
  · obtain ⟨n0, n1, n2, n3, fh, fs, fk, q1, q2, q3, h1, h2⟩ := hk e
    exact ⟨_, _, _, _, _, _, _, _, _, _, h1, h2.2.1, fun _ => h2⟩
  · obtain ⟨n0, n1, n2, n3, fh, fs, fk, q1, q2, q3, h1, h2⟩ := jC.ex hG hA
    exact ⟨_, _, _, _, _, _, _, _, _, _, h1, h2, fun h => absurd h e⟩
theorem jcp_in {f g : Nat → Int32} {d : Nat} : rK3 f (fun i => va_cpy f g 0 d 5560 (d + i)) := fun j hj => by
  show va_cpy f g 0 d 5560 (d + j) = f j
  rw [mz_cpin (by omega) (by omega), show 0 + (d + j - d) = j by omega]
theorem jcp_out {f g : Nat → Int32} {s d n p : Nat} (h : ∀ j : Nat, j < 116 → p + j < d ∨ d + n ≤ p + j) : rK3 (fun i => g (p + i)) (fun i => va_cpy f g s d n (p + i)) := fun j hj => by
  show va_cpy f g s d n (p + j) = g (p + j)
  exact mz_cpout (h j (by omega))
theorem jcp_back {f g : Nat → Int32} {p : Nat} : rK3 (fun i => f (p + i)) (va_cpy f g p 0 5560) := fun j hj => by
  show va_cpy f g p 0 5560 j = f (p + j)
  rw [mz_cpin (by omega) (by omega), Nat.sub_zero]
theorem jq1 {a b c : Int} (h1 : a + c = 0) (h2 : b + c = 0) : a = b := by omega
theorem jq2 {a b c : Int} (h1 : c + a = 0) (h2 : c + b = 0) : a = b := by omega
theorem jq3 {a b c d : Int} (h1 : c + a + d = 0) (h2 : c + b + d = 0) : a = b := by omega
section JIM
variable {D : va_G} {ld : Nat → Nat} {H : Heap} {kf ρ3 ρ4 ρ5 ρ4' ρ5' fh fs fk q1 q2 q3 : Nat → Int32} {n0 n1 n2 n3 : Int32}
theorem jK.image0 (hkf : tk_ab H (ld 49) (upd kf 0 1)) (hk : kf 0 = ρ5 0 ∧ kf 1 = ρ5 1) (hr : (0 ≤ (kf 0).toInt ∧ (kf 0).toInt ≤ 1) ∧ 0 ≤ (kf 1).toInt ∧ (kf 1).toInt ≤ 1) (hC : jC D ld (ld 24) 6 n0 n1 n2 n3 fh fs fk q1 q2 q3 H) (hR : jR n0 n1 n2 n3 fh fs fk q1 q2 q3 ρ3) (hi : (kf 1).toInt = 1 → jI D ld (ld 25) 7 (fun i => ρ4 (5560 + i)) H) (e4 : ρ4' = va_cpy ρ3 ρ4 0 0 5560) (e5 : ρ5' = upd ρ5 0 1) : jK D ld ρ4' ρ5' H := by
  subst e4
  subst e5
  refine ⟨_, hkf, ⟨by rw [pk_us, pk_us], by rw [pk_un (by decide), pk_un (by decide)]; exact hk.2⟩, ⟨by rw [pk_us]; decide, by rw [pk_un (by decide)]; exact hr.2⟩, fun _ => ⟨_, _, _, _, _, _, _, _, _, _, hC, hR.rel jcp_in⟩, fun e => ?_⟩
  rw [pk_un (by decide)] at e
  exact (hi e).rel (jcp_out (fun j hj => by omega))
theorem jK.image1 (hkf : tk_ab H (ld 49) (upd kf 1 1)) (hk : kf 0 = ρ5 0 ∧ kf 1 = ρ5 1) (hr : (0 ≤ (kf 0).toInt ∧ (kf 0).toInt ≤ 1) ∧ 0 ≤ (kf 1).toInt ∧ (kf 1).toInt ≤ 1) (hC : jC D ld (ld 25) 7 n0 n1 n2 n3 fh fs fk q1 q2 q3 H) (hR : jR n0 n1 n2 n3 fh fs fk q1 q2 q3 ρ3) (hi : (kf 0).toInt = 1 → jI D ld (ld 24) 6 (fun i => ρ4 (0 + i)) H) (e4 : ρ4' = va_cpy ρ3 ρ4 0 5560 5560) (e5 : ρ5' = upd ρ5 1 1) : jK D ld ρ4' ρ5' H := by
  subst e4
  subst e5
  refine ⟨_, hkf, ⟨by rw [pk_un (by decide), pk_un (by decide)]; exact hk.1, by rw [pk_us, pk_us]⟩, ⟨by rw [pk_un (by decide)]; exact hr.1, by rw [pk_us]; decide⟩, fun e => ?_, fun _ => ⟨_, _, _, _, _, _, _, _, _, _, hC, hR.rel jcp_in⟩⟩
  rw [pk_un (by decide)] at e
  exact (hi e).rel (jcp_out (fun j hj => by omega))
end JIM

