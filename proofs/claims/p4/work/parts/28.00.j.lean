/-- the two booleans of the row at a are g 0, g 1 -/
def tk_ab (H : Heap) (a : Nat) (g : Nat → Int32) : Prop := ∀ j : Nat, j < 2 → tk_a H a j (g j)
theorem tk_a.kept {H H1 : Heap} {a j : Nat} {x : Int32} (h : tk_a H a j x) (hq : H1[a]? = H[a]?) : tk_a H1 a j x := by
  obtain ⟨c, h1, h2⟩ := h
  exact ⟨c, hq.trans h1, h2⟩
theorem tk_a.eq {H : Heap} {a j : Nat} {x y : Int32} (h : tk_a H a j x) (h' : tk_a H a j y) : x = y := by
  obtain ⟨c1, h1, h2⟩ := h
  obtain ⟨c2, h3, h4⟩ := h'
  cases h1.symm.trans h3
  cases h2.symm.trans h4
  rfl
theorem tk_a.lt {H : Heap} {a j : Nat} {x : Int32} (h : tk_a H a j x) : a < H.size := by
  obtain ⟨c, h1, -⟩ := h
  exact (Array.getElem?_eq_some_iff.mp h1).1
theorem tk_ab.kept {H H1 : Heap} {a : Nat} {g : Nat → Int32} (h : tk_ab H a g) (hq : H1[a]? = H[a]?) : tk_ab H1 a g := fun j hj => (h j hj).kept hq
theorem tk_ab.call {H H1 : Heap} {a : Nat} {g : Nat → Int32} {w : Nat → Prop} (h : tk_ab H a g) (hq : ∀ q : Nat, q < H.size → ¬ w q → H1[q]? = H[q]?) (hn : ¬ w a) : tk_ab H1 a g := h.kept (hq a (h 0 (by decide)).lt hn)
theorem tk_ab.at {H : Heap} {a : Nat} {g : Nat → Int32} {i x : Int32} (h : tk_ab H a g) (hx : tk_a H a i.toNatClampNeg x) (h0 : 0 ≤ i.toInt) (h1 : i.toInt ≤ 1) : x = g i.toNatClampNeg := hx.eq (h _ (by
  have h9 : i.toNatClampNeg = i.toInt.toNat := rfl
  omega))
section KEPT
variable {p : Program} {l : Launch} {e : Env} {R : Room} {s : State} {m : MethodId} {args : Array Value} {below : List Frame} {meth : Method} {c : Code} {H H0 : Heap} {locs : List Loc} {cells slots : Nat} {Q : State → Prop} {A : Nat → Prop} {X : List Nat}
variable {pc : Nat} {ls : Array Slot} {rest : List Value} {D : va_G} {cy : Nat → ClassId} {ld : Nat → Nat} {t : tk_T} {cc : ByteArray} {a nn rr : Nat}
theorem tk_zastA (hx : p.tables.exec = Jvm.exec) (hb : c.code = cc) (hK : kk_K D cy ld s) (hG : tk_G D cy ld t X H) (hS : va_S A H0 H locs) {k : Nat} (ha : t a = (k, 2, rr)) (hk : 20 ≤ k) (hkA : ∀ e : va_E, tk_A cy ld t k 2 rr e ↔ ∃ f : Nat → Int32, e = .inl (cy 2, 2, .inl f)) (hX : a ∉ X) {i x : Int32} {I : Int} (hi : i.toInt = I) (h0 : 0 ≤ I) (h1 : I < ((2 : Nat) : Int)) (hA : A a) (hdg : decode cc pc = .ok (.bastore, 1)) {g : Nat → Int32} (hg : tk_ab H a g)
    (kk : ∀ (H1 : Heap) (locs1 : List Loc), tk_G D cy ld t X H1 → va_S A H0 H1 locs1 → (∀ q : Nat, q ≠ a → H1[q]? = H[q]?) → tk_ab H1 a (upd g i.toNatClampNeg (vp_nar .boolean x)) → W p l e R s m args below meth c H1 locs1 cells slots Q (F0 m (pc + 1) ls rest)) : W p l e R s m args below meth c H locs cells slots Q (F0 m pc ls (.int x :: .int i :: .ref a :: rest)) := by
  obtain ⟨e, h2, h3⟩ := hG.arr ha hk hX
  obtain ⟨f, rfl⟩ := (hkA e).mp h3
  obtain ⟨hv, hlt⟩ := tk_idx hi h0 h1
  refine W.zast hx hb h2 ((hK.1.2 2 _ rfl).1 2 (fun j => .int (f j))) (fun q => by cases q) (by show ¬ (i < 0 ∨ (arrV _ _ _).slots.size ≤ _); rw [arrV_size]; exact hv) rfl rfl hdg fun H1 e z oq => ?_
  have hat1 : va_at D vwCl (a, .inl (cy 2, 2, .inl (upd f i.toNatClampNeg (vp_nar .boolean x)))) H1 := by
    show H1[a]? = some (vp_cell _ _)
    rw [e]
    rw [vp_cell_i, vp_cell_i, arrV_store]
    congr 2
    funext q
    by_cases hq : q = i.toNatClampNeg
    · subst hq
      simp [updV, upd, vp_nar]
      try rfl
    · simp [updV, upd, hq]
  refine kk H1 _ (hG.put hat1 ?_ oq) (hS.put z oq hA) oq (fun j hj => ?_)
  · rw [ha]
    show tk_O cy ld t k 2 rr _
    unfold tk_O
    rw [if_neg (Nat.not_lt.mpr hk)]
    exact (hkA _).mpr ⟨_, rfl⟩
  · have q0 : tk_a H a j (f j) := ⟨_, h2, arrV_read _ _ hj⟩
    have q1 : f j = g j := q0.eq (hg j hj)
    have q2 : tk_a H1 a j (upd f i.toNatClampNeg (vp_nar .boolean x) j) := ⟨_, hat1, arrV_read _ _ hj⟩
    have q3 : upd f i.toNatClampNeg (vp_nar .boolean x) j = upd g i.toNatClampNeg (vp_nar .boolean x) j := by
      unfold upd
      rw [q1]
    rw [← q3]
    exact q2
end KEPT

/-- the first n places of the row at a are f -/
def tk_c (H : Heap) (a n : Nat) (f : Nat → Int32) : Prop := a < H.size ∧ ∀ j : Nat, j < n → tk_a H a j (f j)
theorem tk_c.kept {H H1 : Heap} {a n : Nat} {f : Nat → Int32} (h : tk_c H a n f) (hq : H1[a]? = H[a]?) : tk_c H1 a n f := ⟨by
  have e := hq
  rw [Array.getElem?_eq_getElem h.1] at e
  exact (Array.getElem?_eq_some_iff.mp e).1, fun j hj => (h.2 j hj).kept hq⟩
theorem tk_c.lt {H : Heap} {a n : Nat} {f : Nat → Int32} (h : tk_c H a n f) : a < H.size := h.1
theorem tk_c.call {H H1 : Heap} {a n : Nat} {f : Nat → Int32} {w : Nat → Prop} (h : tk_c H a n f) (hq : ∀ q : Nat, q < H.size → ¬ w q → H1[q]? = H[q]?) (hn : ¬ w a) : tk_c H1 a n f := h.kept (hq a h.1 hn)
theorem tk_c.at {H : Heap} {a n : Nat} {f : Nat → Int32} {j : Nat} {x : Int32} (h : tk_c H a n f) (hx : tk_a H a j x) (hj : j < n) : x = f j := hx.eq (h.2 j hj)
theorem tk_c.cg {H : Heap} {a n : Nat} {f g : Nat → Int32} (h : tk_c H a n f) (e : f = g) : tk_c H a n g := e ▸ h
theorem tk_c.ex {D : va_G} {cy : Nat → ClassId} {ld : Nat → Nat} {t : tk_T} {X : List Nat} {H : Heap} {a k n r : Nat} (hG : tk_G D cy ld t X H) (ha : t a = (k, n, r)) (hk : 20 ≤ k) (hkA : ∀ e : va_E, tk_A cy ld t k n r e → ∃ f : Nat → Int32, e = .inl (cy 0, n, .inl f) ∧ ∀ j : Nat, j < n → tk_E k r j (f j).toInt) (hX : a ∉ X) : ∃ f : Nat → Int32, tk_c H a n f := by
  obtain ⟨e, h2, h3⟩ := hG.arr ha hk hX
  obtain ⟨f, rfl, -⟩ := hkA e h3
  exact ⟨f, h2.lt, fun j hj => ⟨_, h2, arrV_read _ _ hj⟩⟩
/-- what an answer below 0 leaves, and any other -/
def cif (r : Int32) (f g : Nat → Int32) : Nat → Int32 := if 0 ≤ r.toInt then f else g
theorem cif_t {r : Int32} {f g : Nat → Int32} (h : 0 ≤ r.toInt) : cif r f g = f := if_pos h
theorem cif_f {r : Int32} {f g : Nat → Int32} (h : r.toInt ≤ -1) : cif r f g = g := if_neg (by omega)
/-- who HEARS: one bit is set or taken away -/
def jh (h o b : Int32) : Int32 := if b.toInt = 1 then h ||| ((1 : Int32) <<< (o &&& 31)) else h &&& (((1 : Int32) <<< (o &&& 31)) ^^^ ((-1) : Int32))
/-- a byte of a number, as the class takes it -/
def jb (x s : Int32) : Int32 := (x.toUInt32 >>> (s.toUInt32 &&& Int32.toUInt32 31)).toInt32 &&& (255 : Int32)
def jpf (f : Nat → Int32) (n : Nat) (x : Int32) : Nat → Int32 := upd (upd (upd (upd f n (jb x 24)) (n + 1) (jb x 16)) (n + 2) (jb x 8)) (n + 3) (jb x 0)
/-- Hills at a with region r: how many SINGERS, VERSES, PARTS, SIGHTS, and six rows -/
def jC (D : va_G) (ld : Nat → Nat) (a r : Nat) (n0 n1 n2 n3 : Int32) (fh fs fk q1 q2 q3 : Nat → Int32) (H : Heap) : Prop := tk_f D H a 2 0 (.int n0) ∧ tk_f D H a 2 4 (.int n1) ∧ tk_f D H a 2 7 (.int n2) ∧ tk_f D H a 2 11 (.int n3) ∧ tk_c H (ld (70 + r)) 8 fh ∧ tk_c H (ld (80 + r)) 10 fs ∧ tk_c H (ld (90 + r)) 10 fk ∧ tk_c H (ld (100 + r)) 10 q1 ∧ tk_c H (ld (110 + r)) 10 q2 ∧ tk_c H (ld (120 + r)) 10 q3
/-- a ROW: k pairs of the TAPE read, of L bytes -/
def rw9 (tp : Nat → Int32) (L n0 : Int) (f g : Nat → Int32) : Nat → Int × Int × Int × (Nat → Int32) × (Nat → Int32)
  | 0 => (n0, 0, 0, f, g)
  | k + 1 => if 2 * (k : Int) + 1 < L ∧ 1 ≤ (tp (2 * k)).toInt ∧ (tp (2 * k)).toInt ≤ 99 ∧ 0 ≤ (tp (2 * k + 1)).toInt ∧ (tp (2 * k + 1)).toInt ≤ 4 ∧ (rw9 tp L n0 f g k).1 ≤ 9 then ((rw9 tp L n0 f g k).1 + 1, (rw9 tp L n0 f g k).2.1 + 1, (rw9 tp L n0 f g k).2.2.1, upd (rw9 tp L n0 f g k).2.2.2.1 (rw9 tp L n0 f g k).1.toNat (tp (2 * k)), upd (rw9 tp L n0 f g k).2.2.2.2 (rw9 tp L n0 f g k).1.toNat (tp (2 * k + 1))) else ((rw9 tp L n0 f g k).1, (rw9 tp L n0 f g k).2.1, (rw9 tp L n0 f g k).2.2.1 + 1, (rw9 tp L n0 f g k).2.2.2)
theorem rw9.s (tp : Nat → Int32) (L n0 : Int) (f g : Nat → Int32) (k : Nat) : rw9 tp L n0 f g (k + 1) = if 2 * (k : Int) + 1 < L ∧ 1 ≤ (tp (2 * k)).toInt ∧ (tp (2 * k)).toInt ≤ 99 ∧ 0 ≤ (tp (2 * k + 1)).toInt ∧ (tp (2 * k + 1)).toInt ≤ 4 ∧ (rw9 tp L n0 f g k).1 ≤ 9 then ((rw9 tp L n0 f g k).1 + 1, (rw9 tp L n0 f g k).2.1 + 1, (rw9 tp L n0 f g k).2.2.1, upd (rw9 tp L n0 f g k).2.2.2.1 (rw9 tp L n0 f g k).1.toNat (tp (2 * k)), upd (rw9 tp L n0 f g k).2.2.2.2 (rw9 tp L n0 f g k).1.toNat (tp (2 * k + 1))) else ((rw9 tp L n0 f g k).1, (rw9 tp L n0 f g k).2.1, (rw9 tp L n0 f g k).2.2.1 + 1, (rw9 tp L n0 f g k).2.2.2) := rfl
theorem rw9_no {tp : Nat → Int32} {L n0 : Int} {f g F G : Nat → Int32} {k : Nat} {n c r i n1 c1 r1 : Int} (hw : rw9 tp L n0 f g k = (n, c, r, F, G)) (hi : i = 2 * (k : Int)) (hL : L ≤ i + 1) (e1 : n1 = n) (e2 : c1 = c) (e3 : r1 = r + 1) : rw9 tp L n0 f g (k + 1) = (n1, c1, r1, F, G) := by
  rw [rw9.s, hw, if_neg (fun h => by have h1 := h.1; omega), e1, e2, e3]
theorem rw9_call {tp : Nat → Int32} {L n0 : Int} {f g F G : Nat → Int32} {k : Nat} {n c r i n1 c1 r1 : Int} {a b v : Int32} {m : Nat} (hw : rw9 tp L n0 f g k = (n, c, r, F, G)) (hi : i = 2 * (k : Int)) (hL : i + 1 < L) (ha : a = tp (2 * k)) (hb : b = tp (2 * k + 1)) (hm : m = n.toNat) (hy : 0 ≤ v.toInt → 1 ≤ a.toInt ∧ a.toInt ≤ 99 ∧ 0 ≤ b.toInt ∧ b.toInt ≤ 4 ∧ n ≤ 9) (hn : v.toInt ≤ -1 → ¬ (1 ≤ a.toInt ∧ a.toInt ≤ 99 ∧ 0 ≤ b.toInt ∧ b.toInt ≤ 4 ∧ n ≤ 9)) (h1 : 0 ≤ v.toInt → n1 = n + 1 ∧ c1 = c + 1 ∧ r1 = r) (h0 : v.toInt ≤ -1 → n1 = n ∧ c1 = c ∧ r1 = r + 1) : rw9 tp L n0 f g (k + 1) = (n1, c1, r1, cif v (upd F m a) F, cif v (upd G m b) G) := by
  rw [rw9.s, hw, ← ha, ← hb, hm]
  by_cases e : 0 ≤ v.toInt
  · have h9 := hy e
    rw [if_pos ⟨by omega, h9.1, h9.2.1, h9.2.2.1, h9.2.2.2.1, h9.2.2.2.2⟩, (h1 e).1, (h1 e).2.1, (h1 e).2.2, cif_t e, cif_t e]
  · have e2 : v.toInt ≤ -1 := by omega
    rw [if_neg (fun h => hn e2 h.2), (h0 e2).1, (h0 e2).2.1, (h0 e2).2.2, cif_f e2, cif_f e2]

section JXB
variable {p : Program} {l : Launch} {e : Env} {R : Room} {s : State} {m : MethodId} {args : Array Value} {below : List Frame} {meth : Method} {c : Code} {H : Heap} {locs : List Loc} {cells slots : Nat} {Q : State → Prop}
variable {pc : Nat} {ls : Array Slot} {rest st : List Value} {A : Nat → Prop} {H0 : Heap} {mc ms nL maxL n index : Nat} {D : va_G} {cy : Nat → ClassId} {ld : Nat → Nat} {own C : String} {Ts wsy : List Cond} {cc bytes : ByteArray} {y : MethodName} {ret : Option FieldType} {rm : Room} {As : List Value} {a b ci nn rr : Nat} {t : tk_T} {X : List Nat} {T : u_T} {N : Nat} {L : List (Nat × Nat × Nat)}
theorem tk_iastC (hx : p.tables.exec = Jvm.exec) (hb : c.code = cc) (hK : kk_K D cy ld s) (hG : tk_G D cy ld t X H) (hS : va_S A H0 H locs) {k : Nat} (ha : t a = (k, nn, rr)) (hk : 20 ≤ k) (hkA : ∀ e : va_E, tk_A cy ld t k nn rr e ↔ ∃ f : Nat → Int32, e = .inl (cy 0, nn, .inl f) ∧ ∀ j : Nat, j < nn → tk_E k rr j (f j).toInt) (hX : a ∉ X) {i x : Int32} {I : Int} (hi : i.toInt = I) (h0 : 0 ≤ I) (h1 : I < (nn : Int)) (hE : tk_E k rr I x.toInt) (hA : A a) (hdg : decode cc pc = .ok (.iastore, 1)) {g : Nat → Int32} (hg : tk_c H a nn g)
    (kk : ∀ (H1 : Heap) (locs1 : List Loc), tk_G D cy ld t X H1 → va_S A H0 H1 locs1 → (∀ q : Nat, q ≠ a → H1[q]? = H[q]?) → tk_c H1 a nn (upd g i.toNatClampNeg x) → W p l e R s m args below meth c H1 locs1 cells slots Q (F0 m (pc + 1) ls rest)) : W p l e R s m args below meth c H locs cells slots Q (F0 m pc ls (.int x :: .int i :: .ref a :: rest)) := by
  obtain ⟨e, h2, h3⟩ := hG.arr ha hk hX
  obtain ⟨f, rfl, hf⟩ := (hkA e).mp h3
  obtain ⟨hv, hlt⟩ := tk_idx hi h0 h1
  refine W.iast hx hb h2 ((hK.1.2 0 _ rfl).1 nn (fun j => .int (f j))) (fun q => by cases q) (by show ¬ (i < 0 ∨ (arrV _ _ _).slots.size ≤ _); rw [arrV_size]; exact hv) rfl rfl hdg fun H1 e z oq => ?_
  have hat1 : va_at D vwCl (a, .inl (cy 0, nn, .inl (upd f i.toNatClampNeg x))) H1 := by
    show H1[a]? = some (vp_cell _ _)
    rw [e]
    rw [vp_cell_i, vp_cell_i, arrV_store]
    congr 2
    funext q
    by_cases hq : q = i.toNatClampNeg
    · subst hq
      simp [updV, upd]
    · simp [updV, upd, hq]
  have hcc : tk_c H1 a nn (upd g i.toNatClampNeg x) := ⟨hat1.lt, fun j hj => by
    have q1 : f j = g j := (show tk_a H a j (f j) from ⟨_, h2, arrV_read _ _ hj⟩).eq (hg.2 j hj)
    have q3 : upd f i.toNatClampNeg x j = upd g i.toNatClampNeg x j := by
      unfold upd
      rw [q1]
    rw [← q3]
    exact ⟨_, hat1, arrV_read _ _ hj⟩⟩
  refine kk H1 _ (hG.put (e := .inl (cy 0, nn, .inl (upd f i.toNatClampNeg x))) ?_ ?_ oq) (hS.put z oq hA) oq hcc
  · show H1[a]? = some (vp_cell _ _)
    rw [e]
    rw [vp_cell_i, vp_cell_i, arrV_store]
    congr 2
    funext q
    by_cases hq : q = i.toNatClampNeg
    · subst hq
      simp [updV, upd]
    · simp [updV, upd, hq]
  · rw [ha]
    show tk_O cy ld t k nn rr _
    unfold tk_O
    rw [if_neg (Nat.not_lt.mpr hk)]
    refine (hkA _).mpr ⟨_, rfl, fun j hj => ?_⟩
    by_cases hq : j = i.toNatClampNeg
    · subst hq
      rw [pk_us, tk_nat hi h0]
      exact hE
    · rw [pk_un hq]
      exact hf j hj
theorem tk_copyC (hexec : p.tables.exec = Jvm.exec) (hb : c.code = cc) (hml : c.maxLocals = ls.size) (hown : s.vm.findClass own = some m.cls) (hlink : (Cond.methodLink own index arraycopyName).before args s = true) (hnat : (Cond.native arraycopyName).before args s = true) (hstat : (Cond.static arraycopyName).before args s = true) (hini : (Cond.initialized "java/lang/System").before args s = true)
    (hK : kk_K D cy ld s) (hG : tk_G D cy ld t X H) (hS : va_S A H0 H locs) {a0 k0 k1 n0 n1 r0 r1 : Nat} (ha0 : t a0 = (k0, n0, r0)) (ha1 : t a = (k1, n1, r1)) (hk0 : 20 ≤ k0) (hk1 : 20 ≤ k1) (hkA0 : ∀ e : va_E, tk_A cy ld t k0 n0 r0 e → ∃ f : Nat → Int32, e = .inl (cy 0, n0, .inl f) ∧ ∀ j : Nat, j < n0 → tk_E k0 r0 j (f j).toInt) (hkA1 : ∀ e : va_E, tk_A cy ld t k1 n1 r1 e ↔ ∃ f : Nat → Int32, e = .inl (cy 0, n1, .inl f) ∧ ∀ j : Nat, j < n1 → tk_E k1 r1 j (f j).toInt) (hX0 : a0 ∉ X) (hX1 : a ∉ X)
    {sp dp nc : Int32} {SP DP NC : Int} (hsp : sp.toInt = SP) (hdp : dp.toInt = DP) (hnc : nc.toInt = NC) (h1 : 0 ≤ SP) (h2 : 0 ≤ DP) (h3 : 0 ≤ NC) (h4 : SP + NC ≤ (n0 : Int)) (h5 : DP + NC ≤ (n1 : Int)) (hE : ∀ (j x : Int), 0 ≤ j → j < NC → tk_E k0 r0 (SP + j) x → tk_E k1 r1 (DP + j) x) (hA : A a)
    (hframes : 1 ≤ R.frames) (hlocals : (rest.map fun v => v.category).sum + (nativeFrameWords "java/lang/System" "arraycopy" 5 + 11) ≤ R.locals) (hdg : decode cc pc = .ok (.invokestatic index, 3)) {f9 : Nat → Int32} (hf9 : tk_c H a0 n0 f9) (zs : SP = 0) (zd : DP = 0) (zn : NC = ((n1 : Nat) : Int))
    (kk : ∀ (H1 : Heap) (locs1 : List Loc), tk_G D cy ld t X H1 → va_S A H0 H1 locs1 → (∀ q : Nat, q ≠ a → H1[q]? = H[q]?) → tk_c H1 a n1 f9 → W p l e R s m args below meth c H1 locs1 cells slots Q (F0 m (pc + 3) ls rest)) : W p l e R s m args below meth c H locs cells slots Q (F0 m pc ls (.int nc :: .int dp :: .ref a :: .int sp :: .ref a0 :: rest)) := by
  obtain ⟨e0, hc0, q0⟩ := hG.arr ha0 hk0 hX0
  obtain ⟨f, rfl, hf⟩ := hkA0 e0 q0
  obtain ⟨e1, hc1, q1⟩ := hG.arr ha1 hk1 hX1
  obtain ⟨g, rfl, hg⟩ := (hkA1 e1).mp q1
  change H[a0]? = some (vp_cell (cy 0) (n0, .inl f)) at hc0
  change H[a]? = some (vp_cell (cy 0) (n1, .inl g)) at hc1
  have z1 := tk_nat hsp h1
  have z2 := tk_nat hdp h2
  have z3 := tk_nat hnc h3
  have g1 : ¬ sp < 0 := fun h => by have := Int32.lt_iff_toInt_lt.mp h; rw [hsp] at this; exact absurd this (by show ¬ SP < 0; omega)
  have g2 : ¬ dp < 0 := fun h => by have := Int32.lt_iff_toInt_lt.mp h; rw [hdp] at this; exact absurd this (by show ¬ DP < 0; omega)
  have g3 : ¬ nc < 0 := fun h => by have := Int32.lt_iff_toInt_lt.mp h; rw [hnc] at this; exact absurd this (by show ¬ NC < 0; omega)
  intro T hT Xs
  obtain ⟨-, kq0, hq0, cm0, hkk0⟩ := (hK.1.2 0 _ rfl).1 n0 (fun j => .int (f j))
  obtain ⟨-, kq1, hq1, cm1, hkk1⟩ := (hK.1.2 0 _ rfl).1 n1 (fun j => .int (g j))
  obtain ⟨vm', X', step⟩ := Xs.arraycopy hexec hown hlink hnat hstat hini (src := a0) (dst := a) (cs := vp_cell (cy 0) (n0, .inl f)) (cd := vp_cell (cy 0) (n1, .inl g)) (srcPos := sp) (destPos := dp) (n := nc) (by rw [hT]; exact hc0) (by rw [hT]; exact hc1)
    (fun _ h => by cases h) (fun _ h => by cases h) (fun h => by cases h) (fun h => by cases h) hq0 hq1 hkk0 hkk1 (by simp [refKind]) g1 g2 g3
    (by rw [hsp, hnc]; show ¬ _ > ((arrV (cy 0) n0 (fun j => .int (f j))).slots.size : Int); rw [arrV_size]; omega)
    (by rw [hdp, hnc]; show ¬ _ > ((arrV (cy 0) n1 (fun j => .int (g j))).slots.size : Int); rw [arrV_size]; omega)
    (fun vm₁ _ i hi => by
      have e : (vp_cell (cy 0) (n0, .inl f)).slots.getD (sp.toNatClampNeg + i) .null = .int (f (sp.toNatClampNeg + i)) := by
        show (arrV (cy 0) n0 (fun j => .int (f j))).slots.getD _ _ = _
        rw [Array.getD_eq_getD_getElem?, arrV_read _ _ (by omega)]
        rfl
      refine ⟨?_, ?_⟩
      · rw [e]
        rfl
      · rw [e]
        exact trivial)
    (g := F0 m pc ls (.int nc :: .int dp :: .ref a :: .int sp :: .ref a0 :: rest)) rfl (by rw [hml]) (rest := rest) rfl (by rw [hb]; exact hdg) hframes (by show 2 * 0 + _ + _ ≤ _; omega)
  have e1 : copied (vp_cell (cy 0) (n0, .inl f)) (vp_cell (cy 0) (n1, .inl g)) sp dp nc = vp_cell (cy 0) (n1, .inl (va_cpy f g sp.toNatClampNeg dp.toNatClampNeg nc.toNatClampNeg)) := va_copied (fun z => .int z) (cy 0) (cy 0) f g (by omega)
  rw [e1] at X' step
  have hl : a < H.size := (Array.getElem?_eq_some_iff.mp hc1).1
  have hheap : ((T.setVm vm').setCell a (vp_cell (cy 0) (n1, .inl (va_cpy f g sp.toNatClampNeg dp.toNatClampNeg nc.toNatClampNeg)))).heap = H.setIfInBounds a (vp_cell (cy 0) (n1, .inl (va_cpy f g sp.toNatClampNeg dp.toNatClampNeg nc.toNatClampNeg))) := by rw [← hT]; rfl
  have oq : ∀ q : Nat, q ≠ a → (H.setIfInBounds a (vp_cell (cy 0) (n1, .inl (va_cpy f g sp.toNatClampNeg dp.toNatClampNeg nc.toNatClampNeg))))[q]? = H[q]? := fun q hq => by simp [Array.getElem?_setIfInBounds, Ne.symm hq]
  have hG1 : tk_G D cy ld t X (H.setIfInBounds a (vp_cell (cy 0) (n1, .inl (va_cpy f g sp.toNatClampNeg dp.toNatClampNeg nc.toNatClampNeg)))) := by
    refine hG.put (a := a) (e := .inl (cy 0, n1, .inl (va_cpy f g sp.toNatClampNeg dp.toNatClampNeg nc.toNatClampNeg))) ?_ ?_ oq
    · show (H.setIfInBounds a _)[a]? = some _
      simp [Array.getElem?_setIfInBounds, hl]
    · rw [ha1]
      show tk_O cy ld t k1 n1 r1 _
      unfold tk_O
      rw [if_neg (Nat.not_lt.mpr hk1)]
      refine (hkA1 _).mpr ⟨_, rfl, fun j hj => ?_⟩
      unfold va_cpy
      by_cases h : dp.toNatClampNeg ≤ j ∧ j < dp.toNatClampNeg + nc.toNatClampNeg
      · rw [if_pos h]
        have w := hf (sp.toNatClampNeg + (j - dp.toNatClampNeg)) (by omega)
        have := hE ((j : Int) - DP) _ (by omega) (by omega) (by rw [show SP + ((j : Int) - DP) = ((sp.toNatClampNeg + (j - dp.toNatClampNeg) : Nat) : Int) by omega]; exact w)
        rw [show DP + ((j : Int) - DP) = (j : Int) by omega] at this
        exact this
      · rw [if_neg h]
        exact hg j hj
  have hcc : tk_c (H.setIfInBounds a (vp_cell (cy 0) (n1, .inl (va_cpy f g sp.toNatClampNeg dp.toNatClampNeg nc.toNatClampNeg)))) a n1 f9 := by
    refine ⟨by simp; exact hl, fun j hj => ⟨(vp_cell (cy 0) (n1, .inl (va_cpy f g sp.toNatClampNeg dp.toNatClampNeg nc.toNatClampNeg))), by simp [Array.getElem?_setIfInBounds, hl], ?_⟩⟩
    have q9 : f9 j = va_cpy f g sp.toNatClampNeg dp.toNatClampNeg nc.toNatClampNeg j := by
      unfold va_cpy
      rw [if_pos ⟨by omega, by omega⟩, show sp.toNatClampNeg + (j - dp.toNatClampNeg) = j by omega]
      exact (hf9.2 j (by omega)).eq ⟨_, hc0, arrV_read _ _ (by omega)⟩
    rw [q9]
    exact arrV_read _ _ hj
  obtain ⟨t9, a9, b9⟩ := kk _ _ hG1 ⟨by simp; exact hS.1, fun q g1 g2 => by
      rw [oq q (fun e => g2 (by rw [e]; exact hA))]
      exact hS.2.1 q g1 g2, fun q hq => by
      rcases List.mem_append.mp hq with h | h
      · exact hS.2.2 q h
      · obtain ⟨z, -, hz⟩ := List.mem_map.mp h
        rw [← hz]
        exact hA⟩ oq hcc _ hheap X'
  exact ⟨t9, step t9 a9, b9⟩
end JXB
def tpsB (D : va_G) (cy : Nat → ClassId) (ld : Nat → Nat) (t : tk_T) (av : List Value) (sz : Nat) (B : Heap → Prop) : Array Value → State → Prop := va_Pc av (fun U => tk_G D cy ld t [] U.heap ∧ kk_K D cy ld U ∧ U.heap.size = sz ∧ tk_Z ld t U ∧ B U.heap)
theorem tpsB_blind {D : va_G} {cy : Nat → ClassId} {ld : Nat → Nat} {t : tk_T} {av : List Value} {sz : Nat} {B : Heap → Prop} : FrameBlind (tpsB D cy ld t av sz B) := fun a U g mk q => by
  obtain ⟨q0, q1, q2, q3, q4, q5⟩ := q
  exact ⟨q0, q1, kk_call g mk a q2, q3, ⟨vk_S.moved (u := U) (U := U.calling g mk a) (Vm.Alike.refl U.vm) q4.1, va_Z.moved (u := U) (U := U.calling g mk a) (Vm.Alike.refl U.vm) q4.2.1, q4.2.2.elim (fun h => Or.inl (va_Z.moved (u := U) (U := U.calling g mk a) (Vm.Alike.refl U.vm) h)) (fun h => h.elim (fun x h => Or.inr ⟨x, va_Z.moved (u := U) (U := U.calling g mk a) (Vm.Alike.refl U.vm) h⟩))⟩, q5⟩

/-! law(): what stands of the TAPE behind it -/
def tqlP (D : va_G) (cy : Nat → ClassId) (ld : Nat → Nat) (t : tk_T) (A : Nat → Prop) (sz : Nat) (P9 : Heap → Prop) : Array Value → State → Outcome → State → Prop := va_Qi (S := Int32 × tk_T) (fun r u => r = u.1) (fun u st => tk_ext t u.2 ∧ tk_G D cy ld u.2 [] st.heap ∧ (∀ a : Nat, (u.2 a).1 ≠ 0 → (t a).1 ≠ 0 ∨ sz ≤ a) ∧ P9 st.heap) A
theorem tk_iretLP {p : Program} {l : Launch} {e : Env} {R : Room} {s : State} {m : MethodId} {args : Array Value} {below : List Frame} {meth : Method} {c : Code} {H : Heap} {locs : List Loc} {cells slots pc : Nat} {ls : Array Slot} {A : Nat → Prop} {D : va_G} {cy : Nat → ClassId} {ld : Nat → Nat} {cc : ByteArray} {t t' : tk_T} {v : Int32} {P9 : Heap → Prop} (hx : p.tables.exec = Jvm.exec) (hb : c.code = cc) (hr : meth.sig.returnType = some .int) (hlocks : meth.locks = false) (g1 : tk_ext t t') (hG : tk_G D cy ld t' [] H) (g4 : ∀ a : Nat, (t' a).1 ≠ 0 → (t a).1 ≠ 0 ∨ s.heap.size ≤ a) (hf0 : P9 H) (hS : va_S A s.heap H locs) (hdg : decode cc pc = .ok (.ireturn, 1)) :
    W p l e R s m args below meth c H locs cells slots (MQ below (tqlP D cy ld t A s.heap.size P9) args s cells slots A) (F0 m pc ls [.int v]) :=
  W.zret hx hb hr rfl (fun t9 ht _ => ⟨⟨v, (v, t'), rfl, rfl, by show tk_ext t t' ∧ tk_G D cy ld t' [] t9.heap ∧ (∀ a : Nat, (t' a).1 ≠ 0 → (t a).1 ≠ 0 ∨ s.heap.size ≤ a) ∧ P9 t9.heap; rw [ht]; exact ⟨g1, hG, g4, hf0⟩⟩, hS.F ht⟩) hS.2.2 hdg hlocks
theorem tk_metlP {l : Launch} {D : va_G} {cy : Nat → ClassId} {ld : Nat → Nat} {y : MethodName} {cc : ByteArray} {maxL mc ms sz : Nat} {ret : Option FieldType} {rm : Room} {P9 B : Heap → Prop} {av : List Value} {t : tk_T} {L : List (Nat × Nat × Nat)} (hy : plainName y.cls = true) (hlen : (lg_sl av).length ≤ maxL)
    (body : ∀ (p : Program) (e : Env) (s : State) (m : MethodId) (args : Array Value) (below : List Frame) (meth : Method) (c : Code), p.tables.exec = Jvm.exec → c.code = cc → meth.sig.returnType = ret → c.maxLocals = maxL → (∀ w ∈ wl y cc maxL ret, w.before args s = true) → (∀ w ∈ wsA, w.before args s = true) → s.vm.findClass y.cls = some m.cls → meth.locks = false → kk_K D cy ld s → ∀ (H : Heap) (locs : List Loc), H.size = s.heap.size → tk_G D cy ld t [] H → B H → va_S (fun q => tk_w t L q ∨ s.heap.size ≤ q) s.heap H locs → tk_Z ld t s → ∀ ls : Array Slot, lv_has ls maxL (lv_args 0 av) →
      W p l e rm s m args below meth c H locs 0 0 (MQ below (tqlP D cy ld t (fun q => tk_w t L q ∨ s.heap.size ≤ q) s.heap.size P9) args s mc ms (fun q => tk_w t L q ∨ s.heap.size ≤ q)) (F0 m 0 ls [])) : Met l y (wl y cc maxL ret) rm (tpsB D cy ld t av sz B) (tqlP D cy ld t (fun q => tk_w t L q ∨ sz ≤ q) sz P9) mc ms (fun q => tk_w t L q ∨ sz ≤ q) := by
  refine Met.ofW (cc := cc) (maxL := maxL) (ret := ret) hy rfl ?_
  intro p e s m args below meth c s₁ B9 hml hv
  obtain ⟨rfl, hG, hK, hsz, hZ, hB⟩ := hv
  subst hsz
  have hts := atoms_spec (ws := wl y cc maxL ret) B9.pre
  have hl := lv_entry av (n := maxL) hlen
  rw [lg_entry_eq]
  exact body p e s m _ below meth c B9.exec B9.bytes B9.returns hml hts (fun w hw => hts w (List.mem_cons_of_mem _ hw)) (findClass_of_methodNamed B9.named) B9.notSynchronized hK s.heap [] rfl hG hB va_S.rf hZ _ hl
theorem tk_Vgk {p : Program} {l : Launch} {e : Env} {R : Room} {s : State} {m : MethodId} {args : Array Value} {below : List Frame} {meth : Method} {c : Code} {H : Heap} {locs : List Loc} {cells slots : Nat} {Q : State → Prop} {pc : Nat} {ls : Array Slot} {rest st : List Value} {A : Nat → Prop} {mc ms nL maxL index : Nat} {D : va_G} {cy : Nat → ClassId} {ld : Nat → Nat} {own C : String} {Ts wsy : List Cond} {cc bytes : ByteArray} {y : MethodName} {ret : Option FieldType} {rm : Room} {b ci nn rr : Nat} {t : tk_T} {T : u_T} {N : Nat} (S : CallFix p m c cc nL s args Ts own) (hK : kk_K D cy ld s) (hG : tk_G D cy ld t [] H) (hZ : tk_Z ld t s) (hAZ : ∀ q : Nat, q < s.heap.size → A q → (t q).1 ≠ 0) (hS : va_S A s.heap H locs) (hM : Met l y wsy rm (tps D cy ld t [.ref b] H.size) (tqs D cy ld t H.size) mc ms (fun q => H.size ≤ q)) (cw : CallW R s args own C index y bytes maxL ret wsy rm mc ms 0) (hb0 : t b = (ci + 1, nn, rr)) (hci : ci + 1 < 20) (hcl : vwCl[ci]? = some (C, T, N)) (hsub : ∀ q : Nat, H.size ≤ q → A q) (hsize : ls.size = nL) (hst : st = .ref b :: rest) (hW : (rest.map fun v => v.category).sum ≤ 8) (hdg : decode cc pc = .ok (.invokevirtual index, 3)) (hf : cells + mc ≤ R.cells ∧ slots + ms ≤ R.slots)
    (kk : ∀ (q : Nat) (t' : tk_T) (H1 : Heap) (locs1 : List Loc), tk_ext t t' → tk_G D cy ld t' [] H1 → (∃ n r : Nat, t' q = (8, n, r)) → (∀ a : Nat, (t' a).1 ≠ 0 → (t a).1 ≠ 0 ∨ H.size ≤ a) → va_S A s.heap H1 locs1 → (∀ x : Nat, x < H.size → H1[x]? = H[x]?) → W p l e R s m args below meth c H1 locs1 (cells + mc) (slots + ms) Q (F0 m (pc + 3) ls (.ref q :: rest))) : W p l e R s m args below meth c H locs cells slots Q (F0 m pc ls st) := by
  subst hst
  obtain ⟨fs0, hat0, -⟩ := hG.obj hb0 hci tk_no
  refine va_callq (va_runV (As := []) (rest := rest) S hM cw ⟨tps_blind, va_recv hK.1 (tk_one hat0) hcl (q0 := 0) rfl, fun U hU hW2 => ⟨rfl, by rw [hU]; exact hG, kk_warm hW2 hK, by rw [hU], tk_Z.atA hZ hAZ hS hU hW2.alike⟩⟩ rfl rfl hsize rfl (lv_room hW) hdg hf) hS (fun q _ h => hsub q h) hsub (fun r u t9 H1 locs1 ht hvm hw hBB hz1 hk1 hS1 => ?_)
  obtain ⟨g1, g2, g3, g4⟩ := hBB
  subst hw
  rw [ht] at g2
  exact kk u.1 u.2 H1 locs1 g1 g2 g3 g4 hS1 (fun x h => hk1 x h (Nat.not_le.mpr h))
section LWT
variable {p : Program} {l : Launch} {e : Env} {R : Room} {s : State} {m : MethodId} {args : Array Value} {below : List Frame} {meth : Method} {c : Code} {H : Heap} {locs : List Loc} {cells slots : Nat} {Q : State → Prop}
variable {pc : Nat} {ls : Array Slot} {rest st : List Value} {A : Nat → Prop} {mc ms nL maxL index : Nat} {D : va_G} {cy : Nat → ClassId} {ld : Nat → Nat} {own C : String} {Ts wsy : List Cond} {cc bytes : ByteArray} {y : MethodName} {ret : Option FieldType} {rm : Room} {b ci nn rr : Nat} {t : tk_T} {T : u_T} {N : Nat} {L : List (Nat × Nat × Nat)}
theorem tk_VgLP (S : CallFix p m c cc nL s args Ts own) (hK : kk_K D cy ld s) (hG : tk_G D cy ld t [] H) (hZ : tk_Z ld t s) (hAZ : ∀ q : Nat, q < s.heap.size → A q → (t q).1 ≠ 0) (hS : va_S A s.heap H locs) {P9 B : Heap → Prop} (hM : Met l y wsy rm (tpsB D cy ld t [.ref b] H.size B) (tqlP D cy ld t (fun q => tk_w t L q ∨ H.size ≤ q) H.size P9) mc ms (fun q => tk_w t L q ∨ H.size ≤ q)) (hB : B H) (cw : CallW R s args own C index y bytes maxL ret wsy rm mc ms 0) (hb0 : t b = (ci + 1, nn, rr)) (hci : ci + 1 < 20) (hcl : vwCl[ci]? = some (C, T, N)) (hsub : ∀ q : Nat, tk_w t L q ∨ H.size ≤ q → A q) (hsize : ls.size = nL) (hst : st = .ref b :: rest) (hW : (rest.map fun v => v.category).sum ≤ 8) (hdg : decode cc pc = .ok (.invokevirtual index, 3)) (hf : cells + mc ≤ R.cells ∧ slots + ms ≤ R.slots)
    (kk : ∀ (r : Int32) (t' : tk_T) (H1 : Heap) (locs1 : List Loc), tk_ext t t' → tk_G D cy ld t' [] H1 → P9 H1 → (∀ a : Nat, (t' a).1 ≠ 0 → (t a).1 ≠ 0 ∨ H.size ≤ a) → va_S A s.heap H1 locs1 → H.size ≤ H1.size → (∀ q : Nat, q < H.size → ¬ tk_w t L q → H1[q]? = H[q]?) → W p l e R s m args below meth c H1 locs1 (cells + mc) (slots + ms) Q (F0 m (pc + 3) ls (.int r :: rest))) : W p l e R s m args below meth c H locs cells slots Q (F0 m pc ls st) := by
  subst hst
  obtain ⟨fs0, hat0, -⟩ := hG.obj hb0 hci tk_no
  refine va_calli (va_runV (As := []) (rest := rest) S hM cw ⟨tpsB_blind, va_recv hK.1 (tk_one hat0) hcl (q0 := 0) rfl, fun U hU hW2 => ⟨rfl, by rw [hU]; exact hG, kk_warm hW2 hK, by rw [hU], tk_Z.atA hZ hAZ hS hU hW2.alike, by rw [hU]; exact hB⟩⟩ rfl rfl hsize rfl (lv_room hW) hdg hf) hS (fun q _ h => hsub q h) hsub (fun r u t9 H1 locs1 ht hvm hw hBB hz1 hk1 hS1 => ?_)
  obtain ⟨g1, g2, g4, g5⟩ := hBB
  subst hw
  rw [ht] at g2 g5
  exact kk _ u.2 H1 locs1 g1 g2 g5 g4 hS1 hz1 (fun q h1 h2 => hk1 q h1 (fun h => h.elim h2 (fun h => absurd h (Nat.not_le.mpr h1))))
end LWT

