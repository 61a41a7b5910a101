def mz_k (k : Nat) : Nat := match k with
  | 2 => 2
  | 3 => 2
  | 4 => 2
  | 5 => 3
  | 6 => 2
  | 7 => 2
  | 9 => 2
  | 10 => 2
  | 12 => 2
  | 17 => 1
  | 22 => 2
  | 24 => 2
  | 25 => 2
  | 27 => 2
  | 28 => 2
  | 31 => 4
  | 32 => 4
  | 33 => 4
  | 35 => 4
  | 36 => 4
  | 37 => 4
  | 39 => 1
  | 40 => 1
  | 42 => 2
  | 43 => 2
  | 44 => 2
  | 45 => 2
  | 46 => 2
  | 47 => 1
  | 48 => 2
  | 49 => 2
  | 50 => 2
  | 51 => 2
  | 52 => 2
  | 55 => 2
  | 56 => 2
  | 59 => 2
  | 61 => 2
  | 66 => 2
  | 67 => 2
  | 68 => 2
  | _ => 0
def mz_n (k : Nat) : Nat := match k with
  | 2 => 7
  | 3 => 5560
  | 4 => 11120
  | 5 => 2
  | 6 => 1196
  | 7 => 16
  | 9 => 832
  | 10 => 16
  | 12 => 400
  | 22 => 96
  | 24 => 400
  | 25 => 400
  | 27 => 400
  | 28 => 400
  | 31 => 9
  | 32 => 7
  | 33 => 4
  | 35 => 13
  | 36 => 13
  | 37 => 400
  | 42 => 8
  | 43 => 5
  | 44 => 5
  | 45 => 5
  | 46 => 5
  | 48 => 100
  | 49 => 64
  | 50 => 8
  | 51 => 8
  | 52 => 8
  | 55 => 4
  | 56 => 4
  | 59 => 1000
  | 61 => 120
  | 66 => 8
  | 67 => 2
  | 68 => 8
  | _ => 0
def mz_lo (k : Nat) : Int := match k with
  | 8 => 0
  | 13 => 0
  | 14 => 0
  | 15 => 0
  | 16 => 0
  | 19 => 0
  | 20 => 0
  | 21 => 0
  | 23 => 0
  | 26 => 0
  | 29 => 0
  | 34 => 0
  | 38 => 0
  | 41 => (-1)
  | 57 => 0
  | 65 => 0
  | 69 => (-1)
  | _ => -2147483648
def mz_hi (k : Nat) : Int := match k with
  | 8 => 16
  | 13 => 400
  | 14 => 400
  | 15 => 400
  | 16 => 3
  | 19 => 1
  | 20 => 1
  | 21 => 12
  | 23 => 400
  | 26 => 50
  | 29 => 400
  | 34 => 4660
  | 38 => 1
  | 41 => 7
  | 57 => 4
  | 65 => 1
  | 69 => 8
  | _ => 2147483647
/-! the reference: one object (class 13) whose rows lie at ad k for ever; F: its int fields, G: its long fields, R: its rows of ints, S: its rows of longs -/
def mz_v (ad : Nat → Nat) (F : Nat → Int32) (G : Nat → Int64) (k : Nat) : Value := match mz_k k with
  | 0 => .int (F k)
  | 1 => .long (G k)
  | _ => .ref (ad k)
def mz_fs (ad : Nat → Nat) (F : Nat → Int32) (G : Nat → Int64) : List Value := (List.range 70).map (mz_v ad F G)
def mz_c (cy : Nat → ClassId) (R : Nat → Nat → Int32) (S : Nat → Nat → Int64) (k : Nat) : va_E := match mz_k k with
  | 2 => .inl (cy 0, mz_n k, .inl (R k))
  | 3 => .inl (cy 2, mz_n k, .inl (R k))
  | _ => .inl (cy 1, mz_n k, .inr (.inl (S k)))
def mz_S (D : va_G) (cy : Nat → ClassId) (ad : Nat → Nat) (am : Nat) (F : Nat → Int32) (G : Nat → Int64) (R : Nat → Nat → Int32) (S : Nat → Nat → Int64) (H : Heap) : Prop := va_at D vwCl (am, .inr (13, mz_fs ad F G)) H ∧ ∀ k : Nat, k < 70 → 2 ≤ mz_k k → va_at D vwCl (ad k, mz_c cy R S k) H
def mz_D (ad : Nat → Nat) (am : Nat) : Prop := (∀ k : Nat, k < 70 → 2 ≤ mz_k k → ad k ≠ am) ∧ ∀ j k : Nat, j < 70 → k < 70 → 2 ≤ mz_k j → 2 ≤ mz_k k → ad j = ad k → j = k
def mz_W (ad : Nat → Nat) (am q : Nat) : Prop := q = am ∨ ∃ k : Nat, k < 70 ∧ 2 ≤ mz_k k ∧ q = ad k
theorem mz_len {ad : Nat → Nat} {F : Nat → Int32} {G : Nat → Int64} : (mz_fs ad F G).length = 70 := by
  unfold mz_fs
  rw [List.length_map, List.length_range]
theorem mz_at {ad : Nat → Nat} {F : Nat → Int32} {G : Nat → Int64} {k : Nat} {v : Value} (hk : k < 70) (hv : mz_v ad F G k = v) : (mz_fs ad F G)[k]? = some v := by
  unfold mz_fs
  rw [List.getElem?_map, List.getElem?_range hk]
  exact congrArg some hv
theorem mz_set {ad : Nat → Nat} {F F1 : Nat → Int32} {G G1 : Nat → Int64} {k : Nat} {v : Value} (h1 : mz_v ad F1 G1 k = v) (h2 : ∀ j : Nat, j ≠ k → mz_v ad F1 G1 j = mz_v ad F G j) : (mz_fs ad F G).set k v = mz_fs ad F1 G1 := by
  apply List.ext_getElem?
  intro j
  by_cases hj : j < 70
  · by_cases h : j = k
    · subst h
      rw [List.getElem?_set_self (by rw [mz_len]; exact hj), mz_at hj h1]
    · rw [List.getElem?_set_ne (Ne.symm h), mz_at hj rfl, mz_at hj (h2 j h)]
  · rw [List.getElem?_eq_none (by rw [List.length_set, mz_len]; omega), List.getElem?_eq_none (by rw [mz_len]; omega)]
theorem mz_S.row {D : va_G} {cy : Nat → ClassId} {ad : Nat → Nat} {am : Nat} {F : Nat → Int32} {G : Nat → Int64} {R R1 : Nat → Nat → Int32} {S S1 : Nat → Nat → Int64} {H H1 : Heap} {k : Nat} (hM : mz_S D cy ad am F G R S H) (hD : mz_D ad am) (hk : k < 70) (hkk : 2 ≤ mz_k k) (h1 : va_at D vwCl (ad k, mz_c cy R1 S1 k) H1) (oq : ∀ q : Nat, q ≠ ad k → H1[q]? = H[q]?) (hR : ∀ j : Nat, j ≠ k → R1 j = R j) (hS : ∀ j : Nat, j ≠ k → S1 j = S j) : mz_S D cy ad am F G R1 S1 H1 := by
  refine ⟨hM.1.kept (oq _ (Ne.symm (hD.1 k hk hkk))), fun q h2 h3 => ?_⟩
  by_cases h : q = k
  · subst h
    exact h1
  · have e : mz_c cy R1 S1 q = mz_c cy R S q := by
      unfold mz_c
      rw [hR q h, hS q h]
    rw [e]
    exact (hM.2 q h2 h3).kept (oq _ (fun e2 => h (hD.2 q k h2 hk h3 hkk e2)))
section MZB
variable {p : Program} {l : Launch} {e : Env} {Rm : Room} {s : State} {m : MethodId} {args : Array Value} {below : List Frame} {meth : Method} {c : Code} {H : Heap} {locs : List Loc} {cells slots : Nat} {Q : State → Prop}
variable {pc : Nat} {ls : Array Slot} {rest st : List Value} {H0 : Heap} {mc ms nL maxL n index : Nat} {D : va_G} {cy : Nat → ClassId} {ld ad : Nat → Nat} {am : Nat} {own C : String} {Ts wsy : List Cond} {cc bytes : ByteArray} {y : MethodName} {ret : Option FieldType} {rm : Room} {As : List Value} {F : Nat → Int32} {G : Nat → Int64} {R : Nat → Nat → Int32} {S : Nat → Nat → Int64}
theorem mz_getI (hx : p.tables.exec = Jvm.exec) (hb : c.code = cc) (hts : ∀ w ∈ wsA, w.before args s = true) (hown : s.vm.findClass own = some m.cls) (hK : kk_K D cy ld s) (hM : mz_S D cy ad am F G R S H) (k : Nat) (hk : k < 70) (hkk : mz_k k = 0) {ref : String} (hlink : (Cond.fieldLink own index ref (TX13 k).2.1 (TX13 k).2.2.1).before args s = true) (hsame : ∀ x, s.fieldFound? (TX13 k).1 (TX13 k).2.1 (TX13 k).2.2.1 = some x → s.fieldFound? ref (TX13 k).2.1 (TX13 k).2.2.1 = some x) (hdg : decode cc pc = .ok (.getfield index, 3))
    (kk : ∀ v : Int32, F k = v → W p l e Rm s m args below meth c H locs cells slots Q (F0 m (pc + 3) ls (.int v :: rest))) : W p l e Rm s m args below meth c H locs cells slots Q (F0 m pc ls (.ref am :: rest)) :=
  va_get (ci := 13) (C := RX13) (T := TX13) (N := 70) hx hb hts inX13 hown hK.1 (tk_one hM.1) 0 rfl rfl k hk hlink hsame (mz_at hk (by simp only [mz_v, hkk])) hdg (kk _ rfl)
theorem mz_getJ (hx : p.tables.exec = Jvm.exec) (hb : c.code = cc) (hts : ∀ w ∈ wsA, w.before args s = true) (hown : s.vm.findClass own = some m.cls) (hK : kk_K D cy ld s) (hM : mz_S D cy ad am F G R S H) (k : Nat) (hk : k < 70) (hkk : mz_k k = 1) {ref : String} (hlink : (Cond.fieldLink own index ref (TX13 k).2.1 (TX13 k).2.2.1).before args s = true) (hsame : ∀ x, s.fieldFound? (TX13 k).1 (TX13 k).2.1 (TX13 k).2.2.1 = some x → s.fieldFound? ref (TX13 k).2.1 (TX13 k).2.2.1 = some x) (hdg : decode cc pc = .ok (.getfield index, 3))
    (kk : ∀ v : Int64, G k = v → W p l e Rm s m args below meth c H locs cells slots Q (F0 m (pc + 3) ls (.long v :: rest))) : W p l e Rm s m args below meth c H locs cells slots Q (F0 m pc ls (.ref am :: rest)) :=
  va_get (ci := 13) (C := RX13) (T := TX13) (N := 70) hx hb hts inX13 hown hK.1 (tk_one hM.1) 0 rfl rfl k hk hlink hsame (mz_at hk (by simp only [mz_v, hkk])) hdg (kk _ rfl)
theorem mz_v2 {F : Nat → Int32} {G : Nat → Int64} {k : Nat} (hkk : 2 ≤ mz_k k) : mz_v ad F G k = .ref (ad k) := by
  unfold mz_v
  split
  · omega
  · omega
  · rfl
theorem mz_getR (hx : p.tables.exec = Jvm.exec) (hb : c.code = cc) (hts : ∀ w ∈ wsA, w.before args s = true) (hown : s.vm.findClass own = some m.cls) (hK : kk_K D cy ld s) (hM : mz_S D cy ad am F G R S H) (k : Nat) (hk : k < 70) (hkk : 2 ≤ mz_k k) {ref : String} (hlink : (Cond.fieldLink own index ref (TX13 k).2.1 (TX13 k).2.2.1).before args s = true) (hsame : ∀ x, s.fieldFound? (TX13 k).1 (TX13 k).2.1 (TX13 k).2.2.1 = some x → s.fieldFound? ref (TX13 k).2.1 (TX13 k).2.2.1 = some x) (hdg : decode cc pc = .ok (.getfield index, 3))
    (kk : W p l e Rm s m args below meth c H locs cells slots Q (F0 m (pc + 3) ls (.ref (ad k) :: rest))) : W p l e Rm s m args below meth c H locs cells slots Q (F0 m pc ls (.ref am :: rest)) :=
  va_get (ci := 13) (C := RX13) (T := TX13) (N := 70) hx hb hts inX13 hown hK.1 (tk_one hM.1) 0 rfl rfl k hk hlink hsame (mz_at hk (mz_v2 hkk)) hdg kk
theorem mz_putI (hx : p.tables.exec = Jvm.exec) (hb : c.code = cc) (hts : ∀ w ∈ wsA, w.before args s = true) (hown : s.vm.findClass own = some m.cls) (hK : kk_K D cy ld s) (hD : mz_D ad am) (hM : mz_S D cy ad am F G R S H) (hS : va_S (mz_W ad am) H0 H locs) (k : Nat) (hk : k < 70) (hkk : mz_k k = 0) {ref : String} (hlink : (Cond.fieldLink own index ref (TX13 k).2.1 (TX13 k).2.2.1).before args s = true) (hsame : ∀ x, s.fieldFound? (TX13 k).1 (TX13 k).2.1 (TX13 k).2.2.1 = some x → s.fieldFound? ref (TX13 k).2.1 (TX13 k).2.2.1 = some x) (hfin : (TX13 k).2.2.2 = false) {ty : FieldType} {x : Int32} (hd : parseFieldDescriptor (TX13 k).2.2.1 = some ty) (hn : narrow ty (.int x) = .int x) (hfit : fits ty (.int x) = true) (hdg : decode cc pc = .ok (.putfield index, 3))
    (kk : ∀ (H1 : Heap) (locs1 : List Loc) (F1 : Nat → Int32), mz_S D cy ad am F1 G R S H1 → va_S (mz_W ad am) H0 H1 locs1 → F1 k = x → (∀ j : Nat, j ≠ k → F1 j = F j) → W p l e Rm s m args below meth c H1 locs1 cells slots Q (F0 m (pc + 3) ls rest)) : W p l e Rm s m args below meth c H locs cells slots Q (F0 m pc ls (.int x :: .ref am :: rest)) := by
  refine tk_put0 (ci := 13) (C := RX13) (T := TX13) (N := 70) hx hb hts inX13 tyX13 tyX13_ok nmX13 hown hK hM.1 rfl k hk hlink hsame hfin hd hn hfit (by rw [mz_len]; exact hk) hdg (fun H1 j e1 z oq => ?_)
  rw [mz_set (F1 := upd F k x) (G1 := G) (by simp only [mz_v, hkk]; exact congrArg Value.int pk_us) (fun j hj => by unfold mz_v; rw [pk_un hj])] at e1
  exact kk H1 _ (upd F k x) ⟨e1, fun q h1 h2 => (hM.2 q h1 h2).kept (oq _ (hD.1 q h1 h2))⟩ (hS.put z oq (Or.inl rfl)) pk_us (fun j hj => pk_un hj)
theorem mz_putJ (hx : p.tables.exec = Jvm.exec) (hb : c.code = cc) (hts : ∀ w ∈ wsA, w.before args s = true) (hown : s.vm.findClass own = some m.cls) (hK : kk_K D cy ld s) (hD : mz_D ad am) (hM : mz_S D cy ad am F G R S H) (hS : va_S (mz_W ad am) H0 H locs) (k : Nat) (hk : k < 70) (hkk : mz_k k = 1) {ref : String} (hlink : (Cond.fieldLink own index ref (TX13 k).2.1 (TX13 k).2.2.1).before args s = true) (hsame : ∀ x, s.fieldFound? (TX13 k).1 (TX13 k).2.1 (TX13 k).2.2.1 = some x → s.fieldFound? ref (TX13 k).2.1 (TX13 k).2.2.1 = some x) (hfin : (TX13 k).2.2.2 = false) {ty : FieldType} {x : Int64} (hd : parseFieldDescriptor (TX13 k).2.2.1 = some ty) (hn : narrow ty (.long x) = .long x) (hfit : fits ty (.long x) = true) (hdg : decode cc pc = .ok (.putfield index, 3))
    (kk : ∀ (H1 : Heap) (locs1 : List Loc) (G1 : Nat → Int64), mz_S D cy ad am F G1 R S H1 → va_S (mz_W ad am) H0 H1 locs1 → G1 k = x → (∀ j : Nat, j ≠ k → G1 j = G j) → W p l e Rm s m args below meth c H1 locs1 cells slots Q (F0 m (pc + 3) ls rest)) : W p l e Rm s m args below meth c H locs cells slots Q (F0 m pc ls (.long x :: .ref am :: rest)) := by
  refine tk_put0 (ci := 13) (C := RX13) (T := TX13) (N := 70) hx hb hts inX13 tyX13 tyX13_ok nmX13 hown hK hM.1 rfl k hk hlink hsame hfin hd hn hfit (by rw [mz_len]; exact hk) hdg (fun H1 j e1 z oq => ?_)
  rw [mz_set (F1 := F) (G1 := vp_updL G k x) (by simp only [mz_v, hkk]; exact congrArg Value.long pk_uLs) (fun j hj => by unfold mz_v; rw [pk_uLn hj])] at e1
  exact kk H1 _ (vp_updL G k x) ⟨e1, fun q h1 h2 => (hM.2 q h1 h2).kept (oq _ (hD.1 q h1 h2))⟩ (hS.put z oq (Or.inl rfl)) pk_uLs (fun j hj => pk_uLn hj)
theorem mz_S.ri (hM : mz_S D cy ad am F G R S H) {k : Nat} (hk : k < 70) (hkk : mz_k k = 2) : va_at D vwCl (ad k, .inl (cy 0, mz_n k, .inl (R k))) H := by
  have h := hM.2 k hk (by omega)
  unfold mz_c at h
  rw [hkk] at h
  exact h
theorem mz_S.rz (hM : mz_S D cy ad am F G R S H) {k : Nat} (hk : k < 70) (hkk : mz_k k = 3) : va_at D vwCl (ad k, .inl (cy 2, mz_n k, .inl (R k))) H := by
  have h := hM.2 k hk (by omega)
  unfold mz_c at h
  rw [hkk] at h
  exact h
theorem mz_S.rl (hM : mz_S D cy ad am F G R S H) {k : Nat} (hk : k < 70) (hkk : mz_k k = 4) : va_at D vwCl (ad k, .inl (cy 1, mz_n k, .inr (.inl (S k)))) H := by
  have h := hM.2 k hk (by omega)
  unfold mz_c at h
  rw [hkk] at h
  exact h
theorem mz_iald (hx : p.tables.exec = Jvm.exec) (hb : c.code = cc) (hK : kk_K D cy ld s) (hM : mz_S D cy ad am F G R S H) (k : Nat) (hk : k < 70) (hkk : mz_k k = 2) {i : Int32} {I : Int} {nn : Nat} (hn : mz_n k = nn) (hi : i.toInt = I) (h0 : 0 ≤ I) (h1 : I < (nn : Int)) (hdg : decode cc pc = .ok (.iaload, 1))
    (kk : ∀ x : Int32, R k i.toNatClampNeg = x → W p l e Rm s m args below meth c H locs cells slots Q (F0 m (pc + 1) ls (.int x :: rest))) : W p l e Rm s m args below meth c H locs cells slots Q (F0 m pc ls (.int i :: .ref (ad k) :: rest)) := by
  subst hn
  exact va_iald hx hb hK.1 (tk_one (hM.ri hk hkk)) 0 0 rfl rfl (tk_idx hi h0 h1).1 hdg (kk _ rfl)
theorem mz_zald (hx : p.tables.exec = Jvm.exec) (hb : c.code = cc) (hK : kk_K D cy ld s) (hM : mz_S D cy ad am F G R S H) (k : Nat) (hk : k < 70) (hkk : mz_k k = 3) {i : Int32} {I : Int} {nn : Nat} (hn : mz_n k = nn) (hi : i.toInt = I) (h0 : 0 ≤ I) (h1 : I < (nn : Int)) (hdg : decode cc pc = .ok (.baload, 1))
    (kk : ∀ x : Int32, R k i.toNatClampNeg = x → W p l e Rm s m args below meth c H locs cells slots Q (F0 m (pc + 1) ls (.int x :: rest))) : W p l e Rm s m args below meth c H locs cells slots Q (F0 m pc ls (.int i :: .ref (ad k) :: rest)) := by
  subst hn
  exact va_zald hx hb hK.1 (tk_one (hM.rz hk hkk)) 0 2 rfl rfl (tk_idx hi h0 h1).1 hdg (kk _ rfl)
theorem mz_lald (hx : p.tables.exec = Jvm.exec) (hb : c.code = cc) (hK : kk_K D cy ld s) (hM : mz_S D cy ad am F G R S H) (k : Nat) (hk : k < 70) (hkk : mz_k k = 4) {i : Int32} {I : Int} {nn : Nat} (hn : mz_n k = nn) (hi : i.toInt = I) (h0 : 0 ≤ I) (h1 : I < (nn : Int)) (hdg : decode cc pc = .ok (.laload, 1))
    (kk : ∀ x : Int64, S k i.toNatClampNeg = x → W p l e Rm s m args below meth c H locs cells slots Q (F0 m (pc + 1) ls (.long x :: rest))) : W p l e Rm s m args below meth c H locs cells slots Q (F0 m pc ls (.int i :: .ref (ad k) :: rest)) := by
  subst hn
  exact va_lald hx hb hK.1 (tk_one (hM.rl hk hkk)) 0 1 rfl rfl (tk_idx hi h0 h1).1 hdg (kk _ rfl)
theorem mz_iast (hx : p.tables.exec = Jvm.exec) (hb : c.code = cc) (hK : kk_K D cy ld s) (hD : mz_D ad am) (hM : mz_S D cy ad am F G R S H) (hS : va_S (mz_W ad am) H0 H locs) (k : Nat) (hk : k < 70) (hkk : mz_k k = 2) {i x : Int32} {I : Int} {nn : Nat} (hn : mz_n k = nn) (hi : i.toInt = I) (h0 : 0 ≤ I) (h1 : I < (nn : Int)) (hdg : decode cc pc = .ok (.iastore, 1))
    (kk : ∀ (H1 : Heap) (locs1 : List Loc) (R1 : Nat → Nat → Int32), mz_S D cy ad am F G R1 S H1 → va_S (mz_W ad am) H0 H1 locs1 → R1 k = upd (R k) i.toNatClampNeg x → (∀ j : Nat, j ≠ k → R1 j = R j) → W p l e Rm s m args below meth c H1 locs1 cells slots Q (F0 m (pc + 1) ls rest)) : W p l e Rm s m args below meth c H locs cells slots Q (F0 m pc ls (.int x :: .int i :: .ref (ad k) :: rest)) := by
  subst hn
  obtain ⟨hv, hlt⟩ := tk_idx hi h0 h1
  refine W.iast hx hb (hM.ri hk hkk) ((hK.1.2 0 _ rfl).1 (mz_n k) (fun j => .int (R k j))) (fun q => by cases q) (by show ¬ (i < 0 ∨ (arrV _ _ _).slots.size ≤ _); rw [arrV_size]; exact hv) rfl rfl hdg fun H1 e z oq => ?_
  refine kk H1 _ (fun j => if j = k then upd (R k) i.toNatClampNeg x else R j) (hM.row hD hk (by omega) ?_ oq (fun j hj => if_neg hj) (fun j _ => rfl)) (hS.put z oq (Or.inr ⟨k, hk, by omega, rfl⟩)) (if_pos rfl) (fun j hj => if_neg hj)
  unfold mz_c
  rw [hkk]
  show H1[ad k]? = some (vp_cell _ _)
  rw [e]
  show _ = some (vp_cell (cy 0) (mz_n k, .inl (if k = k then upd (R k) i.toNatClampNeg x else R k)))
  rw [if_pos rfl, vp_cell_i, vp_cell_i, arrV_store]
  congr 2
  funext q
  by_cases hq : q = i.toNatClampNeg
  · subst hq
    simp [updV, upd]
  · simp [updV, upd, hq]
theorem mz_zast (hx : p.tables.exec = Jvm.exec) (hb : c.code = cc) (hK : kk_K D cy ld s) (hD : mz_D ad am) (hM : mz_S D cy ad am F G R S H) (hS : va_S (mz_W ad am) H0 H locs) (k : Nat) (hk : k < 70) (hkk : mz_k k = 3) {i x : Int32} {I : Int} {nn : Nat} (hn : mz_n k = nn) (hi : i.toInt = I) (h0 : 0 ≤ I) (h1 : I < (nn : Int)) (hdg : decode cc pc = .ok (.bastore, 1))
    (kk : ∀ (H1 : Heap) (locs1 : List Loc) (R1 : Nat → Nat → Int32), mz_S D cy ad am F G R1 S H1 → va_S (mz_W ad am) H0 H1 locs1 → R1 k = upd (R k) i.toNatClampNeg (vp_nar .boolean x) → (∀ j : Nat, j ≠ k → R1 j = R j) → W p l e Rm s m args below meth c H1 locs1 cells slots Q (F0 m (pc + 1) ls rest)) : W p l e Rm s m args below meth c H locs cells slots Q (F0 m pc ls (.int x :: .int i :: .ref (ad k) :: rest)) := by
  subst hn
  obtain ⟨hv, hlt⟩ := tk_idx hi h0 h1
  refine W.zast hx hb (hM.rz hk hkk) ((hK.1.2 2 _ rfl).1 (mz_n k) (fun j => .int (R k j))) (fun q => by cases q) (by show ¬ (i < 0 ∨ (arrV _ _ _).slots.size ≤ _); rw [arrV_size]; exact hv) rfl rfl hdg fun H1 e z oq => ?_
  refine kk H1 _ (fun j => if j = k then upd (R k) i.toNatClampNeg (vp_nar .boolean x) else R j) (hM.row hD hk (by omega) ?_ oq (fun j hj => if_neg hj) (fun j _ => rfl)) (hS.put z oq (Or.inr ⟨k, hk, by omega, rfl⟩)) (if_pos rfl) (fun j hj => if_neg hj)
  unfold mz_c
  rw [hkk]
  show H1[ad k]? = some (vp_cell _ _)
  rw [e]
  show _ = some (vp_cell (cy 2) (mz_n k, .inl (if k = k then upd (R k) i.toNatClampNeg (vp_nar .boolean x) else R k)))
  rw [if_pos rfl, vp_cell_i, vp_cell_i, arrV_store]
  congr 2
  funext q
  by_cases hq : q = i.toNatClampNeg
  · subst hq
    simp [updV, upd, vp_nar]
    try rfl
  · simp [updV, upd, hq]
theorem mz_last (hx : p.tables.exec = Jvm.exec) (hb : c.code = cc) (hK : kk_K D cy ld s) (hD : mz_D ad am) (hM : mz_S D cy ad am F G R S H) (hS : va_S (mz_W ad am) H0 H locs) (k : Nat) (hk : k < 70) (hkk : mz_k k = 4) {i : Int32} {x : Int64} {I : Int} {nn : Nat} (hn : mz_n k = nn) (hi : i.toInt = I) (h0 : 0 ≤ I) (h1 : I < (nn : Int)) (hdg : decode cc pc = .ok (.lastore, 1))
    (kk : ∀ (H1 : Heap) (locs1 : List Loc) (S1 : Nat → Nat → Int64), mz_S D cy ad am F G R S1 H1 → va_S (mz_W ad am) H0 H1 locs1 → S1 k = vp_updL (S k) i.toNatClampNeg x → (∀ j : Nat, j ≠ k → S1 j = S j) → W p l e Rm s m args below meth c H1 locs1 cells slots Q (F0 m (pc + 1) ls rest)) : W p l e Rm s m args below meth c H locs cells slots Q (F0 m pc ls (.long x :: .int i :: .ref (ad k) :: rest)) := by
  subst hn
  obtain ⟨hv, hlt⟩ := tk_idx hi h0 h1
  refine W.last hx hb (hM.rl hk hkk) ((hK.1.2 1 _ rfl).1 (mz_n k) (fun j => .long (S k j))) (fun q => by cases q) (by show ¬ (i < 0 ∨ (arrV _ _ _).slots.size ≤ _); rw [arrV_size]; exact hv) rfl rfl hdg fun H1 e z oq => ?_
  refine kk H1 _ (fun j => if j = k then vp_updL (S k) i.toNatClampNeg x else S j) (hM.row hD hk (by omega) ?_ oq (fun j _ => rfl) (fun j hj => if_neg hj)) (hS.put z oq (Or.inr ⟨k, hk, by omega, rfl⟩)) (if_pos rfl) (fun j hj => if_neg hj)
  unfold mz_c
  rw [hkk]
  show H1[ad k]? = some (vp_cell _ _)
  rw [e]
  show _ = some (vp_cell (cy 1) (mz_n k, .inr (.inl (if k = k then vp_updL (S k) i.toNatClampNeg x else S k))))
  rw [if_pos rfl, vp_cell_l, vp_cell_l, arrV_store]
  congr 2
  funext q
  by_cases hq : q = i.toNatClampNeg
  · subst hq
    simp [updV, vp_updL]
  · simp [updV, vp_updL, hq]
end MZB
def mz_p (D : va_G) (cy : Nat → ClassId) (ld ad : Nat → Nat) (am : Nat) (F : Nat → Int32) (G : Nat → Int64) (R : Nat → Nat → Int32) (S : Nat → Nat → Int64) (av : List Value) : Array Value → State → Prop := va_Pc av (fun U => mz_S D cy ad am F G R S U.heap ∧ kk_K D cy ld U)
abbrev mz_U : Type := (Nat → Int32) × (Nat → Int64) × (Nat → Nat → Int32) × (Nat → Nat → Int64)
abbrev mz_Po : Type := (Nat → Int32) → (Nat → Int64) → (Nat → Nat → Int32) → (Nat → Nat → Int64) → Prop
def mz_i (D : va_G) (cy : Nat → ClassId) (ad : Nat → Nat) (am : Nat) (post : Int32 → mz_Po) : Array Value → State → Outcome → State → Prop := va_Qi (S := Int32 × mz_U) (fun r u => r = u.1) (fun u st => mz_S D cy ad am u.2.1 u.2.2.1 u.2.2.2.1 u.2.2.2.2 st.heap ∧ post u.1 u.2.1 u.2.2.1 u.2.2.2.1 u.2.2.2.2) (mz_W ad am)
def mz_l (D : va_G) (cy : Nat → ClassId) (ad : Nat → Nat) (am : Nat) (post : Int64 → mz_Po) : Array Value → State → Outcome → State → Prop := va_Ql (S := Int64 × mz_U) (fun r u => r = u.1) (fun u st => mz_S D cy ad am u.2.1 u.2.2.1 u.2.2.2.1 u.2.2.2.2 st.heap ∧ post u.1 u.2.1 u.2.2.1 u.2.2.2.1 u.2.2.2.2) (mz_W ad am)
def mz_w (D : va_G) (cy : Nat → ClassId) (ad : Nat → Nat) (am : Nat) (post : mz_Po) : Array Value → State → Outcome → State → Prop := va_Qv (S := mz_U) (fun _ => True) (fun u st => mz_S D cy ad am u.1 u.2.1 u.2.2.1 u.2.2.2 st.heap ∧ post u.1 u.2.1 u.2.2.1 u.2.2.2) (mz_W ad am)
/-- of a method that writes nothing -/
def mz_j (D : va_G) (cy : Nat → ClassId) (ad : Nat → Nat) (am : Nat) (F : Nat → Int32) (G : Nat → Int64) (R : Nat → Nat → Int32) (S : Nat → Nat → Int64) (post : Int32 → Prop) : Array Value → State → Outcome → State → Prop := va_Qi (S := Int32) (fun r u => r = u) (fun u st => mz_S D cy ad am F G R S st.heap ∧ post u) (mz_W ad am)
theorem mz_p_blind {D : va_G} {cy : Nat → ClassId} {ld ad : Nat → Nat} {am : Nat} {F : Nat → Int32} {G : Nat → Int64} {R : Nat → Nat → Int32} {S : Nat → Nat → Int64} {av : List Value} : FrameBlind (mz_p D cy ld ad am F G R S av) := fun a U g mk q => by
  obtain ⟨q0, q1, q2⟩ := q
  exact ⟨q0, q1, kk_call g mk a q2⟩
section MZC
variable {p : Program} {l : Launch} {e : Env} {Rm : Room} {s : State} {m : MethodId} {args : Array Value} {below : List Frame} {meth : Method} {c : Code} {H : Heap} {locs : List Loc} {cells slots : Nat} {Q : State → Prop}
variable {pc : Nat} {ls : Array Slot} {rest st : List Value} {mc ms nL maxL n index : Nat} {D : va_G} {cy : Nat → ClassId} {ld ad : Nat → Nat} {am : Nat} {own : String} {Ts wsy : List Cond} {cc bytes : ByteArray} {y : MethodName} {ret : Option FieldType} {rm : Room} {As av : List Value} {F : Nat → Int32} {G : Nat → Int64} {R : Nat → Nat → Int32} {S : Nat → Nat → Int64}
theorem mz_met (QC : Array Value → State → Outcome → State → Prop) (hy : plainName y.cls = true) (hlen : (lg_sl av).length ≤ maxL)
    (body : ∀ (p : Program) (e : Env) (s : State) (m : MethodId) (args : Array Value) (below : List Frame) (meth : Method) (c : Code), p.tables.exec = Jvm.exec → c.code = cc → meth.sig.returnType = ret → c.maxLocals = maxL → (∀ w ∈ wl y cc maxL ret, w.before args s = true) → (∀ w ∈ wsA, w.before args s = true) → s.vm.findClass y.cls = some m.cls → meth.locks = false → kk_K D cy ld s → ∀ (H : Heap) (locs : List Loc), mz_S D cy ad am F G R S H → va_S (mz_W ad am) s.heap H locs → ∀ ls : Array Slot, lv_has ls maxL (lv_args 0 av) →
      W p l e rm s m args below meth c H locs 0 0 (MQ below QC args s mc ms (mz_W ad am)) (F0 m 0 ls [])) : Met l y (wl y cc maxL ret) rm (mz_p D cy ld ad am F G R S av) QC mc ms (mz_W ad am) := by
  refine Met.ofW (cc := cc) (maxL := maxL) (ret := ret) hy rfl ?_
  intro p e s m args below meth c s₁ B hml hv
  obtain ⟨rfl, hM, hK⟩ := hv
  have hts := atoms_spec (ws := wl y cc maxL ret) B.pre
  have hl := lv_entry av (n := maxL) hlen
  rw [lg_entry_eq]
  exact body p e s m _ below meth c B.exec B.bytes B.returns hml hts (fun w hw => hts w (List.mem_cons_of_mem _ hw)) (findClass_of_methodNamed B.named) B.notSynchronized hK s.heap [] hM va_S.rf _ hl
theorem mz_Vi {post : Int32 → mz_Po} (X : CallFix p m c cc nL s args Ts own) (hK : kk_K D cy ld s) (hM : mz_S D cy ad am F G R S H) (hS : va_S (mz_W ad am) s.heap H locs) (hC : Met l y wsy rm (mz_p D cy ld ad am F G R S (.ref am :: As)) (mz_i D cy ad am post) mc ms (mz_W ad am)) (cw : CallW Rm s args own RX13 index y bytes maxL ret wsy rm mc ms n) (hn : As.length = n) (hsize : ls.size = nL) (hst : st = As.reverse ++ .ref am :: rest) (hW : (rest.map fun v => v.category).sum ≤ 8) (hdg : decode cc pc = .ok (.invokevirtual index, 3)) (hf : cells + mc ≤ Rm.cells ∧ slots + ms ≤ Rm.slots)
    (kk : ∀ (r : Int32) (H1 : Heap) (locs1 : List Loc) (F1 : Nat → Int32) (G1 : Nat → Int64) (R1 : Nat → Nat → Int32) (S1 : Nat → Nat → Int64), post r F1 G1 R1 S1 → mz_S D cy ad am F1 G1 R1 S1 H1 → va_S (mz_W ad am) s.heap H1 locs1 → W p l e Rm s m args below meth c H1 locs1 (cells + mc) (slots + ms) Q (F0 m (pc + 3) ls (.int r :: rest))) : W p l e Rm s m args below meth c H locs cells slots Q (F0 m pc ls st) := by
  subst hst
  refine va_calli (va_runV (As := As) (rest := rest) X hC cw ⟨mz_p_blind, va_recv hK.1 (tk_one hM.1) (show vwCl[13]? = some (RX13, TX13, 70) from rfl) (q0 := 0) rfl, fun U hU hW2 => ⟨rfl, by rw [hU]; exact hM, kk_warm hW2 hK⟩⟩ rfl hn hsize rfl (lv_room hW) hdg hf) hS (fun q _ h => h) (fun q h => h) (fun r u t9 H1 locs1 ht hvm hw hBB hz1 hk1 hS1 => ?_)
  obtain ⟨hM1, hp1⟩ := hBB
  subst hw
  rw [ht] at hM1
  exact kk _ H1 locs1 _ _ _ _ hp1 hM1 hS1
theorem mz_Vl {post : Int64 → mz_Po} (X : CallFix p m c cc nL s args Ts own) (hK : kk_K D cy ld s) (hM : mz_S D cy ad am F G R S H) (hS : va_S (mz_W ad am) s.heap H locs) (hC : Met l y wsy rm (mz_p D cy ld ad am F G R S (.ref am :: As)) (mz_l D cy ad am post) mc ms (mz_W ad am)) (cw : CallW Rm s args own RX13 index y bytes maxL ret wsy rm mc ms n) (hn : As.length = n) (hsize : ls.size = nL) (hst : st = As.reverse ++ .ref am :: rest) (hW : (rest.map fun v => v.category).sum ≤ 8) (hdg : decode cc pc = .ok (.invokevirtual index, 3)) (hf : cells + mc ≤ Rm.cells ∧ slots + ms ≤ Rm.slots)
    (kk : ∀ (r : Int64) (H1 : Heap) (locs1 : List Loc) (F1 : Nat → Int32) (G1 : Nat → Int64) (R1 : Nat → Nat → Int32) (S1 : Nat → Nat → Int64), post r F1 G1 R1 S1 → mz_S D cy ad am F1 G1 R1 S1 H1 → va_S (mz_W ad am) s.heap H1 locs1 → W p l e Rm s m args below meth c H1 locs1 (cells + mc) (slots + ms) Q (F0 m (pc + 3) ls (.long r :: rest))) : W p l e Rm s m args below meth c H locs cells slots Q (F0 m pc ls st) := by
  subst hst
  refine va_calll (va_runV (As := As) (rest := rest) X hC cw ⟨mz_p_blind, va_recv hK.1 (tk_one hM.1) (show vwCl[13]? = some (RX13, TX13, 70) from rfl) (q0 := 0) rfl, fun U hU hW2 => ⟨rfl, by rw [hU]; exact hM, kk_warm hW2 hK⟩⟩ rfl hn hsize rfl (lv_room hW) hdg hf) hS (fun q _ h => h) (fun q h => h) (fun r u t9 H1 locs1 ht hvm hw hBB hz1 hk1 hS1 => ?_)
  obtain ⟨hM1, hp1⟩ := hBB
  subst hw
  rw [ht] at hM1
  exact kk _ H1 locs1 _ _ _ _ hp1 hM1 hS1
theorem mz_Vv {post : mz_Po} (X : CallFix p m c cc nL s args Ts own) (hK : kk_K D cy ld s) (hM : mz_S D cy ad am F G R S H) (hS : va_S (mz_W ad am) s.heap H locs) (hC : Met l y wsy rm (mz_p D cy ld ad am F G R S (.ref am :: As)) (mz_w D cy ad am post) mc ms (mz_W ad am)) (cw : CallW Rm s args own RX13 index y bytes maxL ret wsy rm mc ms n) (hn : As.length = n) (hsize : ls.size = nL) (hst : st = As.reverse ++ .ref am :: rest) (hW : (rest.map fun v => v.category).sum ≤ 8) (hdg : decode cc pc = .ok (.invokevirtual index, 3)) (hf : cells + mc ≤ Rm.cells ∧ slots + ms ≤ Rm.slots)
    (kk : ∀ (H1 : Heap) (locs1 : List Loc) (F1 : Nat → Int32) (G1 : Nat → Int64) (R1 : Nat → Nat → Int32) (S1 : Nat → Nat → Int64), post F1 G1 R1 S1 → mz_S D cy ad am F1 G1 R1 S1 H1 → va_S (mz_W ad am) s.heap H1 locs1 → W p l e Rm s m args below meth c H1 locs1 (cells + mc) (slots + ms) Q (F0 m (pc + 3) ls rest)) : W p l e Rm s m args below meth c H locs cells slots Q (F0 m pc ls st) := by
  subst hst
  refine va_callv (va_runV (As := As) (rest := rest) X hC cw ⟨mz_p_blind, va_recv hK.1 (tk_one hM.1) (show vwCl[13]? = some (RX13, TX13, 70) from rfl) (q0 := 0) rfl, fun U hU hW2 => ⟨rfl, by rw [hU]; exact hM, kk_warm hW2 hK⟩⟩ rfl hn hsize rfl (lv_room hW) hdg hf) hS (fun q _ h => h) (fun q h => h) (fun u t9 H1 locs1 ht hvm hw hBB hz1 hk1 hS1 => ?_)
  obtain ⟨hM1, hp1⟩ := hBB
  rw [ht] at hM1
  exact kk H1 locs1 _ _ _ _ hp1 hM1 hS1
theorem mz_Vj {post : Int32 → Prop} (X : CallFix p m c cc nL s args Ts own) (hK : kk_K D cy ld s) (hM : mz_S D cy ad am F G R S H) (hS : va_S (mz_W ad am) s.heap H locs) (hC : Met l y wsy rm (mz_p D cy ld ad am F G R S (.ref am :: As)) (mz_j D cy ad am F G R S post) mc ms (mz_W ad am)) (cw : CallW Rm s args own RX13 index y bytes maxL ret wsy rm mc ms n) (hn : As.length = n) (hsize : ls.size = nL) (hst : st = As.reverse ++ .ref am :: rest) (hW : (rest.map fun v => v.category).sum ≤ 8) (hdg : decode cc pc = .ok (.invokevirtual index, 3)) (hf : cells + mc ≤ Rm.cells ∧ slots + ms ≤ Rm.slots)
    (kk : ∀ (r : Int32) (H1 : Heap) (locs1 : List Loc), post r → mz_S D cy ad am F G R S H1 → va_S (mz_W ad am) s.heap H1 locs1 → W p l e Rm s m args below meth c H1 locs1 (cells + mc) (slots + ms) Q (F0 m (pc + 3) ls (.int r :: rest))) : W p l e Rm s m args below meth c H locs cells slots Q (F0 m pc ls st) := by
  subst hst
  refine va_calli (va_runV (As := As) (rest := rest) X hC cw ⟨mz_p_blind, va_recv hK.1 (tk_one hM.1) (show vwCl[13]? = some (RX13, TX13, 70) from rfl) (q0 := 0) rfl, fun U hU hW2 => ⟨rfl, by rw [hU]; exact hM, kk_warm hW2 hK⟩⟩ rfl hn hsize rfl (lv_room hW) hdg hf) hS (fun q _ h => h) (fun q h => h) (fun r u t9 H1 locs1 ht hvm hw hBB hz1 hk1 hS1 => ?_)
  obtain ⟨hM1, hp1⟩ := hBB
  subst hw
  rw [ht] at hM1
  exact kk _ H1 locs1 hp1 hM1 hS1
theorem mz_Sj {post : Int32 → Prop} (X : CallFix p m c cc nL s args Ts own) (hK : kk_K D cy ld s) (hM : mz_S D cy ad am F G R S H) (hS : va_S (mz_W ad am) s.heap H locs) (hC : Met l y wsy rm (mz_p D cy ld ad am F G R S As) (mz_j D cy ad am F G R S post) mc ms (mz_W ad am)) (cw : CallB Rm s args own index y bytes maxL ret wsy rm mc ms n ∧ (Cond.static y).before args s = true) (hn : As.length = n) (hsize : ls.size = nL) (hst : st = As.reverse ++ rest) (hW : (rest.map fun v => v.category).sum ≤ 8) (hdg : decode cc pc = .ok (.invokestatic index, 3)) (hf : cells + mc ≤ Rm.cells ∧ slots + ms ≤ Rm.slots)
    (kk : ∀ (r : Int32) (H1 : Heap) (locs1 : List Loc), post r → mz_S D cy ad am F G R S H1 → va_S (mz_W ad am) s.heap H1 locs1 → W p l e Rm s m args below meth c H1 locs1 (cells + mc) (slots + ms) Q (F0 m (pc + 3) ls (.int r :: rest))) : W p l e Rm s m args below meth c H locs cells slots Q (F0 m pc ls st) := by
  subst hst
  refine va_calli (va_runS (As := As) (rest := rest) X hC cw ⟨mz_p_blind, fun U hU hW2 => ⟨rfl, by rw [hU]; exact hM, kk_warm hW2 hK⟩⟩ rfl hn hsize rfl (lv_room hW) hdg hf) hS (fun q _ h => h) (fun q h => h) (fun r u t9 H1 locs1 ht hvm hw hBB hz1 hk1 hS1 => ?_)
  obtain ⟨hM1, hp1⟩ := hBB
  subst hw
  rw [ht] at hM1
  exact kk _ H1 locs1 hp1 hM1 hS1
theorem mz_iret {post : Int32 → mz_Po} {v : Int32} {ty : FieldType} (hx : p.tables.exec = Jvm.exec) (hb : c.code = cc) (hr : meth.sig.returnType = some ty) (hty : narrow ty (.int v) = .int v) (hlocks : meth.locks = false) (hpost : post v F G R S) (hM : mz_S D cy ad am F G R S H) (hS : va_S (mz_W ad am) s.heap H locs) (hdg : decode cc pc = .ok (.ireturn, 1)) :
    W p l e Rm s m args below meth c H locs cells slots (MQ below (mz_i D cy ad am post) args s cells slots (mz_W ad am)) (F0 m pc ls [.int v]) :=
  W.zret hx hb hr hty (fun t ht _ => ⟨⟨v, (v, F, G, R, S), rfl, rfl, by show mz_S D cy ad am F G R S t.heap ∧ post v F G R S; rw [ht]; exact ⟨hM, hpost⟩⟩, hS.F ht⟩) hS.2.2 hdg hlocks
theorem mz_jret {post : Int32 → Prop} {v : Int32} {ty : FieldType} (hx : p.tables.exec = Jvm.exec) (hb : c.code = cc) (hr : meth.sig.returnType = some ty) (hty : narrow ty (.int v) = .int v) (hlocks : meth.locks = false) (hpost : post v) (hM : mz_S D cy ad am F G R S H) (hS : va_S (mz_W ad am) s.heap H locs) (hdg : decode cc pc = .ok (.ireturn, 1)) :
    W p l e Rm s m args below meth c H locs cells slots (MQ below (mz_j D cy ad am F G R S post) args s cells slots (mz_W ad am)) (F0 m pc ls [.int v]) :=
  W.zret hx hb hr hty (fun t ht _ => ⟨⟨v, v, rfl, rfl, by show mz_S D cy ad am F G R S t.heap ∧ post v; rw [ht]; exact ⟨hM, hpost⟩⟩, hS.F ht⟩) hS.2.2 hdg hlocks
theorem mz_lret {post : Int64 → mz_Po} {v : Int64} (hx : p.tables.exec = Jvm.exec) (hb : c.code = cc) (hr : meth.sig.returnType = some .long) (hlocks : meth.locks = false) (hpost : post v F G R S) (hM : mz_S D cy ad am F G R S H) (hS : va_S (mz_W ad am) s.heap H locs) (hdg : decode cc pc = .ok (.lreturn, 1)) :
    W p l e Rm s m args below meth c H locs cells slots (MQ below (mz_l D cy ad am post) args s cells slots (mz_W ad am)) (F0 m pc ls [.long v]) :=
  W.lret hx hb hr (fun t ht _ => ⟨⟨v, (v, F, G, R, S), rfl, rfl, by show mz_S D cy ad am F G R S t.heap ∧ post v F G R S; rw [ht]; exact ⟨hM, hpost⟩⟩, hS.F ht⟩) hS.2.2 hdg hlocks
theorem mz_vret {post : mz_Po} (hx : p.tables.exec = Jvm.exec) (hb : c.code = cc) (hr : meth.sig.returnType = none) (hlocks : meth.locks = false) (hpost : post F G R S) (hM : mz_S D cy ad am F G R S H) (hS : va_S (mz_W ad am) s.heap H locs) (hdg : decode cc pc = .ok (.return_, 1)) :
    W p l e Rm s m args below meth c H locs cells slots (MQ below (mz_w D cy ad am post) args s cells slots (mz_W ad am)) (F0 m pc ls []) :=
  W.vret hx hb hr (fun t ht _ => ⟨⟨(F, G, R, S), rfl, trivial, by show mz_S D cy ad am F G R S t.heap ∧ post F G R S; rw [ht]; exact ⟨hM, hpost⟩⟩, hS.F ht⟩) hS.2.2 hdg hlocks
end MZC
