/-! objects in the making: the heap has n cells; those of a kind that are there already, and don't lie bare, hold what they may -/
def rc_G (D : va_G) (cy : Nat → ClassId) (ld : Nat → Nat) (t : tk_T) (X : List Nat) (n : Nat) (H : Heap) : Prop := H.size = n ∧ ∀ a : Nat, (t a).1 ≠ 0 → a < n → a ∉ X → ∃ e : va_E, va_at D vwCl (a, e) H ∧ tk_O cy ld t (t a).1 (t a).2.1 (t a).2.2 e
theorem rc_G.ajar {D : va_G} {cy : Nat → ClassId} {ld : Nat → Nat} {t : tk_T} {X : List Nat} {n a : Nat} {H H1 : Heap} (h : rc_G D cy ld t X n H) (ha : a ∈ X) (hz : H1.size = H.size) (hq : ∀ q : Nat, q ≠ a → H1[q]? = H[q]?) : rc_G D cy ld t X n H1 := ⟨hz.trans h.1, fun b hb hn hX => by
  obtain ⟨e, g1, g2⟩ := h.2 b hb hn hX
  exact ⟨e, g1.kept (hq b (fun h => hX (h ▸ ha))), g2⟩⟩
theorem rc_G.push {D : va_G} {cy : Nat → ClassId} {ld : Nat → Nat} {t : tk_T} {X : List Nat} {n : Nat} {H H1 : Heap} (h : rc_G D cy ld t X n H) (hz : H1.size = n + 1) (hq : ∀ q : Nat, q < n → H1[q]? = H[q]?) : rc_G D cy ld t (n :: X) (n + 1) H1 := ⟨hz, fun b hb hn hX => by
  have e1 : b ≠ n := fun e => hX (by rw [e]; exact List.mem_cons_self ..)
  obtain ⟨e, g1, g2⟩ := h.2 b hb (by omega) (fun q => hX (List.mem_cons_of_mem _ q))
  exact ⟨e, g1.kept (hq b (by omega)), g2⟩⟩
theorem rc_G.close {D : va_G} {cy : Nat → ClassId} {ld : Nat → Nat} {t : tk_T} {X : List Nat} {n a k nn r : Nat} {H : Heap} {e : va_E} (h : rc_G D cy ld t (a :: X) n H) (hat : va_at D vwCl (a, e) H) (ht : t a = (k, nn, r)) (ho : tk_O cy ld t k nn r e) : rc_G D cy ld t X n H := ⟨h.1, fun b hb hn hX => by
  by_cases e1 : b = a
  · subst e1
    refine ⟨_, hat, ?_⟩
    rw [ht]
    exact ho
  · exact h.2 b hb hn (fun q => (List.mem_cons.mp q).elim e1 hX)⟩
theorem rc_G.obj {D : va_G} {cy : Nat → ClassId} {ld : Nat → Nat} {t : tk_T} {X : List Nat} {n a ci nn r : Nat} {H : Heap} (hG : rc_G D cy ld t X n H) (ha : t a = (ci + 1, nn, r)) (hci : ci + 1 < 20) (hn : a < n) (hX : a ∉ X) : ∃ fs : List Value, va_at D vwCl (a, .inr (ci, fs)) H ∧ ∀ (j : Nat) (sp : tk_S), (tk_F (ci + 1))[j]? = some sp → ∃ v : Value, fs[j]? = some v ∧ tk_V ld t nn r sp v := by
  obtain ⟨e, h1, h2⟩ := hG.2 a (by rw [ha]; exact Nat.succ_ne_zero _) hn hX
  rw [ha] at h2
  change tk_O cy ld t (ci + 1) nn r e at h2
  unfold tk_O at h2
  rw [if_pos hci] at h2
  obtain ⟨fs, rfl, -, h4, -⟩ := h2
  exact ⟨fs, h1, h4⟩
theorem rc_obj {cy : Nat → ClassId} {ld : Nat → Nat} {t : tk_T} {ci n r : Nat} {fs : List Value} (hci : ci + 1 < 20) (hl : fs.length = (tk_F (ci + 1)).length) (hv : ∀ (j : Nat) (sp : tk_S), (tk_F (ci + 1))[j]? = some sp → ∃ v : Value, fs[j]? = some v ∧ tk_V ld t n r sp v) (hX : tk_X (ci + 1) n r fs) : tk_O cy ld t (ci + 1) n r (.inr (ci, fs)) := by
  unfold tk_O
  rw [if_pos hci]
  exact ⟨fs, rfl, hl, hv, hX⟩
theorem rc_arr {cy : Nat → ClassId} {ld : Nat → Nat} {t : tk_T} {k n r : Nat} {f : Nat → Int32} (hk : 20 ≤ k) (hK : tk_K k = 0) (hE : ∀ j : Nat, j < n → tk_E k r j (f j).toInt) : tk_O cy ld t k n r (.inl (cy 0, n, .inl f)) := by
  unfold tk_O
  rw [if_neg (Nat.not_lt.mpr hk)]
  unfold tk_A
  rw [hK]
  exact ⟨f, rfl, hE⟩
theorem rc_arrZ {cy : Nat → ClassId} {ld : Nat → Nat} {t : tk_T} {k n r : Nat} {f : Nat → Int32} (hk : 20 ≤ k) (hK : tk_K k = 2) : tk_O cy ld t k n r (.inl (cy 2, n, .inl f)) := by
  unfold tk_O
  rw [if_neg (Nat.not_lt.mpr hk)]
  unfold tk_A
  rw [hK]
  exact ⟨f, rfl⟩
theorem rc_arrQ {cy : Nat → ClassId} {ld : Nat → Nat} {t : tk_T} {k n r c : Nat} {f : Nat → Option Nat} (hk : 20 ≤ k) (hK : tk_K k = c + 3) (hE : ∀ j : Nat, j < n → tk_R ld t k r j (f j)) : tk_O cy ld t k n r (.inl (cy (c + 3), n, .inr (.inr (.inr (.inr f))))) := by
  unfold tk_O
  rw [if_neg (Nat.not_lt.mpr hk)]
  unfold tk_A
  rw [hK]
  exact ⟨f, rfl, hE⟩
theorem rc_nin {a b : Nat} {X : List Nat} (h : a ≠ b) (hX : a ∉ X) : a ∉ b :: X := fun q => (List.mem_cons.mp q).elim h hX
def rcp (D : va_G) (cy : Nat → ClassId) (ld : Nat → Nat) (t : tk_T) (X : List Nat) (av : List Value) (b ci : Nat) (fs : List Value) (n : Nat) : Array Value → State → Prop := va_Pc av (fun U => rc_G D cy ld t (b :: X) n U.heap ∧ va_at D vwCl (b, .inr (ci, fs)) U.heap ∧ kk_K D cy ld U)
def rcq (D : va_G) (cy : Nat → ClassId) (ld : Nat → Nat) (t : tk_T) (X : List Nat) (b n m : Nat) : Array Value → State → Outcome → State → Prop := va_Qv (S := Unit) (fun _ => True) (fun _ st => rc_G D cy ld t X m st.heap) (fun q => q = b ∨ n ≤ q)
def rcqa (D : va_G) (cy : Nat → ClassId) (ld : Nat → Nat) (t : tk_T) (X : List Nat) (b n m : Nat) (e : va_E) (LX : List (Nat × va_E)) : Array Value → State → Outcome → State → Prop := va_Qv (S := Unit) (fun _ => True) (fun _ st => rc_G D cy ld t X m st.heap ∧ va_at D vwCl (b, e) st.heap ∧ ∀ q ∈ LX, va_at D vwCl q st.heap) (fun q => q = b ∨ n ≤ q)
theorem rcp_blind {D : va_G} {cy : Nat → ClassId} {ld : Nat → Nat} {t : tk_T} {X : List Nat} {av : List Value} {b ci : Nat} {fs : List Value} {n : Nat} : FrameBlind (rcp D cy ld t X av b ci fs n) := fun a U g mk q => by
  obtain ⟨q0, q1, q2, q3⟩ := q
  exact ⟨q0, q1, q2, kk_call g mk a q3⟩
section RCB
variable {p : Program} {l : Launch} {e : Env} {R : Room} {s : State} {m : MethodId} {args : Array Value} {below : List Frame} {meth : Method} {c : Code} {H : Heap} {locs : List Loc} {cells slots : Nat} {Q : State → Prop}
variable {pc : Nat} {ls : Array Slot} {rest st : List Value} {A : Nat → Prop} {H0 : Heap} {mc ms nL maxL index : Nat} {D : va_G} {cy : Nat → ClassId} {ld : Nat → Nat} {own C : String} {Ts wsy : List Cond} {cc bytes : ByteArray} {y : MethodName} {ret : Option FieldType} {rm : Room} {As : List Value} {a b ci n na n1 : Nat} {t : tk_T} {X : List Nat} {T : u_T} {N : Nat}
theorem rc_new (hx : p.tables.exec = Jvm.exec) (hb : c.code = cc) (hts : ∀ w ∈ Ts, w.before args s = true) (hin : ∀ w ∈ u_ws C T N, w ∈ Ts) (ty : Nat → FieldType) (hty : ∀ k, k < N → parseFieldDescriptor (T k).2.2.1 = some (ty k)) (hown : s.vm.findClass own = some m.cls) (hcl : (Cond.classLink own index C).before args s = true) (hinst : (Cond.instantiable C N).before args s = true) (hini : (Cond.initialized C).before args s = true)
    (hK : kk_K D cy ld s) (hG : rc_G D cy ld t X n H) (hS : va_S A H0 H locs) (hc : vwCl[ci]? = some (C, T, N)) {fs : List Value} (hfs : ∀ j, j < N → defaultValue (ty j) = vp_V fs j) (hcells : cells + 1 ≤ R.cells) (hslots : slots + N ≤ R.slots) (hdg : decode cc pc = .ok (.new index, 3))
    (kk : ∀ H1 : Heap, rc_G D cy ld t (n :: X) (n + 1) H1 → va_at D vwCl (n, .inr (ci, fs)) H1 → (∀ q : Nat, q < n → H1[q]? = H[q]?) → va_S A H0 H1 locs → W p l e R s m args below meth c H1 locs (cells + 1) (slots + N) Q (F0 m (pc + 3) ls (.ref n :: rest))) : W p l e R s m args below meth c H locs cells slots Q (F0 m pc ls rest) := by
  have hKn := hK.1.1 ci _ hc
  have hsz := hG.1
  have hS1 := hS.1
  refine W.newcK hx hb hown hcl hinst hini rfl hdg hcells hslots hKn.2.1 hsz fun H1 kC hkC e1 z1 o1 => ?_
  exact kk H1 (hG.push z1 o1) ⟨_, hc, (u_born ty hts hin hKn hkC e1 hty).to hfs⟩ o1 ⟨by omega, fun x h1 h2 => (o1 x (by omega)).trans (hS.2.1 x h1 h2), hS.2.2⟩
theorem rc_newa (hx : p.tables.exec = Jvm.exec) (hb : c.code = cc) {atype : ArrayType} {ty : FieldType} (harr : (Cond.arrayClass ty).before args s = true) (hty : newarray.typeOf atype = ty) (hK : kk_K D cy ld s) (hG : rc_G D cy ld t X n H) (hS : va_S A H0 H locs) (t0 : Nat) {k0 : ClassId} (ht0 : (tys0 cy)[t0]? = some (k0, ty)) (hra : ∀ k, va_RA s k ty → s.vm.findClass ("[" ++ ty.toString) = some k)
    {k : Int32} {N' : Nat} {a0 : vp_A} (ha : ∀ cA : ClassId, vp_cell cA a0 = arrV cA N' (fun _ => defaultValue ty)) (hn : ¬ k < 0) (hN : k.toNatClampNeg = N') (hbytes : N' * componentBytes ty ≤ 536870912) (hcells : cells + 1 ≤ R.cells) (hslots : slots + N' ≤ R.slots) (hdg : decode cc pc = .ok (.newarray atype, 2))
    (kk : ∀ H1 : Heap, rc_G D cy ld t (n :: X) (n + 1) H1 → va_at D vwCl (n, .inl (k0, a0)) H1 → (∀ q : Nat, q < n → H1[q]? = H[q]?) → va_S A H0 H1 locs → W p l e R s m args below meth c H1 locs (cells + 1) (slots + N') Q (F0 m (pc + 2) ls (.ref n :: rest))) : W p l e R s m args below meth c H locs cells slots Q (F0 m pc ls (.int k :: rest)) := by
  subst hty
  have hsz := hG.1
  have hS1 := hS.1
  refine va_newaK hx hb harr rfl hdg rfl hn hN hbytes hcells hslots hsz fun H1 cA e1 z1 o1 hAr hNm => ?_
  obtain rfl : cA = k0 := Option.some.inj (hNm.symm.trans (hra _ (hK.1.2 t0 _ ht0).2))
  refine kk H1 (hG.push z1 o1) ?_ o1 ⟨by omega, fun x h1 h2 => (o1 x (by omega)).trans (hS.2.1 x h1 h2), hS.2.2⟩
  show H1[n]? = some (vp_cell _ _)
  rw [ha]
  exact e1
theorem rc_newq (hx : p.tables.exec = Jvm.exec) (hb : c.code = cc) (hown : s.vm.findClass own = some m.cls) (hclink : (Cond.classLink own index C).before args s = true) (hover : va_AO C s) (hK : kk_K D cy ld s) (hG : rc_G D cy ld t X n H) (hS : va_S A H0 H locs) (t0 : Nat) {k0 : ClassId} (ht0 : (tys0 cy)[t0]? = some (k0, .object C))
    {k : Int32} {N' : Nat} (hn : ¬ k < 0) (hN : k.toNatClampNeg = N') (hbytes : N' * 4 ≤ 536870912) (hcells : cells + 1 ≤ R.cells) (hslots : slots + N' ≤ R.slots) (hdg : decode cc pc = .ok (.anewarray index, 3))
    (kk : ∀ H1 : Heap, rc_G D cy ld t (n :: X) (n + 1) H1 → va_at D vwCl (n, .inl (k0, N', .inr (.inr (.inr (.inr (fun _ => none)))))) H1 → (∀ q : Nat, q < n → H1[q]? = H[q]?) → va_S A H0 H1 locs → W p l e R s m args below meth c H1 locs (cells + 1) (slots + N') Q (F0 m (pc + 3) ls (.ref n :: rest))) : W p l e R s m args below meth c H locs cells slots Q (F0 m pc ls (.int k :: rest)) := by
  subst hN
  have hsz := hG.1
  have hS1 := hS.1
  refine W.anew hx hb hown hclink (va_AO.use hover) rfl hdg rfl hn hbytes hcells hslots fun cA kA comp f1 f2 f3 f4 => ?_
  obtain ⟨_, _, _, _, _, hk0⟩ := (hK.1.2 t0 _ ht0).2
  obtain rfl : cA = k0 := Option.some.inj (f1.symm.trans hk0)
  generalize hH1 : H.push ({ cls := cA, slots := Array.replicate k.toNatClampNeg .null, vm := .none } : Cell) = H1
  have z1 : H1.size = n + 1 := by rw [← hH1, Array.size_push, hsz]
  have e1 : H1[n]? = some (arrV cA k.toNatClampNeg (fun _ => .null)) := by rw [← hH1, ← hsz, Array.getElem?_push_size, ← arrV_new]
  have o1 : ∀ q : Nat, q < n → H1[q]? = H[q]? := fun q hq => by rw [← hH1, Array.getElem?_push, if_neg (by omega)]
  rw [hsz]
  refine kk H1 (hG.push z1 o1) ?_ o1 ⟨by omega, fun x h1 h2 => (o1 x (by omega)).trans (hS.2.1 x h1 h2), hS.2.2⟩
  show H1[n]? = some (vp_cell _ _)
  rw [e1, vp_cell_q]
  rfl
/-- new int[8][8]: all its rows lie behind it -/
theorem rc_grid (hx : p.tables.exec = Jvm.exec) (hb : c.code = cc) {ty : FieldType} (hty : ty = .int) (hown : s.vm.findClass own = some m.cls) (hclink : (Cond.classLink own index ("[" ++ (FieldType.array ty).toString)).before args s = true) (hover : (Cond.arrayOver (.array ty)).before args s = true) (harr : (Cond.arrayClass ty).before args s = true) (hK : kk_K D cy ld s) (hG : rc_G D cy ld t X n H) (hS : va_S A H0 H locs)
    (hcells : cells + (1 + 8) ≤ R.cells) (hslots : slots + (8 + 8 * 8) ≤ R.slots) (hdg : decode cc pc = .ok (.multianewarray index 2, 4)) (ht0 : t n = (30, 8, 0)) (ht1 : ∀ j : Nat, j < 8 → t (n + 1 + j) = (20, 8, 0))
    (kk : ∀ H1 : Heap, rc_G D cy ld t X (n + 9) H1 → (∀ q : Nat, q < n → H1[q]? = H[q]?) → va_S A H0 H1 locs → W p l e R s m args below meth c H1 locs (cells + (1 + 8)) (slots + (8 + 8 * 8)) Q (F0 m (pc + 4) ls (.ref n :: rest))) : W p l e R s m args below meth c H locs cells slots Q (F0 m pc ls (.int 8 :: .int 8 :: rest)) := by
  subst hty
  have hsz := hG.1
  have hS1 := hS.1
  intro T hT Xs
  obtain ⟨vm₁, cA, comp, -, fA, fC, -, -, X', step⟩ := Xs.multianewarray2F hx hown hclink hover harr (g := F0 m pc ls (.int 8 :: .int 8 :: rest)) rfl (by rw [hb]; exact hdg) rfl (by decide) (by decide) (by decide) (by decide) (by decide) rfl rfl hcells hslots
  obtain rfl : cA = cy 6 := Option.some.inj (fA.symm.trans (hK.1.2 6 _ rfl).2)
  obtain rfl : comp = cy 0 := Option.some.inj (fC.symm.trans (hK.1.2 0 _ rfl).2)
  have hTh : (T.setVm vm₁).heap = H := hT
  generalize hF : Jvm.Free.Multi.fill (T.setVm vm₁) (cy 6) (cy 0) (8 : Int32).toNatClampNeg (8 : Int32).toNatClampNeg (defaultValue .int) (8 : Int32).toNatClampNeg = F at X' step
  obtain ⟨f1, f2, -, -⟩ := Jvm.Free.Multi.fill_facts (T.setVm vm₁) (cy 6) (cy 0) (8 : Int32).toNatClampNeg (8 : Int32).toNatClampNeg (defaultValue .int) (8 : Int32).toNatClampNeg
  rw [hF, hTh] at f1 f2
  have f1 : F.heap.size = H.size + 1 + 8 := f1
  have f2 : F.heap[H.size]? = some (vp_cell (cy 6) (8, .inr (.inr (.inr (.inr (gg H.size)))))) := f2.trans (congrArg some (gg_outer (cy 6) H.size))
  have hold : ∀ x : Nat, x < H.size → F.heap[x]? = H[x]? := fun x hx => by
    have := Jvm.Free.Multi.fill_old (T.setVm vm₁) (cy 6) (cy 0) (8 : Int32).toNatClampNeg (8 : Int32).toNatClampNeg (defaultValue .int) (a := x) (by rw [hTh]; exact hx) (8 : Int32).toNatClampNeg
    rw [hF, hTh] at this
    exact this
  have hrow : ∀ j : Nat, j < 8 → F.heap[H.size + 1 + j]? = some (vp_cell (cy 0) (8, .inl (fun _ => 0))) := fun j hj => by
    have := Jvm.Free.Multi.fill_inner (T.setVm vm₁) (cy 6) (cy 0) (8 : Int32).toNatClampNeg (8 : Int32).toNatClampNeg (defaultValue .int) (8 : Int32).toNatClampNeg j hj
    rw [hF, hTh] at this
    exact this.trans (congrArg some (gg_inner (cy 0)))
  rw [hsz] at f1 f2 hold hrow
  have hG1 : rc_G D cy ld t X (n + 9) F.heap := ⟨by omega, fun a ha hn hX => by
    by_cases h : a < n
    · obtain ⟨e, g1, g2⟩ := hG.2 a ha h hX
      exact ⟨e, g1.kept (hold a h), g2⟩
    · by_cases h2 : a = n
      · rw [h2]
        refine ⟨.inl (cy 6, 8, .inr (.inr (.inr (.inr (gg n))))), f2, ?_⟩
        rw [ht0]
        show tk_O cy ld t 30 8 0 _
        refine rc_arrQ (c := 3) (by decide) (by decide) (fun j hj => ?_)
        match j, hj with
        | 0, _ => exact ⟨_, rfl, ht1 0 (by decide)⟩
        | 1, _ => exact ⟨_, rfl, ht1 1 (by decide)⟩
        | 2, _ => exact ⟨_, rfl, ht1 2 (by decide)⟩
        | 3, _ => exact ⟨_, rfl, ht1 3 (by decide)⟩
        | 4, _ => exact ⟨_, rfl, ht1 4 (by decide)⟩
        | 5, _ => exact ⟨_, rfl, ht1 5 (by decide)⟩
        | 6, _ => exact ⟨_, rfl, ht1 6 (by decide)⟩
        | 7, _ => exact ⟨_, rfl, ht1 7 (by decide)⟩
        | j + 8, h => exact absurd h (by omega)
      · have e : a = n + 1 + (a - n - 1) := by omega
        have hj : a - n - 1 < 8 := by omega
        refine ⟨.inl (cy 0, 8, .inl (fun _ => 0)), ?_, ?_⟩
        · show F.heap[a]? = _
          rw [e]
          exact hrow _ hj
        · rw [e, ht1 _ hj]
          show tk_O cy ld t 20 8 0 _
          exact rc_arr (by decide) (by decide) (fun _ _ => trivial)⟩
  obtain ⟨t9, a1, b1⟩ := kk F.heap hG1 hold ⟨by omega, fun x h1 h2 => (hold x (by omega)).trans (hS.2.1 x h1 h2), hS.2.2⟩ F rfl X'
  exact ⟨t9, step t9 (by rw [hT, hsz]; exact a1), b1⟩
theorem rc_putF (hexec : p.tables.exec = Jvm.exec) (hb : c.code = cc) {ref : String} (hts : ∀ w ∈ Ts, w.before args s = true) (hin : ∀ w ∈ u_ws C T N, w ∈ Ts) (ty0 : Nat → FieldType) (hty : ∀ k, k < N → parseFieldDescriptor (T k).2.2.1 = some (ty0 k)) (hnm : ∀ a, a < N → ∀ b, b < N → a ≠ b → (T a).2.1 ≠ (T b).2.1) (hown : s.vm.findClass own = some m.cls) (hK : kk_K D cy ld s) {fs : List Value} (hat : va_at D vwCl (a, .inr (ci, fs)) H) (hc : vwCl[ci]? = some (C, T, N)) (k : Nat) (hk : k < N) (hlink : (Cond.fieldLink own index ref (T k).2.1 (T k).2.2.1).before args s = true) (hsame : ∀ x, s.fieldFound? (T k).1 (T k).2.1 (T k).2.2.1 = some x → s.fieldFound? ref (T k).2.1 (T k).2.2.1 = some x) (hfin : (T k).2.2.2 = true) (hin2 : meth.name = "<init>") (hdecl : (T k).1 = own) {ty : FieldType} {v : Value} (hd : parseFieldDescriptor (T k).2.2.1 = some ty) (hn : narrow ty v = v) (hfit : fits ty v = true) (hl : k < fs.length) (hdg : decode cc pc = .ok (.putfield index, 3))
    (kk : ∀ (H1 : Heap) (j : Nat), va_at D vwCl (a, .inr (ci, fs.set k v)) H1 → H1.size = H.size → (∀ q : Nat, q ≠ a → H1[q]? = H[q]?) → W p l e R s m args below meth c H1 (locs ++ [⟨a, j⟩]) cells slots Q (F0 m (pc + 3) ls rest)) : W p l e R s m args below meth c H locs cells slots Q (F0 m pc ls (v :: .ref a :: rest)) := by
  have hap := va_apart (own := own) hts hin ty0 hty hnm hK.1 hc
  obtain ⟨r, h1, cell, q1, q2, q3, q4⟩ := hat
  have hr : r = (C, T, N) := Option.some.inj (h1.symm.trans hc)
  subst hr
  obtain ⟨hS, hfc, kC, hkC, hkind⟩ := hK.1.1 ci _ hc
  obtain ⟨cf, kf, fi, f, hi, hsl⟩ := hS k hk
  have hlay := hts _ (hin _ (u_in_lay hk))
  unfold u_lay at hlay
  rw [if_pos hfin] at hlay
  have hst := (u_facts hfc hkC (u_lays hts hin hk) hi).1
  have hcf : m.cls = cf := by
    obtain ⟨_, _, c', _, _, _, -, -, hf', -, -, -, hown2, -⟩ := Cond.laysFinal_spec hlay
    have e1 : c' = cf := by have := hi.symm.trans hf'; simp at this; exact this.1.symm
    rw [hdecl] at hown2
    rw [← e1]; exact Option.some.inj (hown.symm.trans hown2)
  have h6 := u_fits hfc hkC hkind (Or.inr hlay) hi hd hn hfit
  refine W.putFinK hexec hb hown hlink (hsame _ hi) hst hcf hin2 (by rw [q2]; exact h6) q1 q3 (by rw [hsl]; exact k2_hasslot (q4 k hk)) rfl rfl hdg fun H' e1 e2 e3 => ?_
  rw [hsl] at e1 ⊢
  exact kk H' _ ⟨_, hc, t_OB.to (V := updV (vp_V fs) k v) ⟨_, e1, q2, q3, t_set q4 hap hk v⟩ (fun j _ => vp_updV_set hl v j)⟩ e2 e3
theorem rc_iast (hx : p.tables.exec = Jvm.exec) (hb : c.code = cc) (hK : kk_K D cy ld s) {f : Nat → Int32} (hat : va_at D vwCl (a, .inl (cy 0, n, .inl f)) H) {i x : Int32} (hin : vp_in i n) (hdg : decode cc pc = .ok (.iastore, 1))
    (kk : ∀ (H1 : Heap) (j : Nat), va_at D vwCl (a, .inl (cy 0, n, .inl (upd f i.toNatClampNeg x))) H1 → H1.size = H.size → (∀ q : Nat, q ≠ a → H1[q]? = H[q]?) → W p l e R s m args below meth c H1 (locs ++ [⟨a, j⟩]) cells slots Q (F0 m (pc + 1) ls rest)) : W p l e R s m args below meth c H locs cells slots Q (F0 m pc ls (.int x :: .int i :: .ref a :: rest)) := by
  refine W.iast hx hb hat ((hK.1.2 0 _ rfl).1 n (fun j => .int (f j))) (fun q => by cases q) (by show ¬ (i < 0 ∨ (arrV _ _ _).slots.size ≤ _); rw [arrV_size]; exact hin) rfl rfl hdg fun H1 e z oq => ?_
  refine kk H1 _ ?_ z oq
  show H1[a]? = some (vp_cell _ _)
  rw [e, vp_cell_i, vp_cell_i, arrV_store]
  congr 2
  funext q
  by_cases hq : q = i.toNatClampNeg
  · subst hq
    simp [updV, upd]
  · simp [updV, upd, hq]
theorem rc_aast (hx : p.tables.exec = Jvm.exec) (hb : c.code = cc) (hK : kk_K D cy ld s) (t0 : Nat) {cA : ClassId} {r : vw_C} {v : Nat} {vs : List Value} {f : Nat → Option Nat} (hat : va_at D vwCl (a, .inl (cA, n, .inr (.inr (.inr (.inr f))))) H) (ht : (tys0 cy)[t0]? = some (cA, .object r.1)) (hv : va_at D vwCl (v, .inr (ci, vs)) H) (hc : vwCl[ci]? = some r) {i : Int32} (hin : vp_in i n) (hdg : decode cc pc = .ok (.aastore, 1))
    (kk : ∀ (H1 : Heap) (j : Nat), va_at D vwCl (a, .inl (cA, n, .inr (.inr (.inr (.inr (va_up f i.toNatClampNeg (some v))))))) H1 → H1.size = H.size → (∀ q : Nat, q ≠ a → H1[q]? = H[q]?) → W p l e R s m args below meth c H1 (locs ++ [⟨a, j⟩]) cells slots Q (F0 m (pc + 1) ls rest)) : W p l e R s m args below meth c H locs cells slots Q (F0 m pc ls (.ref v :: .int i :: .ref a :: rest)) := by
  have hlt : i.toNatClampNeg < n := Nat.not_le.mp fun q => hin (Or.inr q)
  have h0 : ¬ i < 0 := fun q => hin (Or.inl q)
  obtain ⟨r', hr', cellV, g1, g2, g3, -⟩ := hv
  have hcls := (hK.1.1 ci r hc).2
  obtain ⟨kA, comp, k1, k2, k3, -⟩ := (hK.1.2 t0 _ ht).2
  have hcomp : comp = D.1 ci := Option.some.inj (k3.symm.trans hcls.1)
  subst hcomp
  obtain ⟨kC, hkC, -⟩ := hcls.2
  refine W.aast hx hb hat (fun q h => by cases h) (fun h => by cases h) k1 k2 rfl hkC ⟨h0, by show _ < (arrV _ _ _).slots.size; rw [arrV_size]; exact hlt⟩ g1 (fun q h => by rw [g3] at h; cases h) (by rw [g2]; exact hkC) (by rw [g2]; exact va_assign hcls) rfl rfl hdg fun H1 e z oq => ?_
  refine kk H1 _ ?_ z oq
  show H1[a]? = some (vp_cell _ _)
  rw [e]
  rw [vp_cell_q, vp_cell_q, arrV_store]
  congr 2
  funext q
  by_cases hq : q = i.toNatClampNeg
  · subst hq
    simp [updV, va_up, va_rf]
  · simp [updV, va_up, hq]
theorem rc_I {fs : List Value} (S : CallFix p m c cc nL s args Ts own) (hK : kk_K D cy ld s) (hG : rc_G D cy ld t (b :: X) n H) (hat : va_at D vwCl (b, .inr (ci, fs)) H) (hS : va_S A H0 H locs) (hA : ∀ q : Nat, q = b ∨ n ≤ q → A q)
    (hM : Met l y wsy rm (rcp D cy ld t X (.ref b :: As) b ci fs n) (rcq D cy ld t X b n n1) mc ms (fun q => q = b ∨ n ≤ q))
    (cw : CallB R s args own index y bytes maxL none wsy rm mc ms na ∧ y.name = "<init>" ∧ (Cond.instanceMethod y).before args s = true)
    (hn : As.length = na) (hsize : ls.size = nL) (hst : st = As.reverse ++ .ref b :: rest) (hW : (rest.map fun v => v.category).sum ≤ 8) (hdg : decode cc pc = .ok (.invokespecial index, 3)) (hf : cells + mc ≤ R.cells ∧ slots + ms ≤ R.slots)
    (kk : ∀ (H1 : Heap) (locs1 : List Loc), rc_G D cy ld t X n1 H1 → (∀ q : Nat, q < n → q ≠ b → H1[q]? = H[q]?) → va_S A H0 H1 locs1 → W p l e R s m args below meth c H1 locs1 (cells + mc) (slots + ms) Q (F0 m (pc + 3) ls rest)) :
    W p l e R s m args below meth c H locs cells slots Q (F0 m pc ls st) := by
  subst hst
  have hsz := hG.1
  refine va_callv (va_runI (As := As) (rest := rest) S hM cw ⟨rcp_blind, fun U hU hW2 => ⟨rfl, by rw [hU]; exact hG, by rw [hU]; exact hat, kk_warm hW2 hK⟩⟩ rfl hn hsize rfl (lv_room hW) hdg hf) hS (fun q _ h => hA q h) hA (fun u t9 H1 locs1 ht hvm hw hB hz1 hk1 hS1 => ?_)
  have hB : rc_G D cy ld t X n1 t9.heap := hB
  rw [ht] at hB
  exact kk H1 locs1 hB (fun q h1 h2 => hk1 q (by omega) (fun h => h.elim h2 (fun h => by omega))) hS1
theorem rc_Ia {fs : List Value} {e1 : va_E} {LX : List (Nat × va_E)} (S : CallFix p m c cc nL s args Ts own) (hK : kk_K D cy ld s) (hG : rc_G D cy ld t (b :: X) n H) (hat : va_at D vwCl (b, .inr (ci, fs)) H) (hS : va_S A H0 H locs) (hA : ∀ q : Nat, q = b ∨ n ≤ q → A q)
    (hM : Met l y wsy rm (rcp D cy ld t X (.ref b :: As) b ci fs n) (rcqa D cy ld t X b n n1 e1 LX) mc ms (fun q => q = b ∨ n ≤ q))
    (cw : CallB R s args own index y bytes maxL none wsy rm mc ms na ∧ y.name = "<init>" ∧ (Cond.instanceMethod y).before args s = true)
    (hn : As.length = na) (hsize : ls.size = nL) (hst : st = As.reverse ++ .ref b :: rest) (hW : (rest.map fun v => v.category).sum ≤ 8) (hdg : decode cc pc = .ok (.invokespecial index, 3)) (hf : cells + mc ≤ R.cells ∧ slots + ms ≤ R.slots)
    (kk : ∀ (H1 : Heap) (locs1 : List Loc), rc_G D cy ld t X n1 H1 → (va_at D vwCl (b, e1) H1 ∧ ∀ q ∈ LX, va_at D vwCl q H1) → (∀ q : Nat, q < n → q ≠ b → H1[q]? = H[q]?) → va_S A H0 H1 locs1 → W p l e R s m args below meth c H1 locs1 (cells + mc) (slots + ms) Q (F0 m (pc + 3) ls rest)) :
    W p l e R s m args below meth c H locs cells slots Q (F0 m pc ls st) := by
  subst hst
  have hsz := hG.1
  refine va_callv (va_runI (As := As) (rest := rest) S hM cw ⟨rcp_blind, fun U hU hW2 => ⟨rfl, by rw [hU]; exact hG, by rw [hU]; exact hat, kk_warm hW2 hK⟩⟩ rfl hn hsize rfl (lv_room hW) hdg hf) hS (fun q _ h => hA q h) hA (fun u t9 H1 locs1 ht hvm hw hB hz1 hk1 hS1 => ?_)
  have hB : rc_G D cy ld t X n1 t9.heap ∧ va_at D vwCl (b, e1) t9.heap ∧ ∀ q ∈ LX, va_at D vwCl q t9.heap := hB
  rw [ht] at hB
  exact kk H1 locs1 hB.1 hB.2 (fun q h1 h2 => hk1 q (by omega) (fun h => h.elim h2 (fun h => by omega))) hS1
theorem rc_met {av fs : List Value} (QC : Array Value → State → Outcome → State → Prop) (hy : plainName y.cls = true) (hlen : (lg_sl av).length ≤ maxL)
    (body : ∀ (p : Program) (e : Env) (s : State) (m : MethodId) (args : Array Value) (below : List Frame) (meth : Method) (c : Code), p.tables.exec = Jvm.exec → c.code = cc → meth.sig.returnType = ret → c.maxLocals = maxL → (∀ w ∈ wl y cc maxL ret, w.before args s = true) → (∀ w ∈ wsA, w.before args s = true) → s.vm.findClass y.cls = some m.cls → meth.locks = false → meth.name = y.name → kk_K D cy ld s → ∀ (H : Heap) (locs : List Loc), b < n → rc_G D cy ld t (b :: X) n H → va_at D vwCl (b, .inr (ci, fs)) H → va_S (fun q => q = b ∨ n ≤ q) s.heap H locs → ∀ ls : Array Slot, lv_has ls maxL (lv_args 0 av) →
      W p l e rm s m args below meth c H locs 0 0 (MQ below QC args s mc ms (fun q => q = b ∨ n ≤ q)) (F0 m 0 ls [])) : Met l y (wl y cc maxL ret) rm (rcp D cy ld t X av b ci fs n) QC mc ms (fun q => q = b ∨ n ≤ q) := by
  refine Met.ofW (cc := cc) (maxL := maxL) (ret := ret) hy rfl ?_
  intro p e s m args below meth c s₁ B hml hv
  obtain ⟨rfl, hG, hat, hK⟩ := hv
  have hts := atoms_spec (ws := wl y cc maxL ret) B.pre
  have hl := lv_entry av (n := maxL) hlen
  rw [lg_entry_eq]
  have hbn : b < n := by have h := hat.lt; rw [hG.1] at h; exact h
  exact body p e s m _ below meth c B.exec B.bytes B.returns hml hts (fun w hw => hts w (List.mem_cons_of_mem _ hw)) (findClass_of_methodNamed B.named) B.notSynchronized (name_of_methodNamed B.named B.method).1 hK s.heap [] hbn hG hat va_S.rf _ hl
theorem rc_vret (hx : p.tables.exec = Jvm.exec) (hb : c.code = cc) (hr : meth.sig.returnType = none) (hlocks : meth.locks = false) (hG : rc_G D cy ld t X n1 H) (hS : va_S (fun q => q = b ∨ n ≤ q) s.heap H locs) (hdg : decode cc pc = .ok (.return_, 1)) :
    W p l e R s m args below meth c H locs cells slots (MQ below (rcq D cy ld t X b n n1) args s cells slots (fun q => q = b ∨ n ≤ q)) (F0 m pc ls []) :=
  W.vret hx hb hr (fun t9 ht _ => ⟨⟨(), rfl, trivial, by show rc_G D cy ld t X n1 t9.heap; rw [ht]; exact hG⟩, hS.F ht⟩) hS.2.2 hdg hlocks
theorem rc_vreta {e1 : va_E} {LX : List (Nat × va_E)} (hx : p.tables.exec = Jvm.exec) (hb : c.code = cc) (hr : meth.sig.returnType = none) (hlocks : meth.locks = false) (hG : rc_G D cy ld t X n1 H) (hat : va_at D vwCl (b, e1) H ∧ ∀ q ∈ LX, va_at D vwCl q H) (hS : va_S (fun q => q = b ∨ n ≤ q) s.heap H locs) (hdg : decode cc pc = .ok (.return_, 1)) :
    W p l e R s m args below meth c H locs cells slots (MQ below (rcqa D cy ld t X b n n1 e1 LX) args s cells slots (fun q => q = b ∨ n ≤ q)) (F0 m pc ls []) :=
  W.vret hx hb hr (fun t9 ht _ => ⟨⟨(), rfl, trivial, by show rc_G D cy ld t X n1 t9.heap ∧ va_at D vwCl (b, e1) t9.heap ∧ ∀ q ∈ LX, va_at D vwCl q t9.heap; rw [ht]; exact ⟨hG, hat⟩⟩, hS.F ht⟩) hS.2.2 hdg hlocks
end RCB
