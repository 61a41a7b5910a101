def mr_o (k : Nat) : Nat := match k with
  | 2 => 0
  | 3 => 1
  | 4 => 2
  | 5 => 3
  | 6 => 4
  | 7 => 5
  | 9 => 6
  | 10 => 7
  | 12 => 8
  | 22 => 9
  | 24 => 10
  | 25 => 11
  | 27 => 12
  | 28 => 13
  | 31 => 14
  | 32 => 15
  | 33 => 16
  | 35 => 17
  | 36 => 18
  | 37 => 19
  | 42 => 20
  | 43 => 21
  | 44 => 22
  | 45 => 23
  | 46 => 24
  | 48 => 25
  | 49 => 26
  | 50 => 27
  | 51 => 28
  | 52 => 29
  | 55 => 30
  | 56 => 31
  | 59 => 32
  | 61 => 33
  | 66 => 34
  | 67 => 35
  | 68 => 36
  | _ => 0
def mr_S (k : Nat) : Nat → Int64 := match k with
  | 31 => (vp_updL (vp_updL (vp_updL (vp_updL (vp_updL (vp_updL (vp_updL (vp_updL (vp_updL (fun _ => 0) (0 : Int32).toNatClampNeg 20293004) (1 : Int32).toNatClampNeg 659111367) (2 : Int32).toNatClampNeg 11449) (3 : Int32).toNatClampNeg 624037) (4 : Int32).toNatClampNeg 278194) (5 : Int32).toNatClampNeg 755045) (6 : Int32).toNatClampNeg 679650899) (7 : Int32).toNatClampNeg 4153) (8 : Int32).toNatClampNeg 441828)
  | 32 => (vp_updL (vp_updL (vp_updL (vp_updL (vp_updL (vp_updL (vp_updL (fun _ => 0) (0 : Int32).toNatClampNeg 4153) (1 : Int32).toNatClampNeg 278194) (2 : Int32).toNatClampNeg 677454) (3 : Int32).toNatClampNeg 146885) (4 : Int32).toNatClampNeg 394868) (5 : Int32).toNatClampNeg 755045) (6 : Int32).toNatClampNeg 114419)
  | 33 => (vp_updL (vp_updL (vp_updL (vp_updL (fun _ => 0) (0 : Int32).toNatClampNeg 13283731) (1 : Int32).toNatClampNeg 21285043) (2 : Int32).toNatClampNeg 24161459) (3 : Int32).toNatClampNeg 67155)
  | _ => fun _ => 0
/-! the reference's constructor: its rows lie behind K in the order of their making -/
section MRB
variable {p : Program} {l : Launch} {e : Env} {R : Room} {s : State} {m : MethodId} {args : Array Value} {below : List Frame} {meth : Method} {c : Code} {H : Heap} {locs : List Loc} {cells slots : Nat} {Q : State → Prop}
variable {pc : Nat} {ls : Array Slot} {rest st : List Value} {n : Nat} {D : va_G} {cy : Nat → ClassId} {ld : Nat → Nat} {cc : ByteArray} {a : Nat}
theorem rc_last (hx : p.tables.exec = Jvm.exec) (hb : c.code = cc) (hK : kk_K D cy ld s) {f : Nat → Int64} (hat : va_at D vwCl (a, .inl (cy 1, n, .inr (.inl f))) H) {i : Int32} {x : Int64} (hin : vp_in i n) (hdg : decode cc pc = .ok (.lastore, 1))
    (kk : ∀ (H1 : Heap) (j : Nat), va_at D vwCl (a, .inl (cy 1, n, .inr (.inl (vp_updL f i.toNatClampNeg x)))) H1 → H1.size = H.size → (∀ q : Nat, q ≠ a → H1[q]? = H[q]?) → W p l e R s m args below meth c H1 (locs ++ [⟨a, j⟩]) cells slots Q (F0 m (pc + 1) ls rest)) : W p l e R s m args below meth c H locs cells slots Q (F0 m pc ls (.long x :: .int i :: .ref a :: rest)) := by
  refine W.last hx hb hat ((hK.1.2 1 _ rfl).1 n (fun j => .long (f j))) (fun q => by cases q) (by show ¬ (i < 0 ∨ (arrV _ _ _).slots.size ≤ _); rw [arrV_size]; exact hin) rfl rfl hdg fun H1 e z oq => ?_
  refine kk H1 _ ?_ z oq
  show H1[a]? = some (vp_cell _ _)
  rw [e, vp_cell_l, vp_cell_l, arrV_store]
  congr 2
  funext q
  by_cases hq : q = i.toNatClampNeg
  · subst hq
    simp [updV, vp_updL]
  · simp [updV, vp_updL, hq]
end MRB
theorem rc_G.z {D : va_G} {cy : Nat → ClassId} {ld : Nat → Nat} {X : List Nat} {n : Nat} {H : Heap} (h : rc_G D cy ld (fun _ => (0, 0, 0)) X n H) : rc_G D cy ld (fun _ => (0, 0, 0)) [] n H := ⟨h.1, fun a ha => absurd rfl ha⟩
theorem rc_G.sz {D : va_G} {cy : Nat → ClassId} {ld : Nat → Nat} {n : Nat} {H : Heap} (h : H.size = n) : rc_G D cy ld (fun _ => (0, 0, 0)) [] n H := ⟨h, fun a ha => absurd rfl ha⟩
theorem mr_z : (0 : Int32).toInt = 0 := by decide
theorem mr_zE (j : Int) : mE j (0 : Int32).toInt := by
  have z := mr_z
  unfold mE
  omega
theorem mr_zD (o : Nat) : dO (fun _ => (0 : Int32)) o := by
  have z := mr_z
  show (-1 ≤ (0 : Int32).toInt ∧ (0 : Int32).toInt ≤ 7) ∧ (-1 ≤ (0 : Int32).toInt ∧ (0 : Int32).toInt ≤ 7) ∧ (-1 ≤ (0 : Int32).toInt ∧ (0 : Int32).toInt ≤ 99) ∧ (-1 ≤ (0 : Int32).toInt ∧ (0 : Int32).toInt ≤ 11) ∧ (-1 ≤ (0 : Int32).toInt ∧ (0 : Int32).toInt ≤ 7) ∧ ((0 : Int32).toInt ≠ -1 → (0 : Int32).toInt ≠ -1 ∧ (0 : Int32).toInt ≠ -1 ∧ (0 : Int32).toInt ≠ -1)
  omega
theorem mr_zW (o : Nat) : WFL (fun _ => (0 : Int32)) o := ⟨show 0 ≤ (0 : Int32).toInt ∧ (0 : Int32).toInt ≤ 12 by decide, fun c hc => by
  have z := mr_z
  have h9 : ((c : Nat) : Int) < (0 : Int32).toInt := hc
  omega⟩
theorem mr_P (b : Bool) (k : Nat) : mz_P b k (fun _ => 0) := by
  unfold mz_P
  split
  · exact ⟨fun j _ => mr_zE _, fun _ => mr_zD _, fun q _ => mr_zW _⟩
  · exact fun s _ => ⟨fun j _ => mr_zE _, mr_zD _, fun q _ => mr_zW _⟩
  · exact fun s _ => ⟨fun j _ _ => mr_zE _, mr_zD _⟩
  · exact fun s _ => ⟨fun j _ _ => mr_zE _, mr_zD _⟩
  · exact fun j _ => (show 0 ≤ (0 : Int32).toInt ∧ (0 : Int32).toInt ≤ 3 by decide)
  · exact fun j _ => (show 0 ≤ (0 : Int32).toInt ∧ (0 : Int32).toInt ≤ 3 by decide)
  · exact fun j _ => (show 0 ≤ (0 : Int32).toInt ∧ (0 : Int32).toInt ≤ 399 by decide)
  · exact fun j _ => (show 0 ≤ (0 : Int32).toInt ∧ (0 : Int32).toInt ≤ 7 by decide)
  · trivial
def mr_ad (K k : Nat) : Nat := K + mr_o k
theorem mr_inj : ∀ j : Nat, j < 70 → ∀ k : Nat, k < 70 → 2 ≤ mz_k j → 2 ≤ mz_k k → mr_o j = mr_o k → j = k := by decide +kernel
theorem mr_D {K am : Nat} (h : am < K) : mz_D (mr_ad K) am := ⟨fun k _ _ e => by unfold mr_ad at e; omega, fun j k hj hk h2 h3 e => mr_inj j hj k hk h2 h3 (by unfold mr_ad at e; omega)⟩
def mr_G (D : va_G) (cy : Nat → ClassId) (K n : Nat) (H : Heap) : Prop := ∀ k : Nat, k < 70 → 2 ≤ mz_k k → mr_ad K k < n → va_at D vwCl (mr_ad K k, mz_c cy (fun _ _ => 0) mr_S k) H
theorem mr_G.zero (D : va_G) (cy : Nat → ClassId) (K : Nat) (H : Heap) : mr_G D cy K K H := fun k _ _ h => absurd h (by unfold mr_ad; omega)
theorem mr_G.push {D : va_G} {cy : Nat → ClassId} {K n : Nat} {H H1 : Heap} (h : mr_G D cy K n H) (hq : ∀ q : Nat, q < n → H1[q]? = H[q]?) (k : Nat) (hk : k < 70) (hkk : 2 ≤ mz_k k) (had : mr_ad K k = n) (hat : va_at D vwCl (n, mz_c cy (fun _ _ => 0) mr_S k) H1) : mr_G D cy K (n + 1) H1 := fun j hj hjj hlt => by
  by_cases e : j = k
  · subst e
    rw [had]
    exact hat
  · have h9 : mr_ad K j ≠ n := fun e2 => e (mr_inj j hj k hk hjj hkk (by rw [← had] at e2; unfold mr_ad at e2; omega))
    exact (h j hj hjj (by omega)).kept (hq _ (by omega))
theorem mr_G.kept {D : va_G} {cy : Nat → ClassId} {K n a : Nat} {H H1 : Heap} (h : mr_G D cy K n H) (hq : ∀ q : Nat, q ≠ a → H1[q]? = H[q]?) (ha : a < K ∨ n ≤ a) : mr_G D cy K n H1 := fun j hj hjj hlt => by
  have h9 : K ≤ mr_ad K j := by
    unfold mr_ad
    omega
  exact (h j hj hjj hlt).kept (hq _ (by omega))
/-- all rows but row 3 -/
def mr_H (D : va_G) (cy : Nat → ClassId) (K : Nat) (H : Heap) : Prop := ∀ k : Nat, k < 70 → 2 ≤ mz_k k → k ≠ 3 → va_at D vwCl (mr_ad K k, mz_c cy (fun _ _ => 0) mr_S k) H
theorem mr_oL : ∀ k : Nat, k < 70 → mr_o k < 37 := by decide +kernel
theorem mr_G.all {D : va_G} {cy : Nat → ClassId} {K : Nat} {H : Heap} (h : mr_G D cy K (K + 37) H) : mr_H D cy K H := fun k hk hkk _ => h k hk hkk (by have := mr_oL k hk; unfold mr_ad; omega)
theorem mr_H.kept {D : va_G} {cy : Nat → ClassId} {K : Nat} {H H1 : Heap} (h : mr_H D cy K H) (hq : ∀ q : Nat, q ≠ mr_ad K 3 → H1[q]? = H[q]?) : mr_H D cy K H1 := fun k hk hkk h3 => (h k hk hkk h3).kept (hq _ (fun e => h3 (mr_inj k hk 3 (by decide) hkk (by decide) (by unfold mr_ad at e; omega))))
def mr_R (f : Nat → Int32) (k : Nat) : Nat → Int32 := if k = 3 then f else fun _ => 0
def mr_F : Nat → Int32 := upd (upd (upd (fun _ => 0) 18 (-1)) 64 (-1)) 69 (-1)
theorem mr_mk {D : va_G} {cy : Nat → ClassId} {K am : Nat} {F : Nat → Int32} {G : Nat → Int64} {f : Nat → Int32} {H : Heap} (h0 : va_at D vwCl (am, .inr (13, mz_fs (mr_ad K) F G)) H) (h3 : va_at D vwCl (mr_ad K 3, .inl (cy 0, 5560, .inl f)) H) (h : mr_H D cy K H) : mz_S D cy (mr_ad K) am F G (mr_R f) mr_S H := ⟨h0, fun k hk hkk => by
  by_cases e : k = 3
  · subst e
    exact h3
  · have h9 := h k hk hkk e
    have e1 : mz_c cy (mr_R f) mr_S k = mz_c cy (fun _ _ => 0) mr_S k := by
      unfold mz_c mr_R
      rw [if_neg e]
    rw [e1]
    exact h9⟩
theorem mr_IF : mz_IF true mr_F := by
  have h0 : mz_IF true (fun _ => (0 : Int32)) := ⟨fun k => by
    refine ⟨?_, ?_⟩
    · show mz_lo k ≤ (0 : Int32).toInt
      unfold mz_lo
      split <;> decide
    · show (0 : Int32).toInt ≤ mz_hi k
      unfold mz_hi
      split <;> decide, fun _ => rfl⟩
  have h1 : mz_IF true (upd (fun _ => (0 : Int32)) 18 (-1)) := h0.put (k := 18) pk_us (fun j hj => pk_un hj) (by decide) (by decide) (by decide)
  have h2 : mz_IF true (upd (upd (fun _ => (0 : Int32)) 18 (-1)) 64 (-1)) := h1.put (k := 64) pk_us (fun j hj => pk_un hj) (by decide) (by decide) (by decide)
  exact h2.put (k := 69) pk_us (fun j hj => pk_un hj) (by decide) (by decide) (by decide)
theorem mr_IR {f : Nat → Int32} (h : mz_P false 3 f) : mz_IR [] false (mr_R f) := fun k _ => by
  unfold mr_R
  by_cases e : k = 3
  · subst e
    exact h
  · rw [if_neg e]
    exact mr_P false k
def mr_f3 : Nat → Int32 := upd (upd (upd (upd (upd (fun _ => 0) (5 : Int32).toNatClampNeg (-1)) (7 : Int32).toNatClampNeg 30) (8 : Int32).toNatClampNeg 50) (10 : Int32).toNatClampNeg 100) (11 : Int32).toNatClampNeg 100
def mrq (D : va_G) (cy : Nat → ClassId) (K am : Nat) : Array Value → State → Outcome → State → Prop := va_Qv (S := mz_U) (fun _ => True) (fun u st => mz_S D cy (mr_ad K) am u.1 u.2.1 u.2.2.1 u.2.2.2 st.heap ∧ mz_IF true u.1 ∧ mz_IG u.2.1 ∧ mz_IR [] true u.2.2.1 ∧ (∀ k : Nat, u.1 k = mr_F k) ∧ (∀ k : Nat, k ≠ 3 → u.2.2.1 k = fun _ => 0) ∧ rK2 mr_f3 (u.2.2.1 3)) (fun q => q = am ∨ K ≤ q)
section MRC
variable {p : Program} {l : Launch} {e : Env} {Rm : Room} {s : State} {m : MethodId} {args : Array Value} {below : List Frame} {meth : Method} {c : Code} {H : Heap} {locs : List Loc} {cells slots : Nat} {Q : State → Prop}
variable {pc : Nat} {ls : Array Slot} {rest st : List Value} {H0 : Heap} {A : Nat → Prop} {mc ms nL maxL n index K b : Nat} {D : va_G} {cy : Nat → ClassId} {ld ad : Nat → Nat} {am : Nat} {own C : String} {Ts wsy : List Cond} {cc bytes : ByteArray} {y : MethodName} {ret : Option FieldType} {rm : Room} {As fs : List Value} {F : Nat → Int32} {G : Nat → Int64} {R : Nat → Nat → Int32} {S : Nat → Nat → Int64}
theorem mz_ViA {post : Int32 → mz_Po} (X : CallFix p m c cc nL s args Ts own) (hK : kk_K D cy ld s) (hM : mz_S D cy ad am F G R S H) (hS : va_S A H0 H locs) (hWA : ∀ q : Nat, mz_W ad am q → A q) (hC : Met l y wsy rm (mz_p D cy ld ad am F G R S (.ref am :: As)) (mz_i D cy ad am post) mc ms (mz_W ad am)) (cw : CallW Rm s args own RX13 index y bytes maxL ret wsy rm mc ms n) (hn : As.length = n) (hsize : ls.size = nL) (hst : st = As.reverse ++ .ref am :: rest) (hW : (rest.map fun v => v.category).sum ≤ 8) (hdg : decode cc pc = .ok (.invokevirtual index, 3)) (hf : cells + mc ≤ Rm.cells ∧ slots + ms ≤ Rm.slots)
    (kk : ∀ (r : Int32) (H1 : Heap) (locs1 : List Loc) (F1 : Nat → Int32) (G1 : Nat → Int64) (R1 : Nat → Nat → Int32) (S1 : Nat → Nat → Int64), post r F1 G1 R1 S1 → mz_S D cy ad am F1 G1 R1 S1 H1 → va_S A H0 H1 locs1 → H.size ≤ H1.size → (∀ q : Nat, q < H.size → ¬ mz_W ad am q → H1[q]? = H[q]?) → W p l e Rm s m args below meth c H1 locs1 (cells + mc) (slots + ms) Q (F0 m (pc + 3) ls (.int r :: rest))) : W p l e Rm s m args below meth c H locs cells slots Q (F0 m pc ls st) := by
  subst hst
  refine va_calli (va_runV (As := As) (rest := rest) X hC cw ⟨mz_p_blind, va_recv hK.1 (tk_one hM.1) (show vwCl[13]? = some (RX13, TX13, 70) from rfl) (q0 := 0) rfl, fun U hU hW2 => ⟨rfl, by rw [hU]; exact hM, kk_warm hW2 hK⟩⟩ rfl hn hsize rfl (lv_room hW) hdg hf) hS (fun q _ h => hWA q h) hWA (fun r u t9 H1 locs1 ht hvm hw hBB hz1 hk1 hS1 => ?_)
  obtain ⟨hM1, hp1⟩ := hBB
  subst hw
  rw [ht] at hM1
  exact kk _ H1 locs1 u.2.1 u.2.2.1 u.2.2.2.1 u.2.2.2.2 hp1 hM1 hS1 hz1 hk1
theorem mz_VvA {post : mz_Po} (X : CallFix p m c cc nL s args Ts own) (hK : kk_K D cy ld s) (hM : mz_S D cy ad am F G R S H) (hS : va_S A H0 H locs) (hWA : ∀ q : Nat, mz_W ad am q → A q) (hC : Met l y wsy rm (mz_p D cy ld ad am F G R S (.ref am :: As)) (mz_w D cy ad am post) mc ms (mz_W ad am)) (cw : CallW Rm s args own RX13 index y bytes maxL ret wsy rm mc ms n) (hn : As.length = n) (hsize : ls.size = nL) (hst : st = As.reverse ++ .ref am :: rest) (hW : (rest.map fun v => v.category).sum ≤ 8) (hdg : decode cc pc = .ok (.invokevirtual index, 3)) (hf : cells + mc ≤ Rm.cells ∧ slots + ms ≤ Rm.slots)
    (kk : ∀ (H1 : Heap) (locs1 : List Loc) (F1 : Nat → Int32) (G1 : Nat → Int64) (R1 : Nat → Nat → Int32) (S1 : Nat → Nat → Int64), post F1 G1 R1 S1 → mz_S D cy ad am F1 G1 R1 S1 H1 → va_S A H0 H1 locs1 → H.size ≤ H1.size → (∀ q : Nat, q < H.size → ¬ mz_W ad am q → H1[q]? = H[q]?) → W p l e Rm s m args below meth c H1 locs1 (cells + mc) (slots + ms) Q (F0 m (pc + 3) ls rest)) : W p l e Rm s m args below meth c H locs cells slots Q (F0 m pc ls st) := by
  subst hst
  refine va_callv (va_runV (As := As) (rest := rest) X hC cw ⟨mz_p_blind, va_recv hK.1 (tk_one hM.1) (show vwCl[13]? = some (RX13, TX13, 70) from rfl) (q0 := 0) rfl, fun U hU hW2 => ⟨rfl, by rw [hU]; exact hM, kk_warm hW2 hK⟩⟩ rfl hn hsize rfl (lv_room hW) hdg hf) hS (fun q _ h => hWA q h) hWA (fun u t9 H1 locs1 ht hvm hw hBB hz1 hk1 hS1 => ?_)
  obtain ⟨hM1, hp1⟩ := hBB
  rw [ht] at hM1
  exact kk H1 locs1 u.1 u.2.1 u.2.2.1 u.2.2.2 hp1 hM1 hS1 hz1 hk1
theorem mr_vret (hx : p.tables.exec = Jvm.exec) (hb : c.code = cc) (hr : meth.sig.returnType = none) (hlocks : meth.locks = false) (hM : mz_S D cy (mr_ad K) b F G R S H) (hIF : mz_IF true F) (hIG : mz_IG G) (hIR : mz_IR [] true R) (h1 : ∀ k : Nat, F k = mr_F k) (h2 : ∀ k : Nat, k ≠ 3 → R k = fun _ => 0) (h3 : rK2 mr_f3 (R 3)) (hS : va_S (fun q => q = b ∨ K ≤ q) s.heap H locs) (hdg : decode cc pc = .ok (.return_, 1)) :
    W p l e Rm s m args below meth c H locs cells slots (MQ below (mrq D cy K b) args s cells slots (fun q => q = b ∨ K ≤ q)) (F0 m pc ls []) :=
  W.vret hx hb hr (fun t9 ht _ => ⟨⟨(F, G, R, S), rfl, trivial, by show mz_S D cy (mr_ad K) b F G R S t9.heap ∧ mz_IF true F ∧ mz_IG G ∧ mz_IR [] true R ∧ (∀ k : Nat, F k = mr_F k) ∧ (∀ k : Nat, k ≠ 3 → R k = fun _ => 0) ∧ rK2 mr_f3 (R 3); rw [ht]; exact ⟨hM, hIF, hIG, hIR, h1, h2, h3⟩⟩, hS.F ht⟩) hS.2.2 hdg hlocks
theorem mr_I (X : CallFix p m c cc nL s args Ts own) (hK : kk_K D cy ld s) (hsz : H.size = n) (hat : va_at D vwCl (b, .inr (13, fs)) H) (hS : va_S A H0 H locs) (hA : ∀ q : Nat, q = b ∨ n ≤ q → A q)
    (hM : Met l y wsy rm (rcp D cy ld (fun _ => (0, 0, 0)) [] [.ref b] b 13 fs n) (mrq D cy n b) mc ms (fun q => q = b ∨ n ≤ q))
    (cw : CallB Rm s args own index y bytes maxL none wsy rm mc ms 0 ∧ y.name = "<init>" ∧ (Cond.instanceMethod y).before args s = true)
    (hsize : ls.size = nL) (hst : st = .ref b :: rest) (hW : (rest.map fun v => v.category).sum ≤ 8) (hdg : decode cc pc = .ok (.invokespecial index, 3)) (hf : cells + mc ≤ Rm.cells ∧ slots + ms ≤ Rm.slots)
    (kk : ∀ (H1 : Heap) (locs1 : List Loc) (F1 : Nat → Int32) (G1 : Nat → Int64) (R1 : Nat → Nat → Int32) (S1 : Nat → Nat → Int64), mz_S D cy (mr_ad n) b F1 G1 R1 S1 H1 → mz_IF true F1 → mz_IG G1 → mz_IR [] true R1 → (∀ k : Nat, F1 k = mr_F k) → (∀ k : Nat, k ≠ 3 → R1 k = fun _ => 0) → rK2 mr_f3 (R1 3) → (∀ q : Nat, q < n → q ≠ b → H1[q]? = H[q]?) → va_S A H0 H1 locs1 → W p l e Rm s m args below meth c H1 locs1 (cells + mc) (slots + ms) Q (F0 m (pc + 3) ls rest)) :
    W p l e Rm s m args below meth c H locs cells slots Q (F0 m pc ls st) := by
  subst hst
  refine va_callv (va_runI (As := []) (rest := rest) X hM cw ⟨rcp_blind, fun U hU hW2 => ⟨rfl, by rw [hU]; exact ⟨hsz, fun a ha => absurd rfl ha⟩, by rw [hU]; exact hat, kk_warm hW2 hK⟩⟩ rfl rfl hsize rfl (lv_room hW) hdg hf) hS (fun q _ h => hA q h) hA (fun u t9 H1 locs1 ht hvm hw hBB hz1 hk1 hS1 => ?_)
  obtain ⟨hM1, h1, h2, h3, h4, h5, h6⟩ := hBB
  rw [ht] at hM1
  exact kk H1 locs1 u.1 u.2.1 u.2.2.1 u.2.2.2 hM1 h1 h2 h3 h4 h5 h6 (fun q h1 h2 => hk1 q (by omega) (fun h => h.elim h2 (fun h => by omega))) hS1
end MRC
theorem mr_fs {K : Nat} : mz_fs (mr_ad K) mr_F (fun _ => 0) = [.int 0, .int 0, .ref K, .ref (K + 1), .ref (K + 2), .ref (K + 3), .ref (K + 4), .ref (K + 5), .int 0, .ref (K + 6), .ref (K + 7), .int 0, .ref (K + 8), .int 0, .int 0, .int 0, .int 0, .long 0, .int (-1), .int 0, .int 0, .int 0, .ref (K + 9), .int 0, .ref (K + 10), .ref (K + 11), .int 0, .ref (K + 12), .ref (K + 13), .int 0, .int 0, .ref (K + 14), .ref (K + 15), .ref (K + 16), .int 0, .ref (K + 17), .ref (K + 18), .ref (K + 19), .int 0, .long 0, .long 0, .int 0, .ref (K + 20), .ref (K + 21), .ref (K + 22), .ref (K + 23), .ref (K + 24), .long 0, .ref (K + 25), .ref (K + 26), .ref (K + 27), .ref (K + 28), .ref (K + 29), .int 0, .int 0, .ref (K + 30), .ref (K + 31), .int 0, .int 0, .ref (K + 32), .int 0, .ref (K + 33), .int 0, .int 0, .int (-1), .int 0, .ref (K + 34), .ref (K + 35), .ref (K + 36), .int (-1)] := rfl
