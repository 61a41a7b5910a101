/-! THE CLAIM OUT OF ONE WALK OF THE LAW'S BODY. Your part is whole_start (and what it stands on); all else here is the same for every law, but numbers. -/
def R_law : String := "CradleDuelLaw"
def lw_P (b : Addr) (xs : List Int32) (args : Array Value) (s : State) : Prop := args = #[.ref b] ∧ s.IntsAt b xs ∧ xs.length ≤ 3072 ∧ (Jvm.Cond.and given_1 narrow_1).before args s = true
def lw_Q (_ : Array Value) (s : State) (o : Outcome) (t : State) : Prop := o = .returned (some (.int 1)) ∧ Framed s o t [] 600000 7302250
def lw_Z (below : List Frame) (a : Array Value) (s : State) : State → Prop := fun t => ∃ o, t.status = .running ∧ Ended t below o ∧ lw_Q a s o t
/-- the law's own end, with 1 on the stack, nothing written that was there before, its room as the claim has it -/
theorem lw_ret {p : Program} {l : Launch} {e : Env} {s : State} {m : MethodId} {below : List Frame} {meth : Method} {c : Code} {b : Nat} (hx : p.tables.exec = Jvm.exec) (hb : c.code = code) (hr : meth.sig.returnType = ret) (hlocks : meth.locks = false) {pc : Nat} {H : Heap} {ls : Array Slot} (hdg : decode code pc = .ok (.ireturn, 1)) : W p l e room_1 s m #[Value.ref b] below meth c H [] 600000 7302250 (lw_Z below #[Value.ref b] s) (F0 m pc ls [.int 1]) := by
  intro T hT X
  obtain ⟨fs, hret, hrun, hended, hW, hframe⟩ := X.leave (v := some (.int 1)) (hlocks := hlocks) (fun h => by rw [hr] at h; cases h)
  have hmeth' : T.vm.method? m = some meth := X.method'
  refine ⟨T.setFrames fs, ?_, .returned (some (.int 1)), hrun, hended, rfl, ⟨_, rfl⟩, hW, hframe⟩
  jvm_step X.here [X.here.top, hx, hb, hdg, hmeth', hr, ret, narrow_b1]
  (try refine ⟨rfl, ?_⟩); (try refine ⟨rfl, ?_⟩)
  first | (intro acts; rw [hret _ acts rfl rfl rfl]) | rw [hret _ _ rfl rfl rfl]
  exact Steps.refl _
/-- what holds at the law's entry: the machine, the code, the tables' words (any of lw_tbl by 'hts w (by decide +kernel)'), the script of L ints xs at the cell b, what the Statement gives of the start (any of its parts by flat_of_before) -/
def lw_At (p : Program) (s : State) (m : MethodId) (meth : Method) (c : Code) (b L : Nat) (xs : Nat → Int32) : Prop :=
  p.tables.exec = Jvm.exec ∧ c.code = code ∧ meth.sig.returnType = ret ∧ c.maxLocals = 4 ∧ s.vm.findClass R_law = some m.cls ∧ (∀ w ∈ lw_tbl, w.before #[Value.ref b] s = true) ∧ va_X b L xs s s.heap ∧ b < s.heap.size ∧ meth.locks = false ∧ (Jvm.Cond.and given_1 narrow_1).before #[Value.ref b] s = true
/-! the law: class and reference side by side, each in its own cells -/
theorem tk_okF0 : tk_okF := by
  show ∀ k : Nat, k < 20 → ∀ sp ∈ tk_F k, ((sp.1 = 1 ∨ sp.1 = 2 ∨ sp.1 = 3 ∨ sp.1 = 6) → sp.2.1.toNat ≠ 0) ∧ ((sp.1 = 8 ∨ sp.1 = 9 ∨ sp.1 = 10 ∨ sp.1 = 11) → sp.2.2.1.toNat ≠ 0)
  decide +kernel
theorem mz_S.lt {D : va_G} {cy : Nat → ClassId} {ad : Nat → Nat} {am : Nat} {F : Nat → Int32} {G : Nat → Int64} {R : Nat → Nat → Int32} {S : Nat → Nat → Int64} {H : Heap} (h : mz_S D cy ad am F G R S H) {q : Nat} (hq : mz_W ad am q) : q < H.size := by
  rcases hq with e | ⟨k, h1, h2, e⟩
  · rw [e]
    exact h.1.lt
  · rw [e]
    exact (h.2 k h1 h2).lt
theorem mz_S.frame {D : va_G} {cy : Nat → ClassId} {ad : Nat → Nat} {am : Nat} {F : Nat → Int32} {G : Nat → Int64} {R : Nat → Nat → Int32} {S : Nat → Nat → Int64} {H H1 : Heap} (h : mz_S D cy ad am F G R S H) (hq : ∀ q : Nat, mz_W ad am q → H1[q]? = H[q]?) : mz_S D cy ad am F G R S H1 := ⟨h.1.kept (hq _ (Or.inl rfl)), fun k h1 h2 => (h.2 k h1 h2).kept (hq _ (Or.inr ⟨k, h1, h2, rfl⟩))⟩
theorem tk_G.frame {D : va_G} {cy : Nat → ClassId} {ld : Nat → Nat} {t : tk_T} {H H1 : Heap} (h : tk_G D cy ld t [] H) (hq : ∀ q : Nat, (t q).1 ≠ 0 → H1[q]? = H[q]?) : tk_G D cy ld t [] H1 := fun a ha hX => by
  obtain ⟨e, g1, g2⟩ := h a ha hX
  exact ⟨e, g1.kept (hq a ha), g2⟩
/-- both stand, apart from each other, and all of it is new -/
def lw_I (D : va_G) (cy : Nat → ClassId) (ld : Nat → Nat) (t : tk_T) (ad : Nat → Nat) (a0 am n0 : Nat) (F : Nat → Int32) (G : Nat → Int64) (R : Nat → Nat → Int32) (S : Nat → Nat → Int64) (H : Heap) : Prop := t a0 = (13, 0, 0) ∧ tk_G D cy ld t [] H ∧ (∀ a : Nat, (t a).1 ≠ 0 → n0 ≤ a) ∧ mz_D ad am ∧ mz_S D cy ad am F G R S H ∧ (mz_IF true F ∧ mz_IG G ∧ mz_IR [] true R) ∧ (∀ a : Nat, (t a).1 ≠ 0 → ¬ mz_W ad am a) ∧ ∀ a : Nat, mz_W ad am a → n0 ≤ a
theorem lw_Z0 {ld : Nat → Nat} {t : tk_T} {s : State} (h : tk_Z ld (fun _ => (0, 0, 0)) s) (ht : ∀ a : Nat, (t a).1 ≠ 0 → s.heap.size ≤ a) : tk_Z ld t s := h.grow (fun a h1 h2 => absurd (ht a h2) (Nat.not_le.mpr h1))
section LWB
variable {p : Program} {l : Launch} {e : Env} {R : Room} {s : State} {m : MethodId} {args : Array Value} {below : List Frame} {meth : Method} {c : Code} {H : Heap} {locs : List Loc} {cells slots : Nat} {Q : State → Prop}
variable {pc : Nat} {ls : Array Slot} {rest st : List Value} {A : Nat → Prop} {mc ms nL maxL index : Nat} {D : va_G} {cy : Nat → ClassId} {ld : Nat → Nat} {own C : String} {Ts wsy : List Cond} {cc bytes : ByteArray} {y : MethodName} {ret : Option FieldType} {rm : Room} {b ci nn rr : Nat} {t : tk_T} {T : u_T} {N : Nat} {L : List (Nat × Nat × Nat)}
end LWB
theorem lw_in {L : Nat} {v w : Int32} {i k : Int} (hv : v.toInt = i) (hw : w.toInt = k) (h0 : 0 ≤ i) (hk : 0 ≤ k) (h1 : i + k < (L : Int)) (hL : L ≤ 3072) : vp_in (v + w) L := by
  have h : (v + w).toInt = i + k := by
    rw [Int32.toInt_add, hv, hw]
    exact tk_bm (by omega) (by omega)
  exact (tk_idx h (by omega) h1).1

