/-- a method's words: its own code, then the law's -/
abbrev wl (y : MethodName) (b : ByteArray) (n : Nat) (r : Option FieldType) : List Cond := Cond.code y b n r :: wsA
theorem wl_in {y : MethodName} {b : ByteArray} {n : Nat} {r : Option FieldType} {y' : MethodName} {b' : ByteArray} {n' : Nat} {r' : Option FieldType} (h : Cond.code y' b' n' r' ∈ wsA) : GoodIn (wl y b n r) (wl y' b' n' r') := fun w hw => by
  have hm : w ∈ wsA := (List.mem_cons.mp hw).elim (fun e => e ▸ h) id
  exact ⟨List.mem_cons_of_mem _ hm, good_of_word (List.all_eq_true.mp wl_good w hm)⟩
theorem wl_inL {y' : MethodName} {b' : ByteArray} {n' : Nat} {r' : Option FieldType} (h : Cond.code y' b' n' r' ∈ wsA) : GoodIn wsA (wl y' b' n' r') := fun w hw => by
  have hm : w ∈ wsA := (List.mem_cons.mp hw).elim (fun e => e ▸ h) id
  exact ⟨hm, good_of_word (List.all_eq_true.mp wl_good w hm)⟩
abbrev tys0 (cy : Nat → ClassId) : List (ClassId × FieldType) := [(cy 0, .int), (cy 1, .long), (cy 2, .boolean), (cy 3, .object RX9), (cy 4, .object RX2), (cy 5, .object RX7), (cy 6, .array .int)]
def k2_A2 (U : State) : Prop := (Cond.arrayOver (.array .int)).before #[] U = true
theorem k2_over {u U : State} (hvm : u.vm.Alike U.vm) (h : k2_A2 u) : k2_A2 U := arrayOver_alikeB hvm h
def kk_K (D : va_G) (cy : Nat → ClassId) (ld : Nat → Nat) (U : State) : Prop := va_K D vwCl (tys0 cy) U ∧ (va_AO RX9 U ∧ va_AO RX2 U ∧ va_AO RX7 U) ∧ k2_A2 U ∧ (va_Nw (.methodLinkNest RX2 94 yX12_within RX12) U ∧ va_Nw (.methodLinkNest RX1 40 yX12_within RX12) U ∧ va_Nw (.methodLinkNest RX3 33 yX12_within RX12) U ∧ va_Nw (.methodLinkNest RX6 145 yX12_within RX12) U) ∧ vk_R RX6 108 "lulls tires wakes bars" (ld 0) U ∧ vk_R RX6 110 "begin sing part dawn" (ld 1) U ∧ vk_R RX6 184 "skill strong key same hour wake theirs day mood" (ld 2) U ∧ vk_R RX6 186 "day hour turn done last wake cows" (ld 3) U ∧ vk_R RX6 120 "with" (ld 4) U ∧ vk_R RX6 126 "for" (ld 5) U ∧ vk_R RX6 143 "times" (ld 6) U ∧ vk_R RX6 131 "if" (ld 7) U ∧ vk_R RX6 173 "not" (ld 8) U ∧ vk_R RX6 168 "and" (ld 9) U ∧ vk_R RX6 160 "or" (ld 10) U
theorem kk_warm {D : va_G} {cy : Nat → ClassId} {ld : Nat → Nat} {s U : State} (hW : s.WarmedH U.vm) (h : kk_K D cy ld s) : kk_K D cy ld U :=
  ⟨va_K.moved hW.alike h.1, ⟨va_AO.moved hW.alike h.2.1.1, va_AO.moved hW.alike h.2.1.2.1, va_AO.moved hW.alike h.2.1.2.2⟩, k2_over hW.alike h.2.2.1, ⟨va_Nw.warmM hW h.2.2.2.1.1, va_Nw.warmM hW h.2.2.2.1.2.1, va_Nw.warmM hW h.2.2.2.1.2.2.1, va_Nw.warmM hW h.2.2.2.1.2.2.2⟩, vk_R.warm hW h.2.2.2.2.1, vk_R.warm hW h.2.2.2.2.2.1, vk_R.warm hW h.2.2.2.2.2.2.1, vk_R.warm hW h.2.2.2.2.2.2.2.1, vk_R.warm hW h.2.2.2.2.2.2.2.2.1, vk_R.warm hW h.2.2.2.2.2.2.2.2.2.1, vk_R.warm hW h.2.2.2.2.2.2.2.2.2.2.1, vk_R.warm hW h.2.2.2.2.2.2.2.2.2.2.2.1, vk_R.warm hW h.2.2.2.2.2.2.2.2.2.2.2.2.1, vk_R.warm hW h.2.2.2.2.2.2.2.2.2.2.2.2.2.1, vk_R.warm hW h.2.2.2.2.2.2.2.2.2.2.2.2.2.2⟩
theorem kk_call {D : va_G} {cy : Nat → ClassId} {ld : Nat → Nat} {U : State} (g : JFrame) (mk : MethodId) (a : Array Value) (h : kk_K D cy ld U) : kk_K D cy ld (U.calling g mk a) :=
  ⟨va_K.moved (u := U) (U := U.calling g mk a) (Vm.Alike.refl U.vm) h.1, ⟨va_AO.moved (u := U) (U := U.calling g mk a) (Vm.Alike.refl U.vm) h.2.1.1, va_AO.moved (u := U) (U := U.calling g mk a) (Vm.Alike.refl U.vm) h.2.1.2.1, va_AO.moved (u := U) (U := U.calling g mk a) (Vm.Alike.refl U.vm) h.2.1.2.2⟩, k2_over (u := U) (U := U.calling g mk a) (Vm.Alike.refl U.vm) h.2.2.1, ⟨va_Nw.same (u := U) (U := U.calling g mk a) rfl rfl h.2.2.2.1.1, va_Nw.same (u := U) (U := U.calling g mk a) rfl rfl h.2.2.2.1.2.1, va_Nw.same (u := U) (U := U.calling g mk a) rfl rfl h.2.2.2.1.2.2.1, va_Nw.same (u := U) (U := U.calling g mk a) rfl rfl h.2.2.2.1.2.2.2⟩, vk_R.same (u := U) (U := U.calling g mk a) rfl h.2.2.2.2.1, vk_R.same (u := U) (U := U.calling g mk a) rfl h.2.2.2.2.2.1, vk_R.same (u := U) (U := U.calling g mk a) rfl h.2.2.2.2.2.2.1, vk_R.same (u := U) (U := U.calling g mk a) rfl h.2.2.2.2.2.2.2.1, vk_R.same (u := U) (U := U.calling g mk a) rfl h.2.2.2.2.2.2.2.2.1, vk_R.same (u := U) (U := U.calling g mk a) rfl h.2.2.2.2.2.2.2.2.2.1, vk_R.same (u := U) (U := U.calling g mk a) rfl h.2.2.2.2.2.2.2.2.2.2.1, vk_R.same (u := U) (U := U.calling g mk a) rfl h.2.2.2.2.2.2.2.2.2.2.2.1, vk_R.same (u := U) (U := U.calling g mk a) rfl h.2.2.2.2.2.2.2.2.2.2.2.2.1, vk_R.same (u := U) (U := U.calling g mk a) rfl h.2.2.2.2.2.2.2.2.2.2.2.2.2.1, vk_R.same (u := U) (U := U.calling g mk a) rfl h.2.2.2.2.2.2.2.2.2.2.2.2.2.2⟩
def pp (D : va_G) (cy : Nat → ClassId) (ld : Nat → Nat) (av : List Value) (sz : Nat) (ws : va_W) : Array Value → State → Prop := va_Pc av (fun U => U.heap.size = sz ∧ va_P D vwCl ws U.heap ∧ kk_K D cy ld U ∧ va_D (fun _ => True) ws)
def qi {X : Type} (D : va_G) (post : Int32 → Prop) (w1 : X → va_W) (A : Nat → Prop) : Array Value → State → Outcome → State → Prop := va_Qi (S := X) (fun r _ => post r) (fun x t => va_P D vwCl (w1 x) t.heap ∧ va_D A (w1 x)) A
def qv {X : Type} (D : va_G) (w1 : X → va_W) (A : Nat → Prop) : Array Value → State → Outcome → State → Prop := va_Qv (S := X) (fun _ => True) (fun x t => va_P D vwCl (w1 x) t.heap ∧ va_D A (w1 x)) A
theorem pp_blind {D : va_G} {cy : Nat → ClassId} {ld : Nat → Nat} {av : List Value} {sz : Nat} {ws : va_W} : FrameBlind (pp D cy ld av sz ws) := fun a U g mk q => by
  obtain ⟨q0, q1, qP, qK, qD⟩ := q
  exact ⟨q0, q1, qP, kk_call g mk a qK, qD⟩
theorem fx_fm {α β : Type} {is : List α} {f : α → Option β} {w : List β} (h : is.map f = w.map some) : is.filterMap f = w := by
  have e : is.filterMap f = (is.map f).filterMap id := by simp [List.filterMap_map]
  rw [e, h]
  simp [List.filterMap_map]
section FXA
variable {p : Program} {l : Launch} {e : Env} {R : Room} {s : State} {m : MethodId} {args : Array Value} {below : List Frame} {meth : Method} {c : Code} {H : Heap} {locs : List Loc} {cells slots : Nat} {Q : State → Prop}
variable {pc : Nat} {ls : Array Slot} {rest st : List Value} {A : Nat → Prop} {H0 : Heap} {mc ms nL maxL n index : Nat} {D : va_G} {cy : Nat → ClassId} {ld : Nat → Nat} {ws wc wr : va_W} {own C : String} {Ts wsy : List Cond} {cc bytes : ByteArray} {y : MethodName} {ret : Option FieldType} {rm : Room} {As : List Value} {b : Nat}
theorem fx_Iv {X : Type} {w1 : X → va_W} (S : CallFix p m c cc nL s args Ts own) (hK : kk_K D cy ld s) (hP : va_P D vwCl ws H) (hD : va_D A ws) (hS : va_S A H0 H locs) (hA : ∀ q, H0.size ≤ q → A q)
    (hM : Met l y wsy rm (pp D cy ld (.ref b :: As) H.size wc) (qv D w1 (va_A wc H.size)) mc ms (va_A wc H.size))
    (cw : CallB R s args own index y bytes maxL none wsy rm mc ms n ∧ y.name = "<init>" ∧ (Cond.instanceMethod y).before args s = true)
    (isC isR : List Nat) (hC : isC.map (fun i => ws[i]?) = wc.map some) (hR : isR.map (fun i => ws[i]?) = wr.map some) (hnC : va_nd isC = true) (hnR : va_nd isR = true) (hdis : ∀ i ∈ isR, i ∉ isC)
    (hn : As.length = n) (hsize : ls.size = nL) (hst : st = As.reverse ++ .ref b :: rest) (hW : (rest.map fun v => v.category).sum ≤ 8) (hdg : decode cc pc = .ok (.invokespecial index, 3)) (hf : cells + mc ≤ R.cells ∧ slots + ms ≤ R.slots)
    (kk : ∀ (x : X) (H1 : Heap) (locs1 : List Loc), va_P D vwCl (wr ++ w1 x) H1 → va_D A (wr ++ w1 x) → va_S A H0 H1 locs1 → W p l e R s m args below meth c H1 locs1 (cells + mc) (slots + ms) Q (F0 m (pc + 3) ls rest)) :
    W p l e R s m args below meth c H locs cells slots Q (F0 m pc ls st) := by
  have hDc : va_D A wc := hD.sub isC hnC hC
  have hPc : va_P D vwCl wc H := hP.sub isC (fx_fm hC)
  subst hst
  have hFc := va_free (wc := wc) hD hS hA isC hC
  refine va_callv (va_runI (As := As) (rest := rest) S hM cw ⟨pp_blind, fun U hU hW2 => ⟨rfl, by rw [hU], by rw [hU]; exact hPc, kk_warm hW2 hK, hDc.weaken (fun _ _ _ _ => trivial)⟩⟩ rfl hn hsize rfl (lv_room hW) hdg hf) hS (fun q _ h => hFc q h) hFc (fun u t H1 locs1 ht hvm hw hB hz1 hk1 hS1 => ?_)
  obtain ⟨hP1, hD1⟩ := hB
  rw [ht] at hP1
  obtain ⟨hP2, hD2⟩ := va_join (wr := wr) (w1 := w1 u) hP hD isC isR hC hR hnR hdis hk1 hFc hP1 hD1
  exact kk u H1 locs1 hP2 hD2 hS1
/-- new T[n][k], of which nothing is told but its address -/
theorem fx_vret {X : Type} {w1 : X → va_W} (hx : p.tables.exec = Jvm.exec) (hb : c.code = cc) (hr : meth.sig.returnType = none) (hlocks : meth.locks = false) (x : X) (hP : va_P D vwCl ws H) (hD : va_D A ws) (hS : va_S A s.heap H locs) (is : List Nat) (hn : va_nd is = true) (hs : is.map (fun i => ws[i]?) = (w1 x).map some) (hdg : decode cc pc = .ok (.return_, 1)) :
    W p l e R s m args below meth c H locs cells slots (MQ below (qv D w1 A) args s cells slots A) (F0 m pc ls []) :=
  W.vret hx hb hr (fun t ht _ => ⟨⟨x, rfl, trivial, by rw [ht]; exact hP.sub is (fx_fm hs), hD.sub is hn hs⟩, hS.F ht⟩) hS.2.2 hdg hlocks
theorem fx_ti {x v : Int32} (h : x = v) (k : W p l e R s m args below meth c H locs cells slots Q (F0 m pc ls (.int v :: rest))) : W p l e R s m args below meth c H locs cells slots Q (F0 m pc ls (.int x :: rest)) := h ▸ k
theorem fx_tl {x v : Int64} (h : x = v) (k : W p l e R s m args below meth c H locs cells slots Q (F0 m pc ls (.long v :: rest))) : W p l e R s m args below meth c H locs cells slots Q (F0 m pc ls (.long x :: rest)) := h ▸ k
theorem fx_in {i : Int32} {n : Nat} (h : decide (¬ (i < 0 ∨ n ≤ i.toNatClampNeg)) = true) : vp_in i n := show ¬ (i < 0 ∨ n ≤ i.toNatClampNeg) from of_decide_eq_true h
theorem fx_top {x v : Value} (h : x = v) (k : W p l e R s m args below meth c H locs cells slots Q (F0 m pc ls (v :: rest))) : W p l e R s m args below meth c H locs cells slots Q (F0 m pc ls (x :: rest)) := h ▸ k
theorem fx_same {t c1 c2 : Nat} {ty : FieldType} {k1 k2 : ClassId} {tys : List (ClassId × FieldType)} {cl : List vw_C} (hK : va_K D cl tys s) (h1 : tys[c1]? = some (k1, ty)) (h2 : tys[c2]? = some (k2, ty)) (hra : (∀ k, va_RA s k ty → s.vm.findClass ("[" ++ ty.toString) = some k)) : k1 = k2 :=
  Option.some.inj ((hra _ (hK.2 c1 _ h1).2).symm.trans (hra _ (hK.2 c2 _ h2).2))
/-- a new array of a kind that tys0 has at its place t0 -/
theorem fx_newa (hx : p.tables.exec = Jvm.exec) (hb : c.code = cc) {atype : ArrayType} {ty : FieldType} (harr : (Cond.arrayClass ty).before args s = true) (hty : newarray.typeOf atype = ty) (hK : kk_K D cy ld s) (hP : va_P D vwCl ws H) (hD : va_D A ws) (hS : va_S A H0 H locs) (hA : ∀ q, H0.size ≤ q → A q) (t0 : Nat) {k0 : ClassId} (ht0 : (tys0 cy)[t0]? = some (k0, ty)) (hra : ∀ k, va_RA s k ty → s.vm.findClass ("[" ++ ty.toString) = some k)
    {k : Int32} {N' : Nat} {a0 : vp_A} (ha : ∀ cA : ClassId, vp_cell cA a0 = arrV cA N' (fun _ => defaultValue ty)) (hn : ¬ k < 0) (hN : k.toNatClampNeg = N') (hbytes : N' * componentBytes ty ≤ 536870912) (hcells : cells + 1 ≤ R.cells) (hslots : slots + N' ≤ R.slots) (hdg : decode cc pc = .ok (.newarray atype, 2))
    (kk : ∀ (q : Nat) (H1 : Heap), va_P D vwCl (ws ++ [(q, .inl (k0, a0))]) H1 → va_D A (ws ++ [(q, .inl (k0, a0))]) → va_S A H0 H1 locs → W p l e R s m args below meth c H1 locs (cells + 1) (slots + N') Q (F0 m (pc + 2) ls (.ref q :: rest))) : W p l e R s m args below meth c H locs cells slots Q (F0 m pc ls (.int k :: rest)) := by
  subst hty
  refine va_newa hx hb harr rfl hK.1 hP hD hS hA ha hn hN hbytes hcells hslots hdg (fun q cA H1 hK2 hP2 hD2 hS2 => ?_)
  have hi : (tys0 cy ++ [(cA, newarray.typeOf atype)])[(tys0 cy).length]? = some (cA, newarray.typeOf atype) := by simp
  have h0 : (tys0 cy ++ [(cA, newarray.typeOf atype)])[t0]? = some (k0, newarray.typeOf atype) := by
    rw [List.getElem?_append_left (List.getElem?_eq_some_iff.mp ht0).1]; exact ht0
  have ek : cA = k0 := fx_same (t := 0) hK2 hi h0 hra
  subst ek
  exact kk q H1 hP2 hD2 hS2
end FXA
section FXB
variable {l : Launch} {D : va_G} {cy : Nat → ClassId} {ld : Nat → Nat} {y : MethodName} {cc : ByteArray} {maxL mc ms sz : Nat} {ret : Option FieldType} {rm : Room} {av : List Value} {wc : va_W} {QC : (Nat → Prop) → Array Value → State → Outcome → State → Prop}
/-- a contract out of the walk of its body -/
theorem fx_met (QC : (Nat → Prop) → Array Value → State → Outcome → State → Prop) (hy : plainName y.cls = true) (hlen : (lg_sl av).length ≤ maxL)
    (body : ∀ (p : Program) (e : Env) (s : State) (m : MethodId) (args : Array Value) (below : List Frame) (meth : Method) (c : Code), p.tables.exec = Jvm.exec → c.code = cc → meth.sig.returnType = ret → c.maxLocals = maxL → (∀ w ∈ wl y cc maxL ret, w.before args s = true) → (∀ w ∈ wsA, w.before args s = true) → s.vm.findClass y.cls = some m.cls → meth.locks = false → meth.name = y.name → kk_K D cy ld s → va_P D vwCl wc s.heap → ∀ A : Nat → Prop, va_D A wc → (∀ q, s.heap.size ≤ q → A q) → va_S A s.heap s.heap [] → ∀ ls : Array Slot, lv_has ls maxL (lv_args 0 av) →
      W p l e rm s m args below meth c s.heap [] 0 0 (MQ below (QC A) args s mc ms A) (F0 m 0 ls [])) : Met l y (wl y cc maxL ret) rm (pp D cy ld av sz wc) (QC (va_A wc sz)) mc ms (va_A wc sz) := by
  refine Met.ofW (cc := cc) (maxL := maxL) (ret := ret) hy rfl ?_
  intro p e s m args below meth c s₁ B hml hv
  obtain ⟨rfl, hsz, hP, hK, hD0⟩ := hv
  subst hsz
  have hts := atoms_spec (ws := wl y cc maxL ret) B.pre
  have hl := lv_entry av (n := maxL) hlen
  rw [lg_entry_eq]
  exact body p e s m _ below meth c B.exec B.bytes B.returns hml hts (fun w hw => hts w (List.mem_cons_of_mem _ hw)) (findClass_of_methodNamed B.named) B.notSynchronized (name_of_methodNamed B.named B.method).1 hK hP _ (hD0.self (sz := s.heap.size)) (fun q h => Or.inr h) va_S.rf _ hl
end FXB
theorem fa_lt (a b : Int32) : a < b ↔ a.toInt < b.toInt := Int32.lt_iff_toInt_lt
theorem fa_le (a b : Int32) : a ≤ b ↔ a.toInt ≤ b.toInt := Int32.le_iff_toInt_le
theorem fa_eq (a b : Int32) : a = b ↔ a.toInt = b.toInt := Int32.toInt_inj.symm
theorem fl_lt {a b : Int64} {x y : Int} (hx : a.toInt = x) (hy : b.toInt = y) : a < b ↔ x < y := by rw [← hx, ← hy]; exact Int64.lt_iff_toInt_lt
theorem fl_le {a b : Int64} {x y : Int} (hx : a.toInt = x) (hy : b.toInt = y) : a ≤ b ↔ x ≤ y := by rw [← hx, ← hy]; exact Int64.le_iff_toInt_le
theorem fi_lt {a b : Int32} {x y : Int} (hx : a.toInt = x) (hy : b.toInt = y) : a < b ↔ x < y := by rw [← hx, ← hy]; exact fa_lt a b
theorem fi_le {a b : Int32} {x y : Int} (hx : a.toInt = x) (hy : b.toInt = y) : a ≤ b ↔ x ≤ y := by rw [← hx, ← hy]; exact fa_le a b
theorem fi_eq {a b : Int32} {x y : Int} (hx : a.toInt = x) (hy : b.toInt = y) : a = b ↔ x = y := by rw [← hx, ← hy]; exact fa_eq a b
theorem fl_w (x : Int32) : x.toInt64.toInt = x.toInt := Int32.toInt_toInt64 x
theorem fl_eq {a b : Int64} {x y : Int} (hx : a.toInt = x) (hy : b.toInt = y) : a = b ↔ x = y := by rw [← hx, ← hy]; exact Int64.toInt_inj.symm

def tk_F (k : Nat) : List (Nat × Int × Int × Int) := match k with
  | 1 => [(8, 22, 10, 5), (6, 20, 8, 0), (0, 0, 8, 0), (8, 20, 3, 0), (6, 9, 0, 0), (6, 22, 10, 0), (0, 0, 1000002, 0)]
  | 2 => [(0, 0, 16, 0), (8, 20, 3, 0), (6, 9, 0, 0), (6, 25, 16, 1), (6, 20, 16, 0), (0, 0, 15, 0), (6, 10, 0, 2), (6, 25, 16, 3), (6, 20, 16, 0), (0, 0, 15, 0), (0, 0, 16, 0)]
  | 3 => [(0, 0, 8, 0), (1, 20, 8, 0), (1, 21, 8, 0), (11, 70, 32, 8), (0, 0, 10, 0), (11, 80, 33, 10), (11, 90, 34, 10), (0, 0, 10, 0), (11, 100, 35, 10), (11, 110, 36, 10), (11, 120, 37, 10), (0, 0, 8, 0), (1, 24, 40, 0), (0, 0, 6, 0), (1, 28, 6, 0), (0, (-2147483648), 2147483647, 0), (0, (-2147483648), 2147483647, 0), (0, (-2147483648), 2147483647, 0), (0, (-2147483648), 2147483647, 0), (9, 40, 10, 0)]
  | 4 => [(8, 20, 3, 0), (6, 22, 4, 0), (6, 20, 4, 0), (0, 0, 4, 0), (0, (-2147483648), 2147483647, 0)]
  | 5 => [(0, (-2147483648), 2147483647, 0), (8, 20, 3, 0), (6, 2, 0, 0), (6, 12, 0, 0), (0, (-2147483648), 2147483647, 0), (0, (-2147483648), 2147483647, 0)]
  | 6 => [(8, 20, 3, 0), (6, 9, 0, 0), (6, 26, 5, 0), (0, (-2147483648), 2147483647, 0), (0, (-2147483648), 2147483647, 0), (8, 21, 10, 4), (6, 30, 8, 0), (6, 20, 8, 0), (6, 20, 8, 0), (0, (-2147483648), 2147483647, 0), (0, (-2147483648), 2147483647, 0)]
  | 7 => [(6, 8, 512, 12), (6, 20, 400, 9), (0, 0, 400, 0), (0, 0, 1, 0), (0, 0, 400, 0), (0, 0, 400, 0), (0, (-2147483648), 2147483647, 0), (0, (-2147483648), 2147483647, 0), (0, (-2147483648), 2147483647, 0), (0, 0, 8, 0), (0, (-2147483648), 2147483647, 0)]
  | 8 => [(2, 20, 0, 0), (2, 20, 0, 0), (3, 20, 1, 0), (3, 23, 1, 0), (3, 20, 1, 0), (3, 20, 3, 0), (4, 0, 0, 0), (5, 0, 0, 0), (0, (-2147483648), 2147483647, 0), (0, 0, 1, 0)]
  | 9 => [(6, 12, 0, 0), (8, 20, 3, 0), (0, (-2147483648), 2147483647, 0)]
  | 10 => [(1, 20, 8, 0), (1, 20, 8, 0), (1, 20, 8, 0), (1, 20, 2, 0), (0, (-2147483648), 2147483647, 0), (0, (-1), 7, 0), (0, (-1), 7, 0), (0, (-2147483648), 2147483647, 0), (0, (-2147483648), 2147483647, 0), (0, 0, 1, 0), (0, (-2147483648), 2147483647, 0)]
  | 11 => [(8, 20, 3, 0), (6, 9, 0, 0), (6, 20, 1000, 0)]
  | 12 => [(6, 20, 15, 0), (0, 0, 1, 0), (6, 20, 32, 0)]
  | 13 => [(8, 20, 3, 0), (6, 27, 2, 0), (10, 49, 29, 32), (6, 9, 0, 0), (6, 2, 0, 0), (6, 5, 0, 0), (6, 7, 0, 0), (6, 6, 0, 0), (6, 1, 0, 0), (6, 4, 0, 0), (6, 11, 0, 0), (10, 26, 20, 6409), (6, 20, 5, 0), (0, 0, 400, 0), (0, (-2147483648), 2147483647, 0), (0, (-2147483648), 2147483647, 0), (0, (-2147483648), 2147483647, 0)]
  | _ => []
def tk_K (k : Nat) : Nat := match k with
  | 20 => 0
  | 21 => 0
  | 22 => 0
  | 23 => 0
  | 24 => 0
  | 25 => 3
  | 26 => 3
  | 27 => 4
  | 28 => 5
  | 29 => 2
  | 30 => 6
  | 31 => 1
  | 32 => 0
  | 33 => 0
  | 34 => 0
  | 35 => 0
  | 36 => 0
  | 37 => 0
  | _ => 0
def tk_E (k r : Nat) (j x : Int) : Prop := match k with
  | 21 => 0 ≤ x ∧ x ≤ 1
  | 22 => 0 ≤ x ∧ x ≤ 9
  | 23 => 0 ≤ x ∧ x ≤ 20
  | 24 => 0 ≤ x ∧ x ≤ 11 ∧ (j % 5 = 0 → x ≤ 9) ∧ (j % 5 = 1 → x ≤ 7)
  | _ => True
def tk_EL (k r : Nat) (j x : Int) : Prop := match k with
  | _ => True
def tk_R (ld : Nat → Nat) (t : Nat → Nat × Nat × Nat) (k r j : Nat) (o : Option Nat) : Prop := match k with
  | 25 => ∃ a : Nat, o = some a ∧ t a = (10, 0, r)
  | 26 => o = some (ld (30 + j)) ∧ t (ld (30 + j)) = (10, 0, 10 + j)
  | 27 => o = some (ld (24 + j)) ∧ t (ld (24 + j)) = (3, 0, 6 + j)
  | 28 => ∀ a : Nat, o = some a → ∃ n r : Nat, t a = (8, n, r)
  | 30 => ∃ a : Nat, o = some a ∧ t a = (20, 8, 0)
  | _ => True
def tk_X (k n r : Nat) (fs : List Value) : Prop := match k with
  | 10 => ∀ x y : Int32, fs[5]? = some (.int x) → fs[6]? = some (.int y) → x.toInt ≠ -1 → y.toInt ≠ -1
  | 7 => ∀ x y : Int32, fs[4]? = some (.int x) → fs[6]? = some (.int y) → y.toInt ≠ 0 → x.toInt ≤ 399
  | 8 => n ≤ 512 ∧ r ≤ 12
  | _ => True
/-! cells by kinds: t tells of an address its kind (code, a number, a region); tk_G: every cell of a kind holds what its kind may hold -/
abbrev tk_T : Type := Nat → Nat × Nat × Nat
abbrev tk_S : Type := Nat × Int × Int × Int
def tk_V (ld : Nat → Nat) (t : tk_T) (n r : Nat) (sp : tk_S) (v : Value) : Prop := match sp.1 with
  | 0 => ∃ x : Int32, v = .int x ∧ sp.2.1 ≤ x.toInt ∧ x.toInt ≤ sp.2.2.1
  | 1 => ∃ a : Nat, v = .ref a ∧ t a = (sp.2.1.toNat, sp.2.2.1.toNat, r)
  | 2 => ∃ a : Nat, v = .ref a ∧ t a = (sp.2.1.toNat, n, sp.2.2.2.toNat)
  | 3 => ∃ a : Nat, v = .ref a ∧ t a = (sp.2.1.toNat, sp.2.2.1.toNat * r, sp.2.2.2.toNat)
  | 4 => ∃ x : Int32, v = .int x ∧ sp.2.1 ≤ x.toInt ∧ x.toInt ≤ n
  | 5 => ∃ x : Int32, v = .int x ∧ sp.2.1 ≤ x.toInt ∧ x.toInt ≤ r
  | 6 => ∃ a : Nat, v = .ref a ∧ t a = (sp.2.1.toNat, sp.2.2.1.toNat, sp.2.2.2.toNat)
  | 8 => v = .ref (ld sp.2.1.toNat) ∧ t (ld sp.2.1.toNat) = (sp.2.2.1.toNat, 0, sp.2.2.2.toNat)
  | 9 => v = .ref (ld (sp.2.1.toNat + r)) ∧ t (ld (sp.2.1.toNat + r)) = (sp.2.2.1.toNat, 0, r)
  | 10 => v = .ref (ld sp.2.1.toNat) ∧ t (ld sp.2.1.toNat) = (sp.2.2.1.toNat, sp.2.2.2.toNat / 16, sp.2.2.2.toNat % 16)
  | 11 => v = .ref (ld (sp.2.1.toNat + r)) ∧ t (ld (sp.2.1.toNat + r)) = (sp.2.2.1.toNat, sp.2.2.2.toNat, r)
  | _ => ∃ x : Int64, v = .long x ∧ sp.2.1 ≤ x.toInt ∧ x.toInt ≤ sp.2.2.1
def tk_A (cy : Nat → ClassId) (ld : Nat → Nat) (t : tk_T) (k n r : Nat) (e : va_E) : Prop := match tk_K k with
  | 0 => ∃ f : Nat → Int32, e = .inl (cy 0, n, .inl f) ∧ ∀ j : Nat, j < n → tk_E k r j (f j).toInt
  | 1 => ∃ f : Nat → Int64, e = .inl (cy 1, n, .inr (.inl f)) ∧ ∀ j : Nat, j < n → tk_EL k r j (f j).toInt
  | 2 => ∃ f : Nat → Int32, e = .inl (cy 2, n, .inl f)
  | c => ∃ f : Nat → Option Nat, e = .inl (cy c, n, .inr (.inr (.inr (.inr f)))) ∧ ∀ j : Nat, j < n → tk_R ld t k r j (f j)
def tk_O (cy : Nat → ClassId) (ld : Nat → Nat) (t : tk_T) (k n r : Nat) (e : va_E) : Prop :=
  if k < 20 then ∃ fs : List Value, e = .inr (k - 1, fs) ∧ fs.length = (tk_F k).length ∧ (∀ (j : Nat) (sp : tk_S), (tk_F k)[j]? = some sp → ∃ v : Value, fs[j]? = some v ∧ tk_V ld t n r sp v) ∧ tk_X k n r fs
  else tk_A cy ld t k n r e
def tk_G (D : va_G) (cy : Nat → ClassId) (ld : Nat → Nat) (t : tk_T) (X : List Nat) (H : Heap) : Prop := ∀ a : Nat, (t a).1 ≠ 0 → a ∉ X → ∃ e : va_E, va_at D vwCl (a, e) H ∧ tk_O cy ld t (t a).1 (t a).2.1 (t a).2.2 e
/-- field k of the object at a is v -/
def tk_f (D : va_G) (H : Heap) (a ci k : Nat) (v : Value) : Prop := ∃ cell : Cell, H[a]? = some cell ∧ cell.slots[D.2 ci k]? = some v
/-- place j of the row of ints at a is x -/
def tk_a (H : Heap) (a j : Nat) (x : Int32) : Prop := ∃ cell : Cell, H[a]? = some cell ∧ cell.slots[j]? = some (.int x)
/-- what may be written: codes with their regions from .. to -/
def tk_w (t : tk_T) (L : List (Nat × Nat × Nat)) (a : Nat) : Prop := (t a).1 ≠ 0 ∧ ∃ q ∈ L, (t a).1 = q.1 ∧ q.2.1 ≤ (t a).2.2 ∧ (t a).2.2 ≤ q.2.2
theorem tk_w.of {t : tk_T} {L : List (Nat × Nat × Nat)} {a k n r lo hi : Nat} (ha : t a = (k, n, r)) (hk : k ≠ 0) (hq : (k, lo, hi) ∈ L) (h1 : lo ≤ r) (h2 : r ≤ hi) : tk_w t L a := ⟨by rw [ha]; exact hk, _, hq, by rw [ha], by rw [ha]; exact h1, by rw [ha]; exact h2⟩
theorem tk_w.no {t : tk_T} {L : List (Nat × Nat × Nat)} {a k n r : Nat} (ha : t a = (k, n, r)) (h : ∀ q ∈ L, k = q.1 → q.2.1 ≤ r → r ≤ q.2.2 → False) : ¬ tk_w t L a := by
  rintro ⟨-, q, hq, h1, h2, h3⟩
  rw [ha] at h1 h2 h3
  exact h q hq h1 h2 h3
theorem tk_w.sub {t : tk_T} {L L' : List (Nat × Nat × Nat)} (h : ∀ q ∈ L', ∃ q' ∈ L, q.1 = q'.1 ∧ q'.2.1 ≤ q.2.1 ∧ q.2.2 ≤ q'.2.2) : ∀ a, tk_w t L' a → tk_w t L a := by
  rintro a ⟨h0, q, hq, h1, h2, h3⟩
  obtain ⟨q', hq', e1, e2, e3⟩ := h q hq
  exact ⟨h0, q', hq', h1.trans e1, Nat.le_trans e2 h2, Nat.le_trans h3 e3⟩
theorem tk_w.nil {t : tk_T} {a : Nat} : ¬ tk_w t [] a := by
  rintro ⟨-, q, hq, -⟩
  cases hq
theorem tk_f.kept {D : va_G} {H H1 : Heap} {a ci k : Nat} {v : Value} (h : tk_f D H a ci k v) (hq : H1[a]? = H[a]?) : tk_f D H1 a ci k v := by
  obtain ⟨cell, h1, h2⟩ := h
  exact ⟨cell, hq.trans h1, h2⟩
theorem tk_f.lt {D : va_G} {H : Heap} {a ci k : Nat} {v : Value} (h : tk_f D H a ci k v) : a < H.size := by
  obtain ⟨cell, h1, -⟩ := h
  exact (Array.getElem?_eq_some_iff.mp h1).1
theorem tk_f.call {D : va_G} {H H1 : Heap} {a ci k : Nat} {v : Value} {w : Nat → Prop} (h : tk_f D H a ci k v) (hq : ∀ q : Nat, q < H.size → ¬ w q → H1[q]? = H[q]?) (hn : ¬ w a) : tk_f D H1 a ci k v := h.kept (hq a h.lt hn)
theorem tk_f.same {D : va_G} {H : Heap} {a ci k : Nat} {v v' : Value} (h : tk_f D H a ci k v) (h' : tk_f D H a ci k v') : v = v' := by
  obtain ⟨c1, h1, h2⟩ := h
  obtain ⟨c2, h3, h4⟩ := h'
  cases h1.symm.trans h3
  exact Option.some.inj (h2.symm.trans h4)
theorem tk_ne {t : tk_T} {a b k n r k' n' r' : Nat} (ha : t a = (k, n, r)) (hb : t b = (k', n', r')) (h : k ≠ k' ∨ n ≠ n' ∨ r ≠ r') : a ≠ b := by
  rintro rfl
  have e := ha.symm.trans hb
  simp only [Prod.mk.injEq] at e
  rcases h with h | h | h
  · exact h e.1
  · exact h e.2.1
  · exact h e.2.2
theorem tk_out {b a : Nat} (h : a ≠ b) : a ∉ [b] := fun h2 => h (List.mem_singleton.mp h2)
theorem tk_no {a : Nat} : a ∉ ([] : List Nat) := fun h => by cases h
theorem tk_rng (x : Int32) : -2147483648 ≤ x.toInt ∧ x.toInt ≤ 2147483647 := ⟨Int32.le_toInt x, Int32.toInt_le x⟩
theorem tk_one {D : va_G} {H : Heap} {a : Nat} {e : va_E} (h : va_at D vwCl (a, e) H) : va_P D vwCl [(a, e)] H := fun k q hq => by
  cases k with
  | zero => cases hq; exact h
  | succ k => simp at hq
theorem tk_G.obj {D : va_G} {cy : Nat → ClassId} {ld : Nat → Nat} {t : tk_T} {X : List Nat} {H : Heap} {a ci n r : Nat} (hG : tk_G D cy ld t X H) (ha : t a = (ci + 1, n, r)) (hci : ci + 1 < 20) (hX : a ∉ X) : ∃ fs : List Value, va_at D vwCl (a, .inr (ci, fs)) H ∧ fs.length = (tk_F (ci + 1)).length ∧ (∀ (j : Nat) (sp : tk_S), (tk_F (ci + 1))[j]? = some sp → ∃ v : Value, fs[j]? = some v ∧ tk_V ld t n r sp v) ∧ tk_X (ci + 1) n r fs := by
  obtain ⟨e, h1, h2⟩ := hG a (by rw [ha]; exact Nat.succ_ne_zero _) hX
  rw [ha] at h2
  change tk_O cy ld t (ci + 1) n r e at h2
  unfold tk_O at h2
  rw [if_pos hci] at h2
  obtain ⟨fs, rfl, h3, h4, h5⟩ := h2
  exact ⟨fs, h1, h3, h4, h5⟩
theorem tk_G.arr {D : va_G} {cy : Nat → ClassId} {ld : Nat → Nat} {t : tk_T} {X : List Nat} {H : Heap} {a k n r : Nat} (hG : tk_G D cy ld t X H) (ha : t a = (k, n, r)) (hk : 20 ≤ k) (hX : a ∉ X) : ∃ e : va_E, va_at D vwCl (a, e) H ∧ tk_A cy ld t k n r e := by
  obtain ⟨e, h1, h2⟩ := hG a (by rw [ha]; show k ≠ 0; omega) hX
  rw [ha] at h2
  change tk_O cy ld t k n r e at h2
  unfold tk_O at h2
  rw [if_neg (Nat.not_lt.mpr hk)] at h2
  exact ⟨e, h1, h2⟩
/-- one cell is written anew -/
theorem tk_G.put {D : va_G} {cy : Nat → ClassId} {ld : Nat → Nat} {t : tk_T} {X : List Nat} {H H1 : Heap} {a : Nat} {e : va_E} (hG : tk_G D cy ld t X H) (h1 : va_at D vwCl (a, e) H1) (h2 : tk_O cy ld t (t a).1 (t a).2.1 (t a).2.2 e) (hq : ∀ q : Nat, q ≠ a → H1[q]? = H[q]?) : tk_G D cy ld t X H1 := by
  intro b hb hX
  by_cases h : b = a
  · subst h
    exact ⟨e, h1, h2⟩
  · obtain ⟨e', g1, g2⟩ := hG b hb hX
    exact ⟨e', g1.kept (hq b h), g2⟩
/-- a cell that lies bare is written -/
theorem tk_G.ajar {D : va_G} {cy : Nat → ClassId} {ld : Nat → Nat} {t : tk_T} {X : List Nat} {H H1 : Heap} {a : Nat} (hG : tk_G D cy ld t X H) (ha : a ∈ X) (hq : ∀ q : Nat, q ≠ a → H1[q]? = H[q]?) : tk_G D cy ld t X H1 := by
  intro b hb hX
  obtain ⟨e', g1, g2⟩ := hG b hb hX
  exact ⟨e', g1.kept (hq b (fun h => hX (h ▸ ha))), g2⟩
theorem tk_G.hole {D : va_G} {cy : Nat → ClassId} {ld : Nat → Nat} {t : tk_T} {H : Heap} {a : Nat} (hG : tk_G D cy ld t [] H) : tk_G D cy ld t [a] H := fun b hb _ => hG b hb tk_no
theorem tk_G.close {D : va_G} {cy : Nat → ClassId} {ld : Nat → Nat} {t : tk_T} {H : Heap} {a ci n r : Nat} {fs : List Value} (hG : tk_G D cy ld t [a] H) (ha : t a = (ci + 1, n, r)) (hci : ci + 1 < 20) (hat : va_at D vwCl (a, .inr (ci, fs)) H) (hl : fs.length = (tk_F (ci + 1)).length) (hv : ∀ (j : Nat) (sp : tk_S), (tk_F (ci + 1))[j]? = some sp → ∃ v : Value, fs[j]? = some v ∧ tk_V ld t n r sp v) (hX : tk_X (ci + 1) n r fs) : tk_G D cy ld t [] H := by
  intro b hb _
  by_cases h : b = a
  · subst h
    refine ⟨_, hat, ?_⟩
    rw [ha]
    show tk_O cy ld t (ci + 1) n r _
    unfold tk_O
    rw [if_pos hci]
    exact ⟨fs, rfl, hl, hv, hX⟩
  · exact hG b hb (tk_out h)
theorem tk_f.of {D : va_G} {H : Heap} {a ci k : Nat} {C : String} {T : u_T} {N : Nat} {fs : List Value} {v : Value} (h : va_at D vwCl (a, .inr (ci, fs)) H) (hc : vwCl[ci]? = some (C, T, N)) (hk : k < N) (hv : fs[k]? = some v) : tk_f D H a ci k v := by
  obtain ⟨r, h1, cell, q1, -, -, q4⟩ := h
  have hr : r = (C, T, N) := Option.some.inj (h1.symm.trans hc)
  subst hr
  exact ⟨cell, q1, (q4 k hk).trans (by simp [vp_V, hv])⟩
theorem tk_bm {z : Int} (h1 : -2147483648 ≤ z) (h2 : z ≤ 2147483647) : z.bmod (2 ^ 32) = z := by
  rw [Int.bmod_eq_of_le] <;> omega
theorem tk_bmL {z : Int} (h1 : -9223372036854775808 ≤ z) (h2 : z ≤ 9223372036854775807) : z.bmod (2 ^ 64) = z := by
  rw [Int.bmod_eq_of_le] <;> omega
def tk_sl : List Nat := [22, 20, 47, 33, 4, 3, 5, 2, 3, 3, 2]
def tk_sb : List (List Int32) := [[108, 117, 108, 108, 115, 32, 116, 105, 114, 101, 115, 32, 119, 97, 107, 101, 115, 32, 98, 97, 114, 115], [98, 101, 103, 105, 110, 32, 115, 105, 110, 103, 32, 112, 97, 114, 116, 32, 100, 97, 119, 110], [115, 107, 105, 108, 108, 32, 115, 116, 114, 111, 110, 103, 32, 107, 101, 121, 32, 115, 97, 109, 101, 32, 104, 111, 117, 114, 32, 119, 97, 107, 101, 32, 116, 104, 101, 105, 114, 115, 32, 100, 97, 121, 32, 109, 111, 111, 100], [100, 97, 121, 32, 104, 111, 117, 114, 32, 116, 117, 114, 110, 32, 100, 111, 110, 101, 32, 108, 97, 115, 116, 32, 119, 97, 107, 101, 32, 99, 111, 119, 115], [119, 105, 116, 104], [102, 111, 114], [116, 105, 109, 101, 115], [105, 102], [110, 111, 116], [97, 110, 100], [111, 114]]
/-- the constants' texts and two statics of the JDK, as they lie outside all kinds -/
def tk_Z (ld : Nat → Nat) (t : tk_T) (U : State) : Prop := vk_S 11 tk_sl tk_sb ld (fun i => ld (50 + i)) (fun a => (t a).1 ≠ 0) U U.heap ∧ va_Z "java/lang/String" "COMPACT_STRINGS" "Z" (.int 1) (fun a => (t a).1 ≠ 0) U U.heap ∧ va_Zq "jdk/internal/util/Preconditions" "SIOOBE_FORMATTER" "Ljava/util/function/BiFunction;" (fun a => (t a).1 ≠ 0) U U.heap
theorem tk_Z.at {ld : Nat → Nat} {t : tk_T} {s U : State} {L : List (Nat × Nat × Nat)} {H : Heap} {locs : List Loc} (h : tk_Z ld t s) (hS : va_S (tk_w t L) s.heap H locs) (hU : U.heap = H) (hW : s.vm.Alike U.vm) : tk_Z ld t U := by
  have hq : ∀ a : Nat, a < s.heap.size → ¬ (t a).1 ≠ 0 → U.heap[a]? = s.heap[a]? := fun a h1 h2 => by
    rw [hU]
    exact hS.2.1 a h1 (fun q => h2 q.1)
  refine ⟨(vk_S.moved hW h.1).kept hq, (va_Z.moved hW h.2.1).kept hq, ?_⟩
  rcases h.2.2 with h | ⟨x, h⟩
  · exact Or.inl ((va_Z.moved hW h).kept hq)
  · exact Or.inr ⟨x, (va_Z.moved hW h).kept hq⟩
def tp (D : va_G) (cy : Nat → ClassId) (ld : Nat → Nat) (t : tk_T) (X : List Nat) (av : List Value) (B : Heap → Prop) : Array Value → State → Prop := va_Pc av (fun U => tk_G D cy ld t X U.heap ∧ kk_K D cy ld U ∧ B U.heap ∧ tk_Z ld t U)
def ti (D : va_G) (cy : Nat → ClassId) (ld : Nat → Nat) (t : tk_T) (X : List Nat) (post : Int32 → Heap → Prop) (A : Nat → Prop) : Array Value → State → Outcome → State → Prop := va_Qi (S := Int32) (fun r u => r = u) (fun u st => tk_G D cy ld t X st.heap ∧ post u st.heap) A
def tl (D : va_G) (cy : Nat → ClassId) (ld : Nat → Nat) (t : tk_T) (X : List Nat) (post : Int64 → Heap → Prop) (A : Nat → Prop) : Array Value → State → Outcome → State → Prop := va_Ql (S := Int64) (fun r u => r = u) (fun u st => tk_G D cy ld t X st.heap ∧ post u st.heap) A
def tv (D : va_G) (cy : Nat → ClassId) (ld : Nat → Nat) (t : tk_T) (X : List Nat) (post : Heap → Prop) (A : Nat → Prop) : Array Value → State → Outcome → State → Prop := va_Qv (S := Unit) (fun _ => True) (fun _ st => tk_G D cy ld t X st.heap ∧ post st.heap) A
def tq (D : va_G) (cy : Nat → ClassId) (ld : Nat → Nat) (t : tk_T) (X : List Nat) (post : Option Nat → Heap → Prop) (A : Nat → Prop) : Array Value → State → Outcome → State → Prop := va_Qq (S := Option Nat) (fun r u => r = u) (fun u st => tk_G D cy ld t X st.heap ∧ post u st.heap) A
theorem tp_blind {D : va_G} {cy : Nat → ClassId} {ld : Nat → Nat} {t : tk_T} {X : List Nat} {av : List Value} {B : Heap → Prop} : FrameBlind (tp D cy ld t X av B) := fun a U g mk q => by
  obtain ⟨q0, q1, q2, q3, q4⟩ := q
  exact ⟨q0, q1, kk_call g mk a q2, q3, ⟨vk_S.moved (u := U) (U := U.calling g mk a) (Vm.Alike.refl U.vm) q4.1, va_Z.moved (u := U) (U := U.calling g mk a) (Vm.Alike.refl U.vm) q4.2.1, q4.2.2.elim (fun h => Or.inl (va_Z.moved (u := U) (U := U.calling g mk a) (Vm.Alike.refl U.vm) h)) (fun h => h.elim (fun x h => Or.inr ⟨x, va_Z.moved (u := U) (U := U.calling g mk a) (Vm.Alike.refl U.vm) h⟩))⟩⟩
section TKB
variable {p : Program} {l : Launch} {e : Env} {R : Room} {s : State} {m : MethodId} {args : Array Value} {below : List Frame} {meth : Method} {c : Code} {H : Heap} {locs : List Loc} {cells slots : Nat} {Q : State → Prop}
variable {pc : Nat} {ls : Array Slot} {rest st : List Value} {A : Nat → Prop} {H0 : Heap} {mc ms nL maxL n index : Nat} {D : va_G} {cy : Nat → ClassId} {ld : Nat → Nat} {own C : String} {Ts wsy : List Cond} {cc bytes : ByteArray} {y : MethodName} {ret : Option FieldType} {rm : Room} {As : List Value} {a b ci nn rr : Nat} {t : tk_T} {X : List Nat} {T : u_T} {N : Nat} {L : List (Nat × Nat × Nat)}
theorem tk_get (hx : p.tables.exec = Jvm.exec) (hb : c.code = cc) {ref : String} (hts : ∀ w ∈ Ts, w.before args s = true) (hin : ∀ w ∈ u_ws C T N, w ∈ Ts) (hown : s.vm.findClass own = some m.cls) (hK : kk_K D cy ld s) (hG : tk_G D cy ld t X H) (ha : t a = (ci + 1, nn, rr)) (hci : ci + 1 < 20) (hX : a ∉ X) (hc : vwCl[ci]? = some (C, T, N)) (k : Nat) (hk : k < N) (hlink : (Cond.fieldLink own index ref (T k).2.1 (T k).2.2.1).before args s = true) (hsame : ∀ x, s.fieldFound? (T k).1 (T k).2.1 (T k).2.2.1 = some x → s.fieldFound? ref (T k).2.1 (T k).2.2.1 = some x) {sp : tk_S} (hsp : (tk_F (ci + 1))[k]? = some sp) (hdg : decode cc pc = .ok (.getfield index, 3))
    (kk : ∀ v : Value, tk_f D H a ci k v → tk_V ld t nn rr sp v → W p l e R s m args below meth c H locs cells slots Q (F0 m (pc + 3) ls (v :: rest))) : W p l e R s m args below meth c H locs cells slots Q (F0 m pc ls (.ref a :: rest)) := by
  obtain ⟨fs, h1, -, h3, -⟩ := hG.obj ha hci hX
  obtain ⟨v, hv, hV⟩ := h3 k _ hsp
  exact va_get hx hb hts hin hown hK.1 (tk_one h1) 0 rfl hc k hk hlink hsame hv hdg (kk v (tk_f.of h1 hc hk hv) hV)
theorem tk_getk (hx : p.tables.exec = Jvm.exec) (hb : c.code = cc) {ref : String} (hts : ∀ w ∈ Ts, w.before args s = true) (hin : ∀ w ∈ u_ws C T N, w ∈ Ts) (hown : s.vm.findClass own = some m.cls) (hK : kk_K D cy ld s) (hG : tk_G D cy ld t X H) (ha : t a = (ci + 1, nn, rr)) (hci : ci + 1 < 20) (hX : a ∉ X) (hc : vwCl[ci]? = some (C, T, N)) (k : Nat) (hk : k < N) (hlink : (Cond.fieldLink own index ref (T k).2.1 (T k).2.2.1).before args s = true) (hsame : ∀ x, s.fieldFound? (T k).1 (T k).2.1 (T k).2.2.1 = some x → s.fieldFound? ref (T k).2.1 (T k).2.2.1 = some x) {sp : tk_S} (hsp : (tk_F (ci + 1))[k]? = some sp) {v : Value} (hf : tk_f D H a ci k v) (hdg : decode cc pc = .ok (.getfield index, 3))
    (kk : W p l e R s m args below meth c H locs cells slots Q (F0 m (pc + 3) ls (v :: rest))) : W p l e R s m args below meth c H locs cells slots Q (F0 m pc ls (.ref a :: rest)) :=
  tk_get hx hb hts hin hown hK hG ha hci hX hc k hk hlink hsame hsp hdg (fun v' hf' _ => (hf'.same hf) ▸ kk)
/-- a field of an object whose fields are told, all else as it was -/
theorem tk_put0 (hexec : p.tables.exec = Jvm.exec) (hb : c.code = cc) {ref : String} (hts : ∀ w ∈ Ts, w.before args s = true) (hin : ∀ w ∈ u_ws C T N, w ∈ Ts) (ty0 : Nat → FieldType) (hty : ∀ k, k < N → parseFieldDescriptor (T k).2.2.1 = some (ty0 k)) (hnm : ∀ a, a < N → ∀ b, b < N → a ≠ b → (T a).2.1 ≠ (T b).2.1) (hown : s.vm.findClass own = some m.cls) (hK : kk_K D cy ld s) {fs : List Value} (hat : va_at D vwCl (a, .inr (ci, fs)) H) (hc : vwCl[ci]? = some (C, T, N)) (k : Nat) (hk : k < N) (hlink : (Cond.fieldLink own index ref (T k).2.1 (T k).2.2.1).before args s = true) (hsame : ∀ x, s.fieldFound? (T k).1 (T k).2.1 (T k).2.2.1 = some x → s.fieldFound? ref (T k).2.1 (T k).2.2.1 = some x) (hfin : (T k).2.2.2 = false) {ty : FieldType} {v : Value} (hd : parseFieldDescriptor (T k).2.2.1 = some ty) (hn : narrow ty v = v) (hfit : fits ty v = true) (hl : k < fs.length) (hdg : decode cc pc = .ok (.putfield index, 3))
    (kk : ∀ (H1 : Heap) (j : Nat), va_at D vwCl (a, .inr (ci, fs.set k v)) H1 → H1.size = H.size → (∀ q : Nat, q ≠ a → H1[q]? = H[q]?) → W p l e R s m args below meth c H1 (locs ++ [⟨a, j⟩]) cells slots Q (F0 m (pc + 3) ls rest)) : W p l e R s m args below meth c H locs cells slots Q (F0 m pc ls (v :: .ref a :: rest)) := by
  have hap := va_apart (own := own) hts hin ty0 hty hnm hK.1 hc
  obtain ⟨r, h1, cell, q1, q2, q3, q4⟩ := hat
  have hr : r = (C, T, N) := Option.some.inj (h1.symm.trans hc)
  subst hr
  obtain ⟨hS, hfc, kC, hkC, hkind⟩ := hK.1.1 ci _ hc
  obtain ⟨cf, kf, fi, f, hi, hsl⟩ := hS k hk
  have hlay := hts _ (hin _ (u_in_lay hk))
  unfold u_lay at hlay
  rw [if_neg (by rw [hfin]; decide)] at hlay
  have hst := (u_facts hfc hkC (u_lays hts hin hk) hi).1
  have h6 := u_store hfc hkC hkind hlay hi hd hn hfit
  refine W.putK hexec hb (f := f) ⟨hown, hlink, ⟨_, _, _, hsame _ hi⟩, hst⟩ (by rw [q2]; exact h6) q1 q3 (by rw [hsl]; exact k2_hasslot (q4 k hk)) rfl rfl hdg fun H' e1 e2 e3 => ?_
  rw [hsl] at e1 ⊢
  exact kk H' _ ⟨_, hc, t_OB.to (V := updV (vp_V fs) k v) ⟨_, e1, q2, q3, t_set q4 hap hk v⟩ (fun j _ => vp_updV_set hl v j)⟩ e2 e3
theorem tk_f.at {fs : List Value} {k : Nat} (h : va_at D vwCl (a, .inr (ci, fs)) H) (hc : vwCl[ci]? = some (C, T, N)) (hk : k < N) : tk_f D H a ci k (vp_V fs k) := by
  obtain ⟨r, h1, cell, q1, -, -, q4⟩ := h
  have hr : r = (C, T, N) := Option.some.inj (h1.symm.trans hc)
  subst hr
  exact ⟨cell, q1, q4 k hk⟩
theorem tk_f.other {H1 : Heap} {fs : List Value} {k j : Nat} {v v' : Value} (h : va_at D vwCl (a, .inr (ci, fs)) H) (h1 : va_at D vwCl (a, .inr (ci, fs.set k v)) H1) (hc : vwCl[ci]? = some (C, T, N)) (hj : j < N) (hne : j ≠ k) (hf : tk_f D H a ci j v') : tk_f D H1 a ci j v' := by
  have e1 := (tk_f.at h hc hj).same hf
  have e2 := tk_f.at h1 hc hj
  have e3 : vp_V (fs.set k v) j = vp_V fs j := by
    unfold vp_V
    rw [List.getD_eq_getElem?_getD, List.getD_eq_getElem?_getD, List.getElem?_set_ne (Ne.symm hne)]
  rw [e3, e1] at e2
  exact e2
theorem tk_put (hx : p.tables.exec = Jvm.exec) (hb : c.code = cc) {ref : String} (hts : ∀ w ∈ Ts, w.before args s = true) (hin : ∀ w ∈ u_ws C T N, w ∈ Ts) (ty0 : Nat → FieldType) (hty : ∀ k, k < N → parseFieldDescriptor (T k).2.2.1 = some (ty0 k)) (hnm : ∀ a, a < N → ∀ b, b < N → a ≠ b → (T a).2.1 ≠ (T b).2.1) (hown : s.vm.findClass own = some m.cls) (hK : kk_K D cy ld s) (hG : tk_G D cy ld t X H) (hS : va_S A H0 H locs) (ha : t a = (ci + 1, nn, rr)) (hci : ci + 1 < 20) (hX : a ∉ X) (hc : vwCl[ci]? = some (C, T, N)) (k : Nat) (hk : k < N) (hlink : (Cond.fieldLink own index ref (T k).2.1 (T k).2.2.1).before args s = true) (hsame : ∀ x, s.fieldFound? (T k).1 (T k).2.1 (T k).2.2.1 = some x → s.fieldFound? ref (T k).2.1 (T k).2.2.1 = some x) (hfin : (T k).2.2.2 = false) {ty : FieldType} {v : Value} (hd : parseFieldDescriptor (T k).2.2.1 = some ty) (hn : narrow ty v = v) (hfit : fits ty v = true) {sp : tk_S} (hsp : (tk_F (ci + 1))[k]? = some sp) (hV : tk_V ld t nn rr sp v) (hXX : ∀ fs : List Value, tk_X (ci + 1) nn rr fs → tk_X (ci + 1) nn rr (fs.set k v)) (hA : A a) (hdg : decode cc pc = .ok (.putfield index, 3))
    (kk : ∀ (H1 : Heap) (locs1 : List Loc), tk_G D cy ld t X H1 → va_S A H0 H1 locs1 → tk_f D H1 a ci k v → (∀ q : Nat, q ≠ a → H1[q]? = H[q]?) → (∀ (j : Nat) (v' : Value), j < N → j ≠ k → tk_f D H a ci j v' → tk_f D H1 a ci j v') → W p l e R s m args below meth c H1 locs1 cells slots Q (F0 m (pc + 3) ls rest)) : W p l e R s m args below meth c H locs cells slots Q (F0 m pc ls (v :: .ref a :: rest)) := by
  obtain ⟨fs, hat, hl, h3, hxx⟩ := hG.obj ha hci hX
  obtain ⟨v0, hv0, -⟩ := h3 k _ hsp
  have hlt : k < fs.length := (List.getElem?_eq_some_iff.mp hv0).1
  refine tk_put0 hx hb hts hin ty0 hty hnm hown hK hat hc k hk hlink hsame hfin hd hn hfit hlt hdg (fun H1 j e1 z oq => ?_)
  refine kk H1 _ (hG.put e1 ?_ oq) (hS.put z oq hA) (tk_f.of e1 hc hk (by rw [List.getElem?_set_self hlt])) oq (fun j v' hj hne hf => tk_f.other hat e1 hc hj hne hf)
  rw [ha]
  show tk_O cy ld t (ci + 1) nn rr _
  unfold tk_O
  rw [if_pos hci]
  refine ⟨_, rfl, by rw [List.length_set]; exact hl, fun i sp' hi => ?_, hXX fs hxx⟩
  by_cases h : i = k
  · subst h
    cases hsp.symm.trans hi
    exact ⟨v, List.getElem?_set_self hlt, hV⟩
  · rw [List.getElem?_set_ne (Ne.symm h)]
    exact h3 i sp' hi
theorem tk_nat {i : Int32} {I : Int} (hi : i.toInt = I) (h0 : 0 ≤ I) : ((i.toNatClampNeg : Nat) : Int) = I := by
  rw [← hi]
  exact Int.toNat_of_nonneg (by rw [hi]; exact h0)
theorem tk_idx {i : Int32} {I : Int} (hi : i.toInt = I) (h0 : 0 ≤ I) (h1 : I < (nn : Int)) : vp_in i nn ∧ i.toNatClampNeg < nn := by
  refine ⟨vp_in_iff.mpr ⟨by rw [hi]; exact h0, by rw [hi]; exact h1⟩, ?_⟩
  have := tk_nat hi h0
  omega
theorem tk_iald (hx : p.tables.exec = Jvm.exec) (hb : c.code = cc) (hK : kk_K D cy ld s) (hG : tk_G D cy ld t X H) {k : Nat} (ha : t a = (k, nn, rr)) (hk : 20 ≤ k) (hkA : ∀ e : va_E, tk_A cy ld t k nn rr e → ∃ f : Nat → Int32, e = .inl (cy 0, nn, .inl f) ∧ ∀ j : Nat, j < nn → tk_E k rr j (f j).toInt) (hX : a ∉ X) {i : Int32} {I : Int} (hi : i.toInt = I) (h0 : 0 ≤ I) (h1 : I < (nn : Int)) (hdg : decode cc pc = .ok (.iaload, 1))
    (kk : ∀ x : Int32, tk_E k rr I x.toInt → tk_a H a i.toNatClampNeg x → W p l e R s m args below meth c H locs cells slots Q (F0 m (pc + 1) ls (.int x :: rest))) : W p l e R s m args below meth c H locs cells slots Q (F0 m pc ls (.int i :: .ref a :: rest)) := by
  obtain ⟨e, h2, h3⟩ := hG.arr ha hk hX
  obtain ⟨f, rfl, hf⟩ := hkA e h3
  obtain ⟨hv, hlt⟩ := tk_idx hi h0 h1
  refine va_iald hx hb hK.1 (tk_one h2) 0 0 rfl rfl hv hdg (kk _ ?_ ?_)
  · have h := hf i.toNatClampNeg hlt
    rw [tk_nat hi h0] at h
    exact h
  · exact ⟨_, h2, arrV_read _ _ hlt⟩
theorem tk_iast (hx : p.tables.exec = Jvm.exec) (hb : c.code = cc) (hK : kk_K D cy ld s) (hG : tk_G D cy ld t X H) (hS : va_S A H0 H locs) {k : Nat} (ha : t a = (k, nn, rr)) (hk : 20 ≤ k) (hkA : ∀ e : va_E, tk_A cy ld t k nn rr e ↔ ∃ f : Nat → Int32, e = .inl (cy 0, nn, .inl f) ∧ ∀ j : Nat, j < nn → tk_E k rr j (f j).toInt) (hX : a ∉ X) {i x : Int32} {I : Int} (hi : i.toInt = I) (h0 : 0 ≤ I) (h1 : I < (nn : Int)) (hE : tk_E k rr I x.toInt) (hA : A a) (hdg : decode cc pc = .ok (.iastore, 1))
    (kk : ∀ (H1 : Heap) (locs1 : List Loc), tk_G D cy ld t X H1 → va_S A H0 H1 locs1 → (∀ q : Nat, q ≠ a → H1[q]? = H[q]?) → W p l e R s m args below meth c H1 locs1 cells slots Q (F0 m (pc + 1) ls rest)) : W p l e R s m args below meth c H locs cells slots Q (F0 m pc ls (.int x :: .int i :: .ref a :: rest)) := by
  obtain ⟨e, h2, h3⟩ := hG.arr ha hk hX
  obtain ⟨f, rfl, hf⟩ := (hkA e).mp h3
  obtain ⟨hv, hlt⟩ := tk_idx hi h0 h1
  refine W.iast hx hb h2 ((hK.1.2 0 _ rfl).1 nn (fun j => .int (f j))) (fun q => by cases q) (by show ¬ (i < 0 ∨ (arrV _ _ _).slots.size ≤ _); rw [arrV_size]; exact hv) rfl rfl hdg fun H1 e z oq => ?_
  refine kk H1 _ (hG.put (e := .inl (cy 0, nn, .inl (upd f i.toNatClampNeg x))) ?_ ?_ oq) (hS.put z oq hA) oq
  · show H1[a]? = some (vp_cell _ _)
    rw [e]
    rw [vp_cell_i, vp_cell_i, arrV_store]
    congr 2
    funext q
    by_cases hq : q = i.toNatClampNeg
    · subst hq
      simp [updV, upd]
    · simp [updV, upd, hq]
  · rw [ha]
    show tk_O cy ld t k nn rr _
    unfold tk_O
    rw [if_neg (Nat.not_lt.mpr hk)]
    refine (hkA _).mpr ⟨_, rfl, fun j hj => ?_⟩
    by_cases hq : j = i.toNatClampNeg
    · subst hq
      rw [pk_us, tk_nat hi h0]
      exact hE
    · rw [pk_un hq]
      exact hf j hj
theorem tk_zald (hx : p.tables.exec = Jvm.exec) (hb : c.code = cc) (hK : kk_K D cy ld s) (hG : tk_G D cy ld t X H) {k : Nat} (ha : t a = (k, nn, rr)) (hk : 20 ≤ k) (hkA : ∀ e : va_E, tk_A cy ld t k nn rr e → ∃ f : Nat → Int32, e = .inl (cy 2, nn, .inl f)) (hX : a ∉ X) {i : Int32} {I : Int} (hi : i.toInt = I) (h0 : 0 ≤ I) (h1 : I < (nn : Int)) (hdg : decode cc pc = .ok (.baload, 1))
    (kk : ∀ x : Int32, tk_a H a i.toNatClampNeg x → W p l e R s m args below meth c H locs cells slots Q (F0 m (pc + 1) ls (.int x :: rest))) : W p l e R s m args below meth c H locs cells slots Q (F0 m pc ls (.int i :: .ref a :: rest)) := by
  obtain ⟨e, h2, h3⟩ := hG.arr ha hk hX
  obtain ⟨f, rfl⟩ := hkA e h3
  obtain ⟨hv, hlt⟩ := tk_idx hi h0 h1
  exact va_zald hx hb hK.1 (tk_one h2) 0 2 rfl rfl hv hdg (kk _ ⟨_, h2, arrV_read _ _ hlt⟩)
theorem tk_aald (hx : p.tables.exec = Jvm.exec) (hb : c.code = cc) (hK : kk_K D cy ld s) (hG : tk_G D cy ld t X H) {k : Nat} (cx : Nat) {ty : FieldType} (ht : (tys0 cy)[cx]? = some (cy cx, ty)) (href : ty.isReference = true) (ha : t a = (k, nn, rr)) (hk : 20 ≤ k) (hkA : ∀ e : va_E, tk_A cy ld t k nn rr e → ∃ f : Nat → Option Nat, e = .inl (cy cx, nn, .inr (.inr (.inr (.inr f)))) ∧ ∀ j : Nat, j < nn → tk_R ld t k rr j (f j)) (hX : a ∉ X) {i : Int32} {I : Int} (hi : i.toInt = I) (h0 : 0 ≤ I) (h1 : I < (nn : Int)) (hdg : decode cc pc = .ok (.aaload, 1))
    (kk : ∀ o : Option Nat, tk_R ld t k rr i.toNatClampNeg o → W p l e R s m args below meth c H locs cells slots Q (F0 m (pc + 1) ls (va_rf o :: rest))) : W p l e R s m args below meth c H locs cells slots Q (F0 m pc ls (.int i :: .ref a :: rest)) := by
  obtain ⟨e, h2, h3⟩ := hG.arr ha hk hX
  obtain ⟨f, rfl, hf⟩ := hkA e h3
  obtain ⟨hv, hlt⟩ := tk_idx hi h0 h1
  exact W.aald (v := va_rf (f i.toNatClampNeg)) (ty := ty) hx hb h2 ((hK.1.2 cx _ ht).1 nn (fun j => va_rf (f j))) href (fun q => by cases q) (by show ¬ (i < 0 ∨ (arrV _ _ _).slots.size ≤ _); rw [arrV_size]; exact hv) (by show (arrV _ _ _).slots[_]? = _; rw [arrV_read _ _ hlt]) rfl rfl hdg (kk _ (hf _ hlt))
theorem tk_aast (hx : p.tables.exec = Jvm.exec) (hb : c.code = cc) (hK : kk_K D cy ld s) (hG : tk_G D cy ld t X H) (hS : va_S A H0 H locs) {k : Nat} (cx : Nat) (ht : (tys0 cy)[cx]? = some (cy cx, .object C)) (ha : t a = (k, nn, rr)) (hk : 20 ≤ k) (hkA : ∀ e : va_E, tk_A cy ld t k nn rr e ↔ ∃ f : Nat → Option Nat, e = .inl (cy cx, nn, .inr (.inr (.inr (.inr f)))) ∧ ∀ j : Nat, j < nn → tk_R ld t k rr j (f j)) (hX : a ∉ X) {i : Int32} {I : Int} {v n2 r2 : Nat} (hv0 : t v = (ci + 1, n2, r2)) (hci : ci + 1 < 20) (hXv : v ∉ X) (hc : vwCl[ci]? = some (C, T, N)) (hi : i.toInt = I) (h0 : 0 ≤ I) (h1 : I < (nn : Int)) (hR : tk_R ld t k rr i.toNatClampNeg (some v)) (hA : A a) (hdg : decode cc pc = .ok (.aastore, 1))
    (kk : ∀ (H1 : Heap) (locs1 : List Loc), tk_G D cy ld t X H1 → va_S A H0 H1 locs1 → (∀ q : Nat, q ≠ a → H1[q]? = H[q]?) → W p l e R s m args below meth c H1 locs1 cells slots Q (F0 m (pc + 1) ls rest)) : W p l e R s m args below meth c H locs cells slots Q (F0 m pc ls (.ref v :: .int i :: .ref a :: rest)) := by
  obtain ⟨e, h2, h3⟩ := hG.arr ha hk hX
  obtain ⟨f, rfl, hf⟩ := (hkA e).mp h3
  obtain ⟨hv, hlt⟩ := tk_idx hi h0 h1
  obtain ⟨fs, hat, -⟩ := hG.obj hv0 hci hXv
  obtain ⟨r', hr', cellV, g1, g2, g3, -⟩ := hat
  have hcls := (hK.1.1 ci _ hc).2
  obtain ⟨kA, comp, k1, k2, k3, -⟩ := (hK.1.2 cx _ ht).2
  have hcomp : comp = D.1 ci := Option.some.inj (k3.symm.trans hcls.1)
  subst hcomp
  obtain ⟨kC, hkC, -⟩ := hcls.2
  refine W.aast hx hb h2 (fun q h => by cases h) (fun h => by cases h) k1 k2 rfl hkC ⟨fun q => hv (Or.inl q), by show _ < (arrV _ _ _).slots.size; rw [arrV_size]; exact hlt⟩ g1 (fun q h => by rw [g3] at h; cases h) (by rw [g2]; exact hkC) (by rw [g2]; exact va_assign hcls) rfl rfl hdg fun H1 e z oq => ?_
  refine kk H1 _ (hG.put (e := .inl (cy cx, nn, .inr (.inr (.inr (.inr (va_up f i.toNatClampNeg (some v))))))) ?_ ?_ oq) (hS.put z oq hA) oq
  · show H1[a]? = some (vp_cell _ _)
    rw [e]
    rw [vp_cell_q, vp_cell_q, arrV_store]
    congr 2
    funext q
    by_cases hq : q = i.toNatClampNeg
    · subst hq
      simp [updV, va_up, va_rf]
    · simp [updV, va_up, hq]
  · rw [ha]
    show tk_O cy ld t k nn rr _
    unfold tk_O
    rw [if_neg (Nat.not_lt.mpr hk)]
    refine (hkA _).mpr ⟨_, rfl, fun j hj => ?_⟩
    by_cases hq : j = i.toNatClampNeg
    · subst hq
      unfold va_up
      rw [if_pos rfl]
      exact hR
    · unfold va_up
      rw [if_neg hq]
      exact hf j hj
theorem tk_alen (hx : p.tables.exec = Jvm.exec) (hb : c.code = cc) (hK : kk_K D cy ld s) (hG : tk_G D cy ld t X H) {k : Nat} (cx : Nat) {ty : FieldType} (ht : (tys0 cy)[cx]? = some (cy cx, ty)) (ha : t a = (k, nn, rr)) (hk : 20 ≤ k) (hkA : ∀ e : va_E, tk_A cy ld t k nn rr e → ∃ x, e = .inl (cy cx, nn, x)) (hX : a ∉ X) (hn : nn < 2 ^ 31) (hdg : decode cc pc = .ok (.arraylength, 1))
    (kk : ∀ v : Int32, v.toInt = (nn : Int) → W p l e R s m args below meth c H locs cells slots Q (F0 m (pc + 1) ls (.int v :: rest))) : W p l e R s m args below meth c H locs cells slots Q (F0 m pc ls (.ref a :: rest)) := by
  obtain ⟨e, h2, h3⟩ := hG.arr ha hk hX
  obtain ⟨x, rfl⟩ := hkA e h3
  exact va_alen hx hb hK.1 (tk_one h2) 0 cx rfl ht rfl hdg (kk _ (nI_toInt hn))
theorem tk_copy (hexec : p.tables.exec = Jvm.exec) (hb : c.code = cc) (hml : c.maxLocals = ls.size) (hown : s.vm.findClass own = some m.cls) (hlink : (Cond.methodLink own index arraycopyName).before args s = true) (hnat : (Cond.native arraycopyName).before args s = true) (hstat : (Cond.static arraycopyName).before args s = true) (hini : (Cond.initialized "java/lang/System").before args s = true)
    (hK : kk_K D cy ld s) (hG : tk_G D cy ld t X H) (hS : va_S A H0 H locs) {a0 k0 k1 n0 n1 r0 r1 : Nat} (ha0 : t a0 = (k0, n0, r0)) (ha1 : t a = (k1, n1, r1)) (hk0 : 20 ≤ k0) (hk1 : 20 ≤ k1) (hkA0 : ∀ e : va_E, tk_A cy ld t k0 n0 r0 e → ∃ f : Nat → Int32, e = .inl (cy 0, n0, .inl f) ∧ ∀ j : Nat, j < n0 → tk_E k0 r0 j (f j).toInt) (hkA1 : ∀ e : va_E, tk_A cy ld t k1 n1 r1 e ↔ ∃ f : Nat → Int32, e = .inl (cy 0, n1, .inl f) ∧ ∀ j : Nat, j < n1 → tk_E k1 r1 j (f j).toInt) (hX0 : a0 ∉ X) (hX1 : a ∉ X)
    {sp dp nc : Int32} {SP DP NC : Int} (hsp : sp.toInt = SP) (hdp : dp.toInt = DP) (hnc : nc.toInt = NC) (h1 : 0 ≤ SP) (h2 : 0 ≤ DP) (h3 : 0 ≤ NC) (h4 : SP + NC ≤ (n0 : Int)) (h5 : DP + NC ≤ (n1 : Int)) (hE : ∀ (j x : Int), 0 ≤ j → j < NC → tk_E k0 r0 (SP + j) x → tk_E k1 r1 (DP + j) x) (hA : A a)
    (hframes : 1 ≤ R.frames) (hlocals : (rest.map fun v => v.category).sum + (nativeFrameWords "java/lang/System" "arraycopy" 5 + 11) ≤ R.locals) (hdg : decode cc pc = .ok (.invokestatic index, 3))
    (kk : ∀ (H1 : Heap) (locs1 : List Loc), tk_G D cy ld t X H1 → va_S A H0 H1 locs1 → (∀ q : Nat, q ≠ a → H1[q]? = H[q]?) → W p l e R s m args below meth c H1 locs1 cells slots Q (F0 m (pc + 3) ls rest)) : W p l e R s m args below meth c H locs cells slots Q (F0 m pc ls (.int nc :: .int dp :: .ref a :: .int sp :: .ref a0 :: rest)) := by
  obtain ⟨e0, hc0, q0⟩ := hG.arr ha0 hk0 hX0
  obtain ⟨f, rfl, hf⟩ := hkA0 e0 q0
  obtain ⟨e1, hc1, q1⟩ := hG.arr ha1 hk1 hX1
  obtain ⟨g, rfl, hg⟩ := (hkA1 e1).mp q1
  change H[a0]? = some (vp_cell (cy 0) (n0, .inl f)) at hc0
  change H[a]? = some (vp_cell (cy 0) (n1, .inl g)) at hc1
  have z1 := tk_nat hsp h1
  have z2 := tk_nat hdp h2
  have z3 := tk_nat hnc h3
  have g1 : ¬ sp < 0 := fun h => by have := Int32.lt_iff_toInt_lt.mp h; rw [hsp] at this; exact absurd this (by show ¬ SP < 0; omega)
  have g2 : ¬ dp < 0 := fun h => by have := Int32.lt_iff_toInt_lt.mp h; rw [hdp] at this; exact absurd this (by show ¬ DP < 0; omega)
  have g3 : ¬ nc < 0 := fun h => by have := Int32.lt_iff_toInt_lt.mp h; rw [hnc] at this; exact absurd this (by show ¬ NC < 0; omega)
  intro T hT Xs
  obtain ⟨-, kq0, hq0, cm0, hkk0⟩ := (hK.1.2 0 _ rfl).1 n0 (fun j => .int (f j))
  obtain ⟨-, kq1, hq1, cm1, hkk1⟩ := (hK.1.2 0 _ rfl).1 n1 (fun j => .int (g j))
  obtain ⟨vm', X', step⟩ := Xs.arraycopy hexec hown hlink hnat hstat hini (src := a0) (dst := a) (cs := vp_cell (cy 0) (n0, .inl f)) (cd := vp_cell (cy 0) (n1, .inl g)) (srcPos := sp) (destPos := dp) (n := nc) (by rw [hT]; exact hc0) (by rw [hT]; exact hc1)
    (fun _ h => by cases h) (fun _ h => by cases h) (fun h => by cases h) (fun h => by cases h) hq0 hq1 hkk0 hkk1 (by simp [refKind]) g1 g2 g3
    (by rw [hsp, hnc]; show ¬ _ > ((arrV (cy 0) n0 (fun j => .int (f j))).slots.size : Int); rw [arrV_size]; omega)
    (by rw [hdp, hnc]; show ¬ _ > ((arrV (cy 0) n1 (fun j => .int (g j))).slots.size : Int); rw [arrV_size]; omega)
    (fun vm₁ _ i hi => by
      have e : (vp_cell (cy 0) (n0, .inl f)).slots.getD (sp.toNatClampNeg + i) .null = .int (f (sp.toNatClampNeg + i)) := by
        show (arrV (cy 0) n0 (fun j => .int (f j))).slots.getD _ _ = _
        rw [Array.getD_eq_getD_getElem?, arrV_read _ _ (by omega)]
        rfl
      refine ⟨?_, ?_⟩
      · rw [e]
        rfl
      · rw [e]
        exact trivial)
    (g := F0 m pc ls (.int nc :: .int dp :: .ref a :: .int sp :: .ref a0 :: rest)) rfl (by rw [hml]) (rest := rest) rfl (by rw [hb]; exact hdg) hframes (by show 2 * 0 + _ + _ ≤ _; omega)
  have e1 : copied (vp_cell (cy 0) (n0, .inl f)) (vp_cell (cy 0) (n1, .inl g)) sp dp nc = vp_cell (cy 0) (n1, .inl (va_cpy f g sp.toNatClampNeg dp.toNatClampNeg nc.toNatClampNeg)) := va_copied (fun z => .int z) (cy 0) (cy 0) f g (by omega)
  rw [e1] at X' step
  have hl : a < H.size := (Array.getElem?_eq_some_iff.mp hc1).1
  have hheap : ((T.setVm vm').setCell a (vp_cell (cy 0) (n1, .inl (va_cpy f g sp.toNatClampNeg dp.toNatClampNeg nc.toNatClampNeg)))).heap = H.setIfInBounds a (vp_cell (cy 0) (n1, .inl (va_cpy f g sp.toNatClampNeg dp.toNatClampNeg nc.toNatClampNeg))) := by rw [← hT]; rfl
  have oq : ∀ q : Nat, q ≠ a → (H.setIfInBounds a (vp_cell (cy 0) (n1, .inl (va_cpy f g sp.toNatClampNeg dp.toNatClampNeg nc.toNatClampNeg))))[q]? = H[q]? := fun q hq => by simp [Array.getElem?_setIfInBounds, Ne.symm hq]
  have hG1 : tk_G D cy ld t X (H.setIfInBounds a (vp_cell (cy 0) (n1, .inl (va_cpy f g sp.toNatClampNeg dp.toNatClampNeg nc.toNatClampNeg)))) := by
    refine hG.put (a := a) (e := .inl (cy 0, n1, .inl (va_cpy f g sp.toNatClampNeg dp.toNatClampNeg nc.toNatClampNeg))) ?_ ?_ oq
    · show (H.setIfInBounds a _)[a]? = some _
      simp [Array.getElem?_setIfInBounds, hl]
    · rw [ha1]
      show tk_O cy ld t k1 n1 r1 _
      unfold tk_O
      rw [if_neg (Nat.not_lt.mpr hk1)]
      refine (hkA1 _).mpr ⟨_, rfl, fun j hj => ?_⟩
      unfold va_cpy
      by_cases h : dp.toNatClampNeg ≤ j ∧ j < dp.toNatClampNeg + nc.toNatClampNeg
      · rw [if_pos h]
        have w := hf (sp.toNatClampNeg + (j - dp.toNatClampNeg)) (by omega)
        have := hE ((j : Int) - DP) _ (by omega) (by omega) (by rw [show SP + ((j : Int) - DP) = ((sp.toNatClampNeg + (j - dp.toNatClampNeg) : Nat) : Int) by omega]; exact w)
        rw [show DP + ((j : Int) - DP) = (j : Int) by omega] at this
        exact this
      · rw [if_neg h]
        exact hg j hj
  obtain ⟨t9, a9, b9⟩ := kk _ _ hG1 ⟨by simp; exact hS.1, fun q g1 g2 => by
      rw [oq q (fun e => g2 (by rw [e]; exact hA))]
      exact hS.2.1 q g1 g2, fun q hq => by
      rcases List.mem_append.mp hq with h | h
      · exact hS.2.2 q h
      · obtain ⟨z, -, hz⟩ := List.mem_map.mp h
        rw [← hz]
        exact hA⟩ oq _ hheap X'
  exact ⟨t9, step t9 a9, b9⟩
theorem tk_Vi {post : Int32 → Heap → Prop} (S : CallFix p m c cc nL s args Ts own) (hK : kk_K D cy ld s) (hG : tk_G D cy ld t X H) {LA : List (Nat × Nat × Nat)} (hZ : tk_Z ld t s) (hS : va_S (tk_w t LA) s.heap H locs) {B : Heap → Prop} (hM : Met l y wsy rm (tp D cy ld t X (.ref b :: As) B) (ti D cy ld t X post (tk_w t L)) mc ms (tk_w t L)) (hB : B H) (cw : CallW R s args own C index y bytes maxL ret wsy rm mc ms n) (hb0 : t b = (ci + 1, nn, rr)) (hci : ci + 1 < 20) (hXb : b ∉ X) (hcl : vwCl[ci]? = some (C, T, N)) (hsub : ∀ q, tk_w t L q → tk_w t LA q) (hn : As.length = n) (hsize : ls.size = nL) (hst : st = As.reverse ++ .ref b :: rest) (hW : (rest.map fun v => v.category).sum ≤ 8) (hdg : decode cc pc = .ok (.invokevirtual index, 3)) (hf : cells + mc ≤ R.cells ∧ slots + ms ≤ R.slots)
    (kk : ∀ (r : Int32) (H1 : Heap) (locs1 : List Loc), post r H1 → tk_G D cy ld t X H1 → va_S (tk_w t LA) s.heap H1 locs1 → (∀ q : Nat, q < H.size → ¬ tk_w t L q → H1[q]? = H[q]?) → W p l e R s m args below meth c H1 locs1 (cells + mc) (slots + ms) Q (F0 m (pc + 3) ls (.int r :: rest))) : W p l e R s m args below meth c H locs cells slots Q (F0 m pc ls st) := by
  subst hst
  obtain ⟨fs0, hat0, -⟩ := hG.obj hb0 hci hXb
  refine va_calli (va_runV (As := As) (rest := rest) S hM cw ⟨tp_blind, va_recv hK.1 (tk_one hat0) hcl (q0 := 0) rfl, fun U hU hW2 => ⟨rfl, by rw [hU]; exact hG, kk_warm hW2 hK, by rw [hU]; exact hB, tk_Z.at hZ hS hU hW2.alike⟩⟩ rfl hn hsize rfl (lv_room hW) hdg hf) hS (fun q _ h => hsub q h) hsub (fun r u t9 H1 locs1 ht hvm hw hBB hz1 hk1 hS1 => ?_)
  obtain ⟨hG1, hp1⟩ := hBB
  subst hw
  rw [ht] at hG1 hp1
  exact kk r H1 locs1 hp1 hG1 hS1 hk1
theorem tk_Ti {post : Int32 → Heap → Prop} {j : Nat} (S : CallFix p m c cc nL s args Ts own) (hK : kk_K D cy ld s) (hG : tk_G D cy ld t X H) {LA : List (Nat × Nat × Nat)} (hZ : tk_Z ld t s) (hS : va_S (tk_w t LA) s.heap H locs) {B : Heap → Prop} (hM : Met l y wsy rm (tp D cy ld t X (.ref (ld j) :: As) B) (ti D cy ld t X post (tk_w t L)) mc ms (tk_w t L)) (hB : B H) (cw : CallW R s args own "java/lang/String" index y bytes maxL ret wsy rm mc ms n) (hj : j < 11) (hsub : ∀ q, tk_w t L q → tk_w t LA q) (hn : As.length = n) (hsize : ls.size = nL) (hst : st = As.reverse ++ .ref (ld j) :: rest) (hW : (rest.map fun v => v.category).sum ≤ 8) (hdg : decode cc pc = .ok (.invokevirtual index, 3)) (hf : cells + mc ≤ R.cells ∧ slots + ms ≤ R.slots)
    (kk : ∀ (r : Int32) (H1 : Heap) (locs1 : List Loc), post r H1 → tk_G D cy ld t X H1 → va_S (tk_w t LA) s.heap H1 locs1 → (∀ q : Nat, q < H.size → ¬ tk_w t L q → H1[q]? = H[q]?) → W p l e R s m args below meth c H1 locs1 (cells + mc) (slots + ms) Q (F0 m (pc + 3) ls (.int r :: rest))) : W p l e R s m args below meth c H locs cells slots Q (F0 m pc ls st) := by
  subst hst
  refine va_calli (va_runV (As := As) (rest := rest) S hM cw ⟨tp_blind, vk_recv (vk_S.narrow hZ.1 (fun _ h => h.1)) hj hS, fun U hU hW2 => ⟨rfl, by rw [hU]; exact hG, kk_warm hW2 hK, by rw [hU]; exact hB, tk_Z.at hZ hS hU hW2.alike⟩⟩ rfl hn hsize rfl (lv_room hW) hdg hf) hS (fun q _ h => hsub q h) hsub (fun r u t9 H1 locs1 ht hvm hw hBB hz1 hk1 hS1 => ?_)
  obtain ⟨hG1, hp1⟩ := hBB
  subst hw
  rw [ht] at hG1 hp1
  exact kk r H1 locs1 hp1 hG1 hS1 hk1
theorem tk_Vv {post : Heap → Prop} (S : CallFix p m c cc nL s args Ts own) (hK : kk_K D cy ld s) (hG : tk_G D cy ld t X H) {LA : List (Nat × Nat × Nat)} (hZ : tk_Z ld t s) (hS : va_S (tk_w t LA) s.heap H locs) {B : Heap → Prop} (hM : Met l y wsy rm (tp D cy ld t X (.ref b :: As) B) (tv D cy ld t X post (tk_w t L)) mc ms (tk_w t L)) (hB : B H) (cw : CallW R s args own C index y bytes maxL ret wsy rm mc ms n) (hb0 : t b = (ci + 1, nn, rr)) (hci : ci + 1 < 20) (hXb : b ∉ X) (hcl : vwCl[ci]? = some (C, T, N)) (hsub : ∀ q, tk_w t L q → tk_w t LA q) (hn : As.length = n) (hsize : ls.size = nL) (hst : st = As.reverse ++ .ref b :: rest) (hW : (rest.map fun v => v.category).sum ≤ 8) (hdg : decode cc pc = .ok (.invokevirtual index, 3)) (hf : cells + mc ≤ R.cells ∧ slots + ms ≤ R.slots)
    (kk : ∀ (H1 : Heap) (locs1 : List Loc), post H1 → tk_G D cy ld t X H1 → va_S (tk_w t LA) s.heap H1 locs1 → (∀ q : Nat, q < H.size → ¬ tk_w t L q → H1[q]? = H[q]?) → W p l e R s m args below meth c H1 locs1 (cells + mc) (slots + ms) Q (F0 m (pc + 3) ls (rest))) : W p l e R s m args below meth c H locs cells slots Q (F0 m pc ls st) := by
  subst hst
  obtain ⟨fs0, hat0, -⟩ := hG.obj hb0 hci hXb
  refine va_callv (va_runV (As := As) (rest := rest) S hM cw ⟨tp_blind, va_recv hK.1 (tk_one hat0) hcl (q0 := 0) rfl, fun U hU hW2 => ⟨rfl, by rw [hU]; exact hG, kk_warm hW2 hK, by rw [hU]; exact hB, tk_Z.at hZ hS hU hW2.alike⟩⟩ rfl hn hsize rfl (lv_room hW) hdg hf) hS (fun q _ h => hsub q h) hsub (fun u t9 H1 locs1 ht hvm hw hBB hz1 hk1 hS1 => ?_)
  obtain ⟨hG1, hp1⟩ := hBB
  rw [ht] at hG1 hp1
  exact kk H1 locs1 hp1 hG1 hS1 hk1
theorem tk_Vq {post : Option Nat → Heap → Prop} (S : CallFix p m c cc nL s args Ts own) (hK : kk_K D cy ld s) (hG : tk_G D cy ld t X H) {LA : List (Nat × Nat × Nat)} (hZ : tk_Z ld t s) (hS : va_S (tk_w t LA) s.heap H locs) {B : Heap → Prop} (hM : Met l y wsy rm (tp D cy ld t X (.ref b :: As) B) (tq D cy ld t X post (tk_w t L)) mc ms (tk_w t L)) (hB : B H) (cw : CallW R s args own C index y bytes maxL ret wsy rm mc ms n) (hb0 : t b = (ci + 1, nn, rr)) (hci : ci + 1 < 20) (hXb : b ∉ X) (hcl : vwCl[ci]? = some (C, T, N)) (hsub : ∀ q, tk_w t L q → tk_w t LA q) (hn : As.length = n) (hsize : ls.size = nL) (hst : st = As.reverse ++ .ref b :: rest) (hW : (rest.map fun v => v.category).sum ≤ 8) (hdg : decode cc pc = .ok (.invokevirtual index, 3)) (hf : cells + mc ≤ R.cells ∧ slots + ms ≤ R.slots)
    (kk : ∀ (r : Option Nat) (H1 : Heap) (locs1 : List Loc), post r H1 → tk_G D cy ld t X H1 → va_S (tk_w t LA) s.heap H1 locs1 → (∀ q : Nat, q < H.size → ¬ tk_w t L q → H1[q]? = H[q]?) → W p l e R s m args below meth c H1 locs1 (cells + mc) (slots + ms) Q (F0 m (pc + 3) ls (va_rf r :: rest))) : W p l e R s m args below meth c H locs cells slots Q (F0 m pc ls st) := by
  subst hst
  obtain ⟨fs0, hat0, -⟩ := hG.obj hb0 hci hXb
  refine va_callq (va_runV (As := As) (rest := rest) S hM cw ⟨tp_blind, va_recv hK.1 (tk_one hat0) hcl (q0 := 0) rfl, fun U hU hW2 => ⟨rfl, by rw [hU]; exact hG, kk_warm hW2 hK, by rw [hU]; exact hB, tk_Z.at hZ hS hU hW2.alike⟩⟩ rfl hn hsize rfl (lv_room hW) hdg hf) hS (fun q _ h => hsub q h) hsub (fun r u t9 H1 locs1 ht hvm hw hBB hz1 hk1 hS1 => ?_)
  obtain ⟨hG1, hp1⟩ := hBB
  subst hw
  rw [ht] at hG1 hp1
  exact kk r H1 locs1 hp1 hG1 hS1 hk1
theorem tk_Si {post : Int32 → Heap → Prop} (S : CallFix p m c cc nL s args Ts own) (hK : kk_K D cy ld s) (hG : tk_G D cy ld t X H) {LA : List (Nat × Nat × Nat)} (hZ : tk_Z ld t s) (hS : va_S (tk_w t LA) s.heap H locs) {B : Heap → Prop} (hM : Met l y wsy rm (tp D cy ld t X As B) (ti D cy ld t X post (tk_w t L)) mc ms (tk_w t L)) (hB : B H) (cw : CallB R s args own index y bytes maxL ret wsy rm mc ms n ∧ (Cond.static y).before args s = true) (hsub : ∀ q, tk_w t L q → tk_w t LA q) (hn : As.length = n) (hsize : ls.size = nL) (hst : st = As.reverse ++ rest) (hW : (rest.map fun v => v.category).sum ≤ 8) (hdg : decode cc pc = .ok (.invokestatic index, 3)) (hf : cells + mc ≤ R.cells ∧ slots + ms ≤ R.slots)
    (kk : ∀ (r : Int32) (H1 : Heap) (locs1 : List Loc), post r H1 → tk_G D cy ld t X H1 → va_S (tk_w t LA) s.heap H1 locs1 → (∀ q : Nat, q < H.size → ¬ tk_w t L q → H1[q]? = H[q]?) → W p l e R s m args below meth c H1 locs1 (cells + mc) (slots + ms) Q (F0 m (pc + 3) ls (.int r :: rest))) : W p l e R s m args below meth c H locs cells slots Q (F0 m pc ls st) := by
  subst hst
  refine va_calli (va_runS (As := As) (rest := rest) S hM cw ⟨tp_blind, fun U hU hW2 => ⟨rfl, by rw [hU]; exact hG, kk_warm hW2 hK, by rw [hU]; exact hB, tk_Z.at hZ hS hU hW2.alike⟩⟩ rfl hn hsize rfl (lv_room hW) hdg hf) hS (fun q _ h => hsub q h) hsub (fun r u t9 H1 locs1 ht hvm hw hBB hz1 hk1 hS1 => ?_)
  obtain ⟨hG1, hp1⟩ := hBB
  subst hw
  rw [ht] at hG1 hp1
  exact kk r H1 locs1 hp1 hG1 hS1 hk1
theorem tk_Sv {post : Heap → Prop} (S : CallFix p m c cc nL s args Ts own) (hK : kk_K D cy ld s) (hG : tk_G D cy ld t X H) {LA : List (Nat × Nat × Nat)} (hZ : tk_Z ld t s) (hS : va_S (tk_w t LA) s.heap H locs) {B : Heap → Prop} (hM : Met l y wsy rm (tp D cy ld t X As B) (tv D cy ld t X post (tk_w t L)) mc ms (tk_w t L)) (hB : B H) (cw : CallB R s args own index y bytes maxL ret wsy rm mc ms n ∧ (Cond.static y).before args s = true) (hsub : ∀ q, tk_w t L q → tk_w t LA q) (hn : As.length = n) (hsize : ls.size = nL) (hst : st = As.reverse ++ rest) (hW : (rest.map fun v => v.category).sum ≤ 8) (hdg : decode cc pc = .ok (.invokestatic index, 3)) (hf : cells + mc ≤ R.cells ∧ slots + ms ≤ R.slots)
    (kk : ∀ (H1 : Heap) (locs1 : List Loc), post H1 → tk_G D cy ld t X H1 → va_S (tk_w t LA) s.heap H1 locs1 → (∀ q : Nat, q < H.size → ¬ tk_w t L q → H1[q]? = H[q]?) → W p l e R s m args below meth c H1 locs1 (cells + mc) (slots + ms) Q (F0 m (pc + 3) ls (rest))) : W p l e R s m args below meth c H locs cells slots Q (F0 m pc ls st) := by
  subst hst
  refine va_callv (va_runS (As := As) (rest := rest) S hM cw ⟨tp_blind, fun U hU hW2 => ⟨rfl, by rw [hU]; exact hG, kk_warm hW2 hK, by rw [hU]; exact hB, tk_Z.at hZ hS hU hW2.alike⟩⟩ rfl hn hsize rfl (lv_room hW) hdg hf) hS (fun q _ h => hsub q h) hsub (fun u t9 H1 locs1 ht hvm hw hBB hz1 hk1 hS1 => ?_)
  obtain ⟨hG1, hp1⟩ := hBB
  rw [ht] at hG1 hp1
  exact kk H1 locs1 hp1 hG1 hS1 hk1
theorem tk_Ni {post : Int32 → Heap → Prop} {host : String} (S : CallFix p m c cc nL s args Ts own) (hK : kk_K D cy ld s) (hG : tk_G D cy ld t X H) {LA : List (Nat × Nat × Nat)} (hZ : tk_Z ld t s) (hS : va_S (tk_w t LA) s.heap H locs) {B : Heap → Prop} (hM : Met l y wsy rm (tp D cy ld t X As B) (ti D cy ld t X post (tk_w t L)) mc ms (tk_w t L)) (hB : B H) (cw : va_CN R s args own index y host bytes maxL ret wsy rm mc ms n ∧ (Cond.static y).before args s = true ∧ True) (hsub : ∀ q, tk_w t L q → tk_w t LA q) (hn : As.length = n) (hsize : ls.size = nL) (hst : st = As.reverse ++ rest) (hW : (rest.map fun v => v.category).sum ≤ 8) (hdg : decode cc pc = .ok (.invokestatic index, 3)) (hf : cells + mc ≤ R.cells ∧ slots + ms ≤ R.slots)
    (kk : ∀ (r : Int32) (H1 : Heap) (locs1 : List Loc), post r H1 → tk_G D cy ld t X H1 → va_S (tk_w t LA) s.heap H1 locs1 → (∀ q : Nat, q < H.size → ¬ tk_w t L q → H1[q]? = H[q]?) → W p l e R s m args below meth c H1 locs1 (cells + mc) (slots + ms) Q (F0 m (pc + 3) ls (.int r :: rest))) : W p l e R s m args below meth c H locs cells slots Q (F0 m pc ls st) := by
  subst hst
  refine va_calli (va_runSN (As := As) (rest := rest) S hM cw ⟨tp_blind, fun U hU hW2 => ⟨rfl, by rw [hU]; exact hG, kk_warm hW2 hK, by rw [hU]; exact hB, tk_Z.at hZ hS hU hW2.alike⟩⟩ rfl hn hsize rfl (lv_room hW) hdg hf) hS (fun q _ h => hsub q h) hsub (fun r u t9 H1 locs1 ht hvm hw hBB hz1 hk1 hS1 => ?_)
  obtain ⟨hG1, hp1⟩ := hBB
  subst hw
  rw [ht] at hG1 hp1
  exact kk r H1 locs1 hp1 hG1 hS1 hk1
theorem tk_iret {post : Int32 → Heap → Prop} {v : Int32} {ty : FieldType} (hx : p.tables.exec = Jvm.exec) (hb : c.code = cc) (hr : meth.sig.returnType = some ty) (hty : narrow ty (.int v) = .int v) (hlocks : meth.locks = false) (hpost : post v H) (hG : tk_G D cy ld t X H) (hS : va_S A s.heap H locs) (hdg : decode cc pc = .ok (.ireturn, 1)) :
    W p l e R s m args below meth c H locs cells slots (MQ below (ti D cy ld t X post A) args s cells slots A) (F0 m pc ls [.int v]) :=
  W.zret hx hb hr hty (fun t9 ht _ => ⟨⟨v, v, rfl, rfl, by show tk_G D cy ld t X t9.heap ∧ post v t9.heap; rw [ht]; exact ⟨hG, hpost⟩⟩, hS.F ht⟩) hS.2.2 hdg hlocks
theorem tk_vret {post : Heap → Prop} (hx : p.tables.exec = Jvm.exec) (hb : c.code = cc) (hr : meth.sig.returnType = none) (hlocks : meth.locks = false) (hpost : post H) (hG : tk_G D cy ld t X H) (hS : va_S A s.heap H locs) (hdg : decode cc pc = .ok (.return_, 1)) :
    W p l e R s m args below meth c H locs cells slots (MQ below (tv D cy ld t X post A) args s cells slots A) (F0 m pc ls []) :=
  W.vret hx hb hr (fun t9 ht _ => ⟨⟨(), rfl, trivial, by show tk_G D cy ld t X t9.heap ∧ post t9.heap; rw [ht]; exact ⟨hG, hpost⟩⟩, hS.F ht⟩) hS.2.2 hdg hlocks
theorem tk_qret {post : Option Nat → Heap → Prop} {o : Option Nat} {v : Value} {rt : FieldType} (hx : p.tables.exec = Jvm.exec) (hb : c.code = cc) (hr : meth.sig.returnType = some rt) (hrt : (∃ n, rt = .object n) ∨ ∃ t, rt = .array t) (hv : v = va_rf o) (hlocks : meth.locks = false) (hpost : post o H) (hG : tk_G D cy ld t X H) (hS : va_S A s.heap H locs) (hdg : decode cc pc = .ok (.areturn, 1)) :
    W p l e R s m args below meth c H locs cells slots (MQ below (tq D cy ld t X post A) args s cells slots A) (F0 m pc ls [v]) := by
  subst hv
  exact W.aret hx hb hr hrt (by cases o with
    | none => exact Or.inl rfl
    | some a => exact Or.inr ⟨a, rfl⟩) (fun t9 ht _ => ⟨⟨o, o, rfl, rfl, by show tk_G D cy ld t X t9.heap ∧ post o t9.heap; rw [ht]; exact ⟨hG, hpost⟩⟩, hS.F ht⟩) hS.2.2 hdg hlocks
theorem tk_add {x y : Int32} {I J : Int} (hx : x.toInt = I) (hy : y.toInt = J) (h1 : -2147483648 ≤ I + J) (h2 : I + J ≤ 2147483647) (kk : ∀ z : Int32, z.toInt = I + J → W p l e R s m args below meth c H locs cells slots Q (F0 m pc ls (.int z :: rest))) : W p l e R s m args below meth c H locs cells slots Q (F0 m pc ls (.int (x + y) :: rest)) := kk _ (by rw [Int32.toInt_add, hx, hy]; exact tk_bm h1 h2)
theorem tk_ladd {x y : Int64} {I J : Int} (hx : x.toInt = I) (hy : y.toInt = J) (h1 : -9223372036854775808 ≤ I + J) (h2 : I + J ≤ 9223372036854775807) (kk : ∀ z : Int64, z.toInt = I + J → W p l e R s m args below meth c H locs cells slots Q (F0 m pc ls (.long z :: rest))) : W p l e R s m args below meth c H locs cells slots Q (F0 m pc ls (.long (x + y) :: rest)) := kk _ (by rw [Int64.toInt_add, hx, hy]; exact tk_bmL h1 h2)
theorem tk_sub {x y : Int32} {I J : Int} (hx : x.toInt = I) (hy : y.toInt = J) (h1 : -2147483648 ≤ I - J) (h2 : I - J ≤ 2147483647) (kk : ∀ z : Int32, z.toInt = I - J → W p l e R s m args below meth c H locs cells slots Q (F0 m pc ls (.int z :: rest))) : W p l e R s m args below meth c H locs cells slots Q (F0 m pc ls (.int (x - y) :: rest)) := kk _ (by rw [Int32.toInt_sub, hx, hy]; exact tk_bm h1 h2)
theorem tk_lsub {x y : Int64} {I J : Int} (hx : x.toInt = I) (hy : y.toInt = J) (h1 : -9223372036854775808 ≤ I - J) (h2 : I - J ≤ 9223372036854775807) (kk : ∀ z : Int64, z.toInt = I - J → W p l e R s m args below meth c H locs cells slots Q (F0 m pc ls (.long z :: rest))) : W p l e R s m args below meth c H locs cells slots Q (F0 m pc ls (.long (x - y) :: rest)) := kk _ (by rw [Int64.toInt_sub, hx, hy]; exact tk_bmL h1 h2)
theorem tk_mul {x y : Int32} {I J : Int} (hx : x.toInt = I) (hy : y.toInt = J) (h1 : -2147483648 ≤ I * J) (h2 : I * J ≤ 2147483647) (kk : ∀ z : Int32, z.toInt = I * J → W p l e R s m args below meth c H locs cells slots Q (F0 m pc ls (.int z :: rest))) : W p l e R s m args below meth c H locs cells slots Q (F0 m pc ls (.int (x * y) :: rest)) := kk _ (by rw [Int32.toInt_mul, hx, hy]; exact tk_bm h1 h2)
theorem tk_lmul {x y : Int64} {I J : Int} (hx : x.toInt = I) (hy : y.toInt = J) (h1 : -9223372036854775808 ≤ I * J) (h2 : I * J ≤ 9223372036854775807) (kk : ∀ z : Int64, z.toInt = I * J → W p l e R s m args below meth c H locs cells slots Q (F0 m pc ls (.long z :: rest))) : W p l e R s m args below meth c H locs cells slots Q (F0 m pc ls (.long (x * y) :: rest)) := kk _ (by rw [Int64.toInt_mul, hx, hy]; exact tk_bmL h1 h2)
theorem tk_neg {x : Int32} {I : Int} (hx : x.toInt = I) (h1 : -2147483647 ≤ I) (h2 : I ≤ 2147483647) (kk : ∀ z : Int32, z.toInt = -I → W p l e R s m args below meth c H locs cells slots Q (F0 m pc ls (.int z :: rest))) : W p l e R s m args below meth c H locs cells slots Q (F0 m pc ls (.int (-x) :: rest)) := kk _ (by rw [Int32.toInt_neg, hx]; exact tk_bm (by omega) (by omega))
theorem tk_any {x : Int32} (kk : ∀ z : Int32, W p l e R s m args below meth c H locs cells slots Q (F0 m pc ls (.int z :: rest))) : W p l e R s m args below meth c H locs cells slots Q (F0 m pc ls (.int x :: rest)) := kk x
theorem tk_anyl {x : Int64} (kk : ∀ z : Int64, W p l e R s m args below meth c H locs cells slots Q (F0 m pc ls (.long z :: rest))) : W p l e R s m args below meth c H locs cells slots Q (F0 m pc ls (.long x :: rest)) := kk x
theorem tk_say {x : Int32} {P : Int32 → Prop} (h : P x) (kk : ∀ z : Int32, P z → W p l e R s m args below meth c H locs cells slots Q (F0 m pc ls (.int z :: rest))) : W p l e R s m args below meth c H locs cells slots Q (F0 m pc ls (.int x :: rest)) := kk x h
theorem tk_sayl {x : Int64} {P : Int64 → Prop} (h : P x) (kk : ∀ z : Int64, P z → W p l e R s m args below meth c H locs cells slots Q (F0 m pc ls (.long z :: rest))) : W p l e R s m args below meth c H locs cells slots Q (F0 m pc ls (.long x :: rest)) := kk x h
end TKB
section TKC
variable {l : Launch} {D : va_G} {cy : Nat → ClassId} {ld : Nat → Nat} {y : MethodName} {cc : ByteArray} {maxL mc ms : Nat} {ret : Option FieldType} {rm : Room} {av : List Value} {t : tk_T} {X : List Nat} {B : Heap → Prop}
theorem tk_met (QC : Array Value → State → Outcome → State → Prop) (A : Nat → Prop) (hy : plainName y.cls = true) (hlen : (lg_sl av).length ≤ maxL)
    (body : ∀ (p : Program) (e : Env) (s : State) (m : MethodId) (args : Array Value) (below : List Frame) (meth : Method) (c : Code), p.tables.exec = Jvm.exec → c.code = cc → meth.sig.returnType = ret → c.maxLocals = maxL → (∀ w ∈ wl y cc maxL ret, w.before args s = true) → (∀ w ∈ wsA, w.before args s = true) → s.vm.findClass y.cls = some m.cls → meth.locks = false → kk_K D cy ld s → ∀ (H : Heap) (locs : List Loc), H = s.heap → tk_G D cy ld t X H → va_S A s.heap H locs → B H → tk_Z ld t s → ∀ ls : Array Slot, lv_has ls maxL (lv_args 0 av) →
      W p l e rm s m args below meth c H locs 0 0 (MQ below QC args s mc ms A) (F0 m 0 ls [])) : Met l y (wl y cc maxL ret) rm (tp D cy ld t X av B) QC mc ms A := by
  refine Met.ofW (cc := cc) (maxL := maxL) (ret := ret) hy rfl ?_
  intro p e s m args below meth c s₁ B hml hv
  obtain ⟨rfl, hG, hK, hB, hZ⟩ := hv
  have hts := atoms_spec (ws := wl y cc maxL ret) B.pre
  have hl := lv_entry av (n := maxL) hlen
  rw [lg_entry_eq]
  exact body p e s m _ below meth c B.exec B.bytes B.returns hml hts (fun w hw => hts w (List.mem_cons_of_mem _ hw)) (findClass_of_methodNamed B.named) B.notSynchronized hK s.heap [] rfl hG va_S.rf hB hZ _ hl
end TKC
theorem tk_w.pick {t : tk_T} {L L' : List (Nat × Nat × Nat)} (is : List Nat) (h : is.map (fun i => L[i]?) = L'.map some) : ∀ a, tk_w t L' a → tk_w t L a := by
  rintro a ⟨h0, q, hq, h1⟩
  have e : some q ∈ is.map (fun i => L[i]?) := by rw [h]; exact List.mem_map.mpr ⟨q, hq, rfl⟩
  obtain ⟨i, -, hi⟩ := List.mem_map.mp e
  exact ⟨h0, q, List.mem_of_getElem? hi, h1⟩
theorem tk_peek {D : va_G} {cy : Nat → ClassId} {ld : Nat → Nat} {t : tk_T} {X : List Nat} {H : Heap} {a ci nn rr : Nat} {C : String} {T : u_T} {N : Nat} {sp : tk_S} (hG : tk_G D cy ld t X H) (ha : t a = (ci + 1, nn, rr)) (hci : ci + 1 < 20) (hX : a ∉ X) (hc : vwCl[ci]? = some (C, T, N)) (k : Nat) (hk : k < N) (hsp : (tk_F (ci + 1))[k]? = some sp) : ∃ v : Value, tk_f D H a ci k v ∧ tk_V ld t nn rr sp v := by
  obtain ⟨fs, h1, -, h3, -⟩ := hG.obj ha hci hX
  obtain ⟨v, hv, hV⟩ := h3 k _ hsp
  exact ⟨v, tk_f.of h1 hc hk hv, hV⟩
theorem tk_rngL (x : Int64) : -9223372036854775808 ≤ x.toInt ∧ x.toInt ≤ 9223372036854775807 := ⟨Int64.le_toInt x, Int64.toInt_le x⟩
theorem tk_nz {x : Int32} (h0 : 0 ≤ x.toInt) (h1 : x.toInt ≤ 1) : narrow .boolean (.int x) = .int x := by
  rcases (show x.toInt = 0 ∨ x.toInt = 1 by omega) with h | h
  · obtain rfl : x = 0 := (fi_eq h (by decide)).mpr rfl
    rfl
  · obtain rfl : x = 1 := (fi_eq h (by decide)).mpr rfl
    rfl
theorem tk_fz {x : Int32} (h0 : 0 ≤ x.toInt) (h1 : x.toInt ≤ 1) : fits .boolean (.int x) = true := by
  rcases (show x.toInt = 0 ∨ x.toInt = 1 by omega) with h | h
  · obtain rfl : x = 0 := (fi_eq h (by decide)).mpr rfl
    rfl
  · obtain rfl : x = 1 := (fi_eq h (by decide)).mpr rfl
    rfl
theorem tk_inc (x : Int32) (n : Int) (hn : (Int32.ofInt n).toInt = n) (h1 : -2147483648 ≤ x.toInt + n) (h2 : x.toInt + n ≤ 2147483647) : ∃ z : Int32, z.toInt = x.toInt + n ∧ x + Int32.ofInt n = z := ⟨_, by rw [Int32.toInt_add, hn]; exact tk_bm h1 h2, rfl⟩
theorem tk_rem {x y : Int32} {I J : Int} (hx : x.toInt = I) (hy : y.toInt = J) (h0 : 0 ≤ I) (h1 : 1 ≤ J) : 0 ≤ (x - x / y * y).toInt ∧ (x - x / y * y).toInt < J := by
  have rx := tk_rng x
  rw [hx] at rx
  have e0 : 0 ≤ I / J := Int.ediv_nonneg h0 (by omega)
  have e5 : I / J ≤ I := Int.ediv_le_self J h0
  have hq : (x / y).toInt = I / J := by
    rw [Int32.toInt_div, hx, hy, Int.tdiv_eq_ediv_of_nonneg h0]
    exact tk_bm (by omega) (by omega)
  have e1 : I / J * J ≤ I := Int.ediv_mul_le I (by omega)
  have e2 := Int.emod_nonneg I (show J ≠ 0 by omega)
  have e3 := Int.emod_lt_of_pos I (show 0 < J by omega)
  have e4 : I % J = I - I / J * J := by rw [Int.emod_def, Int.mul_comm]
  have e6 := Int.mul_nonneg e0 (show 0 ≤ J by omega)
  have hm : (x / y * y).toInt = I / J * J := by
    rw [Int32.toInt_mul, hq, hy]
    exact tk_bm (by omega) (by omega)
  have hs : (x - x / y * y).toInt = I % J := by
    rw [Int32.toInt_sub, hx, hm, ← e4]
    exact tk_bm (by omega) (by omega)
  rw [hs]
  exact ⟨e2, e3⟩
theorem tk_remL {x y : Int64} {I J : Int} (hx : x.toInt = I) (hy : y.toInt = J) (h0 : 0 ≤ I) (h1 : 1 ≤ J) : 0 ≤ (x - x / y * y).toInt ∧ (x - x / y * y).toInt < J := by
  have rx := tk_rngL x
  rw [hx] at rx
  have e0 : 0 ≤ I / J := Int.ediv_nonneg h0 (by omega)
  have e5 : I / J ≤ I := Int.ediv_le_self J h0
  have hq : (x / y).toInt = I / J := by
    rw [Int64.toInt_div, hx, hy, Int.tdiv_eq_ediv_of_nonneg h0]
    exact tk_bmL (by omega) (by omega)
  have e1 : I / J * J ≤ I := Int.ediv_mul_le I (by omega)
  have e2 := Int.emod_nonneg I (show J ≠ 0 by omega)
  have e3 := Int.emod_lt_of_pos I (show 0 < J by omega)
  have e4 : I % J = I - I / J * J := by rw [Int.emod_def, Int.mul_comm]
  have e6 := Int.mul_nonneg e0 (show 0 ≤ J by omega)
  have hm : (x / y * y).toInt = I / J * J := by
    rw [Int64.toInt_mul, hq, hy]
    exact tk_bmL (by omega) (by omega)
  have hs : (x - x / y * y).toInt = I % J := by
    rw [Int64.toInt_sub, hx, hm, ← e4]
    exact tk_bmL (by omega) (by omega)
  rw [hs]
  exact ⟨e2, e3⟩
theorem tk_and (x : Int32) {m : Int32} {M : Int} (k : Nat) (hm : m.toBitVec.toNat = 2 ^ k - 1) (hk : k < 31 ∧ ((2 ^ k - 1 : Nat) : Int) = M) : 0 ≤ (x &&& m).toInt ∧ (x &&& m).toInt ≤ M := by
  obtain ⟨j, hj, e⟩ := pk_andE x k hm
  have h2 : 2 ^ k < 2 ^ 31 := Nat.pow_lt_pow_right (by decide) hk.1
  rw [e, nI_toInt (by omega)]
  have := hk.2
  omega
theorem tk_shl1 (y : Int32) (h0 : 0 ≤ y.toInt) (h1 : y.toInt ≤ 10) : 1 ≤ ((1 : Int32) <<< (y &&& 31)).toInt ∧ ((1 : Int32) <<< (y &&& 31)).toInt ≤ 1024 := by
  have h : ∀ j : Fin 11, 1 ≤ ((1 : Int32) <<< (nI j.val &&& 31)).toInt ∧ ((1 : Int32) <<< (nI j.val &&& 31)).toInt ≤ 1024 := by decide
  obtain ⟨j, hj, rfl⟩ := nI_of (x := y) (fun q => by have := (fi_lt rfl (show (0 : Int32).toInt = 0 by decide)).mp q; omega)
  rw [nI_toInt hj] at h1
  exact h ⟨j, by omega⟩
theorem tk_l2i {x : Int64} (h1 : -2147483648 ≤ x.toInt) (h2 : x.toInt ≤ 2147483647) : x.toInt32.toInt = x.toInt := by
  rw [Int64.toInt_toInt32]
  exact tk_bm h1 h2
theorem tk_min {x y : Int32} {I J : Int} (hx : x.toInt = I) (hy : y.toInt = J) : (if y < x then y else x).toInt ≤ I ∧ (if y < x then y else x).toInt ≤ J ∧ ((if y < x then y else x).toInt = I ∨ (if y < x then y else x).toInt = J) := by
  by_cases h : y < x
  · rw [if_pos h]
    have := (fi_lt hy hx).mp h
    omega
  · rw [if_neg h]
    have := mt (fi_lt hy hx).mpr h
    omega
theorem tk_max {x y : Int32} {I J : Int} (hx : x.toInt = I) (hy : y.toInt = J) : I ≤ (if x < y then y else x).toInt ∧ J ≤ (if x < y then y else x).toInt ∧ ((if x < y then y else x).toInt = I ∨ (if x < y then y else x).toInt = J) := by
  by_cases h : x < y
  · rw [if_pos h]
    have := (fi_lt hx hy).mp h
    omega
  · rw [if_neg h]
    have := mt (fi_lt hx hy).mpr h
    omega
section TKD
variable {p : Program} {l : Launch} {e : Env} {R : Room} {s : State} {m : MethodId} {args : Array Value} {below : List Frame} {meth : Method} {c : Code} {H : Heap} {locs : List Loc} {cells slots : Nat} {Q : State → Prop}
variable {pc : Nat} {ls : Array Slot} {rest st : List Value} {A : Nat → Prop} {H0 : Heap} {D : va_G} {cy : Nat → ClassId} {ld : Nat → Nat} {C : String} {cc : ByteArray} {a nn rr : Nat} {t : tk_T} {X : List Nat}
theorem tk_aastN (hx : p.tables.exec = Jvm.exec) (hb : c.code = cc) (hK : kk_K D cy ld s) (hG : tk_G D cy ld t X H) (hS : va_S A H0 H locs) {k : Nat} (cx : Nat) (ht : (tys0 cy)[cx]? = some (cy cx, .object C)) (ha : t a = (k, nn, rr)) (hk : 20 ≤ k) (hkA : ∀ e : va_E, tk_A cy ld t k nn rr e ↔ ∃ f : Nat → Option Nat, e = .inl (cy cx, nn, .inr (.inr (.inr (.inr f)))) ∧ ∀ j : Nat, j < nn → tk_R ld t k rr j (f j)) (hX : a ∉ X) {i : Int32} {I : Int} (hi : i.toInt = I) (h0 : 0 ≤ I) (h1 : I < (nn : Int)) (hR : tk_R ld t k rr i.toNatClampNeg none) (hA : A a) (hdg : decode cc pc = .ok (.aastore, 1))
    (kk : ∀ (H1 : Heap) (locs1 : List Loc), tk_G D cy ld t X H1 → va_S A H0 H1 locs1 → (∀ q : Nat, q ≠ a → H1[q]? = H[q]?) → W p l e R s m args below meth c H1 locs1 cells slots Q (F0 m (pc + 1) ls rest)) : W p l e R s m args below meth c H locs cells slots Q (F0 m pc ls (.null :: .int i :: .ref a :: rest)) := by
  obtain ⟨e, h2, h3⟩ := hG.arr ha hk hX
  obtain ⟨f, rfl, hf⟩ := (hkA e).mp h3
  obtain ⟨hv, hlt⟩ := tk_idx hi h0 h1
  refine va_WaastN hx hb h2 ((hK.1.2 cx _ ht).1 nn (fun j => va_rf (f j))) (fun q => by cases q) (by show ¬ (i < 0 ∨ (arrV _ _ _).slots.size ≤ _); rw [arrV_size]; exact hv) rfl rfl hdg fun H1 e z oq => ?_
  refine kk H1 _ (hG.put (e := .inl (cy cx, nn, .inr (.inr (.inr (.inr (va_up f i.toNatClampNeg none)))))) ?_ ?_ oq) (hS.put z oq hA) oq
  · show H1[a]? = some (vp_cell _ _)
    rw [e]
    rw [vp_cell_q, vp_cell_q, arrV_store]
    congr 2
    funext q
    by_cases hq : q = i.toNatClampNeg
    · subst hq
      simp [updV, va_up, va_rf]
    · simp [updV, va_up, hq]
  · rw [ha]
    show tk_O cy ld t k nn rr _
    unfold tk_O
    rw [if_neg (Nat.not_lt.mpr hk)]
    refine (hkA _).mpr ⟨_, rfl, fun j hj => ?_⟩
    by_cases hq : j = i.toNatClampNeg
    · subst hq
      unfold va_up
      rw [if_pos rfl]
      exact hR
    · unfold va_up
      rw [if_neg hq]
      exact hf j hj
end TKD
theorem tk_i2c {x : Int32} (h0 : 0 ≤ x.toInt) (h1 : x.toInt ≤ 255) : ∃ z : Int32, (x.toUInt32 % 65536).toInt32 = z ∧ z.toInt = x.toInt := by
  refine ⟨_, rfl, ?_⟩
  have h : ∀ j : Fin 256, ((nI j.val).toUInt32 % 65536).toInt32 = nI j.val := by decide +kernel
  obtain ⟨j, hj, rfl⟩ := nI_of (x := x) (fun q => by have := (fi_lt rfl (show (0 : Int32).toInt = 0 by decide)).mp q; omega)
  rw [nI_toInt hj] at h1
  rw [h ⟨j, by omega⟩]
theorem tk_nc {x : Int32} (h0 : 0 ≤ x.toInt) (h1 : x.toInt ≤ 255) : narrow .char (.int x) = .int x := by
  have h : ∀ j : Fin 256, (nI j.val).toUInt32.toUInt16.toUInt32.toInt32 = nI j.val := by decide +kernel
  obtain ⟨j, hj, rfl⟩ := nI_of (x := x) (fun q => by have := (fi_lt rfl (show (0 : Int32).toInt = 0 by decide)).mp q; omega)
  rw [nI_toInt hj] at h1
  exact congrArg Value.int (h ⟨j, by omega⟩)

theorem tk_op9 {D : va_G} {cy : Nat → ClassId} {ld : Nat → Nat} {t : tk_T} {H : Heap} {a nn rr : Nat} (hG : tk_G D cy ld t [] H) (ha : t a = (10, nn, rr)) : ∃ (x0 : Nat) (x1 : Nat) (x2 : Nat) (x3 : Nat) (x4 : Int32) (x5 : Int32) (x6 : Int32) (x7 : Int32) (x8 : Int32) (x9 : Int32) (x10 : Int32), va_at D vwCl (a, .inr (9, [.ref x0, .ref x1, .ref x2, .ref x3, .int x4, .int x5, .int x6, .int x7, .int x8, .int x9, .int x10])) H ∧ t x0 = (20, 8, rr) ∧ t x1 = (20, 8, rr) ∧ t x2 = (20, 8, rr) ∧ t x3 = (20, 2, rr) ∧ (-2147483648) ≤ x4.toInt ∧ x4.toInt ≤ 2147483647 ∧ (-1) ≤ x5.toInt ∧ x5.toInt ≤ 7 ∧ (-1) ≤ x6.toInt ∧ x6.toInt ≤ 7 ∧ (-2147483648) ≤ x7.toInt ∧ x7.toInt ≤ 2147483647 ∧ (-2147483648) ≤ x8.toInt ∧ x8.toInt ≤ 2147483647 ∧ 0 ≤ x9.toInt ∧ x9.toInt ≤ 1 ∧ (-2147483648) ≤ x10.toInt ∧ x10.toInt ≤ 2147483647 ∧ (x5.toInt ≠ -1 → x6.toInt ≠ -1) := by
  obtain ⟨fs, h1, h2, h3, h4⟩ := hG.obj (ci := 9) ha (by decide) tk_no
  obtain ⟨v0, e0, w0⟩ := h3 0 _ rfl
  obtain ⟨x0, rfl, a0⟩ := w0
  obtain ⟨v1, e1, w1⟩ := h3 1 _ rfl
  obtain ⟨x1, rfl, a1⟩ := w1
  obtain ⟨v2, e2, w2⟩ := h3 2 _ rfl
  obtain ⟨x2, rfl, a2⟩ := w2
  obtain ⟨v3, e3, w3⟩ := h3 3 _ rfl
  obtain ⟨x3, rfl, a3⟩ := w3
  obtain ⟨v4, e4, w4⟩ := h3 4 _ rfl
  obtain ⟨x4, rfl, a4, b4⟩ := w4
  obtain ⟨v5, e5, w5⟩ := h3 5 _ rfl
  obtain ⟨x5, rfl, a5, b5⟩ := w5
  obtain ⟨v6, e6, w6⟩ := h3 6 _ rfl
  obtain ⟨x6, rfl, a6, b6⟩ := w6
  obtain ⟨v7, e7, w7⟩ := h3 7 _ rfl
  obtain ⟨x7, rfl, a7, b7⟩ := w7
  obtain ⟨v8, e8, w8⟩ := h3 8 _ rfl
  obtain ⟨x8, rfl, a8, b8⟩ := w8
  obtain ⟨v9, e9, w9⟩ := h3 9 _ rfl
  obtain ⟨x9, rfl, a9, b9⟩ := w9
  obtain ⟨v10, e10, w10⟩ := h3 10 _ rfl
  obtain ⟨x10, rfl, a10, b10⟩ := w10
  have e : fs = [.ref x0, .ref x1, .ref x2, .ref x3, .int x4, .int x5, .int x6, .int x7, .int x8, .int x9, .int x10] := by
    apply List.ext_getElem?
    intro i
    match i with
    | 0 => rw [e0]; rfl
    | 1 => rw [e1]; rfl
    | 2 => rw [e2]; rfl
    | 3 => rw [e3]; rfl
    | 4 => rw [e4]; rfl
    | 5 => rw [e5]; rfl
    | 6 => rw [e6]; rfl
    | 7 => rw [e7]; rfl
    | 8 => rw [e8]; rfl
    | 9 => rw [e9]; rfl
    | 10 => rw [e10]; rfl
    | i + 11 => rw [List.getElem?_eq_none (by rw [h2]; exact Nat.le_add_left _ _)]; rfl
  subst e
  exact ⟨x0, x1, x2, x3, x4, x5, x6, x7, x8, x9, x10, h1, a0, a1, a2, a3, a4, b4, a5, b5, a6, b6, a7, b7, a8, b8, a9, b9, a10, b10, h4 _ _ rfl rfl⟩
theorem tk_cl9 {D : va_G} {cy : Nat → ClassId} {ld : Nat → Nat} {t : tk_T} {H : Heap} {a nn rr : Nat} {x0 : Nat} {x1 : Nat} {x2 : Nat} {x3 : Nat} {x4 : Int32} {x5 : Int32} {x6 : Int32} {x7 : Int32} {x8 : Int32} {x9 : Int32} {x10 : Int32} (hG : tk_G D cy ld t [a] H) (ha : t a = (10, nn, rr)) (hat : va_at D vwCl (a, .inr (9, [.ref x0, .ref x1, .ref x2, .ref x3, .int x4, .int x5, .int x6, .int x7, .int x8, .int x9, .int x10])) H) (h0 : t x0 = (20, 8, rr)) (h1 : t x1 = (20, 8, rr)) (h2 : t x2 = (20, 8, rr)) (h3 : t x3 = (20, 2, rr)) (h4 : (-2147483648) ≤ x4.toInt) (h5 : x4.toInt ≤ 2147483647) (h6 : (-1) ≤ x5.toInt) (h7 : x5.toInt ≤ 7) (h8 : (-1) ≤ x6.toInt) (h9 : x6.toInt ≤ 7) (h10 : (-2147483648) ≤ x7.toInt) (h11 : x7.toInt ≤ 2147483647) (h12 : (-2147483648) ≤ x8.toInt) (h13 : x8.toInt ≤ 2147483647) (h14 : 0 ≤ x9.toInt) (h15 : x9.toInt ≤ 1) (h16 : (-2147483648) ≤ x10.toInt) (h17 : x10.toInt ≤ 2147483647) (hx : (x5.toInt ≠ -1 → x6.toInt ≠ -1)) : tk_G D cy ld t [] H := by
  refine hG.close (ci := 9) ha (by decide) hat rfl (fun j sp hj => ?_) (fun x y e1 e2 => by cases e1; cases e2; exact hx)
  match j, hj with
  | 0, hj => cases hj; exact ⟨_, rfl, _, rfl, h0⟩
  | 1, hj => cases hj; exact ⟨_, rfl, _, rfl, h1⟩
  | 2, hj => cases hj; exact ⟨_, rfl, _, rfl, h2⟩
  | 3, hj => cases hj; exact ⟨_, rfl, _, rfl, h3⟩
  | 4, hj => cases hj; exact ⟨_, rfl, _, rfl, h4, h5⟩
  | 5, hj => cases hj; exact ⟨_, rfl, _, rfl, h6, h7⟩
  | 6, hj => cases hj; exact ⟨_, rfl, _, rfl, h8, h9⟩
  | 7, hj => cases hj; exact ⟨_, rfl, _, rfl, h10, h11⟩
  | 8, hj => cases hj; exact ⟨_, rfl, _, rfl, h12, h13⟩
  | 9, hj => cases hj; exact ⟨_, rfl, _, rfl, h14, h15⟩
  | 10, hj => cases hj; exact ⟨_, rfl, _, rfl, h16, h17⟩
  | j + 11, hj => simp [tk_F] at hj
theorem tk_op6 {D : va_G} {cy : Nat → ClassId} {ld : Nat → Nat} {t : tk_T} {H : Heap} {a nn rr : Nat} (hG : tk_G D cy ld t [] H) (ha : t a = (7, nn, rr)) : ∃ (x0 : Nat) (x1 : Nat) (x2 : Int32) (x3 : Int32) (x4 : Int32) (x5 : Int32) (x6 : Int32) (x7 : Int32) (x8 : Int32) (x9 : Int32) (x10 : Int32), va_at D vwCl (a, .inr (6, [.ref x0, .ref x1, .int x2, .int x3, .int x4, .int x5, .int x6, .int x7, .int x8, .int x9, .int x10])) H ∧ t x0 = (8, 512, 12) ∧ t x1 = (20, 400, 9) ∧ 0 ≤ x2.toInt ∧ x2.toInt ≤ 400 ∧ 0 ≤ x3.toInt ∧ x3.toInt ≤ 1 ∧ 0 ≤ x4.toInt ∧ x4.toInt ≤ 400 ∧ 0 ≤ x5.toInt ∧ x5.toInt ≤ 400 ∧ (-2147483648) ≤ x6.toInt ∧ x6.toInt ≤ 2147483647 ∧ (-2147483648) ≤ x7.toInt ∧ x7.toInt ≤ 2147483647 ∧ (-2147483648) ≤ x8.toInt ∧ x8.toInt ≤ 2147483647 ∧ 0 ≤ x9.toInt ∧ x9.toInt ≤ 8 ∧ (-2147483648) ≤ x10.toInt ∧ x10.toInt ≤ 2147483647 ∧ (x6.toInt ≠ 0 → x4.toInt ≤ 399) := by
  obtain ⟨fs, h1, h2, h3, h4⟩ := hG.obj (ci := 6) ha (by decide) tk_no
  obtain ⟨v0, e0, w0⟩ := h3 0 _ rfl
  obtain ⟨x0, rfl, a0⟩ := w0
  obtain ⟨v1, e1, w1⟩ := h3 1 _ rfl
  obtain ⟨x1, rfl, a1⟩ := w1
  obtain ⟨v2, e2, w2⟩ := h3 2 _ rfl
  obtain ⟨x2, rfl, a2, b2⟩ := w2
  obtain ⟨v3, e3, w3⟩ := h3 3 _ rfl
  obtain ⟨x3, rfl, a3, b3⟩ := w3
  obtain ⟨v4, e4, w4⟩ := h3 4 _ rfl
  obtain ⟨x4, rfl, a4, b4⟩ := w4
  obtain ⟨v5, e5, w5⟩ := h3 5 _ rfl
  obtain ⟨x5, rfl, a5, b5⟩ := w5
  obtain ⟨v6, e6, w6⟩ := h3 6 _ rfl
  obtain ⟨x6, rfl, a6, b6⟩ := w6
  obtain ⟨v7, e7, w7⟩ := h3 7 _ rfl
  obtain ⟨x7, rfl, a7, b7⟩ := w7
  obtain ⟨v8, e8, w8⟩ := h3 8 _ rfl
  obtain ⟨x8, rfl, a8, b8⟩ := w8
  obtain ⟨v9, e9, w9⟩ := h3 9 _ rfl
  obtain ⟨x9, rfl, a9, b9⟩ := w9
  obtain ⟨v10, e10, w10⟩ := h3 10 _ rfl
  obtain ⟨x10, rfl, a10, b10⟩ := w10
  have e : fs = [.ref x0, .ref x1, .int x2, .int x3, .int x4, .int x5, .int x6, .int x7, .int x8, .int x9, .int x10] := by
    apply List.ext_getElem?
    intro i
    match i with
    | 0 => rw [e0]; rfl
    | 1 => rw [e1]; rfl
    | 2 => rw [e2]; rfl
    | 3 => rw [e3]; rfl
    | 4 => rw [e4]; rfl
    | 5 => rw [e5]; rfl
    | 6 => rw [e6]; rfl
    | 7 => rw [e7]; rfl
    | 8 => rw [e8]; rfl
    | 9 => rw [e9]; rfl
    | 10 => rw [e10]; rfl
    | i + 11 => rw [List.getElem?_eq_none (by rw [h2]; exact Nat.le_add_left _ _)]; rfl
  subst e
  exact ⟨x0, x1, x2, x3, x4, x5, x6, x7, x8, x9, x10, h1, a0, a1, a2, b2, a3, b3, a4, b4, a5, b5, a6, b6, a7, b7, a8, b8, a9, b9, a10, b10, h4 _ _ rfl rfl⟩
theorem tk_cl6 {D : va_G} {cy : Nat → ClassId} {ld : Nat → Nat} {t : tk_T} {H : Heap} {a nn rr : Nat} {x0 : Nat} {x1 : Nat} {x2 : Int32} {x3 : Int32} {x4 : Int32} {x5 : Int32} {x6 : Int32} {x7 : Int32} {x8 : Int32} {x9 : Int32} {x10 : Int32} (hG : tk_G D cy ld t [a] H) (ha : t a = (7, nn, rr)) (hat : va_at D vwCl (a, .inr (6, [.ref x0, .ref x1, .int x2, .int x3, .int x4, .int x5, .int x6, .int x7, .int x8, .int x9, .int x10])) H) (h0 : t x0 = (8, 512, 12)) (h1 : t x1 = (20, 400, 9)) (h2 : 0 ≤ x2.toInt) (h3 : x2.toInt ≤ 400) (h4 : 0 ≤ x3.toInt) (h5 : x3.toInt ≤ 1) (h6 : 0 ≤ x4.toInt) (h7 : x4.toInt ≤ 400) (h8 : 0 ≤ x5.toInt) (h9 : x5.toInt ≤ 400) (h10 : (-2147483648) ≤ x6.toInt) (h11 : x6.toInt ≤ 2147483647) (h12 : (-2147483648) ≤ x7.toInt) (h13 : x7.toInt ≤ 2147483647) (h14 : (-2147483648) ≤ x8.toInt) (h15 : x8.toInt ≤ 2147483647) (h16 : 0 ≤ x9.toInt) (h17 : x9.toInt ≤ 8) (h18 : (-2147483648) ≤ x10.toInt) (h19 : x10.toInt ≤ 2147483647) (hx : (x6.toInt ≠ 0 → x4.toInt ≤ 399)) : tk_G D cy ld t [] H := by
  refine hG.close (ci := 6) ha (by decide) hat rfl (fun j sp hj => ?_) (fun x y e1 e2 => by cases e1; cases e2; exact hx)
  match j, hj with
  | 0, hj => cases hj; exact ⟨_, rfl, _, rfl, h0⟩
  | 1, hj => cases hj; exact ⟨_, rfl, _, rfl, h1⟩
  | 2, hj => cases hj; exact ⟨_, rfl, _, rfl, h2, h3⟩
  | 3, hj => cases hj; exact ⟨_, rfl, _, rfl, h4, h5⟩
  | 4, hj => cases hj; exact ⟨_, rfl, _, rfl, h6, h7⟩
  | 5, hj => cases hj; exact ⟨_, rfl, _, rfl, h8, h9⟩
  | 6, hj => cases hj; exact ⟨_, rfl, _, rfl, h10, h11⟩
  | 7, hj => cases hj; exact ⟨_, rfl, _, rfl, h12, h13⟩
  | 8, hj => cases hj; exact ⟨_, rfl, _, rfl, h14, h15⟩
  | 9, hj => cases hj; exact ⟨_, rfl, _, rfl, h16, h17⟩
  | 10, hj => cases hj; exact ⟨_, rfl, _, rfl, h18, h19⟩
  | j + 11, hj => simp [tk_F] at hj
theorem tk_snd {D : va_G} {cy : Nat → ClassId} {ld : Nat → Nat} {t : tk_T} {X : List Nat} {H : Heap} {a nn rr : Nat} {x y : Int32} (hG : tk_G D cy ld t X H) (ha : t a = (10, nn, rr)) (hX : a ∉ X) (h5 : tk_f D H a 9 5 (.int x)) (h6 : tk_f D H a 9 6 (.int y)) : x.toInt ≠ -1 → y.toInt ≠ -1 := by
  obtain ⟨fs, h1, h2, h3, h4⟩ := hG.obj (ci := 9) ha (by decide) hX
  obtain ⟨v5, e5, -⟩ := h3 5 _ rfl
  obtain ⟨v6, e6, -⟩ := h3 6 _ rfl
  have g5 := (tk_f.of (C := RX9) (T := TX9) (N := 11) h1 rfl (by decide) e5).same h5
  have g6 := (tk_f.of (C := RX9) (T := TX9) (N := 11) h1 rfl (by decide) e6).same h6
  subst g5
  subst g6
  exact h4 _ _ e5 e6
theorem tk_plc {D : va_G} {cy : Nat → ClassId} {ld : Nat → Nat} {t : tk_T} {X : List Nat} {H : Heap} {a nn rr : Nat} {x y : Int32} (hG : tk_G D cy ld t X H) (ha : t a = (7, nn, rr)) (hX : a ∉ X) (h4 : tk_f D H a 6 4 (.int x)) (h6 : tk_f D H a 6 6 (.int y)) : y.toInt ≠ 0 → x.toInt ≤ 399 := by
  obtain ⟨fs, h1, h2, h3, hh⟩ := hG.obj (ci := 6) ha (by decide) hX
  obtain ⟨v4, e4, -⟩ := h3 4 _ rfl
  obtain ⟨v6, e6, -⟩ := h3 6 _ rfl
  have g4 := (tk_f.of (C := RX6) (T := TX6) (N := 11) h1 rfl (by decide) e4).same h4
  have g6 := (tk_f.of (C := RX6) (T := TX6) (N := 11) h1 rfl (by decide) e6).same h6
  subst g4
  subst g6
  exact hh _ _ e4 e6
theorem tk_X8 {D : va_G} {cy : Nat → ClassId} {ld : Nat → Nat} {t : tk_T} {X : List Nat} {H : Heap} {a nn rr : Nat} (hG : tk_G D cy ld t X H) (ha : t a = (8, nn, rr)) (hX : a ∉ X) : nn ≤ 512 ∧ rr ≤ 12 := by
  obtain ⟨fs, h1, h2, h3, h4⟩ := hG.obj (ci := 7) ha (by decide) hX
  exact h4
theorem tk_X10 {nn rr k : Nat} {v : Value} {fs : List Value} (h : tk_X 10 nn rr fs) (h5 : k ≠ 5) (h6 : k ≠ 6) : tk_X 10 nn rr (fs.set k v) := fun x y e1 e2 => by
  rw [List.getElem?_set_ne h5] at e1
  rw [List.getElem?_set_ne h6] at e2
  exact h x y e1 e2
theorem tk_X7 {nn rr k : Nat} {v : Value} {fs : List Value} (h : tk_X 7 nn rr fs) (h4 : k ≠ 4) (h6 : k ≠ 6) : tk_X 7 nn rr (fs.set k v) := fun x y e1 e2 => by
  rw [List.getElem?_set_ne h4] at e1
  rw [List.getElem?_set_ne h6] at e2
  exact h x y e1 e2
theorem tk_V0 {ld : Nat → Nat} {t : tk_T} {n r : Nat} {lo hi z : Int} {x : Int32} (h1 : lo ≤ x.toInt) (h2 : x.toInt ≤ hi) : tk_V ld t n r (0, lo, hi, z) (.int x) := ⟨x, rfl, h1, h2⟩
theorem tk_V4 {ld : Nat → Nat} {t : tk_T} {n r : Nat} {lo hi z : Int} {x : Int32} (h1 : lo ≤ x.toInt) (h2 : x.toInt ≤ n) : tk_V ld t n r (4, lo, hi, z) (.int x) := ⟨x, rfl, h1, h2⟩
theorem tk_V5 {ld : Nat → Nat} {t : tk_T} {n r : Nat} {lo hi z : Int} {x : Int32} (h1 : lo ≤ x.toInt) (h2 : x.toInt ≤ r) : tk_V ld t n r (5, lo, hi, z) (.int x) := ⟨x, rfl, h1, h2⟩
