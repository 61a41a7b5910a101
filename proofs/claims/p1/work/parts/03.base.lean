/-- a method's words: its own code, then the law's -/
abbrev wl (y : MethodName) (b : ByteArray) (n : Nat) (r : Option FieldType) : List Cond := Cond.code y b n r :: wsA
theorem wl_in {y : MethodName} {b : ByteArray} {n : Nat} {r : Option FieldType} {y' : MethodName} {b' : ByteArray} {n' : Nat} {r' : Option FieldType} (h : Cond.code y' b' n' r' ∈ wsA) : GoodIn (wl y b n r) (wl y' b' n' r') := fun w hw => by
  have hm : w ∈ wsA := (List.mem_cons.mp hw).elim (fun e => e ▸ h) id
  exact ⟨List.mem_cons_of_mem _ hm, good_of_word (List.all_eq_true.mp wl_good w hm)⟩
theorem wl_inL {y' : MethodName} {b' : ByteArray} {n' : Nat} {r' : Option FieldType} (h : Cond.code y' b' n' r' ∈ wsA) : GoodIn wsA (wl y' b' n' r') := fun w hw => by
  have hm : w ∈ wsA := (List.mem_cons.mp hw).elim (fun e => e ▸ h) id
  exact ⟨hm, good_of_word (List.all_eq_true.mp wl_good w hm)⟩
abbrev tys0 (cy : Nat → ClassId) : List (ClassId × FieldType) := [(cy 0, .int), (cy 1, .long), (cy 2, .boolean), (cy 3, .object RX9), (cy 4, .object RX2), (cy 5, .object RX7)]
def k2_A2 (U : State) : Prop := (Cond.arrayOver (.array .int)).before #[] U = true
theorem k2_over {u U : State} (hvm : u.vm.Alike U.vm) (h : k2_A2 u) : k2_A2 U := arrayOver_alikeB hvm h
def kk_K (D : va_G) (cy : Nat → ClassId) (ld : Nat → Nat) (U : State) : Prop := va_K D vwCl (tys0 cy) U ∧ (va_AO RX9 U ∧ va_AO RX2 U ∧ va_AO RX7 U) ∧ k2_A2 U ∧ (va_Nw (.methodLinkNest RX2 94 yX12_within RX12) U ∧ va_Nw (.methodLinkNest RX1 40 yX12_within RX12) U ∧ va_Nw (.methodLinkNest RX3 33 yX12_within RX12) U) ∧ vk_R RX6 108 "lulls tires wakes bars" (ld 0) U ∧ vk_R RX6 110 "begin sing part dawn" (ld 1) U
theorem kk_warm {D : va_G} {cy : Nat → ClassId} {ld : Nat → Nat} {s U : State} (hW : s.WarmedH U.vm) (h : kk_K D cy ld s) : kk_K D cy ld U :=
  ⟨va_K.moved hW.alike h.1, ⟨va_AO.moved hW.alike h.2.1.1, va_AO.moved hW.alike h.2.1.2.1, va_AO.moved hW.alike h.2.1.2.2⟩, k2_over hW.alike h.2.2.1, ⟨va_Nw.warmM hW h.2.2.2.1.1, va_Nw.warmM hW h.2.2.2.1.2.1, va_Nw.warmM hW h.2.2.2.1.2.2⟩, vk_R.warm hW h.2.2.2.2.1, vk_R.warm hW h.2.2.2.2.2⟩
theorem kk_call {D : va_G} {cy : Nat → ClassId} {ld : Nat → Nat} {U : State} (g : JFrame) (mk : MethodId) (a : Array Value) (h : kk_K D cy ld U) : kk_K D cy ld (U.calling g mk a) :=
  ⟨va_K.moved (u := U) (U := U.calling g mk a) (Vm.Alike.refl U.vm) h.1, ⟨va_AO.moved (u := U) (U := U.calling g mk a) (Vm.Alike.refl U.vm) h.2.1.1, va_AO.moved (u := U) (U := U.calling g mk a) (Vm.Alike.refl U.vm) h.2.1.2.1, va_AO.moved (u := U) (U := U.calling g mk a) (Vm.Alike.refl U.vm) h.2.1.2.2⟩, k2_over (u := U) (U := U.calling g mk a) (Vm.Alike.refl U.vm) h.2.2.1, ⟨va_Nw.same (u := U) (U := U.calling g mk a) rfl rfl h.2.2.2.1.1, va_Nw.same (u := U) (U := U.calling g mk a) rfl rfl h.2.2.2.1.2.1, va_Nw.same (u := U) (U := U.calling g mk a) rfl rfl h.2.2.2.1.2.2⟩, vk_R.same (u := U) (U := U.calling g mk a) rfl h.2.2.2.2.1, vk_R.same (u := U) (U := U.calling g mk a) rfl h.2.2.2.2.2⟩
def pp (D : va_G) (cy : Nat → ClassId) (ld : Nat → Nat) (av : List Value) (sz : Nat) (ws : va_W) : Array Value → State → Prop := va_Pc av (fun U => U.heap.size = sz ∧ va_P D vwCl ws U.heap ∧ kk_K D cy ld U ∧ va_D (fun _ => True) ws)
def qi {X : Type} (D : va_G) (post : Int32 → Prop) (w1 : X → va_W) (A : Nat → Prop) : Array Value → State → Outcome → State → Prop := va_Qi (S := X) (fun r _ => post r) (fun x t => va_P D vwCl (w1 x) t.heap ∧ va_D A (w1 x)) A
def qv {X : Type} (D : va_G) (w1 : X → va_W) (A : Nat → Prop) : Array Value → State → Outcome → State → Prop := va_Qv (S := X) (fun _ => True) (fun x t => va_P D vwCl (w1 x) t.heap ∧ va_D A (w1 x)) A
theorem pp_blind {D : va_G} {cy : Nat → ClassId} {ld : Nat → Nat} {av : List Value} {sz : Nat} {ws : va_W} : FrameBlind (pp D cy ld av sz ws) := fun a U g mk q => by
  obtain ⟨q0, q1, qP, qK, qD⟩ := q
  exact ⟨q0, q1, qP, kk_call g mk a qK, qD⟩
theorem fx_fm {α β : Type} {is : List α} {f : α → Option β} {w : List β} (h : is.map f = w.map some) : is.filterMap f = w := by
  have e : is.filterMap f = (is.map f).filterMap id := by simp [List.filterMap_map]
  rw [e, h]
  simp [List.filterMap_map]
section FXA
variable {p : Program} {l : Launch} {e : Env} {R : Room} {s : State} {m : MethodId} {args : Array Value} {below : List Frame} {meth : Method} {c : Code} {H : Heap} {locs : List Loc} {cells slots : Nat} {Q : State → Prop}
variable {pc : Nat} {ls : Array Slot} {rest st : List Value} {A : Nat → Prop} {H0 : Heap} {mc ms nL maxL n index : Nat} {D : va_G} {cy : Nat → ClassId} {ld : Nat → Nat} {ws wc wr : va_W} {own C : String} {Ts wsy : List Cond} {cc bytes : ByteArray} {y : MethodName} {ret : Option FieldType} {rm : Room} {As : List Value} {b : Nat}
theorem fx_Vi {X : Type} {post : Int32 → Prop} {w1 : X → va_W} (S : CallFix p m c cc nL s args Ts own) (hK : kk_K D cy ld s) (hP : va_P D vwCl ws H) (hD : va_D A ws) (hS : va_S A H0 H locs) (hA : ∀ q, H0.size ≤ q → A q)
    (hM : Met l y wsy rm (pp D cy ld (.ref b :: As) H.size wc) (qi D post w1 (va_A wc H.size)) mc ms (va_A wc H.size))
    (cw : CallW R s args own C index y bytes maxL ret wsy rm mc ms n)
    (isC isR : List Nat) (hC : isC.map (fun i => ws[i]?) = wc.map some) (hR : isR.map (fun i => ws[i]?) = wr.map some) (hnC : va_nd isC = true) (hnR : va_nd isR = true) (hdis : ∀ i ∈ isR, i ∉ isC)
    (ci q0 : Nat) {fs : List Value} {T : u_T} {N : Nat} (hb0 : wc[q0]? = some (b, .inr (ci, fs))) (hcl : vwCl[ci]? = some (C, T, N))
    (hn : As.length = n) (hsize : ls.size = nL) (hst : st = As.reverse ++ .ref b :: rest) (hW : (rest.map fun v => v.category).sum ≤ 8) (hdg : decode cc pc = .ok (.invokevirtual index, 3)) (hf : cells + mc ≤ R.cells ∧ slots + ms ≤ R.slots)
    (kk : ∀ (r : Int32) (x : X) (H1 : Heap) (locs1 : List Loc), post r → va_P D vwCl (wr ++ w1 x) H1 → va_D A (wr ++ w1 x) → va_S A H0 H1 locs1 → W p l e R s m args below meth c H1 locs1 (cells + mc) (slots + ms) Q (F0 m (pc + 3) ls (.int r :: rest))) :
    W p l e R s m args below meth c H locs cells slots Q (F0 m pc ls st) := by
  have hDc : va_D A wc := hD.sub isC hnC hC
  have hPc : va_P D vwCl wc H := hP.sub isC (fx_fm hC)
  subst hst
  have hFc := va_free (wc := wc) hD hS hA isC hC
  refine va_calli (va_runV (As := As) (rest := rest) S hM cw ⟨pp_blind, va_recv hK.1 hPc hcl hb0, fun U hU hW2 => ⟨rfl, by rw [hU], by rw [hU]; exact hPc, kk_warm hW2 hK, hDc.weaken (fun _ _ _ _ => trivial)⟩⟩ rfl hn hsize rfl (lv_room hW) hdg hf) hS (fun q _ h => hFc q h) hFc (fun r u t H1 locs1 ht hvm hw hB hz1 hk1 hS1 => ?_)
  obtain ⟨hP1, hD1⟩ := hB
  rw [ht] at hP1
  obtain ⟨hP2, hD2⟩ := va_join (wr := wr) (w1 := w1 u) hP hD isC isR hC hR hnR hdis hk1 hFc hP1 hD1
  exact kk r u H1 locs1 hw hP2 hD2 hS1
theorem fx_Vv {X : Type} {w1 : X → va_W} (S : CallFix p m c cc nL s args Ts own) (hK : kk_K D cy ld s) (hP : va_P D vwCl ws H) (hD : va_D A ws) (hS : va_S A H0 H locs) (hA : ∀ q, H0.size ≤ q → A q)
    (hM : Met l y wsy rm (pp D cy ld (.ref b :: As) H.size wc) (qv D w1 (va_A wc H.size)) mc ms (va_A wc H.size))
    (cw : CallW R s args own C index y bytes maxL ret wsy rm mc ms n)
    (isC isR : List Nat) (hC : isC.map (fun i => ws[i]?) = wc.map some) (hR : isR.map (fun i => ws[i]?) = wr.map some) (hnC : va_nd isC = true) (hnR : va_nd isR = true) (hdis : ∀ i ∈ isR, i ∉ isC)
    (ci q0 : Nat) {fs : List Value} {T : u_T} {N : Nat} (hb0 : wc[q0]? = some (b, .inr (ci, fs))) (hcl : vwCl[ci]? = some (C, T, N))
    (hn : As.length = n) (hsize : ls.size = nL) (hst : st = As.reverse ++ .ref b :: rest) (hW : (rest.map fun v => v.category).sum ≤ 8) (hdg : decode cc pc = .ok (.invokevirtual index, 3)) (hf : cells + mc ≤ R.cells ∧ slots + ms ≤ R.slots)
    (kk : ∀ (x : X) (H1 : Heap) (locs1 : List Loc), va_P D vwCl (wr ++ w1 x) H1 → va_D A (wr ++ w1 x) → va_S A H0 H1 locs1 → W p l e R s m args below meth c H1 locs1 (cells + mc) (slots + ms) Q (F0 m (pc + 3) ls rest)) :
    W p l e R s m args below meth c H locs cells slots Q (F0 m pc ls st) := by
  have hDc : va_D A wc := hD.sub isC hnC hC
  have hPc : va_P D vwCl wc H := hP.sub isC (fx_fm hC)
  subst hst
  have hFc := va_free (wc := wc) hD hS hA isC hC
  refine va_callv (va_runV (As := As) (rest := rest) S hM cw ⟨pp_blind, va_recv hK.1 hPc hcl hb0, fun U hU hW2 => ⟨rfl, by rw [hU], by rw [hU]; exact hPc, kk_warm hW2 hK, hDc.weaken (fun _ _ _ _ => trivial)⟩⟩ rfl hn hsize rfl (lv_room hW) hdg hf) hS (fun q _ h => hFc q h) hFc (fun u t H1 locs1 ht hvm hw hB hz1 hk1 hS1 => ?_)
  obtain ⟨hP1, hD1⟩ := hB
  rw [ht] at hP1
  obtain ⟨hP2, hD2⟩ := va_join (wr := wr) (w1 := w1 u) hP hD isC isR hC hR hnR hdis hk1 hFc hP1 hD1
  exact kk u H1 locs1 hP2 hD2 hS1
theorem fx_Iv {X : Type} {w1 : X → va_W} (S : CallFix p m c cc nL s args Ts own) (hK : kk_K D cy ld s) (hP : va_P D vwCl ws H) (hD : va_D A ws) (hS : va_S A H0 H locs) (hA : ∀ q, H0.size ≤ q → A q)
    (hM : Met l y wsy rm (pp D cy ld (.ref b :: As) H.size wc) (qv D w1 (va_A wc H.size)) mc ms (va_A wc H.size))
    (cw : CallB R s args own index y bytes maxL none wsy rm mc ms n ∧ y.name = "<init>" ∧ (Cond.instanceMethod y).before args s = true)
    (isC isR : List Nat) (hC : isC.map (fun i => ws[i]?) = wc.map some) (hR : isR.map (fun i => ws[i]?) = wr.map some) (hnC : va_nd isC = true) (hnR : va_nd isR = true) (hdis : ∀ i ∈ isR, i ∉ isC)
    (hn : As.length = n) (hsize : ls.size = nL) (hst : st = As.reverse ++ .ref b :: rest) (hW : (rest.map fun v => v.category).sum ≤ 8) (hdg : decode cc pc = .ok (.invokespecial index, 3)) (hf : cells + mc ≤ R.cells ∧ slots + ms ≤ R.slots)
    (kk : ∀ (x : X) (H1 : Heap) (locs1 : List Loc), va_P D vwCl (wr ++ w1 x) H1 → va_D A (wr ++ w1 x) → va_S A H0 H1 locs1 → W p l e R s m args below meth c H1 locs1 (cells + mc) (slots + ms) Q (F0 m (pc + 3) ls rest)) :
    W p l e R s m args below meth c H locs cells slots Q (F0 m pc ls st) := by
  have hDc : va_D A wc := hD.sub isC hnC hC
  have hPc : va_P D vwCl wc H := hP.sub isC (fx_fm hC)
  subst hst
  have hFc := va_free (wc := wc) hD hS hA isC hC
  refine va_callv (va_runI (As := As) (rest := rest) S hM cw ⟨pp_blind, fun U hU hW2 => ⟨rfl, by rw [hU], by rw [hU]; exact hPc, kk_warm hW2 hK, hDc.weaken (fun _ _ _ _ => trivial)⟩⟩ rfl hn hsize rfl (lv_room hW) hdg hf) hS (fun q _ h => hFc q h) hFc (fun u t H1 locs1 ht hvm hw hB hz1 hk1 hS1 => ?_)
  obtain ⟨hP1, hD1⟩ := hB
  rw [ht] at hP1
  obtain ⟨hP2, hD2⟩ := va_join (wr := wr) (w1 := w1 u) hP hD isC isR hC hR hnR hdis hk1 hFc hP1 hD1
  exact kk u H1 locs1 hP2 hD2 hS1
theorem fx_Si {X : Type} {post : Int32 → Prop} {w1 : X → va_W} (S : CallFix p m c cc nL s args Ts own) (hK : kk_K D cy ld s) (hP : va_P D vwCl ws H) (hD : va_D A ws) (hS : va_S A H0 H locs) (hA : ∀ q, H0.size ≤ q → A q)
    (hM : Met l y wsy rm (pp D cy ld As H.size wc) (qi D post w1 (va_A wc H.size)) mc ms (va_A wc H.size))
    (cw : CallB R s args own index y bytes maxL ret wsy rm mc ms n ∧ (Cond.static y).before args s = true)
    (isC isR : List Nat) (hC : isC.map (fun i => ws[i]?) = wc.map some) (hR : isR.map (fun i => ws[i]?) = wr.map some) (hnC : va_nd isC = true) (hnR : va_nd isR = true) (hdis : ∀ i ∈ isR, i ∉ isC)
    (hn : As.length = n) (hsize : ls.size = nL) (hst : st = As.reverse ++ rest) (hW : (rest.map fun v => v.category).sum ≤ 8) (hdg : decode cc pc = .ok (.invokestatic index, 3)) (hf : cells + mc ≤ R.cells ∧ slots + ms ≤ R.slots)
    (kk : ∀ (r : Int32) (x : X) (H1 : Heap) (locs1 : List Loc), post r → va_P D vwCl (wr ++ w1 x) H1 → va_D A (wr ++ w1 x) → va_S A H0 H1 locs1 → W p l e R s m args below meth c H1 locs1 (cells + mc) (slots + ms) Q (F0 m (pc + 3) ls (.int r :: rest))) :
    W p l e R s m args below meth c H locs cells slots Q (F0 m pc ls st) := by
  have hDc : va_D A wc := hD.sub isC hnC hC
  have hPc : va_P D vwCl wc H := hP.sub isC (fx_fm hC)
  subst hst
  have hFc := va_free (wc := wc) hD hS hA isC hC
  refine va_calli (va_runS (As := As) (rest := rest) S hM cw ⟨pp_blind, fun U hU hW2 => ⟨rfl, by rw [hU], by rw [hU]; exact hPc, kk_warm hW2 hK, hDc.weaken (fun _ _ _ _ => trivial)⟩⟩ rfl hn hsize rfl (lv_room hW) hdg hf) hS (fun q _ h => hFc q h) hFc (fun r u t H1 locs1 ht hvm hw hB hz1 hk1 hS1 => ?_)
  obtain ⟨hP1, hD1⟩ := hB
  rw [ht] at hP1
  obtain ⟨hP2, hD2⟩ := va_join (wr := wr) (w1 := w1 u) hP hD isC isR hC hR hnR hdis hk1 hFc hP1 hD1
  exact kk r u H1 locs1 hw hP2 hD2 hS1
theorem fx_SNi {X : Type} {post : Int32 → Prop} {w1 : X → va_W} {host : String} (S : CallFix p m c cc nL s args Ts own) (hK : kk_K D cy ld s) (hP : va_P D vwCl ws H) (hD : va_D A ws) (hS : va_S A H0 H locs) (hA : ∀ q, H0.size ≤ q → A q)
    (hM : Met l y wsy rm (pp D cy ld As H.size wc) (qi D post w1 (va_A wc H.size)) mc ms (va_A wc H.size))
    (cw : va_CN R s args own index y host bytes maxL ret wsy rm mc ms n ∧ (Cond.static y).before args s = true ∧ True)
    (isC isR : List Nat) (hC : isC.map (fun i => ws[i]?) = wc.map some) (hR : isR.map (fun i => ws[i]?) = wr.map some) (hnC : va_nd isC = true) (hnR : va_nd isR = true) (hdis : ∀ i ∈ isR, i ∉ isC)
    (hn : As.length = n) (hsize : ls.size = nL) (hst : st = As.reverse ++ rest) (hW : (rest.map fun v => v.category).sum ≤ 8) (hdg : decode cc pc = .ok (.invokestatic index, 3)) (hf : cells + mc ≤ R.cells ∧ slots + ms ≤ R.slots)
    (kk : ∀ (r : Int32) (x : X) (H1 : Heap) (locs1 : List Loc), post r → va_P D vwCl (wr ++ w1 x) H1 → va_D A (wr ++ w1 x) → va_S A H0 H1 locs1 → W p l e R s m args below meth c H1 locs1 (cells + mc) (slots + ms) Q (F0 m (pc + 3) ls (.int r :: rest))) :
    W p l e R s m args below meth c H locs cells slots Q (F0 m pc ls st) := by
  have hDc : va_D A wc := hD.sub isC hnC hC
  have hPc : va_P D vwCl wc H := hP.sub isC (fx_fm hC)
  subst hst
  have hFc := va_free (wc := wc) hD hS hA isC hC
  refine va_calli (va_runSN (As := As) (rest := rest) S hM cw ⟨pp_blind, fun U hU hW2 => ⟨rfl, by rw [hU], by rw [hU]; exact hPc, kk_warm hW2 hK, hDc.weaken (fun _ _ _ _ => trivial)⟩⟩ rfl hn hsize rfl (lv_room hW) hdg hf) hS (fun q _ h => hFc q h) hFc (fun r u t H1 locs1 ht hvm hw hB hz1 hk1 hS1 => ?_)
  obtain ⟨hP1, hD1⟩ := hB
  rw [ht] at hP1
  obtain ⟨hP2, hD2⟩ := va_join (wr := wr) (w1 := w1 u) hP hD isC isR hC hR hnR hdis hk1 hFc hP1 hD1
  exact kk r u H1 locs1 hw hP2 hD2 hS1
/-- new T[n][k], of which nothing is told but its address -/
theorem fx_grid (hx : p.tables.exec = Jvm.exec) (hb : c.code = cc) {ty : FieldType} (hown : s.vm.findClass own = some m.cls) (hclink : (Cond.classLink own index ("[" ++ (FieldType.array ty).toString)).before args s = true) (hover : (Cond.arrayOver (.array ty)).before args s = true) (harr : (Cond.arrayClass ty).before args s = true) (hP : va_P D vwCl ws H) (hS : va_S A H0 H locs)
    {k j : Int32} {N' K' : Nat} (hn : ¬ k < 0) (hk : ¬ j < 0) (hN : k.toNatClampNeg = N') (hM : j.toNatClampNeg = K') (hb1 : N' * 4 ≤ 536870912) (hb2 : K' * componentBytes ty ≤ 536870912) (hb3 : K' ≤ 536870912) (hdf : fits ty (defaultValue ty) = true) (hdd : (defaultValue ty).isDefault = true) (hcells : cells + (1 + N') ≤ R.cells) (hslots : slots + (N' + N' * K') ≤ R.slots) (hdg : decode cc pc = .ok (.multianewarray index 2, 4))
    (kk : ∀ (q : Nat) (H1 : Heap), va_P D vwCl ws H1 → va_S A H0 H1 locs → W p l e R s m args below meth c H1 locs (cells + 1 + N') (slots + N' + N' * K') Q (F0 m (pc + 4) ls (.ref q :: rest))) : W p l e R s m args below meth c H locs cells slots Q (F0 m pc ls (.int j :: .int k :: rest)) := by
  subst hN
  subst hM
  intro T hT Xs
  obtain ⟨vm₁, cA, comp, -, -, -, -, -, X', step⟩ := Xs.multianewarray2F hx hown hclink hover harr (g := F0 m pc ls (.int j :: .int k :: rest)) rfl (by rw [hb]; exact hdg) rfl hn hk hb1 hb2 hb3 hdf hdd hcells hslots
  have hTh : (T.setVm vm₁).heap = H := hT
  have hold : ∀ x : Nat, x < H.size → (Jvm.Free.Multi.fill (T.setVm vm₁) cA comp k.toNatClampNeg j.toNatClampNeg (defaultValue ty) k.toNatClampNeg).heap[x]? = H[x]? := fun x hx => by
    have := Jvm.Free.Multi.fill_old (T.setVm vm₁) cA comp k.toNatClampNeg j.toNatClampNeg (defaultValue ty) (a := x) (by rw [hTh]; exact hx) k.toNatClampNeg
    rw [hTh] at this
    exact this
  have hsz : H.size ≤ (Jvm.Free.Multi.fill (T.setVm vm₁) cA comp k.toNatClampNeg j.toNatClampNeg (defaultValue ty) k.toNatClampNeg).heap.size := by
    have h := (Jvm.Free.Multi.fill_facts (T.setVm vm₁) cA comp k.toNatClampNeg j.toNatClampNeg (defaultValue ty) k.toNatClampNeg).1
    rw [hTh] at h
    omega
  have hP1 := hP.kept (fun k9 x hx => hold x.1 ((hP k9 x hx).lt))
  have hS1 : va_S A H0 (Jvm.Free.Multi.fill (T.setVm vm₁) cA comp k.toNatClampNeg j.toNatClampNeg (defaultValue ty) k.toNatClampNeg).heap locs := ⟨Nat.le_trans hS.1 hsz, fun q hq h => by rw [hold q (Nat.lt_of_lt_of_le hq hS.1)]; exact hS.2.1 q hq h, hS.2.2⟩
  obtain ⟨t, a1, b1⟩ := kk T.heap.size _ hP1 hS1 _ rfl X'
  exact ⟨t, step t a1, b1⟩
theorem fx_iret {X : Type} {post : Int32 → Prop} {w1 : X → va_W} {v : Int32} {ty : FieldType} (hx : p.tables.exec = Jvm.exec) (hb : c.code = cc) (hr : meth.sig.returnType = some ty) (hty : narrow ty (.int v) = .int v) (hlocks : meth.locks = false) (hpost : post v) (x : X) (hP : va_P D vwCl ws H) (hD : va_D A ws) (hS : va_S A s.heap H locs) (is : List Nat) (hn : va_nd is = true) (hs : is.map (fun i => ws[i]?) = (w1 x).map some) (hdg : decode cc pc = .ok (.ireturn, 1)) :
    W p l e R s m args below meth c H locs cells slots (MQ below (qi D post w1 A) args s cells slots A) (F0 m pc ls [.int v]) :=
  W.zret hx hb hr hty (fun t ht _ => ⟨⟨v, x, rfl, hpost, by rw [ht]; exact hP.sub is (fx_fm hs), hD.sub is hn hs⟩, hS.F ht⟩) hS.2.2 hdg hlocks
theorem fx_vret {X : Type} {w1 : X → va_W} (hx : p.tables.exec = Jvm.exec) (hb : c.code = cc) (hr : meth.sig.returnType = none) (hlocks : meth.locks = false) (x : X) (hP : va_P D vwCl ws H) (hD : va_D A ws) (hS : va_S A s.heap H locs) (is : List Nat) (hn : va_nd is = true) (hs : is.map (fun i => ws[i]?) = (w1 x).map some) (hdg : decode cc pc = .ok (.return_, 1)) :
    W p l e R s m args below meth c H locs cells slots (MQ below (qv D w1 A) args s cells slots A) (F0 m pc ls []) :=
  W.vret hx hb hr (fun t ht _ => ⟨⟨x, rfl, trivial, by rw [ht]; exact hP.sub is (fx_fm hs), hD.sub is hn hs⟩, hS.F ht⟩) hS.2.2 hdg hlocks
theorem fx_ti {x v : Int32} (h : x = v) (k : W p l e R s m args below meth c H locs cells slots Q (F0 m pc ls (.int v :: rest))) : W p l e R s m args below meth c H locs cells slots Q (F0 m pc ls (.int x :: rest)) := h ▸ k
theorem fx_tl {x v : Int64} (h : x = v) (k : W p l e R s m args below meth c H locs cells slots Q (F0 m pc ls (.long v :: rest))) : W p l e R s m args below meth c H locs cells slots Q (F0 m pc ls (.long x :: rest)) := h ▸ k
theorem fx_in {i : Int32} {n : Nat} (h : decide (¬ (i < 0 ∨ n ≤ i.toNatClampNeg)) = true) : vp_in i n := show ¬ (i < 0 ∨ n ≤ i.toNatClampNeg) from of_decide_eq_true h
theorem fx_top {x v : Value} (h : x = v) (k : W p l e R s m args below meth c H locs cells slots Q (F0 m pc ls (v :: rest))) : W p l e R s m args below meth c H locs cells slots Q (F0 m pc ls (x :: rest)) := h ▸ k
theorem fx_same {t c1 c2 : Nat} {ty : FieldType} {k1 k2 : ClassId} {tys : List (ClassId × FieldType)} {cl : List vw_C} (hK : va_K D cl tys s) (h1 : tys[c1]? = some (k1, ty)) (h2 : tys[c2]? = some (k2, ty)) (hra : (∀ k, va_RA s k ty → s.vm.findClass ("[" ++ ty.toString) = some k)) : k1 = k2 :=
  Option.some.inj ((hra _ (hK.2 c1 _ h1).2).symm.trans (hra _ (hK.2 c2 _ h2).2))
/-- a new array of a kind that tys0 has at its place t0 -/
theorem fx_newa (hx : p.tables.exec = Jvm.exec) (hb : c.code = cc) {atype : ArrayType} {ty : FieldType} (harr : (Cond.arrayClass ty).before args s = true) (hty : newarray.typeOf atype = ty) (hK : kk_K D cy ld s) (hP : va_P D vwCl ws H) (hD : va_D A ws) (hS : va_S A H0 H locs) (hA : ∀ q, H0.size ≤ q → A q) (t0 : Nat) {k0 : ClassId} (ht0 : (tys0 cy)[t0]? = some (k0, ty)) (hra : ∀ k, va_RA s k ty → s.vm.findClass ("[" ++ ty.toString) = some k)
    {k : Int32} {N' : Nat} {a0 : vp_A} (ha : ∀ cA : ClassId, vp_cell cA a0 = arrV cA N' (fun _ => defaultValue ty)) (hn : ¬ k < 0) (hN : k.toNatClampNeg = N') (hbytes : N' * componentBytes ty ≤ 536870912) (hcells : cells + 1 ≤ R.cells) (hslots : slots + N' ≤ R.slots) (hdg : decode cc pc = .ok (.newarray atype, 2))
    (kk : ∀ (q : Nat) (H1 : Heap), va_P D vwCl (ws ++ [(q, .inl (k0, a0))]) H1 → va_D A (ws ++ [(q, .inl (k0, a0))]) → va_S A H0 H1 locs → W p l e R s m args below meth c H1 locs (cells + 1) (slots + N') Q (F0 m (pc + 2) ls (.ref q :: rest))) : W p l e R s m args below meth c H locs cells slots Q (F0 m pc ls (.int k :: rest)) := by
  subst hty
  refine va_newa hx hb harr rfl hK.1 hP hD hS hA ha hn hN hbytes hcells hslots hdg (fun q cA H1 hK2 hP2 hD2 hS2 => ?_)
  have hi : (tys0 cy ++ [(cA, newarray.typeOf atype)])[(tys0 cy).length]? = some (cA, newarray.typeOf atype) := by simp
  have h0 : (tys0 cy ++ [(cA, newarray.typeOf atype)])[t0]? = some (k0, newarray.typeOf atype) := by
    rw [List.getElem?_append_left (List.getElem?_eq_some_iff.mp ht0).1]; exact ht0
  have ek : cA = k0 := fx_same (t := 0) hK2 hi h0 hra
  subst ek
  exact kk q H1 hP2 hD2 hS2
theorem fx_newq (hx : p.tables.exec = Jvm.exec) (hb : c.code = cc) {C : String} (hown : s.vm.findClass own = some m.cls) (hclink : (Cond.classLink own index C).before args s = true) (hover : va_AO C s) (hK : kk_K D cy ld s) (hP : va_P D vwCl ws H) (hD : va_D A ws) (hS : va_S A H0 H locs) (hA : ∀ q, H0.size ≤ q → A q) (t0 : Nat) {k0 : ClassId} (ht0 : (tys0 cy)[t0]? = some (k0, .object C))
    {k : Int32} {N' : Nat} (hn : ¬ k < 0) (hN : k.toNatClampNeg = N') (hbytes : N' * 4 ≤ 536870912) (hcells : cells + 1 ≤ R.cells) (hslots : slots + N' ≤ R.slots) (hdg : decode cc pc = .ok (.anewarray index, 3))
    (kk : ∀ (q : Nat) (H1 : Heap), va_P D vwCl (ws ++ [(q, .inl (k0, N', .inr (.inr (.inr (.inr (fun _ => none))))))]) H1 → va_D A (ws ++ [(q, .inl (k0, N', .inr (.inr (.inr (.inr (fun _ => none))))))]) → va_S A H0 H1 locs → W p l e R s m args below meth c H1 locs (cells + 1) (slots + N') Q (F0 m (pc + 3) ls (.ref q :: rest))) : W p l e R s m args below meth c H locs cells slots Q (F0 m pc ls (.int k :: rest)) := by
  refine va_newq hx hb hown hclink hover hK.1 hP hD hS hA hn hN hbytes hcells hslots hdg (fun q cA H1 hK2 hP2 hD2 hS2 => ?_)
  have hi : (tys0 cy ++ [(cA, .object C)])[(tys0 cy).length]? = some (cA, .object C) := by simp
  have h0 : (tys0 cy ++ [(cA, .object C)])[t0]? = some (k0, .object C) := by
    rw [List.getElem?_append_left (List.getElem?_eq_some_iff.mp ht0).1]; exact ht0
  have ek : cA = k0 := fx_same (t := 0) hK2 hi h0 (fun k h => by obtain ⟨_, _, _, _, _, h⟩ := h; exact h)
  subst ek
  exact kk q H1 hP2 hD2 hS2
end FXA
section FXB
variable {l : Launch} {D : va_G} {cy : Nat → ClassId} {ld : Nat → Nat} {y : MethodName} {cc : ByteArray} {maxL mc ms sz : Nat} {ret : Option FieldType} {rm : Room} {av : List Value} {wc : va_W} {QC : (Nat → Prop) → Array Value → State → Outcome → State → Prop}
/-- a contract out of the walk of its body -/
theorem fx_met (QC : (Nat → Prop) → Array Value → State → Outcome → State → Prop) (hy : plainName y.cls = true) (hlen : (lg_sl av).length ≤ maxL)
    (body : ∀ (p : Program) (e : Env) (s : State) (m : MethodId) (args : Array Value) (below : List Frame) (meth : Method) (c : Code), p.tables.exec = Jvm.exec → c.code = cc → meth.sig.returnType = ret → c.maxLocals = maxL → (∀ w ∈ wl y cc maxL ret, w.before args s = true) → (∀ w ∈ wsA, w.before args s = true) → s.vm.findClass y.cls = some m.cls → meth.locks = false → meth.name = y.name → kk_K D cy ld s → va_P D vwCl wc s.heap → ∀ A : Nat → Prop, va_D A wc → (∀ q, s.heap.size ≤ q → A q) → va_S A s.heap s.heap [] → ∀ ls : Array Slot, lv_has ls maxL (lv_args 0 av) →
      W p l e rm s m args below meth c s.heap [] 0 0 (MQ below (QC A) args s mc ms A) (F0 m 0 ls [])) : Met l y (wl y cc maxL ret) rm (pp D cy ld av sz wc) (QC (va_A wc sz)) mc ms (va_A wc sz) := by
  refine Met.ofW (cc := cc) (maxL := maxL) (ret := ret) hy rfl ?_
  intro p e s m args below meth c s₁ B hml hv
  obtain ⟨rfl, hsz, hP, hK, hD0⟩ := hv
  subst hsz
  have hts := atoms_spec (ws := wl y cc maxL ret) B.pre
  have hl := lv_entry av (n := maxL) hlen
  rw [lg_entry_eq]
  exact body p e s m _ below meth c B.exec B.bytes B.returns hml hts (fun w hw => hts w (List.mem_cons_of_mem _ hw)) (findClass_of_methodNamed B.named) B.notSynchronized (name_of_methodNamed B.named B.method).1 hK hP _ (hD0.self (sz := s.heap.size)) (fun q h => Or.inr h) va_S.rf _ hl
end FXB
theorem fa_lt (a b : Int32) : a < b ↔ a.toInt < b.toInt := Int32.lt_iff_toInt_lt
theorem fa_le (a b : Int32) : a ≤ b ↔ a.toInt ≤ b.toInt := Int32.le_iff_toInt_le
theorem fa_eq (a b : Int32) : a = b ↔ a.toInt = b.toInt := Int32.toInt_inj.symm
theorem fl_lt {a b : Int64} {x y : Int} (hx : a.toInt = x) (hy : b.toInt = y) : a < b ↔ x < y := by rw [← hx, ← hy]; exact Int64.lt_iff_toInt_lt
theorem fl_le {a b : Int64} {x y : Int} (hx : a.toInt = x) (hy : b.toInt = y) : a ≤ b ↔ x ≤ y := by rw [← hx, ← hy]; exact Int64.le_iff_toInt_le
theorem fi_lt {a b : Int32} {x y : Int} (hx : a.toInt = x) (hy : b.toInt = y) : a < b ↔ x < y := by rw [← hx, ← hy]; exact fa_lt a b
theorem fi_le {a b : Int32} {x y : Int} (hx : a.toInt = x) (hy : b.toInt = y) : a ≤ b ↔ x ≤ y := by rw [← hx, ← hy]; exact fa_le a b
theorem fi_eq {a b : Int32} {x y : Int} (hx : a.toInt = x) (hy : b.toInt = y) : a = b ↔ x = y := by rw [← hx, ← hy]; exact fa_eq a b
theorem fl_w (x : Int32) : x.toInt64.toInt = x.toInt := Int32.toInt_toInt64 x
theorem fx_cases2 (x : Int32) : x = 0 ∨ x = 1 ∨ x.toInt < 0 ∨ 1 < x.toInt := by
  have h : x.toInt = 0 ∨ x.toInt = 1 ∨ x.toInt < 0 ∨ 1 < x.toInt := by omega
  rcases h with h | h | h
  · exact Or.inl ((fi_eq h (by decide)).mpr rfl)
  · exact Or.inr (Or.inl ((fi_eq h (by decide)).mpr rfl))
  · exact Or.inr (Or.inr (h))
theorem fx_cases3 (x : Int32) : x = 0 ∨ x = 1 ∨ x = 2 ∨ x.toInt < 0 ∨ 2 < x.toInt := by
  have h : x.toInt = 0 ∨ x.toInt = 1 ∨ x.toInt = 2 ∨ x.toInt < 0 ∨ 2 < x.toInt := by omega
  rcases h with h | h | h | h
  · exact Or.inl ((fi_eq h (by decide)).mpr rfl)
  · exact Or.inr (Or.inl ((fi_eq h (by decide)).mpr rfl))
  · exact Or.inr (Or.inr (Or.inl ((fi_eq h (by decide)).mpr rfl)))
  · exact Or.inr (Or.inr (Or.inr (h)))
theorem fx_cases4 (x : Int32) : x = 0 ∨ x = 1 ∨ x = 2 ∨ x = 3 ∨ x.toInt < 0 ∨ 3 < x.toInt := by
  have h : x.toInt = 0 ∨ x.toInt = 1 ∨ x.toInt = 2 ∨ x.toInt = 3 ∨ x.toInt < 0 ∨ 3 < x.toInt := by omega
  rcases h with h | h | h | h | h
  · exact Or.inl ((fi_eq h (by decide)).mpr rfl)
  · exact Or.inr (Or.inl ((fi_eq h (by decide)).mpr rfl))
  · exact Or.inr (Or.inr (Or.inl ((fi_eq h (by decide)).mpr rfl)))
  · exact Or.inr (Or.inr (Or.inr (Or.inl ((fi_eq h (by decide)).mpr rfl))))
  · exact Or.inr (Or.inr (Or.inr (Or.inr (h))))
theorem fx_cases6 (x : Int32) : x = 0 ∨ x = 1 ∨ x = 2 ∨ x = 3 ∨ x = 4 ∨ x = 5 ∨ x.toInt < 0 ∨ 5 < x.toInt := by
  have h : x.toInt = 0 ∨ x.toInt = 1 ∨ x.toInt = 2 ∨ x.toInt = 3 ∨ x.toInt = 4 ∨ x.toInt = 5 ∨ x.toInt < 0 ∨ 5 < x.toInt := by omega
  rcases h with h | h | h | h | h | h | h
  · exact Or.inl ((fi_eq h (by decide)).mpr rfl)
  · exact Or.inr (Or.inl ((fi_eq h (by decide)).mpr rfl))
  · exact Or.inr (Or.inr (Or.inl ((fi_eq h (by decide)).mpr rfl)))
  · exact Or.inr (Or.inr (Or.inr (Or.inl ((fi_eq h (by decide)).mpr rfl))))
  · exact Or.inr (Or.inr (Or.inr (Or.inr (Or.inl ((fi_eq h (by decide)).mpr rfl)))))
  · exact Or.inr (Or.inr (Or.inr (Or.inr (Or.inr (Or.inl ((fi_eq h (by decide)).mpr rfl))))))
  · exact Or.inr (Or.inr (Or.inr (Or.inr (Or.inr (Or.inr (h))))))
theorem fx_cases19 (x : Int32) : x = 0 ∨ x = 1 ∨ x = 2 ∨ x = 3 ∨ x = 4 ∨ x = 5 ∨ x = 6 ∨ x = 7 ∨ x = 8 ∨ x = 9 ∨ x = 10 ∨ x = 11 ∨ x = 12 ∨ x = 13 ∨ x = 14 ∨ x = 15 ∨ x = 16 ∨ x = 17 ∨ x = 18 ∨ x.toInt < 0 ∨ 18 < x.toInt := by
  have h : x.toInt = 0 ∨ x.toInt = 1 ∨ x.toInt = 2 ∨ x.toInt = 3 ∨ x.toInt = 4 ∨ x.toInt = 5 ∨ x.toInt = 6 ∨ x.toInt = 7 ∨ x.toInt = 8 ∨ x.toInt = 9 ∨ x.toInt = 10 ∨ x.toInt = 11 ∨ x.toInt = 12 ∨ x.toInt = 13 ∨ x.toInt = 14 ∨ x.toInt = 15 ∨ x.toInt = 16 ∨ x.toInt = 17 ∨ x.toInt = 18 ∨ x.toInt < 0 ∨ 18 < x.toInt := by omega
  rcases h with h | h | h | h | h | h | h | h | h | h | h | h | h | h | h | h | h | h | h | h
  · exact Or.inl ((fi_eq h (by decide)).mpr rfl)
  · exact Or.inr (Or.inl ((fi_eq h (by decide)).mpr rfl))
  · exact Or.inr (Or.inr (Or.inl ((fi_eq h (by decide)).mpr rfl)))
  · exact Or.inr (Or.inr (Or.inr (Or.inl ((fi_eq h (by decide)).mpr rfl))))
  · exact Or.inr (Or.inr (Or.inr (Or.inr (Or.inl ((fi_eq h (by decide)).mpr rfl)))))
  · exact Or.inr (Or.inr (Or.inr (Or.inr (Or.inr (Or.inl ((fi_eq h (by decide)).mpr rfl))))))
  · exact Or.inr (Or.inr (Or.inr (Or.inr (Or.inr (Or.inr (Or.inl ((fi_eq h (by decide)).mpr rfl)))))))
  · exact Or.inr (Or.inr (Or.inr (Or.inr (Or.inr (Or.inr (Or.inr (Or.inl ((fi_eq h (by decide)).mpr rfl))))))))
  · exact Or.inr (Or.inr (Or.inr (Or.inr (Or.inr (Or.inr (Or.inr (Or.inr (Or.inl ((fi_eq h (by decide)).mpr rfl)))))))))
  · exact Or.inr (Or.inr (Or.inr (Or.inr (Or.inr (Or.inr (Or.inr (Or.inr (Or.inr (Or.inl ((fi_eq h (by decide)).mpr rfl))))))))))
  · exact Or.inr (Or.inr (Or.inr (Or.inr (Or.inr (Or.inr (Or.inr (Or.inr (Or.inr (Or.inr (Or.inl ((fi_eq h (by decide)).mpr rfl)))))))))))
  · exact Or.inr (Or.inr (Or.inr (Or.inr (Or.inr (Or.inr (Or.inr (Or.inr (Or.inr (Or.inr (Or.inr (Or.inl ((fi_eq h (by decide)).mpr rfl))))))))))))
  · exact Or.inr (Or.inr (Or.inr (Or.inr (Or.inr (Or.inr (Or.inr (Or.inr (Or.inr (Or.inr (Or.inr (Or.inr (Or.inl ((fi_eq h (by decide)).mpr rfl)))))))))))))
  · exact Or.inr (Or.inr (Or.inr (Or.inr (Or.inr (Or.inr (Or.inr (Or.inr (Or.inr (Or.inr (Or.inr (Or.inr (Or.inr (Or.inl ((fi_eq h (by decide)).mpr rfl))))))))))))))
  · exact Or.inr (Or.inr (Or.inr (Or.inr (Or.inr (Or.inr (Or.inr (Or.inr (Or.inr (Or.inr (Or.inr (Or.inr (Or.inr (Or.inr (Or.inl ((fi_eq h (by decide)).mpr rfl)))))))))))))))
  · exact Or.inr (Or.inr (Or.inr (Or.inr (Or.inr (Or.inr (Or.inr (Or.inr (Or.inr (Or.inr (Or.inr (Or.inr (Or.inr (Or.inr (Or.inr (Or.inl ((fi_eq h (by decide)).mpr rfl))))))))))))))))
  · exact Or.inr (Or.inr (Or.inr (Or.inr (Or.inr (Or.inr (Or.inr (Or.inr (Or.inr (Or.inr (Or.inr (Or.inr (Or.inr (Or.inr (Or.inr (Or.inr (Or.inl ((fi_eq h (by decide)).mpr rfl)))))))))))))))))
  · exact Or.inr (Or.inr (Or.inr (Or.inr (Or.inr (Or.inr (Or.inr (Or.inr (Or.inr (Or.inr (Or.inr (Or.inr (Or.inr (Or.inr (Or.inr (Or.inr (Or.inr (Or.inl ((fi_eq h (by decide)).mpr rfl))))))))))))))))))
  · exact Or.inr (Or.inr (Or.inr (Or.inr (Or.inr (Or.inr (Or.inr (Or.inr (Or.inr (Or.inr (Or.inr (Or.inr (Or.inr (Or.inr (Or.inr (Or.inr (Or.inr (Or.inr (Or.inl ((fi_eq h (by decide)).mpr rfl)))))))))))))))))))
  · exact Or.inr (Or.inr (Or.inr (Or.inr (Or.inr (Or.inr (Or.inr (Or.inr (Or.inr (Or.inr (Or.inr (Or.inr (Or.inr (Or.inr (Or.inr (Or.inr (Or.inr (Or.inr (Or.inr (h)))))))))))))))))))
theorem fl_eq {a b : Int64} {x y : Int} (hx : a.toInt = x) (hy : b.toInt = y) : a = b ↔ x = y := by rw [← hx, ← hy]; exact Int64.toInt_inj.symm

